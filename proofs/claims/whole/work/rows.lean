section
/-! ===== BEGIN words of one list among another's, by their places ===== -/
theorem goodIn_r {big : List Cond} (ws : List Cond) (ps : List Nat) (hp : ws = ps.filterMap (fun i => big[i]?)) (h : ws.all goodWord = true) : GoodIn big ws := by
  intro w hw
  have h1 := List.all_eq_true.mp h w hw
  rw [hp] at hw
  obtain ⟨i, -, hi⟩ := List.mem_filterMap.mp hw
  have hm : w ∈ big := by first | exact List.mem_of_getElem? hi | exact List.getElem?_mem hi
  exact ⟨hm, good_of_word h1⟩
theorem goodIn_app {big a b : List Cond} (ha : GoodIn big a) (hb : GoodIn big b) : GoodIn big (a ++ b) := fun w h => (List.mem_append.mp h).elim (ha w) (hb w)
theorem goodIn_ca {big a b : List Cond} {c : Cond} (ha : GoodIn big (c :: a)) (hb : GoodIn big b) : GoodIn big (c :: (a ++ b)) := fun w h => (List.mem_cons.mp h).elim (fun e => ha w (List.mem_cons.mpr (Or.inl e))) (fun h => (List.mem_append.mp h).elim (fun h => ha w (List.mem_cons.mpr (Or.inr h))) (hb w))
theorem goodIn_sub {big ws : List Cond} (hm : ∀ w ∈ ws, w ∈ big) (h : ws.all goodWord = true) : GoodIn big ws := fun w hw => ⟨hm w hw, good_of_word (List.all_eq_true.mp h w hw)⟩
/-! ===== END ===== -/


/-! ===== BEGIN printed: names, fields, word lists, decode rows ===== -/
def RX0 : String := "RepeatLearner$Best"
def TX0 : u_T := fun k => match k with
  | 0 => ("RepeatLearner$Best", "usedInputs", "[I", true)
  | 1 => ("RepeatLearner$Best", "known", "Z", false)
  | 2 => ("RepeatLearner$Best", "leastNorm", "I", false)
  | _ => ("RepeatLearner$Best", "number", "I", false)
def tyX0 : Nat → FieldType := fun k => match k with
  | 0 => .array .int
  | 1 => .boolean
  | 2 => .int
  | _ => .int
abbrev wsX00 : List Cond := u_ws RX0 TX0 4
theorem nmX0 : ∀ a, a < 4 → ∀ b, b < 4 → a ≠ b → (TX0 a).2.1 ≠ (TX0 b).2.1 := by decide +kernel
theorem tyX0_ok : ∀ k, k < 4 → parseFieldDescriptor (TX0 k).2.2.1 = some (tyX0 k) := by decide +kernel
abbrev cX0_init : ByteArray := prog_2_method_1_code
def yX0_init : MethodName := ⟨RX0, "<init>", "()V"⟩
abbrev cX0_remember : ByteArray := prog_2_method_2_code
def yX0_remember : MethodName := ⟨RX0, "remember", "(II[I)V"⟩
def RX1 : String := "RepeatLearner$History"
def TX1 : u_T := fun k => match k with
  | 0 => ("RepeatLearner$History", "errors", "[[I", true)
  | 1 => ("RepeatLearner$History", "norms", "[I", true)
  | 2 => ("RepeatLearner$History", "shifts", "[I", true)
  | _ => ("RepeatLearner$History", "complete", "I", false)
def tyX1 : Nat → FieldType := fun k => match k with
  | 0 => .array (.array .int)
  | 1 => .array .int
  | 2 => .array .int
  | _ => .int
abbrev wsX10 : List Cond := u_ws RX1 TX1 4
theorem nmX1 : ∀ a, a < 4 → ∀ b, b < 4 → a ≠ b → (TX1 a).2.1 ≠ (TX1 b).2.1 := by decide +kernel
theorem tyX1_ok : ∀ k, k < 4 → parseFieldDescriptor (TX1 k).2.2.1 = some (tyX1 k) := by decide +kernel
abbrev cX1_init : ByteArray := prog_3_method_1_code
def yX1_init : MethodName := ⟨RX1, "<init>", "()V"⟩
abbrev cX1_reaches : ByteArray := prog_3_method_2_code
def yX1_reaches : MethodName := ⟨RX1, "reaches", "(I)Z"⟩
abbrev cX1_slot : ByteArray := prog_3_method_3_code
def yX1_slot : MethodName := ⟨RX1, "slot", "(I)I"⟩
abbrev cX1_errorsOf : ByteArray := prog_3_method_4_code
def yX1_errorsOf : MethodName := ⟨RX1, "errorsOf", "(I)[I"⟩
abbrev cX1_add : ByteArray := prog_3_method_5_code
def yX1_add : MethodName := ⟨RX1, "add", "([I[III)V"⟩
abbrev cX1_staysWithin : ByteArray := prog_3_method_6_code
def yX1_staysWithin : MethodName := ⟨RX1, "staysWithin", "(III)Z"⟩
abbrev cX1_hasGrown : ByteArray := prog_3_method_7_code
def yX1_hasGrown : MethodName := ⟨RX1, "hasGrown", "(I)Z"⟩
def RX2 : String := "RepeatLearner$Plant"
def TX2 : u_T := fun k => match k with
  | 0 => ("RepeatLearner$Plant", "coefficients", "[I", true)
  | 1 => ("RepeatLearner$Plant", "amplitude", "I", false)
  | _ => ("RepeatLearner$Plant", "seed", "I", false)
def tyX2 : Nat → FieldType := fun k => match k with
  | 0 => .array .int
  | 1 => .int
  | _ => .int
abbrev wsX20 : List Cond := u_ws RX2 TX2 3
theorem nmX2 : ∀ a, a < 3 → ∀ b, b < 3 → a ≠ b → (TX2 a).2.1 ≠ (TX2 b).2.1 := by decide +kernel
theorem tyX2_ok : ∀ k, k < 3 → parseFieldDescriptor (TX2 k).2.2.1 = some (tyX2 k) := by decide +kernel
abbrev cX2_init : ByteArray := prog_4_method_1_code
def yX2_init : MethodName := ⟨RX2, "<init>", "()V"⟩
abbrev cX2_becomeAsAtFirst : ByteArray := prog_4_method_2_code
def yX2_becomeAsAtFirst : MethodName := ⟨RX2, "becomeAsAtFirst", "()V"⟩
abbrev cX2_outputAt : ByteArray := prog_4_method_3_code
def yX2_outputAt : MethodName := ⟨RX2, "outputAt", "([II)J"⟩
abbrev cX2_nextDisturbance : ByteArray := prog_4_method_4_code
def yX2_nextDisturbance : MethodName := ⟨RX2, "nextDisturbance", "()I"⟩
def RX3 : String := "RepeatLearner$Settings"
def TX3 : u_T := fun k => match k with
  | 0 => ("RepeatLearner$Settings", "samples", "I", false)
  | 1 => ("RepeatLearner$Settings", "gain", "I", false)
  | 2 => ("RepeatLearner$Settings", "lead", "I", false)
  | 3 => ("RepeatLearner$Settings", "weight", "I", false)
  | 4 => ("RepeatLearner$Settings", "passes", "I", false)
  | 5 => ("RepeatLearner$Settings", "limit", "I", false)
  | 6 => ("RepeatLearner$Settings", "blend", "I", false)
  | 7 => ("RepeatLearner$Settings", "greatestShift", "I", false)
  | 8 => ("RepeatLearner$Settings", "tolerance", "I", false)
  | 9 => ("RepeatLearner$Settings", "hold", "I", false)
  | _ => ("RepeatLearner$Settings", "guard", "Z", false)
def tyX3 : Nat → FieldType := fun k => match k with
  | 0 => .int
  | 1 => .int
  | 2 => .int
  | 3 => .int
  | 4 => .int
  | 5 => .int
  | 6 => .int
  | 7 => .int
  | 8 => .int
  | 9 => .int
  | _ => .boolean
abbrev wsX30 : List Cond := u_ws RX3 TX3 11
theorem nmX3 : ∀ a, a < 11 → ∀ b, b < 11 → a ≠ b → (TX3 a).2.1 ≠ (TX3 b).2.1 := by decide +kernel
theorem tyX3_ok : ∀ k, k < 11 → parseFieldDescriptor (TX3 k).2.2.1 = some (tyX3 k) := by decide +kernel
abbrev cX3_init : ByteArray := prog_5_method_1_code
def yX3_init : MethodName := ⟨RX3, "<init>", "()V"⟩
abbrev cX3_becomeAsAtFirst : ByteArray := prog_5_method_2_code
def yX3_becomeAsAtFirst : MethodName := ⟨RX3, "becomeAsAtFirst", "(I)V"⟩
def RX4 : String := "RepeatLearner"
def TX4 : u_T := fun k => match k with
  | 0 => ("RepeatLearner", "settings", "LRepeatLearner$Settings;", true)
  | 1 => ("RepeatLearner", "plant", "LRepeatLearner$Plant;", true)
  | 2 => ("RepeatLearner", "history", "LRepeatLearner$History;", true)
  | 3 => ("RepeatLearner", "best", "LRepeatLearner$Best;", true)
  | 4 => ("RepeatLearner", "references", "[I", true)
  | 5 => ("RepeatLearner", "inputs", "[I", true)
  | 6 => ("RepeatLearner", "smoothed", "[I", true)
  | 7 => ("RepeatLearner", "raw", "[I", true)
  | 8 => ("RepeatLearner", "aligned", "[I", true)
  | 9 => ("RepeatLearner", "partErrors", "[I", true)
  | 10 => ("RepeatLearner", "running", "Z", false)
  | 11 => ("RepeatLearner", "recorded", "I", false)
  | 12 => ("RepeatLearner", "started", "I", false)
  | 13 => ("RepeatLearner", "aborted", "I", false)
  | 14 => ("RepeatLearner", "fallbacks", "I", false)
  | _ => ("RepeatLearner", "badTrials", "I", false)
def tyX4 : Nat → FieldType := fun k => match k with
  | 0 => .object "RepeatLearner$Settings"
  | 1 => .object "RepeatLearner$Plant"
  | 2 => .object "RepeatLearner$History"
  | 3 => .object "RepeatLearner$Best"
  | 4 => .array .int
  | 5 => .array .int
  | 6 => .array .int
  | 7 => .array .int
  | 8 => .array .int
  | 9 => .array .int
  | 10 => .boolean
  | 11 => .int
  | 12 => .int
  | 13 => .int
  | 14 => .int
  | _ => .int
abbrev wsX40 : List Cond := u_ws RX4 TX4 16
theorem nmX4 : ∀ a, a < 16 → ∀ b, b < 16 → a ≠ b → (TX4 a).2.1 ≠ (TX4 b).2.1 := by decide +kernel
theorem tyX4_ok : ∀ k, k < 16 → parseFieldDescriptor (TX4 k).2.2.1 = some (tyX4 k) := by decide +kernel
abbrev cX4_init : ByteArray := prog_1_method_1_code
def yX4_init : MethodName := ⟨RX4, "<init>", "()V"⟩
abbrev cX4_reset : ByteArray := prog_1_method_2_code
def yX4_reset : MethodName := ⟨RX4, "reset", "(I)I"⟩
abbrev cX4_setReference : ByteArray := prog_1_method_3_code
def yX4_setReference : MethodName := ⟨RX4, "setReference", "(II)I"⟩
abbrev cX4_setGain : ByteArray := prog_1_method_4_code
def yX4_setGain : MethodName := ⟨RX4, "setGain", "(II)I"⟩
abbrev cX4_setSmoothing : ByteArray := prog_1_method_5_code
def yX4_setSmoothing : MethodName := ⟨RX4, "setSmoothing", "(II)I"⟩
abbrev cX4_setLimits : ByteArray := prog_1_method_6_code
def yX4_setLimits : MethodName := ⟨RX4, "setLimits", "(II)I"⟩
abbrev cX4_setGreatestShift : ByteArray := prog_1_method_7_code
def yX4_setGreatestShift : MethodName := ⟨RX4, "setGreatestShift", "(I)I"⟩
abbrev cX4_setTolerance : ByteArray := prog_1_method_8_code
def yX4_setTolerance : MethodName := ⟨RX4, "setTolerance", "(II)I"⟩
abbrev cX4_setGuard : ByteArray := prog_1_method_9_code
def yX4_setGuard : MethodName := ⟨RX4, "setGuard", "(Z)I"⟩
abbrev cX4_setting : ByteArray := prog_1_method_10_code
def yX4_setting : MethodName := ⟨RX4, "setting", "(I)I"⟩
abbrev cX4_startTrial : ByteArray := prog_1_method_11_code
def yX4_startTrial : MethodName := ⟨RX4, "startTrial", "()I"⟩
abbrev cX4_record : ByteArray := prog_1_method_12_code
def yX4_record : MethodName := ⟨RX4, "record", "(I)I"⟩
abbrev cX4_abort : ByteArray := prog_1_method_13_code
def yX4_abort : MethodName := ⟨RX4, "abort", "()I"⟩
abbrev cX4_position : ByteArray := prog_1_method_14_code
def yX4_position : MethodName := ⟨RX4, "position", "()I"⟩
abbrev cX4_input : ByteArray := prog_1_method_15_code
def yX4_input : MethodName := ⟨RX4, "input", "(I)I"⟩
abbrev cX4_setInput : ByteArray := prog_1_method_16_code
def yX4_setInput : MethodName := ⟨RX4, "setInput", "(II)I"⟩
abbrev cX4_reference : ByteArray := prog_1_method_17_code
def yX4_reference : MethodName := ⟨RX4, "reference", "(I)I"⟩
abbrev cX4_count : ByteArray := prog_1_method_18_code
def yX4_count : MethodName := ⟨RX4, "count", "(I)I"⟩
abbrev cX4_error : ByteArray := prog_1_method_19_code
def yX4_error : MethodName := ⟨RX4, "error", "(II)I"⟩
abbrev cX4_norm : ByteArray := prog_1_method_20_code
def yX4_norm : MethodName := ⟨RX4, "norm", "(I)I"⟩
abbrev cX4_shift : ByteArray := prog_1_method_21_code
def yX4_shift : MethodName := ⟨RX4, "shift", "(I)I"⟩
abbrev cX4_worstSample : ByteArray := prog_1_method_22_code
def yX4_worstSample : MethodName := ⟨RX4, "worstSample", "(I)I"⟩
abbrev cX4_energy : ByteArray := prog_1_method_23_code
def yX4_energy : MethodName := ⟨RX4, "energy", "(I)J"⟩
abbrev cX4_best : ByteArray := prog_1_method_24_code
def yX4_best : MethodName := ⟨RX4, "best", "(I)I"⟩
abbrev cX4_bestInput : ByteArray := prog_1_method_25_code
def yX4_bestInput : MethodName := ⟨RX4, "bestInput", "(I)I"⟩
abbrev cX4_state : ByteArray := prog_1_method_26_code
def yX4_state : MethodName := ⟨RX4, "state", "(I)I"⟩
abbrev cX4_convergedCount : ByteArray := prog_1_method_27_code
def yX4_convergedCount : MethodName := ⟨RX4, "convergedCount", "()I"⟩
abbrev cX4_setPlant : ByteArray := prog_1_method_28_code
def yX4_setPlant : MethodName := ⟨RX4, "setPlant", "(II)I"⟩
abbrev cX4_setDisturbance : ByteArray := prog_1_method_29_code
def yX4_setDisturbance : MethodName := ⟨RX4, "setDisturbance", "(II)I"⟩
abbrev cX4_simulate : ByteArray := prog_1_method_30_code
def yX4_simulate : MethodName := ⟨RX4, "simulate", "(I)I"⟩
abbrev cX4_suits : ByteArray := prog_1_method_31_code
def yX4_suits : MethodName := ⟨RX4, "suits", "()I"⟩
abbrev cX4_isWithin : ByteArray := prog_1_method_32_code
def yX4_isWithin : MethodName := ⟨RX4, "isWithin", "(III)Z"⟩
abbrev cX4_isSignal : ByteArray := prog_1_method_33_code
def yX4_isSignal : MethodName := ⟨RX4, "isSignal", "(I)Z"⟩
abbrev cX4_isAge : ByteArray := prog_1_method_34_code
def yX4_isAge : MethodName := ⟨RX4, "isAge", "(I)Z"⟩
abbrev cX4_isSample : ByteArray := prog_1_method_35_code
def yX4_isSample : MethodName := ⟨RX4, "isSample", "(I)Z"⟩
abbrev cX4_oneIf : ByteArray := prog_1_method_36_code
def yX4_oneIf : MethodName := ⟨RX4, "oneIf", "(Z)I"⟩
abbrev cX4_limitTo : ByteArray := prog_1_method_37_code
def yX4_limitTo : MethodName := ⟨RX4, "limitTo", "(JI)I"⟩
abbrev cX4_startAnew : ByteArray := prog_1_method_38_code
def yX4_startAnew : MethodName := ⟨RX4, "startAnew", "(I)V"⟩
abbrev cX4_beginTrial : ByteArray := prog_1_method_39_code
def yX4_beginTrial : MethodName := ⟨RX4, "beginTrial", "()V"⟩
abbrev cX4_takeOutput : ByteArray := prog_1_method_40_code
def yX4_takeOutput : MethodName := ⟨RX4, "takeOutput", "(I)V"⟩
abbrev cX4_simulateTrial : ByteArray := prog_1_method_41_code
def yX4_simulateTrial : MethodName := ⟨RX4, "simulateTrial", "()V"⟩
abbrev cX4_completeTrial : ByteArray := prog_1_method_42_code
def yX4_completeTrial : MethodName := ⟨RX4, "completeTrial", "()V"⟩
abbrev cX4_bestFittingShift : ByteArray := prog_1_method_43_code
def yX4_bestFittingShift : MethodName := ⟨RX4, "bestFittingShift", "()I"⟩
abbrev cX4_misfit : ByteArray := prog_1_method_44_code
def yX4_misfit : MethodName := ⟨RX4, "misfit", "(I)J"⟩
abbrev cX4_rawAt : ByteArray := prog_1_method_45_code
def yX4_rawAt : MethodName := ⟨RX4, "rawAt", "(I)I"⟩
abbrev cX4_judge : ByteArray := prog_1_method_46_code
def yX4_judge : MethodName := ⟨RX4, "judge", "(I)V"⟩
abbrev cX4_fallBack : ByteArray := prog_1_method_47_code
def yX4_fallBack : MethodName := ⟨RX4, "fallBack", "()V"⟩
abbrev cX4_learnFromPart : ByteArray := prog_1_method_48_code
def yX4_learnFromPart : MethodName := ⟨RX4, "learnFromPart", "()V"⟩
abbrev cX4_correct : ByteArray := prog_1_method_49_code
def yX4_correct : MethodName := ⟨RX4, "correct", "([IIZ)V"⟩
abbrev cX4_smoothOnce : ByteArray := prog_1_method_50_code
def yX4_smoothOnce : MethodName := ⟨RX4, "smoothOnce", "()V"⟩
abbrev cX4_hasConverged : ByteArray := prog_1_method_51_code
def yX4_hasConverged : MethodName := ⟨RX4, "hasConverged", "(I)Z"⟩
abbrev cX4_indexOfGreatest : ByteArray := prog_1_method_52_code
def yX4_indexOfGreatest : MethodName := ⟨RX4, "indexOfGreatest", "([II)I"⟩
abbrev cX4_sumOfSquares : ByteArray := prog_1_method_53_code
def yX4_sumOfSquares : MethodName := ⟨RX4, "sumOfSquares", "([II)J"⟩
def RX5 : String := "RepeatLearnerModel"
def TX5 : u_T := fun k => match k with
  | 0 => ("RepeatLearnerModel", "samples", "I", false)
  | 1 => ("RepeatLearnerModel", "target", "[I", true)
  | 2 => ("RepeatLearnerModel", "put", "[I", true)
  | 3 => ("RepeatLearnerModel", "gain", "I", false)
  | 4 => ("RepeatLearnerModel", "lead", "I", false)
  | 5 => ("RepeatLearnerModel", "weight", "I", false)
  | 6 => ("RepeatLearnerModel", "passes", "I", false)
  | 7 => ("RepeatLearnerModel", "limit", "I", false)
  | 8 => ("RepeatLearnerModel", "blend", "I", false)
  | 9 => ("RepeatLearnerModel", "greatest", "I", false)
  | 10 => ("RepeatLearnerModel", "tolerance", "I", false)
  | 11 => ("RepeatLearnerModel", "hold", "I", false)
  | 12 => ("RepeatLearnerModel", "isGuarded", "Z", false)
  | 13 => ("RepeatLearnerModel", "isRunning", "Z", false)
  | 14 => ("RepeatLearnerModel", "recorded", "I", false)
  | 15 => ("RepeatLearnerModel", "started", "I", false)
  | 16 => ("RepeatLearnerModel", "complete", "I", false)
  | 17 => ("RepeatLearnerModel", "aborted", "I", false)
  | 18 => ("RepeatLearnerModel", "fallbacks", "I", false)
  | 19 => ("RepeatLearnerModel", "bad", "I", false)
  | 20 => ("RepeatLearnerModel", "raw", "[I", true)
  | 21 => ("RepeatLearnerModel", "off", "[I", true)
  | 22 => ("RepeatLearnerModel", "smoothed", "[I", true)
  | 23 => ("RepeatLearnerModel", "error", "[I", true)
  | 24 => ("RepeatLearnerModel", "normOf", "[I", true)
  | 25 => ("RepeatLearnerModel", "shiftOf", "[I", true)
  | 26 => ("RepeatLearnerModel", "aligned", "[I", true)
  | 27 => ("RepeatLearnerModel", "bestNumber", "I", false)
  | 28 => ("RepeatLearnerModel", "bestNorm", "I", false)
  | 29 => ("RepeatLearnerModel", "bestPut", "[I", true)
  | 30 => ("RepeatLearnerModel", "plant", "[I", true)
  | 31 => ("RepeatLearnerModel", "amplitude", "I", false)
  | _ => ("RepeatLearnerModel", "drawn", "I", false)
def tyX5 : Nat → FieldType := fun k => match k with
  | 0 => .int
  | 1 => .array .int
  | 2 => .array .int
  | 3 => .int
  | 4 => .int
  | 5 => .int
  | 6 => .int
  | 7 => .int
  | 8 => .int
  | 9 => .int
  | 10 => .int
  | 11 => .int
  | 12 => .boolean
  | 13 => .boolean
  | 14 => .int
  | 15 => .int
  | 16 => .int
  | 17 => .int
  | 18 => .int
  | 19 => .int
  | 20 => .array .int
  | 21 => .array .int
  | 22 => .array .int
  | 23 => .array .int
  | 24 => .array .int
  | 25 => .array .int
  | 26 => .array .int
  | 27 => .int
  | 28 => .int
  | 29 => .array .int
  | 30 => .array .int
  | 31 => .int
  | _ => .int
abbrev wsX50 : List Cond := u_ws RX5 TX5 33
theorem nmX5 : ∀ a, a < 33 → ∀ b, b < 33 → a ≠ b → (TX5 a).2.1 ≠ (TX5 b).2.1 := by decide +kernel
theorem tyX5_ok : ∀ k, k < 33 → parseFieldDescriptor (TX5 k).2.2.1 = some (tyX5 k) := by decide +kernel
abbrev cX5_init : ByteArray := prog_7_method_1_code
def yX5_init : MethodName := ⟨RX5, "<init>", "()V"⟩
abbrev cX5_in : ByteArray := prog_7_method_2_code
def yX5_in : MethodName := ⟨RX5, "in", "(III)Z"⟩
abbrev cX5_down : ByteArray := prog_7_method_3_code
def yX5_down : MethodName := ⟨RX5, "down", "(JJ)J"⟩
abbrev cX5_size : ByteArray := prog_7_method_4_code
def yX5_size : MethodName := ⟨RX5, "size", "(I)I"⟩
abbrev cX5_kept : ByteArray := prog_7_method_5_code
def yX5_kept : MethodName := ⟨RX5, "kept", "(JI)I"⟩
abbrev cX5_begin : ByteArray := prog_7_method_6_code
def yX5_begin : MethodName := ⟨RX5, "begin", "(I)V"⟩
abbrev cX5_reset : ByteArray := prog_7_method_7_code
def yX5_reset : MethodName := ⟨RX5, "reset", "(I)I"⟩
abbrev cX5_noSample : ByteArray := prog_7_method_8_code
def yX5_noSample : MethodName := ⟨RX5, "noSample", "(I)Z"⟩
abbrev cX5_setReference : ByteArray := prog_7_method_9_code
def yX5_setReference : MethodName := ⟨RX5, "setReference", "(II)I"⟩
abbrev cX5_setGain : ByteArray := prog_7_method_10_code
def yX5_setGain : MethodName := ⟨RX5, "setGain", "(II)I"⟩
abbrev cX5_setSmoothing : ByteArray := prog_7_method_11_code
def yX5_setSmoothing : MethodName := ⟨RX5, "setSmoothing", "(II)I"⟩
abbrev cX5_setLimits : ByteArray := prog_7_method_12_code
def yX5_setLimits : MethodName := ⟨RX5, "setLimits", "(II)I"⟩
abbrev cX5_setGreatestShift : ByteArray := prog_7_method_13_code
def yX5_setGreatestShift : MethodName := ⟨RX5, "setGreatestShift", "(I)I"⟩
abbrev cX5_setTolerance : ByteArray := prog_7_method_14_code
def yX5_setTolerance : MethodName := ⟨RX5, "setTolerance", "(II)I"⟩
abbrev cX5_setGuard : ByteArray := prog_7_method_15_code
def yX5_setGuard : MethodName := ⟨RX5, "setGuard", "(Z)I"⟩
abbrev cX5_setting : ByteArray := prog_7_method_16_code
def yX5_setting : MethodName := ⟨RX5, "setting", "(I)I"⟩
abbrev cX5_correct : ByteArray := prog_7_method_17_code
def yX5_correct : MethodName := ⟨RX5, "correct", "(IZ)V"⟩
abbrev cX5_smooth : ByteArray := prog_7_method_18_code
def yX5_smooth : MethodName := ⟨RX5, "smooth", "()V"⟩
abbrev cX5_rawAt : ByteArray := prog_7_method_19_code
def yX5_rawAt : MethodName := ⟨RX5, "rawAt", "(I)I"⟩
abbrev cX5_unlike : ByteArray := prog_7_method_20_code
def yX5_unlike : MethodName := ⟨RX5, "unlike", "(I)J"⟩
abbrev cX5_findShift : ByteArray := prog_7_method_21_code
def yX5_findShift : MethodName := ⟨RX5, "findShift", "()I"⟩
abbrev cX5_makeRoom : ByteArray := prog_7_method_22_code
def yX5_makeRoom : MethodName := ⟨RX5, "makeRoom", "()V"⟩
abbrev cX5_finish : ByteArray := prog_7_method_23_code
def yX5_finish : MethodName := ⟨RX5, "finish", "()V"⟩
abbrev cX5_rate : ByteArray := prog_7_method_24_code
def yX5_rate : MethodName := ⟨RX5, "rate", "(I)V"⟩
abbrev cX5_startTrial : ByteArray := prog_7_method_25_code
def yX5_startTrial : MethodName := ⟨RX5, "startTrial", "()I"⟩
abbrev cX5_record : ByteArray := prog_7_method_26_code
def yX5_record : MethodName := ⟨RX5, "record", "(I)I"⟩
abbrev cX5_abort : ByteArray := prog_7_method_27_code
def yX5_abort : MethodName := ⟨RX5, "abort", "()I"⟩
abbrev cX5_position : ByteArray := prog_7_method_28_code
def yX5_position : MethodName := ⟨RX5, "position", "()I"⟩
abbrev cX5_input : ByteArray := prog_7_method_29_code
def yX5_input : MethodName := ⟨RX5, "input", "(I)I"⟩
abbrev cX5_setInput : ByteArray := prog_7_method_30_code
def yX5_setInput : MethodName := ⟨RX5, "setInput", "(II)I"⟩
abbrev cX5_reference : ByteArray := prog_7_method_31_code
def yX5_reference : MethodName := ⟨RX5, "reference", "(I)I"⟩
abbrev cX5_count : ByteArray := prog_7_method_32_code
def yX5_count : MethodName := ⟨RX5, "count", "(I)I"⟩
abbrev cX5_isAge : ByteArray := prog_7_method_33_code
def yX5_isAge : MethodName := ⟨RX5, "isAge", "(I)Z"⟩
abbrev cX5_error : ByteArray := prog_7_method_34_code
def yX5_error : MethodName := ⟨RX5, "error", "(II)I"⟩
abbrev cX5_norm : ByteArray := prog_7_method_35_code
def yX5_norm : MethodName := ⟨RX5, "norm", "(I)I"⟩
abbrev cX5_shift : ByteArray := prog_7_method_36_code
def yX5_shift : MethodName := ⟨RX5, "shift", "(I)I"⟩
abbrev cX5_worstSample : ByteArray := prog_7_method_37_code
def yX5_worstSample : MethodName := ⟨RX5, "worstSample", "(I)I"⟩
abbrev cX5_energy : ByteArray := prog_7_method_38_code
def yX5_energy : MethodName := ⟨RX5, "energy", "(I)J"⟩
abbrev cX5_best : ByteArray := prog_7_method_39_code
def yX5_best : MethodName := ⟨RX5, "best", "(I)I"⟩
abbrev cX5_bestInput : ByteArray := prog_7_method_40_code
def yX5_bestInput : MethodName := ⟨RX5, "bestInput", "(I)I"⟩
abbrev cX5_isSteady : ByteArray := prog_7_method_41_code
def yX5_isSteady : MethodName := ⟨RX5, "isSteady", "(I)Z"⟩
abbrev cX5_state : ByteArray := prog_7_method_42_code
def yX5_state : MethodName := ⟨RX5, "state", "(I)I"⟩
abbrev cX5_convergedCount : ByteArray := prog_7_method_43_code
def yX5_convergedCount : MethodName := ⟨RX5, "convergedCount", "()I"⟩
abbrev cX5_setPlant : ByteArray := prog_7_method_44_code
def yX5_setPlant : MethodName := ⟨RX5, "setPlant", "(II)I"⟩
abbrev cX5_setDisturbance : ByteArray := prog_7_method_45_code
def yX5_setDisturbance : MethodName := ⟨RX5, "setDisturbance", "(II)I"⟩
abbrev cX5_outputOf : ByteArray := prog_7_method_46_code
def yX5_outputOf : MethodName := ⟨RX5, "outputOf", "(I)I"⟩
abbrev cX5_simulate : ByteArray := prog_7_method_47_code
def yX5_simulate : MethodName := ⟨RX5, "simulate", "(I)I"⟩
abbrev cX5_suits : ByteArray := prog_7_method_48_code
def yX5_suits : MethodName := ⟨RX5, "suits", "()I"⟩
def RJ9 : String := "java/lang/Math"
def TJ9 : u_T := fun k => match k with
  | _ => ("", "", "", false)
def tyJ9 : Nat → FieldType := fun k => match k with
  | _ => .int
abbrev wsJ90 : List Cond := u_ws RJ9 TJ9 0
theorem nmJ9 : ∀ a, a < 0 → ∀ b, b < 0 → a ≠ b → (TJ9 a).2.1 ≠ (TJ9 b).2.1 := by decide +kernel
theorem tyJ9_ok : ∀ k, k < 0 → parseFieldDescriptor (TJ9 k).2.2.1 = some (tyJ9 k) := by decide +kernel
abbrev cJ9_floorDiv_f86c9 : ByteArray := prog_8_method_49_code
def yJ9_floorDiv_f86c9 : MethodName := ⟨RJ9, "floorDiv", "(JJ)J"⟩
abbrev cJ9_floorMod_7cf53 : ByteArray := prog_8_method_50_code
def yJ9_floorMod_7cf53 : MethodName := ⟨RJ9, "floorMod", "(II)I"⟩
abbrev cJ9_abs_0f7a4 : ByteArray := prog_8_method_59_code
def yJ9_abs_0f7a4 : MethodName := ⟨RJ9, "abs", "(I)I"⟩
abbrev cJ9_abs_067f4 : ByteArray := prog_8_method_61_code
def yJ9_abs_067f4 : MethodName := ⟨RJ9, "abs", "(J)J"⟩
abbrev cJ9_max_7cf53 : ByteArray := prog_8_method_65_code
def yJ9_max_7cf53 : MethodName := ⟨RJ9, "max", "(II)I"⟩
abbrev cJ9_max_f86c9 : ByteArray := prog_8_method_66_code
def yJ9_max_f86c9 : MethodName := ⟨RJ9, "max", "(JJ)J"⟩
abbrev cJ9_min_7cf53 : ByteArray := prog_8_method_69_code
def yJ9_min_7cf53 : MethodName := ⟨RJ9, "min", "(II)I"⟩
abbrev cJ9_min_f86c9 : ByteArray := prog_8_method_70_code
def yJ9_min_f86c9 : MethodName := ⟨RJ9, "min", "(JJ)J"⟩
def RJ10 : String := "java/lang/System"
def TJ10 : u_T := fun k => match k with
  | _ => ("", "", "", false)
def tyJ10 : Nat → FieldType := fun k => match k with
  | _ => .int
abbrev wsJ100 : List Cond := u_ws RJ10 TJ10 0
theorem nmJ10 : ∀ a, a < 0 → ∀ b, b < 0 → a ≠ b → (TJ10 a).2.1 ≠ (TJ10 b).2.1 := by decide +kernel
theorem tyJ10_ok : ∀ k, k < 0 → parseFieldDescriptor (TJ10 k).2.2.1 = some (tyJ10 k) := by decide +kernel
def RJ7 : String := "java/util/Arrays"
def TJ7 : u_T := fun k => match k with
  | _ => ("", "", "", false)
def tyJ7 : Nat → FieldType := fun k => match k with
  | _ => .int
abbrev wsJ70 : List Cond := u_ws RJ7 TJ7 0
theorem nmJ7 : ∀ a, a < 0 → ∀ b, b < 0 → a ≠ b → (TJ7 a).2.1 ≠ (TJ7 b).2.1 := by decide +kernel
theorem tyJ7_ok : ∀ k, k < 0 → parseFieldDescriptor (TJ7 k).2.2.1 = some (tyJ7 k) := by decide +kernel
abbrev cJ7_fill_53178 : ByteArray := prog_10_method_103_code
def yJ7_fill_53178 : MethodName := ⟨RJ7, "fill", "([II)V"⟩
def RL : String := "RepeatLearnerLaw"
abbrev cL_law : ByteArray := code
def yL_law : MethodName := ⟨RL, "law", "([I)Z"⟩
def wsL_law_r1 : List Cond := [Cond.classLink RL 7 RX4, Cond.instantiable RX4 16, Cond.initialized RX4, Cond.classLink RL 10 RX5, Cond.instantiable RX5 33, Cond.initialized RX5, Cond.methodLink RL 9 yX4_init, Cond.instanceMethod yX4_init, Cond.code yX4_init cX4_init 1 none, Cond.methodLink RX4 1 objectInit, Cond.instanceMethod objectInit, Cond.code objectInit ⟨#[0xb1]⟩ 1 none, Cond.classLink RX4 7 RX3, Cond.instantiable RX3 11, Cond.initialized RX3, Cond.fieldLink RX4 10 "RepeatLearner" "settings" "LRepeatLearner$Settings;", Cond.classLink RX4 16 RX2, Cond.instantiable RX2 3, Cond.initialized RX2, Cond.fieldLink RX4 19 "RepeatLearner" "plant" "LRepeatLearner$Plant;", Cond.classLink RX4 23 RX1, Cond.instantiable RX1 4, Cond.initialized RX1, Cond.fieldLink RX4 26 "RepeatLearner" "history" "LRepeatLearner$History;"]
def wsL_law_r2 : List Cond := [Cond.classLink RX4 30 RX0, Cond.instantiable RX0 4, Cond.initialized RX0, Cond.fieldLink RX4 33 "RepeatLearner" "best" "LRepeatLearner$Best;", Cond.arrayClass .int, Cond.fieldLink RX4 37 "RepeatLearner" "references" "[I", Cond.fieldLink RX4 41 "RepeatLearner" "inputs" "[I", Cond.fieldLink RX4 44 "RepeatLearner" "smoothed" "[I", Cond.fieldLink RX4 47 "RepeatLearner" "raw" "[I", Cond.fieldLink RX4 50 "RepeatLearner" "aligned" "[I", Cond.fieldLink RX4 53 "RepeatLearner" "partErrors" "[I", Cond.instanceMethod yX3_init, Cond.code yX3_init cX3_init 1 none, Cond.methodLink RX3 3 objectInit, Cond.instanceMethod yX2_init, Cond.code yX2_init cX2_init 1 none, Cond.methodLink RX2 1 objectInit, Cond.fieldLink RX2 9 "RepeatLearner$Plant" "coefficients" "[I", Cond.instanceMethod yX1_init, Cond.code yX1_init cX1_init 1 none, Cond.methodLink RX1 3 objectInit, Cond.classLink RX1 11 "[[I", Cond.fieldLink RX1 13 "RepeatLearner$History" "errors" "[[I", Cond.fieldLink RX1 16 "RepeatLearner$History" "norms" "[I"]
def wsL_law_r3 : List Cond := [Cond.fieldLink RX1 20 "RepeatLearner$History" "shifts" "[I", Cond.instanceMethod yX0_init, Cond.code yX0_init cX0_init 1 none, Cond.methodLink RX0 3 objectInit, Cond.fieldLink RX0 9 "RepeatLearner$Best" "usedInputs" "[I", Cond.methodLink RX4 56 yX4_startAnew, Cond.instanceMethod yX4_startAnew, Cond.selects RX4 yX4_startAnew yX4_startAnew, Cond.code yX4_startAnew cX4_startAnew 2 none, Cond.fieldLink RX4 136 "RepeatLearner$History" "complete" "I", Cond.fieldLink RX4 177 "RepeatLearner$Best" "known" "Z", Cond.fieldLink RX4 112 "RepeatLearner" "running" "Z", Cond.fieldLink RX4 126 "RepeatLearner" "recorded" "I", Cond.fieldLink RX4 119 "RepeatLearner" "started" "I", Cond.fieldLink RX4 130 "RepeatLearner" "aborted" "I", Cond.fieldLink RX4 139 "RepeatLearner" "fallbacks" "I", Cond.fieldLink RX4 142 "RepeatLearner" "badTrials" "I", Cond.methodLink RX4 223 yX3_becomeAsAtFirst, Cond.instanceMethod yX3_becomeAsAtFirst, Cond.selects RX3 yX3_becomeAsAtFirst yX3_becomeAsAtFirst, Cond.code yX3_becomeAsAtFirst cX3_becomeAsAtFirst 2 none, Cond.fieldLink RX3 9 "RepeatLearner$Settings" "samples" "I", Cond.fieldLink RX3 15 "RepeatLearner$Settings" "gain" "I", Cond.fieldLink RX3 18 "RepeatLearner$Settings" "lead" "I"]
def wsL_law_r4 : List Cond := [Cond.fieldLink RX3 21 "RepeatLearner$Settings" "weight" "I", Cond.fieldLink RX3 24 "RepeatLearner$Settings" "passes" "I", Cond.constant RX3 27 (1000000), Cond.fieldLink RX3 28 "RepeatLearner$Settings" "limit" "I", Cond.fieldLink RX3 31 "RepeatLearner$Settings" "blend" "I", Cond.fieldLink RX3 34 "RepeatLearner$Settings" "greatestShift" "I", Cond.fieldLink RX3 37 "RepeatLearner$Settings" "tolerance" "I", Cond.fieldLink RX3 40 "RepeatLearner$Settings" "hold" "I", Cond.fieldLink RX3 43 "RepeatLearner$Settings" "guard" "Z", Cond.methodLink RX4 226 yX2_becomeAsAtFirst, Cond.instanceMethod yX2_becomeAsAtFirst, Cond.selects RX2 yX2_becomeAsAtFirst yX2_becomeAsAtFirst, Cond.code yX2_becomeAsAtFirst cX2_becomeAsAtFirst 1 none, Cond.fieldLink RX2 19 "RepeatLearner$Plant" "amplitude" "I", Cond.fieldLink RX2 23 "RepeatLearner$Plant" "seed" "I", Cond.methodLink RX2 13 yJ7_fill_53178, Cond.static yJ7_fill_53178, Cond.initialized RJ7, Cond.code yJ7_fill_53178 cJ7_fill_53178 4 none, Cond.methodLink RX4 228 yJ7_fill_53178, Cond.methodLink RL 12 yX5_init, Cond.instanceMethod yX5_init, Cond.code yX5_init cX5_init 1 none, Cond.methodLink RX5 1 objectInit]
def wsL_law_r5 : List Cond := [Cond.fieldLink RX5 7 "RepeatLearnerModel" "target" "[I", Cond.fieldLink RX5 13 "RepeatLearnerModel" "put" "[I", Cond.fieldLink RX5 16 "RepeatLearnerModel" "raw" "[I", Cond.fieldLink RX5 19 "RepeatLearnerModel" "off" "[I", Cond.fieldLink RX5 22 "RepeatLearnerModel" "smoothed" "[I", Cond.fieldLink RX5 25 "RepeatLearnerModel" "error" "[I", Cond.fieldLink RX5 28 "RepeatLearnerModel" "normOf" "[I", Cond.fieldLink RX5 31 "RepeatLearnerModel" "shiftOf" "[I", Cond.fieldLink RX5 34 "RepeatLearnerModel" "aligned" "[I", Cond.fieldLink RX5 37 "RepeatLearnerModel" "bestPut" "[I", Cond.fieldLink RX5 40 "RepeatLearnerModel" "plant" "[I", Cond.methodLink RX5 43 yX5_begin, Cond.instanceMethod yX5_begin, Cond.selects RX5 yX5_begin yX5_begin, Cond.code yX5_begin cX5_begin 3 none, Cond.fieldLink RX5 47 "RepeatLearnerModel" "samples" "I", Cond.fieldLink RX5 51 "RepeatLearnerModel" "gain" "I", Cond.fieldLink RX5 54 "RepeatLearnerModel" "lead" "I", Cond.fieldLink RX5 57 "RepeatLearnerModel" "weight" "I", Cond.fieldLink RX5 60 "RepeatLearnerModel" "passes" "I", Cond.constant RX5 63 (1000000), Cond.fieldLink RX5 64 "RepeatLearnerModel" "limit" "I", Cond.fieldLink RX5 67 "RepeatLearnerModel" "blend" "I", Cond.fieldLink RX5 70 "RepeatLearnerModel" "greatest" "I"]
def wsL_law_r6 : List Cond := [Cond.fieldLink RX5 73 "RepeatLearnerModel" "tolerance" "I", Cond.fieldLink RX5 76 "RepeatLearnerModel" "hold" "I", Cond.fieldLink RX5 79 "RepeatLearnerModel" "isGuarded" "Z", Cond.fieldLink RX5 83 "RepeatLearnerModel" "isRunning" "Z", Cond.fieldLink RX5 86 "RepeatLearnerModel" "recorded" "I", Cond.fieldLink RX5 89 "RepeatLearnerModel" "started" "I", Cond.fieldLink RX5 92 "RepeatLearnerModel" "complete" "I", Cond.fieldLink RX5 95 "RepeatLearnerModel" "aborted" "I", Cond.fieldLink RX5 98 "RepeatLearnerModel" "fallbacks" "I", Cond.fieldLink RX5 101 "RepeatLearnerModel" "bad" "I", Cond.fieldLink RX5 104 "RepeatLearnerModel" "bestNumber" "I", Cond.fieldLink RX5 107 "RepeatLearnerModel" "amplitude" "I", Cond.fieldLink RX5 110 "RepeatLearnerModel" "drawn" "I", Cond.methodLink RL 13 yX4_reset, Cond.instanceMethod yX4_reset, Cond.selects RX4 yX4_reset yX4_reset, Cond.code yX4_reset cX4_reset 3 (some .int), Cond.constant RX4 64 (-2000000001), Cond.fieldLink RX4 65 "RepeatLearner$Settings" "samples" "I", Cond.methodLink RX4 60 yX4_isWithin, Cond.static yX4_isWithin, Cond.code yX4_isWithin cX4_isWithin 3 (some .boolean), Cond.methodLink RL 17 yX5_reset, Cond.instanceMethod yX5_reset]
def wsL_law_r7 : List Cond := [Cond.selects RX5 yX5_reset yX5_reset, Cond.code yX5_reset cX5_reset 3 (some .int), Cond.constant RX5 117 (-2000000001), Cond.methodLink RX5 113 yX5_in, Cond.static yX5_in, Cond.code yX5_in cX5_in 3 (some .boolean), Cond.methodLink RL 18 yX4_setReference, Cond.instanceMethod yX4_setReference, Cond.selects RX4 yX4_setReference yX4_setReference, Cond.code yX4_setReference cX4_setReference 4 (some .int), Cond.methodLink RX4 69 yX4_isSample, Cond.instanceMethod yX4_isSample, Cond.selects RX4 yX4_isSample yX4_isSample, Cond.code yX4_isSample cX4_isSample 2 (some .boolean), Cond.methodLink RX4 73 yX4_isSignal, Cond.static yX4_isSignal, Cond.code yX4_isSignal cX4_isSignal 1 (some .boolean), Cond.constant RX4 215 (-1000000), Cond.constant RX4 92 (1000000), Cond.methodLink RL 22 yX5_setReference, Cond.instanceMethod yX5_setReference, Cond.selects RX5 yX5_setReference yX5_setReference, Cond.code yX5_setReference cX5_setReference 4 (some .int), Cond.constant RX5 122 (-1000000)]
def wsL_law_r8 : List Cond := [Cond.methodLink RX5 118 yX5_noSample, Cond.instanceMethod yX5_noSample, Cond.selects RX5 yX5_noSample yX5_noSample, Cond.code yX5_noSample cX5_noSample 2 (some .boolean), Cond.methodLink RL 23 yX4_setGain, Cond.instanceMethod yX4_setGain, Cond.selects RX4 yX4_setGain yX4_setGain, Cond.code yX4_setGain cX4_setGain 4 (some .int), Cond.fieldLink RX4 76 "RepeatLearner$Settings" "gain" "I", Cond.fieldLink RX4 79 "RepeatLearner$Settings" "lead" "I", Cond.methodLink RX4 82 yX4_oneIf, Cond.static yX4_oneIf, Cond.code yX4_oneIf cX4_oneIf 1 (some .int), Cond.methodLink RL 26 yX5_setGain, Cond.instanceMethod yX5_setGain, Cond.selects RX5 yX5_setGain yX5_setGain, Cond.code yX5_setGain cX5_setGain 4 (some .int), Cond.methodLink RL 27 yX4_setSmoothing, Cond.instanceMethod yX4_setSmoothing, Cond.selects RX4 yX4_setSmoothing yX4_setSmoothing, Cond.code yX4_setSmoothing cX4_setSmoothing 4 (some .int), Cond.fieldLink RX4 86 "RepeatLearner$Settings" "weight" "I", Cond.fieldLink RX4 89 "RepeatLearner$Settings" "passes" "I", Cond.methodLink RL 30 yX5_setSmoothing]
def wsL_law_r9 : List Cond := [Cond.instanceMethod yX5_setSmoothing, Cond.selects RX5 yX5_setSmoothing yX5_setSmoothing, Cond.code yX5_setSmoothing cX5_setSmoothing 4 (some .int), Cond.methodLink RL 31 yX4_setLimits, Cond.instanceMethod yX4_setLimits, Cond.selects RX4 yX4_setLimits yX4_setLimits, Cond.code yX4_setLimits cX4_setLimits 4 (some .int), Cond.fieldLink RX4 93 "RepeatLearner$Settings" "limit" "I", Cond.fieldLink RX4 96 "RepeatLearner$Settings" "blend" "I", Cond.methodLink RL 34 yX5_setLimits, Cond.instanceMethod yX5_setLimits, Cond.selects RX5 yX5_setLimits yX5_setLimits, Cond.code yX5_setLimits cX5_setLimits 4 (some .int), Cond.methodLink RL 35 yX4_setGreatestShift, Cond.instanceMethod yX4_setGreatestShift, Cond.selects RX4 yX4_setGreatestShift yX4_setGreatestShift, Cond.code yX4_setGreatestShift cX4_setGreatestShift 3 (some .int), Cond.fieldLink RX4 99 "RepeatLearner$Settings" "greatestShift" "I", Cond.methodLink RL 38 yX5_setGreatestShift, Cond.instanceMethod yX5_setGreatestShift, Cond.selects RX5 yX5_setGreatestShift yX5_setGreatestShift, Cond.code yX5_setGreatestShift cX5_setGreatestShift 3 (some .int), Cond.methodLink RL 39 yX4_setTolerance, Cond.instanceMethod yX4_setTolerance]
def wsL_law_r10 : List Cond := [Cond.selects RX4 yX4_setTolerance yX4_setTolerance, Cond.code yX4_setTolerance cX4_setTolerance 4 (some .int), Cond.fieldLink RX4 102 "RepeatLearner$Settings" "tolerance" "I", Cond.fieldLink RX4 105 "RepeatLearner$Settings" "hold" "I", Cond.methodLink RL 42 yX5_setTolerance, Cond.instanceMethod yX5_setTolerance, Cond.selects RX5 yX5_setTolerance yX5_setTolerance, Cond.code yX5_setTolerance cX5_setTolerance 4 (some .int), Cond.methodLink RL 43 yX4_setGuard, Cond.instanceMethod yX4_setGuard, Cond.selects RX4 yX4_setGuard yX4_setGuard, Cond.code yX4_setGuard cX4_setGuard 3 (some .int), Cond.fieldLink RX4 108 "RepeatLearner$Settings" "guard" "Z", Cond.methodLink RL 47 yX5_setGuard, Cond.instanceMethod yX5_setGuard, Cond.selects RX5 yX5_setGuard yX5_setGuard, Cond.code yX5_setGuard cX5_setGuard 3 (some .int), Cond.methodLink RL 48 yX4_setting, Cond.instanceMethod yX4_setting, Cond.selects RX4 yX4_setting yX4_setting, Cond.code yX4_setting cX4_setting 2 (some .int), Cond.methodLink RL 51 yX5_setting, Cond.instanceMethod yX5_setting, Cond.selects RX5 yX5_setting yX5_setting]
def wsL_law_r11 : List Cond := [Cond.code yX5_setting cX5_setting 2 (some .int), Cond.methodLink RL 52 yX4_startTrial, Cond.instanceMethod yX4_startTrial, Cond.selects RX4 yX4_startTrial yX4_startTrial, Cond.code yX4_startTrial cX4_startTrial 1 (some .int), Cond.constant RX4 115 (-2000000002), Cond.methodLink RX4 116 yX4_beginTrial, Cond.instanceMethod yX4_beginTrial, Cond.selects RX4 yX4_beginTrial yX4_beginTrial, Cond.code yX4_beginTrial cX4_beginTrial 1 none, Cond.methodLink RL 56 yX5_startTrial, Cond.instanceMethod yX5_startTrial, Cond.selects RX5 yX5_startTrial yX5_startTrial, Cond.code yX5_startTrial cX5_startTrial 1 (some .int), Cond.constant RX5 164 (-2000000002), Cond.methodLink RL 57 yX4_record, Cond.instanceMethod yX4_record, Cond.selects RX4 yX4_record yX4_record, Cond.code yX4_record cX4_record 2 (some .int), Cond.constant RX4 122 (-2000000003), Cond.constant RX4 129 (-2000000004), Cond.methodLink RX4 123 yX4_takeOutput, Cond.instanceMethod yX4_takeOutput, Cond.selects RX4 yX4_takeOutput yX4_takeOutput]
def wsL_law_r12 : List Cond := [Cond.code yX4_takeOutput cX4_takeOutput 2 none, Cond.methodLink RX4 234 yX4_completeTrial, Cond.instanceMethod yX4_completeTrial, Cond.selects RX4 yX4_completeTrial yX4_completeTrial, Cond.code yX4_completeTrial cX4_completeTrial 3 none, Cond.fieldLink RX4 155 "RepeatLearner$History" "norms" "[I", Cond.methodLink RX4 148 yX1_reaches, Cond.instanceMethod yX1_reaches, Cond.selects RX1 yX1_reaches yX1_reaches, Cond.code yX1_reaches cX1_reaches 2 (some .boolean), Cond.fieldLink RX1 23 "RepeatLearner$History" "complete" "I", Cond.methodLink RX4 244 yX4_bestFittingShift, Cond.instanceMethod yX4_bestFittingShift, Cond.selects RX4 yX4_bestFittingShift yX4_bestFittingShift, Cond.code yX4_bestFittingShift cX4_bestFittingShift 8 (some .int), Cond.methodLink RX4 265 yX4_misfit, Cond.instanceMethod yX4_misfit, Cond.selects RX4 yX4_misfit yX4_misfit, Cond.code yX4_misfit cX4_misfit 5 (some .long), Cond.methodLink RX4 269 Lib.Math.abs.name, Cond.static Lib.Math.abs.name, Cond.initialized "java/lang/Math", Cond.code Lib.Math.abs.name Lib.Math.abs.code 1 (some .int), Cond.methodLink RX4 248 yX4_rawAt]
def wsL_law_r13 : List Cond := [Cond.instanceMethod yX4_rawAt, Cond.selects RX4 yX4_rawAt yX4_rawAt, Cond.code yX4_rawAt cX4_rawAt 2 (some .int), Cond.methodLink RX4 271 Lib.Math.min.name, Cond.static Lib.Math.min.name, Cond.code Lib.Math.min.name Lib.Math.min.code 2 (some .int), Cond.methodLink RX4 274 Lib.Math.max.name, Cond.static Lib.Math.max.name, Cond.code Lib.Math.max.name Lib.Math.max.code 2 (some .int), Cond.methodLink RX4 251 yX1_add, Cond.instanceMethod yX1_add, Cond.selects RX1 yX1_add yX1_add, Cond.code yX1_add cX1_add 8 none, Cond.methodLink RX1 37 Lib.Math.abs.name, Cond.methodLink RX1 33 yX1_slot, Cond.instanceMethod yX1_slot, Cond.selects RX1 yX1_slot yX1_slot, Cond.code yX1_slot cX1_slot 2 (some .int), Cond.methodLink RX1 27 yJ9_floorMod_7cf53, Cond.static yJ9_floorMod_7cf53, Cond.initialized RJ9, Cond.code yJ9_floorMod_7cf53 cJ9_floorMod_7cf53 3 (some .int), Cond.methodLink RX4 158 yX1_slot, Cond.methodLink RX4 255 yX4_judge]
def wsL_law_r14 : List Cond := [Cond.instanceMethod yX4_judge, Cond.selects RX4 yX4_judge yX4_judge, Cond.code yX4_judge cX4_judge 2 none, Cond.fieldLink RX4 180 "RepeatLearner$Best" "leastNorm" "I", Cond.methodLink RX4 276 yX0_remember, Cond.instanceMethod yX0_remember, Cond.selects RX0 yX0_remember yX0_remember, Cond.code yX0_remember cX0_remember 4 none, Cond.fieldLink RX0 15 "RepeatLearner$Best" "known" "Z", Cond.fieldLink RX0 19 "RepeatLearner$Best" "leastNorm" "I", Cond.fieldLink RX0 23 "RepeatLearner$Best" "number" "I", Cond.methodLink RX0 26 arraycopyName, Cond.native arraycopyName, Cond.static arraycopyName, Cond.initialized "java/lang/System", Cond.methodLink RX4 258 yX4_fallBack, Cond.instanceMethod yX4_fallBack, Cond.selects RX4 yX4_fallBack yX4_fallBack, Cond.code yX4_fallBack cX4_fallBack 1 none, Cond.fieldLink RX4 186 "RepeatLearner$Best" "usedInputs" "[I", Cond.methodLink RX4 280 arraycopyName, Cond.methodLink RX4 151 yX1_errorsOf, Cond.instanceMethod yX1_errorsOf, Cond.selects RX1 yX1_errorsOf yX1_errorsOf]
def wsL_law_r15 : List Cond := [Cond.code yX1_errorsOf cX1_errorsOf 2 (some (.array .int)), Cond.methodLink RX4 261 yX4_correct, Cond.instanceMethod yX4_correct, Cond.selects RX4 yX4_correct yX4_correct, Cond.code yX4_correct cX4_correct 9 none, Cond.constantLong RX4 286 (1000), Cond.methodLink RX4 288 yJ9_floorDiv_f86c9, Cond.static yJ9_floorDiv_f86c9, Cond.code yJ9_floorDiv_f86c9 cJ9_floorDiv_f86c9 6 (some .long), Cond.methodLink RX4 291 yX4_smoothOnce, Cond.instanceMethod yX4_smoothOnce, Cond.selects RX4 yX4_smoothOnce yX4_smoothOnce, Cond.code yX4_smoothOnce cX4_smoothOnce 11 none, Cond.constantLong RX4 294 (2), Cond.methodLink RX4 240 yX4_limitTo, Cond.static yX4_limitTo, Cond.code yX4_limitTo cX4_limitTo 3 (some .int), Cond.methodLink RX4 216 Lib.MathLoose.min_long.x, Cond.static Lib.MathLoose.min_long.x, Cond.code Lib.MathLoose.min_long.x Lib.MathLoose.min_long.code 4 (some .long), Cond.methodLink RX4 220 Lib.MathLoose.max_long.x, Cond.static Lib.MathLoose.max_long.x, Cond.code Lib.MathLoose.max_long.x Lib.MathLoose.max_long.code 4 (some .long), Cond.methodLink RL 60 yX5_record]
def wsL_law_r16 : List Cond := [Cond.instanceMethod yX5_record, Cond.selects RX5 yX5_record yX5_record, Cond.code yX5_record cX5_record 2 (some .int), Cond.constant RX5 165 (-2000000003), Cond.constant RX5 169 (-2000000004), Cond.methodLink RX5 166 yX5_finish, Cond.instanceMethod yX5_finish, Cond.selects RX5 yX5_finish yX5_finish, Cond.code yX5_finish cX5_finish 4 none, Cond.methodLink RX5 147 yX5_findShift, Cond.instanceMethod yX5_findShift, Cond.selects RX5 yX5_findShift yX5_findShift, Cond.code yX5_findShift cX5_findShift 3 (some .int), Cond.methodLink RX5 143 yX5_unlike, Cond.instanceMethod yX5_unlike, Cond.selects RX5 yX5_unlike yX5_unlike, Cond.code yX5_unlike cX5_unlike 5 (some .long), Cond.methodLink RX5 136 yX5_rawAt, Cond.instanceMethod yX5_rawAt, Cond.selects RX5 yX5_rawAt yX5_rawAt, Cond.code yX5_rawAt cX5_rawAt 2 (some .int), Cond.methodLink RX5 140 yX5_size, Cond.static yX5_size, Cond.code yX5_size cX5_size 1 (some .int)]
def wsL_law_r17 : List Cond := [Cond.methodLink RX5 151 yX5_makeRoom, Cond.instanceMethod yX5_makeRoom, Cond.selects RX5 yX5_makeRoom yX5_makeRoom, Cond.code yX5_makeRoom cX5_makeRoom 3 none, Cond.methodLink RX5 154 yX5_rate, Cond.instanceMethod yX5_rate, Cond.selects RX5 yX5_rate yX5_rate, Cond.code yX5_rate cX5_rate 3 none, Cond.fieldLink RX5 161 "RepeatLearnerModel" "bestNorm" "I", Cond.methodLink RX5 157 yX5_correct, Cond.instanceMethod yX5_correct, Cond.selects RX5 yX5_correct yX5_correct, Cond.code yX5_correct cX5_correct 7 none, Cond.constantLong RX5 123 (1000), Cond.methodLink RX5 125 yX5_down, Cond.static yX5_down, Cond.code yX5_down cX5_down 6 (some .long), Cond.methodLink RX5 129 yX5_smooth, Cond.instanceMethod yX5_smooth, Cond.selects RX5 yX5_smooth yX5_smooth, Cond.code yX5_smooth cX5_smooth 6 none, Cond.methodLink RX5 132 yX5_kept, Cond.static yX5_kept, Cond.code yX5_kept cX5_kept 3 (some .int)]
def wsL_law_r18 : List Cond := [Cond.methodLink RL 61 yX4_abort, Cond.instanceMethod yX4_abort, Cond.selects RX4 yX4_abort yX4_abort, Cond.code yX4_abort cX4_abort 1 (some .int), Cond.methodLink RX4 133 yX4_learnFromPart, Cond.instanceMethod yX4_learnFromPart, Cond.selects RX4 yX4_learnFromPart yX4_learnFromPart, Cond.code yX4_learnFromPart cX4_learnFromPart 2 none, Cond.methodLink RL 64 yX5_abort, Cond.instanceMethod yX5_abort, Cond.selects RX5 yX5_abort yX5_abort, Cond.code yX5_abort cX5_abort 2 (some .int), Cond.methodLink RL 65 yX4_position, Cond.instanceMethod yX4_position, Cond.selects RX4 yX4_position yX4_position, Cond.code yX4_position cX4_position 1 (some .int), Cond.methodLink RL 68 yX5_position, Cond.instanceMethod yX5_position, Cond.selects RX5 yX5_position yX5_position, Cond.code yX5_position cX5_position 1 (some .int), Cond.methodLink RL 69 yX4_input, Cond.instanceMethod yX4_input, Cond.selects RX4 yX4_input yX4_input, Cond.code yX4_input cX4_input 2 (some .int)]
def wsL_law_r19 : List Cond := [Cond.methodLink RL 72 yX5_input, Cond.instanceMethod yX5_input, Cond.selects RX5 yX5_input yX5_input, Cond.code yX5_input cX5_input 2 (some .int), Cond.methodLink RL 73 yX4_setInput, Cond.instanceMethod yX4_setInput, Cond.selects RX4 yX4_setInput yX4_setInput, Cond.code yX4_setInput cX4_setInput 4 (some .int), Cond.methodLink RL 76 yX5_setInput, Cond.instanceMethod yX5_setInput, Cond.selects RX5 yX5_setInput yX5_setInput, Cond.code yX5_setInput cX5_setInput 4 (some .int), Cond.methodLink RL 77 yX4_reference, Cond.instanceMethod yX4_reference, Cond.selects RX4 yX4_reference yX4_reference, Cond.code yX4_reference cX4_reference 2 (some .int), Cond.methodLink RL 80 yX5_reference, Cond.instanceMethod yX5_reference, Cond.selects RX5 yX5_reference yX5_reference, Cond.code yX5_reference cX5_reference 2 (some .int), Cond.methodLink RL 81 yX4_count, Cond.instanceMethod yX4_count, Cond.selects RX4 yX4_count yX4_count, Cond.code yX4_count cX4_count 2 (some .int)]
def wsL_law_r20 : List Cond := [Cond.methodLink RL 84 yX5_count, Cond.instanceMethod yX5_count, Cond.selects RX5 yX5_count yX5_count, Cond.code yX5_count cX5_count 2 (some .int), Cond.methodLink RL 85 yX4_error, Cond.instanceMethod yX4_error, Cond.selects RX4 yX4_error yX4_error, Cond.code yX4_error cX4_error 3 (some .int), Cond.methodLink RX4 145 yX4_isAge, Cond.static yX4_isAge, Cond.code yX4_isAge cX4_isAge 1 (some .boolean), Cond.methodLink RL 88 yX5_error, Cond.instanceMethod yX5_error, Cond.selects RX5 yX5_error yX5_error, Cond.code yX5_error cX5_error 3 (some .int), Cond.methodLink RX5 170 yX5_isAge, Cond.static yX5_isAge, Cond.code yX5_isAge cX5_isAge 1 (some .boolean), Cond.methodLink RL 89 yX4_norm, Cond.instanceMethod yX4_norm, Cond.selects RX4 yX4_norm yX4_norm, Cond.code yX4_norm cX4_norm 2 (some .int), Cond.methodLink RL 92 yX5_norm, Cond.instanceMethod yX5_norm]
def wsL_law_r21 : List Cond := [Cond.selects RX5 yX5_norm yX5_norm, Cond.code yX5_norm cX5_norm 2 (some .int), Cond.methodLink RL 93 yX4_shift, Cond.instanceMethod yX4_shift, Cond.selects RX4 yX4_shift yX4_shift, Cond.code yX4_shift cX4_shift 2 (some .int), Cond.fieldLink RX4 162 "RepeatLearner$History" "shifts" "[I", Cond.methodLink RL 96 yX5_shift, Cond.instanceMethod yX5_shift, Cond.selects RX5 yX5_shift yX5_shift, Cond.code yX5_shift cX5_shift 2 (some .int), Cond.methodLink RL 97 yX4_worstSample, Cond.instanceMethod yX4_worstSample, Cond.selects RX4 yX4_worstSample yX4_worstSample, Cond.code yX4_worstSample cX4_worstSample 2 (some .int), Cond.methodLink RX4 165 yX4_indexOfGreatest, Cond.static yX4_indexOfGreatest, Cond.code yX4_indexOfGreatest cX4_indexOfGreatest 4 (some .int), Cond.methodLink RL 100 yX5_worstSample, Cond.instanceMethod yX5_worstSample, Cond.selects RX5 yX5_worstSample yX5_worstSample, Cond.code yX5_worstSample cX5_worstSample 4 (some .int), Cond.methodLink RL 101 yX4_energy, Cond.instanceMethod yX4_energy]
def wsL_law_r22 : List Cond := [Cond.selects RX4 yX4_energy yX4_energy, Cond.code yX4_energy cX4_energy 2 (some .long), Cond.constantLong RX4 169 (-1), Cond.constantLong RX4 175 (-2), Cond.methodLink RX4 171 yX4_sumOfSquares, Cond.static yX4_sumOfSquares, Cond.code yX4_sumOfSquares cX4_sumOfSquares 5 (some .long), Cond.methodLink RL 105 yX5_energy, Cond.instanceMethod yX5_energy, Cond.selects RX5 yX5_energy yX5_energy, Cond.code yX5_energy cX5_energy 7 (some .long), Cond.constantLong RX5 173 (-2), Cond.constantLong RX5 175 (-1), Cond.methodLink RL 106 yX4_best, Cond.instanceMethod yX4_best, Cond.selects RX4 yX4_best yX4_best, Cond.code yX4_best cX4_best 2 (some .int), Cond.fieldLink RX4 183 "RepeatLearner$Best" "number" "I", Cond.methodLink RL 109 yX5_best, Cond.instanceMethod yX5_best, Cond.selects RX5 yX5_best yX5_best, Cond.code yX5_best cX5_best 2 (some .int), Cond.methodLink RL 110 yX4_bestInput, Cond.instanceMethod yX4_bestInput]
def wsL_law_r23 : List Cond := [Cond.selects RX4 yX4_bestInput yX4_bestInput, Cond.code yX4_bestInput cX4_bestInput 2 (some .int), Cond.methodLink RL 113 yX5_bestInput, Cond.instanceMethod yX5_bestInput, Cond.selects RX5 yX5_bestInput yX5_bestInput, Cond.code yX5_bestInput cX5_bestInput 2 (some .int), Cond.methodLink RL 114 yX4_state, Cond.instanceMethod yX4_state, Cond.selects RX4 yX4_state yX4_state, Cond.code yX4_state cX4_state 2 (some .int), Cond.methodLink RX4 189 yX4_hasConverged, Cond.instanceMethod yX4_hasConverged, Cond.selects RX4 yX4_hasConverged yX4_hasConverged, Cond.code yX4_hasConverged cX4_hasConverged 2 (some .boolean), Cond.methodLink RX4 296 yX1_staysWithin, Cond.instanceMethod yX1_staysWithin, Cond.selects RX1 yX1_staysWithin yX1_staysWithin, Cond.code yX1_staysWithin cX1_staysWithin 5 (some .boolean), Cond.methodLink RX1 40 yX1_errorsOf, Cond.methodLink RX4 192 yX1_hasGrown, Cond.instanceMethod yX1_hasGrown, Cond.selects RX1 yX1_hasGrown yX1_hasGrown, Cond.code yX1_hasGrown cX1_hasGrown 2 (some .boolean), Cond.methodLink RL 117 yX5_state]
def wsL_law_r24 : List Cond := [Cond.instanceMethod yX5_state, Cond.selects RX5 yX5_state yX5_state, Cond.code yX5_state cX5_state 2 (some .int), Cond.methodLink RX5 177 yX5_isSteady, Cond.instanceMethod yX5_isSteady, Cond.selects RX5 yX5_isSteady yX5_isSteady, Cond.code yX5_isSteady cX5_isSteady 4 (some .boolean), Cond.methodLink RL 118 yX4_convergedCount, Cond.instanceMethod yX4_convergedCount, Cond.selects RX4 yX4_convergedCount yX4_convergedCount, Cond.code yX4_convergedCount cX4_convergedCount 3 (some .int), Cond.methodLink RL 121 yX5_convergedCount, Cond.instanceMethod yX5_convergedCount, Cond.selects RX5 yX5_convergedCount yX5_convergedCount, Cond.code yX5_convergedCount cX5_convergedCount 3 (some .int), Cond.methodLink RL 122 yX4_setPlant, Cond.instanceMethod yX4_setPlant, Cond.selects RX4 yX4_setPlant yX4_setPlant, Cond.code yX4_setPlant cX4_setPlant 4 (some .int), Cond.fieldLink RX4 195 "RepeatLearner$Plant" "coefficients" "[I", Cond.methodLink RL 125 yX5_setPlant, Cond.instanceMethod yX5_setPlant, Cond.selects RX5 yX5_setPlant yX5_setPlant, Cond.code yX5_setPlant cX5_setPlant 4 (some .int)]
def wsL_law_r25 : List Cond := [Cond.methodLink RL 126 yX4_setDisturbance, Cond.instanceMethod yX4_setDisturbance, Cond.selects RX4 yX4_setDisturbance yX4_setDisturbance, Cond.code yX4_setDisturbance cX4_setDisturbance 4 (some .int), Cond.fieldLink RX4 198 "RepeatLearner$Plant" "amplitude" "I", Cond.fieldLink RX4 201 "RepeatLearner$Plant" "seed" "I", Cond.methodLink RL 129 yX5_setDisturbance, Cond.instanceMethod yX5_setDisturbance, Cond.selects RX5 yX5_setDisturbance yX5_setDisturbance, Cond.code yX5_setDisturbance cX5_setDisturbance 4 (some .int), Cond.methodLink RL 130 yX4_simulate, Cond.instanceMethod yX4_simulate, Cond.selects RX4 yX4_simulate yX4_simulate, Cond.code yX4_simulate cX4_simulate 3 (some .int), Cond.methodLink RX4 204 yX4_simulateTrial, Cond.instanceMethod yX4_simulateTrial, Cond.selects RX4 yX4_simulateTrial yX4_simulateTrial, Cond.code yX4_simulateTrial cX4_simulateTrial 2 none, Cond.methodLink RX4 237 yX2_outputAt, Cond.instanceMethod yX2_outputAt, Cond.selects RX2 yX2_outputAt yX2_outputAt, Cond.code yX2_outputAt cX2_outputAt 7 (some .long), Cond.methodLink RX2 26 Lib.Math.min.name, Cond.constantLong RX2 32 (1000)]
def wsL_law_r26 : List Cond := [Cond.methodLink RX2 34 yJ9_floorDiv_f86c9, Cond.methodLink RX2 38 yX2_nextDisturbance, Cond.instanceMethod yX2_nextDisturbance, Cond.selects RX2 yX2_nextDisturbance yX2_nextDisturbance, Cond.code yX2_nextDisturbance cX2_nextDisturbance 1 (some .int), Cond.constant RX2 42 (1103515245), Cond.methodLink RL 133 yX5_simulate, Cond.instanceMethod yX5_simulate, Cond.selects RX5 yX5_simulate yX5_simulate, Cond.code yX5_simulate cX5_simulate 3 (some .int), Cond.methodLink RX5 181 yX5_startTrial, Cond.methodLink RX5 184 yX5_outputOf, Cond.instanceMethod yX5_outputOf, Cond.selects RX5 yX5_outputOf yX5_outputOf, Cond.code yX5_outputOf cX5_outputOf 6 (some .int), Cond.constant RX5 180 (1103515245), Cond.methodLink RX5 187 yX5_record, Cond.methodLink RL 134 yX4_suits, Cond.instanceMethod yX4_suits, Cond.selects RX4 yX4_suits yX4_suits, Cond.code yX4_suits cX4_suits 4 (some .int), Cond.methodLink RX4 207 Lib.MathLoose.abs_long.x, Cond.static Lib.MathLoose.abs_long.x, Cond.code Lib.MathLoose.abs_long.x Lib.MathLoose.abs_long.code 2 (some .long)]
def wsL_law_r27 : List Cond := [Cond.constantLong RX4 213 (1000000), Cond.methodLink RL 137 yX5_suits, Cond.instanceMethod yX5_suits, Cond.selects RX5 yX5_suits yX5_suits, Cond.code yX5_suits cX5_suits 4 (some .int), Cond.constantLong RX5 190 (1000000)]
def wsL_law : List Cond := (wsL_law_r1 ++ (wsL_law_r2 ++ (wsL_law_r3 ++ (wsL_law_r4 ++ (wsL_law_r5 ++ (wsL_law_r6 ++ (wsL_law_r7 ++ (wsL_law_r8 ++ (wsL_law_r9 ++ (wsL_law_r10 ++ (wsL_law_r11 ++ (wsL_law_r12 ++ (wsL_law_r13 ++ (wsL_law_r14 ++ (wsL_law_r15 ++ (wsL_law_r16 ++ (wsL_law_r17 ++ (wsL_law_r18 ++ (wsL_law_r19 ++ (wsL_law_r20 ++ (wsL_law_r21 ++ (wsL_law_r22 ++ (wsL_law_r23 ++ (wsL_law_r24 ++ (wsL_law_r25 ++ (wsL_law_r26 ++ wsL_law_r27)))))))))))))))))))))))))) ++ wsX40 ++ wsX50 ++ wsX30 ++ wsX20 ++ wsX10 ++ wsX00 ++ ([] : List Cond)
theorem inlX0 : ∀ w ∈ wsX00, w ∈ wsL_law := fun _ h => List.mem_append_left _ (List.mem_append_right _ h)
theorem inlX1 : ∀ w ∈ wsX10, w ∈ wsL_law := fun _ h => List.mem_append_left _ (List.mem_append_left _ (List.mem_append_right _ h))
theorem inlX2 : ∀ w ∈ wsX20, w ∈ wsL_law := fun _ h => List.mem_append_left _ (List.mem_append_left _ (List.mem_append_left _ (List.mem_append_right _ h)))
theorem inlX3 : ∀ w ∈ wsX30, w ∈ wsL_law := fun _ h => List.mem_append_left _ (List.mem_append_left _ (List.mem_append_left _ (List.mem_append_left _ (List.mem_append_right _ h))))
theorem inlX4 : ∀ w ∈ wsX40, w ∈ wsL_law := fun _ h => List.mem_append_left _ (List.mem_append_left _ (List.mem_append_left _ (List.mem_append_left _ (List.mem_append_left _ (List.mem_append_left _ (List.mem_append_right _ h))))))
theorem inlX5 : ∀ w ∈ wsX50, w ∈ wsL_law := fun _ h => List.mem_append_left _ (List.mem_append_left _ (List.mem_append_left _ (List.mem_append_left _ (List.mem_append_left _ (List.mem_append_right _ h)))))
abbrev vwCl : List vw_C := [(RX0, TX0, 4), (RX1, TX1, 4), (RX2, TX2, 3), (RX3, TX3, 11), (RX4, TX4, 16), (RX5, TX5, 33)]
end
section
set_option maxRecDepth 20000 in
theorem lw_instantiable_RX4_16 : Cond.instantiable RX4 16 ∈ wsL_law := List.mem_of_getElem? (i := 1) (by decide +kernel)
set_option maxRecDepth 20000 in
theorem ln_RX4 : Cond.initialized RX4 ∈ wsL_law := List.mem_of_getElem? (i := 2) (by decide +kernel)
set_option maxRecDepth 20000 in
theorem lw_instantiable_RX5_33 : Cond.instantiable RX5 33 ∈ wsL_law := List.mem_of_getElem? (i := 4) (by decide +kernel)
set_option maxRecDepth 20000 in
theorem ln_RX5 : Cond.initialized RX5 ∈ wsL_law := List.mem_of_getElem? (i := 5) (by decide +kernel)
set_option maxRecDepth 20000 in
theorem li_X4_init : Cond.instanceMethod yX4_init ∈ wsL_law := List.mem_of_getElem? (i := 7) (by decide +kernel)
set_option maxRecDepth 20000 in
theorem lc_X4_init : Cond.code yX4_init cX4_init 1 none ∈ wsL_law := List.mem_of_getElem? (i := 8) (by decide +kernel)
set_option maxRecDepth 20000 in
theorem lk_RX4_1 : Cond.methodLink RX4 1 objectInit ∈ wsL_law := List.mem_of_getElem? (i := 9) (by decide +kernel)
set_option maxRecDepth 20000 in
theorem lw_instanceMethod_objectInit : Cond.instanceMethod objectInit ∈ wsL_law := List.mem_of_getElem? (i := 10) (by decide +kernel)
set_option maxRecDepth 20000 in
theorem lw_code_objectInit____0xb1___1_none : Cond.code objectInit ⟨#[0xb1]⟩ 1 none ∈ wsL_law := List.mem_of_getElem? (i := 11) (by decide +kernel)
set_option maxRecDepth 20000 in
theorem lk_RX4_7 : Cond.classLink RX4 7 RX3 ∈ wsL_law := List.mem_of_getElem? (i := 12) (by decide +kernel)
set_option maxRecDepth 20000 in
theorem lw_instantiable_RX3_11 : Cond.instantiable RX3 11 ∈ wsL_law := List.mem_of_getElem? (i := 13) (by decide +kernel)
set_option maxRecDepth 20000 in
theorem ln_RX3 : Cond.initialized RX3 ∈ wsL_law := List.mem_of_getElem? (i := 14) (by decide +kernel)
set_option maxRecDepth 20000 in
theorem lk_RX4_10 : Cond.fieldLink RX4 10 "RepeatLearner" "settings" "LRepeatLearner$Settings;" ∈ wsL_law := List.mem_of_getElem? (i := 15) (by decide +kernel)
set_option maxRecDepth 20000 in
theorem lk_RX4_16 : Cond.classLink RX4 16 RX2 ∈ wsL_law := List.mem_of_getElem? (i := 16) (by decide +kernel)
set_option maxRecDepth 20000 in
theorem lw_instantiable_RX2_3 : Cond.instantiable RX2 3 ∈ wsL_law := List.mem_of_getElem? (i := 17) (by decide +kernel)
set_option maxRecDepth 20000 in
theorem ln_RX2 : Cond.initialized RX2 ∈ wsL_law := List.mem_of_getElem? (i := 18) (by decide +kernel)
set_option maxRecDepth 20000 in
theorem lk_RX4_19 : Cond.fieldLink RX4 19 "RepeatLearner" "plant" "LRepeatLearner$Plant;" ∈ wsL_law := List.mem_of_getElem? (i := 19) (by decide +kernel)
set_option maxRecDepth 20000 in
theorem lk_RX4_23 : Cond.classLink RX4 23 RX1 ∈ wsL_law := List.mem_of_getElem? (i := 20) (by decide +kernel)
set_option maxRecDepth 20000 in
theorem lw_instantiable_RX1_4 : Cond.instantiable RX1 4 ∈ wsL_law := List.mem_of_getElem? (i := 21) (by decide +kernel)
set_option maxRecDepth 20000 in
theorem ln_RX1 : Cond.initialized RX1 ∈ wsL_law := List.mem_of_getElem? (i := 22) (by decide +kernel)
set_option maxRecDepth 20000 in
theorem lk_RX4_26 : Cond.fieldLink RX4 26 "RepeatLearner" "history" "LRepeatLearner$History;" ∈ wsL_law := List.mem_of_getElem? (i := 23) (by decide +kernel)
set_option maxRecDepth 20000 in
theorem lk_RX4_30 : Cond.classLink RX4 30 RX0 ∈ wsL_law := List.mem_of_getElem? (i := 24) (by decide +kernel)
set_option maxRecDepth 20000 in
theorem lw_instantiable_RX0_4 : Cond.instantiable RX0 4 ∈ wsL_law := List.mem_of_getElem? (i := 25) (by decide +kernel)
set_option maxRecDepth 20000 in
theorem ln_RX0 : Cond.initialized RX0 ∈ wsL_law := List.mem_of_getElem? (i := 26) (by decide +kernel)
set_option maxRecDepth 20000 in
theorem lk_RX4_33 : Cond.fieldLink RX4 33 "RepeatLearner" "best" "LRepeatLearner$Best;" ∈ wsL_law := List.mem_of_getElem? (i := 27) (by decide +kernel)
set_option maxRecDepth 20000 in
theorem lw_arrayClass__int : Cond.arrayClass .int ∈ wsL_law := List.mem_of_getElem? (i := 28) (by decide +kernel)
set_option maxRecDepth 20000 in
theorem lk_RX4_37 : Cond.fieldLink RX4 37 "RepeatLearner" "references" "[I" ∈ wsL_law := List.mem_of_getElem? (i := 29) (by decide +kernel)
set_option maxRecDepth 20000 in
theorem lk_RX4_41 : Cond.fieldLink RX4 41 "RepeatLearner" "inputs" "[I" ∈ wsL_law := List.mem_of_getElem? (i := 30) (by decide +kernel)
set_option maxRecDepth 20000 in
theorem lk_RX4_44 : Cond.fieldLink RX4 44 "RepeatLearner" "smoothed" "[I" ∈ wsL_law := List.mem_of_getElem? (i := 31) (by decide +kernel)
set_option maxRecDepth 20000 in
theorem lk_RX4_47 : Cond.fieldLink RX4 47 "RepeatLearner" "raw" "[I" ∈ wsL_law := List.mem_of_getElem? (i := 32) (by decide +kernel)
set_option maxRecDepth 20000 in
theorem lk_RX4_50 : Cond.fieldLink RX4 50 "RepeatLearner" "aligned" "[I" ∈ wsL_law := List.mem_of_getElem? (i := 33) (by decide +kernel)
set_option maxRecDepth 20000 in
theorem lk_RX4_53 : Cond.fieldLink RX4 53 "RepeatLearner" "partErrors" "[I" ∈ wsL_law := List.mem_of_getElem? (i := 34) (by decide +kernel)
set_option maxRecDepth 20000 in
theorem li_X3_init : Cond.instanceMethod yX3_init ∈ wsL_law := List.mem_of_getElem? (i := 35) (by decide +kernel)
set_option maxRecDepth 20000 in
theorem lc_X3_init : Cond.code yX3_init cX3_init 1 none ∈ wsL_law := List.mem_of_getElem? (i := 36) (by decide +kernel)
set_option maxRecDepth 20000 in
theorem lk_RX3_3 : Cond.methodLink RX3 3 objectInit ∈ wsL_law := List.mem_of_getElem? (i := 37) (by decide +kernel)
set_option maxRecDepth 20000 in
theorem li_X2_init : Cond.instanceMethod yX2_init ∈ wsL_law := List.mem_of_getElem? (i := 38) (by decide +kernel)
set_option maxRecDepth 20000 in
theorem lc_X2_init : Cond.code yX2_init cX2_init 1 none ∈ wsL_law := List.mem_of_getElem? (i := 39) (by decide +kernel)
set_option maxRecDepth 20000 in
theorem lk_RX2_1 : Cond.methodLink RX2 1 objectInit ∈ wsL_law := List.mem_of_getElem? (i := 40) (by decide +kernel)
set_option maxRecDepth 20000 in
theorem lk_RX2_9 : Cond.fieldLink RX2 9 "RepeatLearner$Plant" "coefficients" "[I" ∈ wsL_law := List.mem_of_getElem? (i := 41) (by decide +kernel)
set_option maxRecDepth 20000 in
theorem li_X1_init : Cond.instanceMethod yX1_init ∈ wsL_law := List.mem_of_getElem? (i := 42) (by decide +kernel)
set_option maxRecDepth 20000 in
theorem lc_X1_init : Cond.code yX1_init cX1_init 1 none ∈ wsL_law := List.mem_of_getElem? (i := 43) (by decide +kernel)
set_option maxRecDepth 20000 in
theorem lk_RX1_3 : Cond.methodLink RX1 3 objectInit ∈ wsL_law := List.mem_of_getElem? (i := 44) (by decide +kernel)
set_option maxRecDepth 20000 in
theorem lk_RX1_11 : Cond.classLink RX1 11 "[[I" ∈ wsL_law := List.mem_of_getElem? (i := 45) (by decide +kernel)
set_option maxRecDepth 20000 in
theorem lk_RX1_13 : Cond.fieldLink RX1 13 "RepeatLearner$History" "errors" "[[I" ∈ wsL_law := List.mem_of_getElem? (i := 46) (by decide +kernel)
set_option maxRecDepth 20000 in
theorem lk_RX1_16 : Cond.fieldLink RX1 16 "RepeatLearner$History" "norms" "[I" ∈ wsL_law := List.mem_of_getElem? (i := 47) (by decide +kernel)
set_option maxRecDepth 20000 in
theorem lk_RX1_20 : Cond.fieldLink RX1 20 "RepeatLearner$History" "shifts" "[I" ∈ wsL_law := List.mem_of_getElem? (i := 48) (by decide +kernel)
set_option maxRecDepth 20000 in
theorem li_X0_init : Cond.instanceMethod yX0_init ∈ wsL_law := List.mem_of_getElem? (i := 49) (by decide +kernel)
set_option maxRecDepth 20000 in
theorem lc_X0_init : Cond.code yX0_init cX0_init 1 none ∈ wsL_law := List.mem_of_getElem? (i := 50) (by decide +kernel)
set_option maxRecDepth 20000 in
theorem lk_RX0_3 : Cond.methodLink RX0 3 objectInit ∈ wsL_law := List.mem_of_getElem? (i := 51) (by decide +kernel)
set_option maxRecDepth 20000 in
theorem lk_RX0_9 : Cond.fieldLink RX0 9 "RepeatLearner$Best" "usedInputs" "[I" ∈ wsL_law := List.mem_of_getElem? (i := 52) (by decide +kernel)
set_option maxRecDepth 20000 in
theorem lk_RX4_56 : Cond.methodLink RX4 56 yX4_startAnew ∈ wsL_law := List.mem_of_getElem? (i := 53) (by decide +kernel)
set_option maxRecDepth 20000 in
theorem li_X4_startAnew : Cond.instanceMethod yX4_startAnew ∈ wsL_law := List.mem_of_getElem? (i := 54) (by decide +kernel)
set_option maxRecDepth 20000 in
theorem ls_X4_startAnew : Cond.selects RX4 yX4_startAnew yX4_startAnew ∈ wsL_law := List.mem_of_getElem? (i := 55) (by decide +kernel)
set_option maxRecDepth 20000 in
theorem lc_X4_startAnew : Cond.code yX4_startAnew cX4_startAnew 2 none ∈ wsL_law := List.mem_of_getElem? (i := 56) (by decide +kernel)
set_option maxRecDepth 20000 in
theorem lk_RX4_136 : Cond.fieldLink RX4 136 "RepeatLearner$History" "complete" "I" ∈ wsL_law := List.mem_of_getElem? (i := 57) (by decide +kernel)
set_option maxRecDepth 20000 in
theorem lk_RX4_177 : Cond.fieldLink RX4 177 "RepeatLearner$Best" "known" "Z" ∈ wsL_law := List.mem_of_getElem? (i := 58) (by decide +kernel)
set_option maxRecDepth 20000 in
theorem lk_RX4_112 : Cond.fieldLink RX4 112 "RepeatLearner" "running" "Z" ∈ wsL_law := List.mem_of_getElem? (i := 59) (by decide +kernel)
set_option maxRecDepth 20000 in
theorem lk_RX4_126 : Cond.fieldLink RX4 126 "RepeatLearner" "recorded" "I" ∈ wsL_law := List.mem_of_getElem? (i := 60) (by decide +kernel)
set_option maxRecDepth 20000 in
theorem lk_RX4_119 : Cond.fieldLink RX4 119 "RepeatLearner" "started" "I" ∈ wsL_law := List.mem_of_getElem? (i := 61) (by decide +kernel)
set_option maxRecDepth 20000 in
theorem lk_RX4_130 : Cond.fieldLink RX4 130 "RepeatLearner" "aborted" "I" ∈ wsL_law := List.mem_of_getElem? (i := 62) (by decide +kernel)
set_option maxRecDepth 20000 in
theorem lk_RX4_139 : Cond.fieldLink RX4 139 "RepeatLearner" "fallbacks" "I" ∈ wsL_law := List.mem_of_getElem? (i := 63) (by decide +kernel)
set_option maxRecDepth 20000 in
theorem lk_RX4_142 : Cond.fieldLink RX4 142 "RepeatLearner" "badTrials" "I" ∈ wsL_law := List.mem_of_getElem? (i := 64) (by decide +kernel)
set_option maxRecDepth 20000 in
theorem lk_RX4_223 : Cond.methodLink RX4 223 yX3_becomeAsAtFirst ∈ wsL_law := List.mem_of_getElem? (i := 65) (by decide +kernel)
set_option maxRecDepth 20000 in
theorem li_X3_becomeAsAtFirst : Cond.instanceMethod yX3_becomeAsAtFirst ∈ wsL_law := List.mem_of_getElem? (i := 66) (by decide +kernel)
set_option maxRecDepth 20000 in
theorem ls_X3_becomeAsAtFirst : Cond.selects RX3 yX3_becomeAsAtFirst yX3_becomeAsAtFirst ∈ wsL_law := List.mem_of_getElem? (i := 67) (by decide +kernel)
set_option maxRecDepth 20000 in
theorem lc_X3_becomeAsAtFirst : Cond.code yX3_becomeAsAtFirst cX3_becomeAsAtFirst 2 none ∈ wsL_law := List.mem_of_getElem? (i := 68) (by decide +kernel)
set_option maxRecDepth 20000 in
theorem lk_RX3_9 : Cond.fieldLink RX3 9 "RepeatLearner$Settings" "samples" "I" ∈ wsL_law := List.mem_of_getElem? (i := 69) (by decide +kernel)
set_option maxRecDepth 20000 in
theorem lk_RX3_15 : Cond.fieldLink RX3 15 "RepeatLearner$Settings" "gain" "I" ∈ wsL_law := List.mem_of_getElem? (i := 70) (by decide +kernel)
set_option maxRecDepth 20000 in
theorem lk_RX3_18 : Cond.fieldLink RX3 18 "RepeatLearner$Settings" "lead" "I" ∈ wsL_law := List.mem_of_getElem? (i := 71) (by decide +kernel)
set_option maxRecDepth 20000 in
theorem lk_RX3_21 : Cond.fieldLink RX3 21 "RepeatLearner$Settings" "weight" "I" ∈ wsL_law := List.mem_of_getElem? (i := 72) (by decide +kernel)
set_option maxRecDepth 20000 in
theorem lk_RX3_24 : Cond.fieldLink RX3 24 "RepeatLearner$Settings" "passes" "I" ∈ wsL_law := List.mem_of_getElem? (i := 73) (by decide +kernel)
set_option maxRecDepth 20000 in
theorem lk_RX3_27 : Cond.constant RX3 27 (1000000) ∈ wsL_law := List.mem_of_getElem? (i := 74) (by decide +kernel)
set_option maxRecDepth 20000 in
theorem lk_RX3_28 : Cond.fieldLink RX3 28 "RepeatLearner$Settings" "limit" "I" ∈ wsL_law := List.mem_of_getElem? (i := 75) (by decide +kernel)
set_option maxRecDepth 20000 in
theorem lk_RX3_31 : Cond.fieldLink RX3 31 "RepeatLearner$Settings" "blend" "I" ∈ wsL_law := List.mem_of_getElem? (i := 76) (by decide +kernel)
set_option maxRecDepth 20000 in
theorem lk_RX3_34 : Cond.fieldLink RX3 34 "RepeatLearner$Settings" "greatestShift" "I" ∈ wsL_law := List.mem_of_getElem? (i := 77) (by decide +kernel)
set_option maxRecDepth 20000 in
theorem lk_RX3_37 : Cond.fieldLink RX3 37 "RepeatLearner$Settings" "tolerance" "I" ∈ wsL_law := List.mem_of_getElem? (i := 78) (by decide +kernel)
set_option maxRecDepth 20000 in
theorem lk_RX3_40 : Cond.fieldLink RX3 40 "RepeatLearner$Settings" "hold" "I" ∈ wsL_law := List.mem_of_getElem? (i := 79) (by decide +kernel)
set_option maxRecDepth 20000 in
theorem lk_RX3_43 : Cond.fieldLink RX3 43 "RepeatLearner$Settings" "guard" "Z" ∈ wsL_law := List.mem_of_getElem? (i := 80) (by decide +kernel)
set_option maxRecDepth 20000 in
theorem lk_RX4_226 : Cond.methodLink RX4 226 yX2_becomeAsAtFirst ∈ wsL_law := List.mem_of_getElem? (i := 81) (by decide +kernel)
set_option maxRecDepth 20000 in
theorem li_X2_becomeAsAtFirst : Cond.instanceMethod yX2_becomeAsAtFirst ∈ wsL_law := List.mem_of_getElem? (i := 82) (by decide +kernel)
set_option maxRecDepth 20000 in
theorem ls_X2_becomeAsAtFirst : Cond.selects RX2 yX2_becomeAsAtFirst yX2_becomeAsAtFirst ∈ wsL_law := List.mem_of_getElem? (i := 83) (by decide +kernel)
set_option maxRecDepth 20000 in
theorem lc_X2_becomeAsAtFirst : Cond.code yX2_becomeAsAtFirst cX2_becomeAsAtFirst 1 none ∈ wsL_law := List.mem_of_getElem? (i := 84) (by decide +kernel)
set_option maxRecDepth 20000 in
theorem lk_RX2_19 : Cond.fieldLink RX2 19 "RepeatLearner$Plant" "amplitude" "I" ∈ wsL_law := List.mem_of_getElem? (i := 85) (by decide +kernel)
set_option maxRecDepth 20000 in
theorem lk_RX2_23 : Cond.fieldLink RX2 23 "RepeatLearner$Plant" "seed" "I" ∈ wsL_law := List.mem_of_getElem? (i := 86) (by decide +kernel)
set_option maxRecDepth 20000 in
theorem lk_RX2_13 : Cond.methodLink RX2 13 yJ7_fill_53178 ∈ wsL_law := List.mem_of_getElem? (i := 87) (by decide +kernel)
set_option maxRecDepth 20000 in
theorem lt_J7_fill_53178 : Cond.static yJ7_fill_53178 ∈ wsL_law := List.mem_of_getElem? (i := 88) (by decide +kernel)
set_option maxRecDepth 20000 in
theorem ln_RJ7 : Cond.initialized RJ7 ∈ wsL_law := List.mem_of_getElem? (i := 89) (by decide +kernel)
set_option maxRecDepth 20000 in
theorem lc_J7_fill_53178 : Cond.code yJ7_fill_53178 cJ7_fill_53178 4 none ∈ wsL_law := List.mem_of_getElem? (i := 90) (by decide +kernel)
set_option maxRecDepth 20000 in
theorem lk_RX4_228 : Cond.methodLink RX4 228 yJ7_fill_53178 ∈ wsL_law := List.mem_of_getElem? (i := 91) (by decide +kernel)
set_option maxRecDepth 20000 in
theorem li_X5_init : Cond.instanceMethod yX5_init ∈ wsL_law := List.mem_of_getElem? (i := 93) (by decide +kernel)
set_option maxRecDepth 20000 in
theorem lc_X5_init : Cond.code yX5_init cX5_init 1 none ∈ wsL_law := List.mem_of_getElem? (i := 94) (by decide +kernel)
set_option maxRecDepth 20000 in
theorem lk_RX5_1 : Cond.methodLink RX5 1 objectInit ∈ wsL_law := List.mem_of_getElem? (i := 95) (by decide +kernel)
set_option maxRecDepth 20000 in
theorem lk_RX5_7 : Cond.fieldLink RX5 7 "RepeatLearnerModel" "target" "[I" ∈ wsL_law := List.mem_of_getElem? (i := 96) (by decide +kernel)
set_option maxRecDepth 20000 in
theorem lk_RX5_13 : Cond.fieldLink RX5 13 "RepeatLearnerModel" "put" "[I" ∈ wsL_law := List.mem_of_getElem? (i := 97) (by decide +kernel)
set_option maxRecDepth 20000 in
theorem lk_RX5_16 : Cond.fieldLink RX5 16 "RepeatLearnerModel" "raw" "[I" ∈ wsL_law := List.mem_of_getElem? (i := 98) (by decide +kernel)
set_option maxRecDepth 20000 in
theorem lk_RX5_19 : Cond.fieldLink RX5 19 "RepeatLearnerModel" "off" "[I" ∈ wsL_law := List.mem_of_getElem? (i := 99) (by decide +kernel)
set_option maxRecDepth 20000 in
theorem lk_RX5_22 : Cond.fieldLink RX5 22 "RepeatLearnerModel" "smoothed" "[I" ∈ wsL_law := List.mem_of_getElem? (i := 100) (by decide +kernel)
set_option maxRecDepth 20000 in
theorem lk_RX5_25 : Cond.fieldLink RX5 25 "RepeatLearnerModel" "error" "[I" ∈ wsL_law := List.mem_of_getElem? (i := 101) (by decide +kernel)
set_option maxRecDepth 20000 in
theorem lk_RX5_28 : Cond.fieldLink RX5 28 "RepeatLearnerModel" "normOf" "[I" ∈ wsL_law := List.mem_of_getElem? (i := 102) (by decide +kernel)
set_option maxRecDepth 20000 in
theorem lk_RX5_31 : Cond.fieldLink RX5 31 "RepeatLearnerModel" "shiftOf" "[I" ∈ wsL_law := List.mem_of_getElem? (i := 103) (by decide +kernel)
set_option maxRecDepth 20000 in
theorem lk_RX5_34 : Cond.fieldLink RX5 34 "RepeatLearnerModel" "aligned" "[I" ∈ wsL_law := List.mem_of_getElem? (i := 104) (by decide +kernel)
set_option maxRecDepth 20000 in
theorem lk_RX5_37 : Cond.fieldLink RX5 37 "RepeatLearnerModel" "bestPut" "[I" ∈ wsL_law := List.mem_of_getElem? (i := 105) (by decide +kernel)
set_option maxRecDepth 20000 in
theorem lk_RX5_40 : Cond.fieldLink RX5 40 "RepeatLearnerModel" "plant" "[I" ∈ wsL_law := List.mem_of_getElem? (i := 106) (by decide +kernel)
set_option maxRecDepth 20000 in
theorem lk_RX5_43 : Cond.methodLink RX5 43 yX5_begin ∈ wsL_law := List.mem_of_getElem? (i := 107) (by decide +kernel)
set_option maxRecDepth 20000 in
theorem li_X5_begin : Cond.instanceMethod yX5_begin ∈ wsL_law := List.mem_of_getElem? (i := 108) (by decide +kernel)
set_option maxRecDepth 20000 in
theorem ls_X5_begin : Cond.selects RX5 yX5_begin yX5_begin ∈ wsL_law := List.mem_of_getElem? (i := 109) (by decide +kernel)
set_option maxRecDepth 20000 in
theorem lc_X5_begin : Cond.code yX5_begin cX5_begin 3 none ∈ wsL_law := List.mem_of_getElem? (i := 110) (by decide +kernel)
set_option maxRecDepth 20000 in
theorem lk_RX5_47 : Cond.fieldLink RX5 47 "RepeatLearnerModel" "samples" "I" ∈ wsL_law := List.mem_of_getElem? (i := 111) (by decide +kernel)
set_option maxRecDepth 20000 in
theorem lk_RX5_51 : Cond.fieldLink RX5 51 "RepeatLearnerModel" "gain" "I" ∈ wsL_law := List.mem_of_getElem? (i := 112) (by decide +kernel)
set_option maxRecDepth 20000 in
theorem lk_RX5_54 : Cond.fieldLink RX5 54 "RepeatLearnerModel" "lead" "I" ∈ wsL_law := List.mem_of_getElem? (i := 113) (by decide +kernel)
set_option maxRecDepth 20000 in
theorem lk_RX5_57 : Cond.fieldLink RX5 57 "RepeatLearnerModel" "weight" "I" ∈ wsL_law := List.mem_of_getElem? (i := 114) (by decide +kernel)
set_option maxRecDepth 20000 in
theorem lk_RX5_60 : Cond.fieldLink RX5 60 "RepeatLearnerModel" "passes" "I" ∈ wsL_law := List.mem_of_getElem? (i := 115) (by decide +kernel)
set_option maxRecDepth 20000 in
theorem lk_RX5_63 : Cond.constant RX5 63 (1000000) ∈ wsL_law := List.mem_of_getElem? (i := 116) (by decide +kernel)
set_option maxRecDepth 20000 in
theorem lk_RX5_64 : Cond.fieldLink RX5 64 "RepeatLearnerModel" "limit" "I" ∈ wsL_law := List.mem_of_getElem? (i := 117) (by decide +kernel)
set_option maxRecDepth 20000 in
theorem lk_RX5_67 : Cond.fieldLink RX5 67 "RepeatLearnerModel" "blend" "I" ∈ wsL_law := List.mem_of_getElem? (i := 118) (by decide +kernel)
set_option maxRecDepth 20000 in
theorem lk_RX5_70 : Cond.fieldLink RX5 70 "RepeatLearnerModel" "greatest" "I" ∈ wsL_law := List.mem_of_getElem? (i := 119) (by decide +kernel)
set_option maxRecDepth 20000 in
theorem lk_RX5_73 : Cond.fieldLink RX5 73 "RepeatLearnerModel" "tolerance" "I" ∈ wsL_law := List.mem_of_getElem? (i := 120) (by decide +kernel)
set_option maxRecDepth 20000 in
theorem lk_RX5_76 : Cond.fieldLink RX5 76 "RepeatLearnerModel" "hold" "I" ∈ wsL_law := List.mem_of_getElem? (i := 121) (by decide +kernel)
set_option maxRecDepth 20000 in
theorem lk_RX5_79 : Cond.fieldLink RX5 79 "RepeatLearnerModel" "isGuarded" "Z" ∈ wsL_law := List.mem_of_getElem? (i := 122) (by decide +kernel)
set_option maxRecDepth 20000 in
theorem lk_RX5_83 : Cond.fieldLink RX5 83 "RepeatLearnerModel" "isRunning" "Z" ∈ wsL_law := List.mem_of_getElem? (i := 123) (by decide +kernel)
set_option maxRecDepth 20000 in
theorem lk_RX5_86 : Cond.fieldLink RX5 86 "RepeatLearnerModel" "recorded" "I" ∈ wsL_law := List.mem_of_getElem? (i := 124) (by decide +kernel)
set_option maxRecDepth 20000 in
theorem lk_RX5_89 : Cond.fieldLink RX5 89 "RepeatLearnerModel" "started" "I" ∈ wsL_law := List.mem_of_getElem? (i := 125) (by decide +kernel)
set_option maxRecDepth 20000 in
theorem lk_RX5_92 : Cond.fieldLink RX5 92 "RepeatLearnerModel" "complete" "I" ∈ wsL_law := List.mem_of_getElem? (i := 126) (by decide +kernel)
set_option maxRecDepth 20000 in
theorem lk_RX5_95 : Cond.fieldLink RX5 95 "RepeatLearnerModel" "aborted" "I" ∈ wsL_law := List.mem_of_getElem? (i := 127) (by decide +kernel)
set_option maxRecDepth 20000 in
theorem lk_RX5_98 : Cond.fieldLink RX5 98 "RepeatLearnerModel" "fallbacks" "I" ∈ wsL_law := List.mem_of_getElem? (i := 128) (by decide +kernel)
set_option maxRecDepth 20000 in
theorem lk_RX5_101 : Cond.fieldLink RX5 101 "RepeatLearnerModel" "bad" "I" ∈ wsL_law := List.mem_of_getElem? (i := 129) (by decide +kernel)
set_option maxRecDepth 20000 in
theorem lk_RX5_104 : Cond.fieldLink RX5 104 "RepeatLearnerModel" "bestNumber" "I" ∈ wsL_law := List.mem_of_getElem? (i := 130) (by decide +kernel)
set_option maxRecDepth 20000 in
theorem lk_RX5_107 : Cond.fieldLink RX5 107 "RepeatLearnerModel" "amplitude" "I" ∈ wsL_law := List.mem_of_getElem? (i := 131) (by decide +kernel)
set_option maxRecDepth 20000 in
theorem lk_RX5_110 : Cond.fieldLink RX5 110 "RepeatLearnerModel" "drawn" "I" ∈ wsL_law := List.mem_of_getElem? (i := 132) (by decide +kernel)
set_option maxRecDepth 20000 in
theorem li_X4_reset : Cond.instanceMethod yX4_reset ∈ wsL_law := List.mem_of_getElem? (i := 134) (by decide +kernel)
set_option maxRecDepth 20000 in
theorem ls_X4_reset : Cond.selects RX4 yX4_reset yX4_reset ∈ wsL_law := List.mem_of_getElem? (i := 135) (by decide +kernel)
set_option maxRecDepth 20000 in
theorem lc_X4_reset : Cond.code yX4_reset cX4_reset 3 (some .int) ∈ wsL_law := List.mem_of_getElem? (i := 136) (by decide +kernel)
set_option maxRecDepth 20000 in
theorem lk_RX4_64 : Cond.constant RX4 64 (-2000000001) ∈ wsL_law := List.mem_of_getElem? (i := 137) (by decide +kernel)
set_option maxRecDepth 20000 in
theorem lk_RX4_65 : Cond.fieldLink RX4 65 "RepeatLearner$Settings" "samples" "I" ∈ wsL_law := List.mem_of_getElem? (i := 138) (by decide +kernel)
set_option maxRecDepth 20000 in
theorem lk_RX4_60 : Cond.methodLink RX4 60 yX4_isWithin ∈ wsL_law := List.mem_of_getElem? (i := 139) (by decide +kernel)
set_option maxRecDepth 20000 in
theorem lt_X4_isWithin : Cond.static yX4_isWithin ∈ wsL_law := List.mem_of_getElem? (i := 140) (by decide +kernel)
set_option maxRecDepth 20000 in
theorem lc_X4_isWithin : Cond.code yX4_isWithin cX4_isWithin 3 (some .boolean) ∈ wsL_law := List.mem_of_getElem? (i := 141) (by decide +kernel)
set_option maxRecDepth 20000 in
theorem li_X5_reset : Cond.instanceMethod yX5_reset ∈ wsL_law := List.mem_of_getElem? (i := 143) (by decide +kernel)
set_option maxRecDepth 20000 in
theorem ls_X5_reset : Cond.selects RX5 yX5_reset yX5_reset ∈ wsL_law := List.mem_of_getElem? (i := 144) (by decide +kernel)
set_option maxRecDepth 20000 in
theorem lc_X5_reset : Cond.code yX5_reset cX5_reset 3 (some .int) ∈ wsL_law := List.mem_of_getElem? (i := 145) (by decide +kernel)
set_option maxRecDepth 20000 in
theorem lk_RX5_117 : Cond.constant RX5 117 (-2000000001) ∈ wsL_law := List.mem_of_getElem? (i := 146) (by decide +kernel)
set_option maxRecDepth 20000 in
theorem lk_RX5_113 : Cond.methodLink RX5 113 yX5_in ∈ wsL_law := List.mem_of_getElem? (i := 147) (by decide +kernel)
set_option maxRecDepth 20000 in
theorem lt_X5_in : Cond.static yX5_in ∈ wsL_law := List.mem_of_getElem? (i := 148) (by decide +kernel)
set_option maxRecDepth 20000 in
theorem lc_X5_in : Cond.code yX5_in cX5_in 3 (some .boolean) ∈ wsL_law := List.mem_of_getElem? (i := 149) (by decide +kernel)
set_option maxRecDepth 20000 in
theorem li_X4_setReference : Cond.instanceMethod yX4_setReference ∈ wsL_law := List.mem_of_getElem? (i := 151) (by decide +kernel)
set_option maxRecDepth 20000 in
theorem ls_X4_setReference : Cond.selects RX4 yX4_setReference yX4_setReference ∈ wsL_law := List.mem_of_getElem? (i := 152) (by decide +kernel)
set_option maxRecDepth 20000 in
theorem lc_X4_setReference : Cond.code yX4_setReference cX4_setReference 4 (some .int) ∈ wsL_law := List.mem_of_getElem? (i := 153) (by decide +kernel)
set_option maxRecDepth 20000 in
theorem lk_RX4_69 : Cond.methodLink RX4 69 yX4_isSample ∈ wsL_law := List.mem_of_getElem? (i := 154) (by decide +kernel)
set_option maxRecDepth 20000 in
theorem li_X4_isSample : Cond.instanceMethod yX4_isSample ∈ wsL_law := List.mem_of_getElem? (i := 155) (by decide +kernel)
set_option maxRecDepth 20000 in
theorem ls_X4_isSample : Cond.selects RX4 yX4_isSample yX4_isSample ∈ wsL_law := List.mem_of_getElem? (i := 156) (by decide +kernel)
set_option maxRecDepth 20000 in
theorem lc_X4_isSample : Cond.code yX4_isSample cX4_isSample 2 (some .boolean) ∈ wsL_law := List.mem_of_getElem? (i := 157) (by decide +kernel)
set_option maxRecDepth 20000 in
theorem lk_RX4_73 : Cond.methodLink RX4 73 yX4_isSignal ∈ wsL_law := List.mem_of_getElem? (i := 158) (by decide +kernel)
set_option maxRecDepth 20000 in
theorem lt_X4_isSignal : Cond.static yX4_isSignal ∈ wsL_law := List.mem_of_getElem? (i := 159) (by decide +kernel)
set_option maxRecDepth 20000 in
theorem lc_X4_isSignal : Cond.code yX4_isSignal cX4_isSignal 1 (some .boolean) ∈ wsL_law := List.mem_of_getElem? (i := 160) (by decide +kernel)
set_option maxRecDepth 20000 in
theorem lk_RX4_215 : Cond.constant RX4 215 (-1000000) ∈ wsL_law := List.mem_of_getElem? (i := 161) (by decide +kernel)
set_option maxRecDepth 20000 in
theorem lk_RX4_92 : Cond.constant RX4 92 (1000000) ∈ wsL_law := List.mem_of_getElem? (i := 162) (by decide +kernel)
set_option maxRecDepth 20000 in
theorem li_X5_setReference : Cond.instanceMethod yX5_setReference ∈ wsL_law := List.mem_of_getElem? (i := 164) (by decide +kernel)
set_option maxRecDepth 20000 in
theorem ls_X5_setReference : Cond.selects RX5 yX5_setReference yX5_setReference ∈ wsL_law := List.mem_of_getElem? (i := 165) (by decide +kernel)
set_option maxRecDepth 20000 in
theorem lc_X5_setReference : Cond.code yX5_setReference cX5_setReference 4 (some .int) ∈ wsL_law := List.mem_of_getElem? (i := 166) (by decide +kernel)
set_option maxRecDepth 20000 in
theorem lk_RX5_122 : Cond.constant RX5 122 (-1000000) ∈ wsL_law := List.mem_of_getElem? (i := 167) (by decide +kernel)
set_option maxRecDepth 20000 in
theorem lk_RX5_118 : Cond.methodLink RX5 118 yX5_noSample ∈ wsL_law := List.mem_of_getElem? (i := 168) (by decide +kernel)
set_option maxRecDepth 20000 in
theorem li_X5_noSample : Cond.instanceMethod yX5_noSample ∈ wsL_law := List.mem_of_getElem? (i := 169) (by decide +kernel)
set_option maxRecDepth 20000 in
theorem ls_X5_noSample : Cond.selects RX5 yX5_noSample yX5_noSample ∈ wsL_law := List.mem_of_getElem? (i := 170) (by decide +kernel)
set_option maxRecDepth 20000 in
theorem lc_X5_noSample : Cond.code yX5_noSample cX5_noSample 2 (some .boolean) ∈ wsL_law := List.mem_of_getElem? (i := 171) (by decide +kernel)
set_option maxRecDepth 20000 in
theorem li_X4_setGain : Cond.instanceMethod yX4_setGain ∈ wsL_law := List.mem_of_getElem? (i := 173) (by decide +kernel)
set_option maxRecDepth 20000 in
theorem ls_X4_setGain : Cond.selects RX4 yX4_setGain yX4_setGain ∈ wsL_law := List.mem_of_getElem? (i := 174) (by decide +kernel)
set_option maxRecDepth 20000 in
theorem lc_X4_setGain : Cond.code yX4_setGain cX4_setGain 4 (some .int) ∈ wsL_law := List.mem_of_getElem? (i := 175) (by decide +kernel)
set_option maxRecDepth 20000 in
theorem lk_RX4_76 : Cond.fieldLink RX4 76 "RepeatLearner$Settings" "gain" "I" ∈ wsL_law := List.mem_of_getElem? (i := 176) (by decide +kernel)
set_option maxRecDepth 20000 in
theorem lk_RX4_79 : Cond.fieldLink RX4 79 "RepeatLearner$Settings" "lead" "I" ∈ wsL_law := List.mem_of_getElem? (i := 177) (by decide +kernel)
set_option maxRecDepth 20000 in
theorem lk_RX4_82 : Cond.methodLink RX4 82 yX4_oneIf ∈ wsL_law := List.mem_of_getElem? (i := 178) (by decide +kernel)
set_option maxRecDepth 20000 in
theorem lt_X4_oneIf : Cond.static yX4_oneIf ∈ wsL_law := List.mem_of_getElem? (i := 179) (by decide +kernel)
set_option maxRecDepth 20000 in
theorem lc_X4_oneIf : Cond.code yX4_oneIf cX4_oneIf 1 (some .int) ∈ wsL_law := List.mem_of_getElem? (i := 180) (by decide +kernel)
set_option maxRecDepth 20000 in
theorem li_X5_setGain : Cond.instanceMethod yX5_setGain ∈ wsL_law := List.mem_of_getElem? (i := 182) (by decide +kernel)
set_option maxRecDepth 20000 in
theorem ls_X5_setGain : Cond.selects RX5 yX5_setGain yX5_setGain ∈ wsL_law := List.mem_of_getElem? (i := 183) (by decide +kernel)
set_option maxRecDepth 20000 in
theorem lc_X5_setGain : Cond.code yX5_setGain cX5_setGain 4 (some .int) ∈ wsL_law := List.mem_of_getElem? (i := 184) (by decide +kernel)
set_option maxRecDepth 20000 in
theorem li_X4_setSmoothing : Cond.instanceMethod yX4_setSmoothing ∈ wsL_law := List.mem_of_getElem? (i := 186) (by decide +kernel)
set_option maxRecDepth 20000 in
theorem ls_X4_setSmoothing : Cond.selects RX4 yX4_setSmoothing yX4_setSmoothing ∈ wsL_law := List.mem_of_getElem? (i := 187) (by decide +kernel)
set_option maxRecDepth 20000 in
theorem lc_X4_setSmoothing : Cond.code yX4_setSmoothing cX4_setSmoothing 4 (some .int) ∈ wsL_law := List.mem_of_getElem? (i := 188) (by decide +kernel)
set_option maxRecDepth 20000 in
theorem lk_RX4_86 : Cond.fieldLink RX4 86 "RepeatLearner$Settings" "weight" "I" ∈ wsL_law := List.mem_of_getElem? (i := 189) (by decide +kernel)
set_option maxRecDepth 20000 in
theorem lk_RX4_89 : Cond.fieldLink RX4 89 "RepeatLearner$Settings" "passes" "I" ∈ wsL_law := List.mem_of_getElem? (i := 190) (by decide +kernel)
set_option maxRecDepth 20000 in
theorem li_X5_setSmoothing : Cond.instanceMethod yX5_setSmoothing ∈ wsL_law := List.mem_of_getElem? (i := 192) (by decide +kernel)
set_option maxRecDepth 20000 in
theorem ls_X5_setSmoothing : Cond.selects RX5 yX5_setSmoothing yX5_setSmoothing ∈ wsL_law := List.mem_of_getElem? (i := 193) (by decide +kernel)
set_option maxRecDepth 20000 in
theorem lc_X5_setSmoothing : Cond.code yX5_setSmoothing cX5_setSmoothing 4 (some .int) ∈ wsL_law := List.mem_of_getElem? (i := 194) (by decide +kernel)
set_option maxRecDepth 20000 in
theorem li_X4_setLimits : Cond.instanceMethod yX4_setLimits ∈ wsL_law := List.mem_of_getElem? (i := 196) (by decide +kernel)
set_option maxRecDepth 20000 in
theorem ls_X4_setLimits : Cond.selects RX4 yX4_setLimits yX4_setLimits ∈ wsL_law := List.mem_of_getElem? (i := 197) (by decide +kernel)
set_option maxRecDepth 20000 in
theorem lc_X4_setLimits : Cond.code yX4_setLimits cX4_setLimits 4 (some .int) ∈ wsL_law := List.mem_of_getElem? (i := 198) (by decide +kernel)
set_option maxRecDepth 20000 in
theorem lk_RX4_93 : Cond.fieldLink RX4 93 "RepeatLearner$Settings" "limit" "I" ∈ wsL_law := List.mem_of_getElem? (i := 199) (by decide +kernel)
set_option maxRecDepth 20000 in
theorem lk_RX4_96 : Cond.fieldLink RX4 96 "RepeatLearner$Settings" "blend" "I" ∈ wsL_law := List.mem_of_getElem? (i := 200) (by decide +kernel)
set_option maxRecDepth 20000 in
theorem li_X5_setLimits : Cond.instanceMethod yX5_setLimits ∈ wsL_law := List.mem_of_getElem? (i := 202) (by decide +kernel)
set_option maxRecDepth 20000 in
theorem ls_X5_setLimits : Cond.selects RX5 yX5_setLimits yX5_setLimits ∈ wsL_law := List.mem_of_getElem? (i := 203) (by decide +kernel)
set_option maxRecDepth 20000 in
theorem lc_X5_setLimits : Cond.code yX5_setLimits cX5_setLimits 4 (some .int) ∈ wsL_law := List.mem_of_getElem? (i := 204) (by decide +kernel)
set_option maxRecDepth 20000 in
theorem li_X4_setGreatestShift : Cond.instanceMethod yX4_setGreatestShift ∈ wsL_law := List.mem_of_getElem? (i := 206) (by decide +kernel)
set_option maxRecDepth 20000 in
theorem ls_X4_setGreatestShift : Cond.selects RX4 yX4_setGreatestShift yX4_setGreatestShift ∈ wsL_law := List.mem_of_getElem? (i := 207) (by decide +kernel)
set_option maxRecDepth 20000 in
theorem lc_X4_setGreatestShift : Cond.code yX4_setGreatestShift cX4_setGreatestShift 3 (some .int) ∈ wsL_law := List.mem_of_getElem? (i := 208) (by decide +kernel)
set_option maxRecDepth 20000 in
theorem lk_RX4_99 : Cond.fieldLink RX4 99 "RepeatLearner$Settings" "greatestShift" "I" ∈ wsL_law := List.mem_of_getElem? (i := 209) (by decide +kernel)
set_option maxRecDepth 20000 in
theorem li_X5_setGreatestShift : Cond.instanceMethod yX5_setGreatestShift ∈ wsL_law := List.mem_of_getElem? (i := 211) (by decide +kernel)
set_option maxRecDepth 20000 in
theorem ls_X5_setGreatestShift : Cond.selects RX5 yX5_setGreatestShift yX5_setGreatestShift ∈ wsL_law := List.mem_of_getElem? (i := 212) (by decide +kernel)
set_option maxRecDepth 20000 in
theorem lc_X5_setGreatestShift : Cond.code yX5_setGreatestShift cX5_setGreatestShift 3 (some .int) ∈ wsL_law := List.mem_of_getElem? (i := 213) (by decide +kernel)
set_option maxRecDepth 20000 in
theorem li_X4_setTolerance : Cond.instanceMethod yX4_setTolerance ∈ wsL_law := List.mem_of_getElem? (i := 215) (by decide +kernel)
set_option maxRecDepth 20000 in
theorem ls_X4_setTolerance : Cond.selects RX4 yX4_setTolerance yX4_setTolerance ∈ wsL_law := List.mem_of_getElem? (i := 216) (by decide +kernel)
set_option maxRecDepth 20000 in
theorem lc_X4_setTolerance : Cond.code yX4_setTolerance cX4_setTolerance 4 (some .int) ∈ wsL_law := List.mem_of_getElem? (i := 217) (by decide +kernel)
set_option maxRecDepth 20000 in
theorem lk_RX4_102 : Cond.fieldLink RX4 102 "RepeatLearner$Settings" "tolerance" "I" ∈ wsL_law := List.mem_of_getElem? (i := 218) (by decide +kernel)
set_option maxRecDepth 20000 in
theorem lk_RX4_105 : Cond.fieldLink RX4 105 "RepeatLearner$Settings" "hold" "I" ∈ wsL_law := List.mem_of_getElem? (i := 219) (by decide +kernel)
set_option maxRecDepth 20000 in
theorem li_X5_setTolerance : Cond.instanceMethod yX5_setTolerance ∈ wsL_law := List.mem_of_getElem? (i := 221) (by decide +kernel)
set_option maxRecDepth 20000 in
theorem ls_X5_setTolerance : Cond.selects RX5 yX5_setTolerance yX5_setTolerance ∈ wsL_law := List.mem_of_getElem? (i := 222) (by decide +kernel)
set_option maxRecDepth 20000 in
theorem lc_X5_setTolerance : Cond.code yX5_setTolerance cX5_setTolerance 4 (some .int) ∈ wsL_law := List.mem_of_getElem? (i := 223) (by decide +kernel)
set_option maxRecDepth 20000 in
theorem li_X4_setGuard : Cond.instanceMethod yX4_setGuard ∈ wsL_law := List.mem_of_getElem? (i := 225) (by decide +kernel)
set_option maxRecDepth 20000 in
theorem ls_X4_setGuard : Cond.selects RX4 yX4_setGuard yX4_setGuard ∈ wsL_law := List.mem_of_getElem? (i := 226) (by decide +kernel)
set_option maxRecDepth 20000 in
theorem lc_X4_setGuard : Cond.code yX4_setGuard cX4_setGuard 3 (some .int) ∈ wsL_law := List.mem_of_getElem? (i := 227) (by decide +kernel)
set_option maxRecDepth 20000 in
theorem lk_RX4_108 : Cond.fieldLink RX4 108 "RepeatLearner$Settings" "guard" "Z" ∈ wsL_law := List.mem_of_getElem? (i := 228) (by decide +kernel)
set_option maxRecDepth 20000 in
theorem li_X5_setGuard : Cond.instanceMethod yX5_setGuard ∈ wsL_law := List.mem_of_getElem? (i := 230) (by decide +kernel)
set_option maxRecDepth 20000 in
theorem ls_X5_setGuard : Cond.selects RX5 yX5_setGuard yX5_setGuard ∈ wsL_law := List.mem_of_getElem? (i := 231) (by decide +kernel)
set_option maxRecDepth 20000 in
theorem lc_X5_setGuard : Cond.code yX5_setGuard cX5_setGuard 3 (some .int) ∈ wsL_law := List.mem_of_getElem? (i := 232) (by decide +kernel)
set_option maxRecDepth 20000 in
theorem li_X4_setting : Cond.instanceMethod yX4_setting ∈ wsL_law := List.mem_of_getElem? (i := 234) (by decide +kernel)
set_option maxRecDepth 20000 in
theorem ls_X4_setting : Cond.selects RX4 yX4_setting yX4_setting ∈ wsL_law := List.mem_of_getElem? (i := 235) (by decide +kernel)
set_option maxRecDepth 20000 in
theorem lc_X4_setting : Cond.code yX4_setting cX4_setting 2 (some .int) ∈ wsL_law := List.mem_of_getElem? (i := 236) (by decide +kernel)
set_option maxRecDepth 20000 in
theorem li_X5_setting : Cond.instanceMethod yX5_setting ∈ wsL_law := List.mem_of_getElem? (i := 238) (by decide +kernel)
set_option maxRecDepth 20000 in
theorem ls_X5_setting : Cond.selects RX5 yX5_setting yX5_setting ∈ wsL_law := List.mem_of_getElem? (i := 239) (by decide +kernel)
set_option maxRecDepth 20000 in
theorem lc_X5_setting : Cond.code yX5_setting cX5_setting 2 (some .int) ∈ wsL_law := List.mem_of_getElem? (i := 240) (by decide +kernel)
set_option maxRecDepth 20000 in
theorem li_X4_startTrial : Cond.instanceMethod yX4_startTrial ∈ wsL_law := List.mem_of_getElem? (i := 242) (by decide +kernel)
set_option maxRecDepth 20000 in
theorem ls_X4_startTrial : Cond.selects RX4 yX4_startTrial yX4_startTrial ∈ wsL_law := List.mem_of_getElem? (i := 243) (by decide +kernel)
set_option maxRecDepth 20000 in
theorem lc_X4_startTrial : Cond.code yX4_startTrial cX4_startTrial 1 (some .int) ∈ wsL_law := List.mem_of_getElem? (i := 244) (by decide +kernel)
set_option maxRecDepth 20000 in
theorem lk_RX4_115 : Cond.constant RX4 115 (-2000000002) ∈ wsL_law := List.mem_of_getElem? (i := 245) (by decide +kernel)
set_option maxRecDepth 20000 in
theorem lk_RX4_116 : Cond.methodLink RX4 116 yX4_beginTrial ∈ wsL_law := List.mem_of_getElem? (i := 246) (by decide +kernel)
set_option maxRecDepth 20000 in
theorem li_X4_beginTrial : Cond.instanceMethod yX4_beginTrial ∈ wsL_law := List.mem_of_getElem? (i := 247) (by decide +kernel)
set_option maxRecDepth 20000 in
theorem ls_X4_beginTrial : Cond.selects RX4 yX4_beginTrial yX4_beginTrial ∈ wsL_law := List.mem_of_getElem? (i := 248) (by decide +kernel)
set_option maxRecDepth 20000 in
theorem lc_X4_beginTrial : Cond.code yX4_beginTrial cX4_beginTrial 1 none ∈ wsL_law := List.mem_of_getElem? (i := 249) (by decide +kernel)
set_option maxRecDepth 20000 in
theorem li_X5_startTrial : Cond.instanceMethod yX5_startTrial ∈ wsL_law := List.mem_of_getElem? (i := 251) (by decide +kernel)
set_option maxRecDepth 20000 in
theorem ls_X5_startTrial : Cond.selects RX5 yX5_startTrial yX5_startTrial ∈ wsL_law := List.mem_of_getElem? (i := 252) (by decide +kernel)
set_option maxRecDepth 20000 in
theorem lc_X5_startTrial : Cond.code yX5_startTrial cX5_startTrial 1 (some .int) ∈ wsL_law := List.mem_of_getElem? (i := 253) (by decide +kernel)
set_option maxRecDepth 20000 in
theorem lk_RX5_164 : Cond.constant RX5 164 (-2000000002) ∈ wsL_law := List.mem_of_getElem? (i := 254) (by decide +kernel)
set_option maxRecDepth 20000 in
theorem li_X4_record : Cond.instanceMethod yX4_record ∈ wsL_law := List.mem_of_getElem? (i := 256) (by decide +kernel)
set_option maxRecDepth 20000 in
theorem ls_X4_record : Cond.selects RX4 yX4_record yX4_record ∈ wsL_law := List.mem_of_getElem? (i := 257) (by decide +kernel)
set_option maxRecDepth 20000 in
theorem lc_X4_record : Cond.code yX4_record cX4_record 2 (some .int) ∈ wsL_law := List.mem_of_getElem? (i := 258) (by decide +kernel)
set_option maxRecDepth 20000 in
theorem lk_RX4_122 : Cond.constant RX4 122 (-2000000003) ∈ wsL_law := List.mem_of_getElem? (i := 259) (by decide +kernel)
set_option maxRecDepth 20000 in
theorem lk_RX4_129 : Cond.constant RX4 129 (-2000000004) ∈ wsL_law := List.mem_of_getElem? (i := 260) (by decide +kernel)
set_option maxRecDepth 20000 in
theorem lk_RX4_123 : Cond.methodLink RX4 123 yX4_takeOutput ∈ wsL_law := List.mem_of_getElem? (i := 261) (by decide +kernel)
set_option maxRecDepth 20000 in
theorem li_X4_takeOutput : Cond.instanceMethod yX4_takeOutput ∈ wsL_law := List.mem_of_getElem? (i := 262) (by decide +kernel)
set_option maxRecDepth 20000 in
theorem ls_X4_takeOutput : Cond.selects RX4 yX4_takeOutput yX4_takeOutput ∈ wsL_law := List.mem_of_getElem? (i := 263) (by decide +kernel)
set_option maxRecDepth 20000 in
theorem lc_X4_takeOutput : Cond.code yX4_takeOutput cX4_takeOutput 2 none ∈ wsL_law := List.mem_of_getElem? (i := 264) (by decide +kernel)
set_option maxRecDepth 20000 in
theorem lk_RX4_234 : Cond.methodLink RX4 234 yX4_completeTrial ∈ wsL_law := List.mem_of_getElem? (i := 265) (by decide +kernel)
set_option maxRecDepth 20000 in
theorem li_X4_completeTrial : Cond.instanceMethod yX4_completeTrial ∈ wsL_law := List.mem_of_getElem? (i := 266) (by decide +kernel)
set_option maxRecDepth 20000 in
theorem ls_X4_completeTrial : Cond.selects RX4 yX4_completeTrial yX4_completeTrial ∈ wsL_law := List.mem_of_getElem? (i := 267) (by decide +kernel)
set_option maxRecDepth 20000 in
theorem lc_X4_completeTrial : Cond.code yX4_completeTrial cX4_completeTrial 3 none ∈ wsL_law := List.mem_of_getElem? (i := 268) (by decide +kernel)
set_option maxRecDepth 20000 in
theorem lk_RX4_155 : Cond.fieldLink RX4 155 "RepeatLearner$History" "norms" "[I" ∈ wsL_law := List.mem_of_getElem? (i := 269) (by decide +kernel)
set_option maxRecDepth 20000 in
theorem lk_RX4_148 : Cond.methodLink RX4 148 yX1_reaches ∈ wsL_law := List.mem_of_getElem? (i := 270) (by decide +kernel)
set_option maxRecDepth 20000 in
theorem li_X1_reaches : Cond.instanceMethod yX1_reaches ∈ wsL_law := List.mem_of_getElem? (i := 271) (by decide +kernel)
set_option maxRecDepth 20000 in
theorem ls_X1_reaches : Cond.selects RX1 yX1_reaches yX1_reaches ∈ wsL_law := List.mem_of_getElem? (i := 272) (by decide +kernel)
set_option maxRecDepth 20000 in
theorem lc_X1_reaches : Cond.code yX1_reaches cX1_reaches 2 (some .boolean) ∈ wsL_law := List.mem_of_getElem? (i := 273) (by decide +kernel)
set_option maxRecDepth 20000 in
theorem lk_RX1_23 : Cond.fieldLink RX1 23 "RepeatLearner$History" "complete" "I" ∈ wsL_law := List.mem_of_getElem? (i := 274) (by decide +kernel)
set_option maxRecDepth 20000 in
theorem lk_RX4_244 : Cond.methodLink RX4 244 yX4_bestFittingShift ∈ wsL_law := List.mem_of_getElem? (i := 275) (by decide +kernel)
set_option maxRecDepth 20000 in
theorem li_X4_bestFittingShift : Cond.instanceMethod yX4_bestFittingShift ∈ wsL_law := List.mem_of_getElem? (i := 276) (by decide +kernel)
set_option maxRecDepth 20000 in
theorem ls_X4_bestFittingShift : Cond.selects RX4 yX4_bestFittingShift yX4_bestFittingShift ∈ wsL_law := List.mem_of_getElem? (i := 277) (by decide +kernel)
set_option maxRecDepth 20000 in
theorem lc_X4_bestFittingShift : Cond.code yX4_bestFittingShift cX4_bestFittingShift 8 (some .int) ∈ wsL_law := List.mem_of_getElem? (i := 278) (by decide +kernel)
set_option maxRecDepth 20000 in
theorem lk_RX4_265 : Cond.methodLink RX4 265 yX4_misfit ∈ wsL_law := List.mem_of_getElem? (i := 279) (by decide +kernel)
set_option maxRecDepth 20000 in
theorem li_X4_misfit : Cond.instanceMethod yX4_misfit ∈ wsL_law := List.mem_of_getElem? (i := 280) (by decide +kernel)
set_option maxRecDepth 20000 in
theorem ls_X4_misfit : Cond.selects RX4 yX4_misfit yX4_misfit ∈ wsL_law := List.mem_of_getElem? (i := 281) (by decide +kernel)
set_option maxRecDepth 20000 in
theorem lc_X4_misfit : Cond.code yX4_misfit cX4_misfit 5 (some .long) ∈ wsL_law := List.mem_of_getElem? (i := 282) (by decide +kernel)
set_option maxRecDepth 20000 in
theorem lk_RX4_269 : Cond.methodLink RX4 269 Lib.Math.abs.name ∈ wsL_law := List.mem_of_getElem? (i := 283) (by decide +kernel)
set_option maxRecDepth 20000 in
theorem lw_static_Lib_Math_abs_name : Cond.static Lib.Math.abs.name ∈ wsL_law := List.mem_of_getElem? (i := 284) (by decide +kernel)
set_option maxRecDepth 20000 in
theorem lw_initialized__java_lang_Math_ : Cond.initialized "java/lang/Math" ∈ wsL_law := List.mem_of_getElem? (i := 285) (by decide +kernel)
set_option maxRecDepth 20000 in
theorem lw_code_Lib_Math_abs_name_Lib_Math_abs_code_1__some__int_ : Cond.code Lib.Math.abs.name Lib.Math.abs.code 1 (some .int) ∈ wsL_law := List.mem_of_getElem? (i := 286) (by decide +kernel)
set_option maxRecDepth 20000 in
theorem lk_RX4_248 : Cond.methodLink RX4 248 yX4_rawAt ∈ wsL_law := List.mem_of_getElem? (i := 287) (by decide +kernel)
set_option maxRecDepth 20000 in
theorem li_X4_rawAt : Cond.instanceMethod yX4_rawAt ∈ wsL_law := List.mem_of_getElem? (i := 288) (by decide +kernel)
set_option maxRecDepth 20000 in
theorem ls_X4_rawAt : Cond.selects RX4 yX4_rawAt yX4_rawAt ∈ wsL_law := List.mem_of_getElem? (i := 289) (by decide +kernel)
set_option maxRecDepth 20000 in
theorem lc_X4_rawAt : Cond.code yX4_rawAt cX4_rawAt 2 (some .int) ∈ wsL_law := List.mem_of_getElem? (i := 290) (by decide +kernel)
set_option maxRecDepth 20000 in
theorem lk_RX4_271 : Cond.methodLink RX4 271 Lib.Math.min.name ∈ wsL_law := List.mem_of_getElem? (i := 291) (by decide +kernel)
set_option maxRecDepth 20000 in
theorem lw_static_Lib_Math_min_name : Cond.static Lib.Math.min.name ∈ wsL_law := List.mem_of_getElem? (i := 292) (by decide +kernel)
set_option maxRecDepth 20000 in
theorem lw_code_Lib_Math_min_name_Lib_Math_min_code_2__some__int_ : Cond.code Lib.Math.min.name Lib.Math.min.code 2 (some .int) ∈ wsL_law := List.mem_of_getElem? (i := 293) (by decide +kernel)
set_option maxRecDepth 20000 in
theorem lk_RX4_274 : Cond.methodLink RX4 274 Lib.Math.max.name ∈ wsL_law := List.mem_of_getElem? (i := 294) (by decide +kernel)
set_option maxRecDepth 20000 in
theorem lw_static_Lib_Math_max_name : Cond.static Lib.Math.max.name ∈ wsL_law := List.mem_of_getElem? (i := 295) (by decide +kernel)
set_option maxRecDepth 20000 in
theorem lw_code_Lib_Math_max_name_Lib_Math_max_code_2__some__int_ : Cond.code Lib.Math.max.name Lib.Math.max.code 2 (some .int) ∈ wsL_law := List.mem_of_getElem? (i := 296) (by decide +kernel)
set_option maxRecDepth 20000 in
theorem lk_RX4_251 : Cond.methodLink RX4 251 yX1_add ∈ wsL_law := List.mem_of_getElem? (i := 297) (by decide +kernel)
set_option maxRecDepth 20000 in
theorem li_X1_add : Cond.instanceMethod yX1_add ∈ wsL_law := List.mem_of_getElem? (i := 298) (by decide +kernel)
set_option maxRecDepth 20000 in
theorem ls_X1_add : Cond.selects RX1 yX1_add yX1_add ∈ wsL_law := List.mem_of_getElem? (i := 299) (by decide +kernel)
set_option maxRecDepth 20000 in
theorem lc_X1_add : Cond.code yX1_add cX1_add 8 none ∈ wsL_law := List.mem_of_getElem? (i := 300) (by decide +kernel)
set_option maxRecDepth 20000 in
theorem lk_RX1_37 : Cond.methodLink RX1 37 Lib.Math.abs.name ∈ wsL_law := List.mem_of_getElem? (i := 301) (by decide +kernel)
set_option maxRecDepth 20000 in
theorem lk_RX1_33 : Cond.methodLink RX1 33 yX1_slot ∈ wsL_law := List.mem_of_getElem? (i := 302) (by decide +kernel)
set_option maxRecDepth 20000 in
theorem li_X1_slot : Cond.instanceMethod yX1_slot ∈ wsL_law := List.mem_of_getElem? (i := 303) (by decide +kernel)
set_option maxRecDepth 20000 in
theorem ls_X1_slot : Cond.selects RX1 yX1_slot yX1_slot ∈ wsL_law := List.mem_of_getElem? (i := 304) (by decide +kernel)
set_option maxRecDepth 20000 in
theorem lc_X1_slot : Cond.code yX1_slot cX1_slot 2 (some .int) ∈ wsL_law := List.mem_of_getElem? (i := 305) (by decide +kernel)
set_option maxRecDepth 20000 in
theorem lk_RX1_27 : Cond.methodLink RX1 27 yJ9_floorMod_7cf53 ∈ wsL_law := List.mem_of_getElem? (i := 306) (by decide +kernel)
set_option maxRecDepth 20000 in
theorem lt_J9_floorMod_7cf53 : Cond.static yJ9_floorMod_7cf53 ∈ wsL_law := List.mem_of_getElem? (i := 307) (by decide +kernel)
set_option maxRecDepth 20000 in
theorem ln_RJ9 : Cond.initialized RJ9 ∈ wsL_law := List.mem_of_getElem? (i := 308) (by decide +kernel)
set_option maxRecDepth 20000 in
theorem lc_J9_floorMod_7cf53 : Cond.code yJ9_floorMod_7cf53 cJ9_floorMod_7cf53 3 (some .int) ∈ wsL_law := List.mem_of_getElem? (i := 309) (by decide +kernel)
set_option maxRecDepth 20000 in
theorem lk_RX4_158 : Cond.methodLink RX4 158 yX1_slot ∈ wsL_law := List.mem_of_getElem? (i := 310) (by decide +kernel)
set_option maxRecDepth 20000 in
theorem lk_RX4_255 : Cond.methodLink RX4 255 yX4_judge ∈ wsL_law := List.mem_of_getElem? (i := 311) (by decide +kernel)
set_option maxRecDepth 20000 in
theorem li_X4_judge : Cond.instanceMethod yX4_judge ∈ wsL_law := List.mem_of_getElem? (i := 312) (by decide +kernel)
set_option maxRecDepth 20000 in
theorem ls_X4_judge : Cond.selects RX4 yX4_judge yX4_judge ∈ wsL_law := List.mem_of_getElem? (i := 313) (by decide +kernel)
set_option maxRecDepth 20000 in
theorem lc_X4_judge : Cond.code yX4_judge cX4_judge 2 none ∈ wsL_law := List.mem_of_getElem? (i := 314) (by decide +kernel)
set_option maxRecDepth 20000 in
theorem lk_RX4_180 : Cond.fieldLink RX4 180 "RepeatLearner$Best" "leastNorm" "I" ∈ wsL_law := List.mem_of_getElem? (i := 315) (by decide +kernel)
set_option maxRecDepth 20000 in
theorem lk_RX4_276 : Cond.methodLink RX4 276 yX0_remember ∈ wsL_law := List.mem_of_getElem? (i := 316) (by decide +kernel)
set_option maxRecDepth 20000 in
theorem li_X0_remember : Cond.instanceMethod yX0_remember ∈ wsL_law := List.mem_of_getElem? (i := 317) (by decide +kernel)
set_option maxRecDepth 20000 in
theorem ls_X0_remember : Cond.selects RX0 yX0_remember yX0_remember ∈ wsL_law := List.mem_of_getElem? (i := 318) (by decide +kernel)
set_option maxRecDepth 20000 in
theorem lc_X0_remember : Cond.code yX0_remember cX0_remember 4 none ∈ wsL_law := List.mem_of_getElem? (i := 319) (by decide +kernel)
set_option maxRecDepth 20000 in
theorem lk_RX0_15 : Cond.fieldLink RX0 15 "RepeatLearner$Best" "known" "Z" ∈ wsL_law := List.mem_of_getElem? (i := 320) (by decide +kernel)
set_option maxRecDepth 20000 in
theorem lk_RX0_19 : Cond.fieldLink RX0 19 "RepeatLearner$Best" "leastNorm" "I" ∈ wsL_law := List.mem_of_getElem? (i := 321) (by decide +kernel)
set_option maxRecDepth 20000 in
theorem lk_RX0_23 : Cond.fieldLink RX0 23 "RepeatLearner$Best" "number" "I" ∈ wsL_law := List.mem_of_getElem? (i := 322) (by decide +kernel)
set_option maxRecDepth 20000 in
theorem lk_RX0_26 : Cond.methodLink RX0 26 arraycopyName ∈ wsL_law := List.mem_of_getElem? (i := 323) (by decide +kernel)
set_option maxRecDepth 20000 in
theorem lw_native_arraycopyName : Cond.native arraycopyName ∈ wsL_law := List.mem_of_getElem? (i := 324) (by decide +kernel)
set_option maxRecDepth 20000 in
theorem lw_static_arraycopyName : Cond.static arraycopyName ∈ wsL_law := List.mem_of_getElem? (i := 325) (by decide +kernel)
set_option maxRecDepth 20000 in
theorem lw_initialized__java_lang_System_ : Cond.initialized "java/lang/System" ∈ wsL_law := List.mem_of_getElem? (i := 326) (by decide +kernel)
set_option maxRecDepth 20000 in
theorem lk_RX4_258 : Cond.methodLink RX4 258 yX4_fallBack ∈ wsL_law := List.mem_of_getElem? (i := 327) (by decide +kernel)
set_option maxRecDepth 20000 in
theorem li_X4_fallBack : Cond.instanceMethod yX4_fallBack ∈ wsL_law := List.mem_of_getElem? (i := 328) (by decide +kernel)
set_option maxRecDepth 20000 in
theorem ls_X4_fallBack : Cond.selects RX4 yX4_fallBack yX4_fallBack ∈ wsL_law := List.mem_of_getElem? (i := 329) (by decide +kernel)
set_option maxRecDepth 20000 in
theorem lc_X4_fallBack : Cond.code yX4_fallBack cX4_fallBack 1 none ∈ wsL_law := List.mem_of_getElem? (i := 330) (by decide +kernel)
set_option maxRecDepth 20000 in
theorem lk_RX4_186 : Cond.fieldLink RX4 186 "RepeatLearner$Best" "usedInputs" "[I" ∈ wsL_law := List.mem_of_getElem? (i := 331) (by decide +kernel)
set_option maxRecDepth 20000 in
theorem lk_RX4_280 : Cond.methodLink RX4 280 arraycopyName ∈ wsL_law := List.mem_of_getElem? (i := 332) (by decide +kernel)
set_option maxRecDepth 20000 in
theorem lk_RX4_151 : Cond.methodLink RX4 151 yX1_errorsOf ∈ wsL_law := List.mem_of_getElem? (i := 333) (by decide +kernel)
set_option maxRecDepth 20000 in
theorem li_X1_errorsOf : Cond.instanceMethod yX1_errorsOf ∈ wsL_law := List.mem_of_getElem? (i := 334) (by decide +kernel)
set_option maxRecDepth 20000 in
theorem ls_X1_errorsOf : Cond.selects RX1 yX1_errorsOf yX1_errorsOf ∈ wsL_law := List.mem_of_getElem? (i := 335) (by decide +kernel)
set_option maxRecDepth 20000 in
theorem lc_X1_errorsOf : Cond.code yX1_errorsOf cX1_errorsOf 2 (some (.array .int)) ∈ wsL_law := List.mem_of_getElem? (i := 336) (by decide +kernel)
set_option maxRecDepth 20000 in
theorem lk_RX4_261 : Cond.methodLink RX4 261 yX4_correct ∈ wsL_law := List.mem_of_getElem? (i := 337) (by decide +kernel)
set_option maxRecDepth 20000 in
theorem li_X4_correct : Cond.instanceMethod yX4_correct ∈ wsL_law := List.mem_of_getElem? (i := 338) (by decide +kernel)
set_option maxRecDepth 20000 in
theorem ls_X4_correct : Cond.selects RX4 yX4_correct yX4_correct ∈ wsL_law := List.mem_of_getElem? (i := 339) (by decide +kernel)
set_option maxRecDepth 20000 in
theorem lc_X4_correct : Cond.code yX4_correct cX4_correct 9 none ∈ wsL_law := List.mem_of_getElem? (i := 340) (by decide +kernel)
set_option maxRecDepth 20000 in
theorem lk_RX4_286 : Cond.constantLong RX4 286 (1000) ∈ wsL_law := List.mem_of_getElem? (i := 341) (by decide +kernel)
set_option maxRecDepth 20000 in
theorem lk_RX4_288 : Cond.methodLink RX4 288 yJ9_floorDiv_f86c9 ∈ wsL_law := List.mem_of_getElem? (i := 342) (by decide +kernel)
set_option maxRecDepth 20000 in
theorem lt_J9_floorDiv_f86c9 : Cond.static yJ9_floorDiv_f86c9 ∈ wsL_law := List.mem_of_getElem? (i := 343) (by decide +kernel)
set_option maxRecDepth 20000 in
theorem lc_J9_floorDiv_f86c9 : Cond.code yJ9_floorDiv_f86c9 cJ9_floorDiv_f86c9 6 (some .long) ∈ wsL_law := List.mem_of_getElem? (i := 344) (by decide +kernel)
set_option maxRecDepth 20000 in
theorem lk_RX4_291 : Cond.methodLink RX4 291 yX4_smoothOnce ∈ wsL_law := List.mem_of_getElem? (i := 345) (by decide +kernel)
set_option maxRecDepth 20000 in
theorem li_X4_smoothOnce : Cond.instanceMethod yX4_smoothOnce ∈ wsL_law := List.mem_of_getElem? (i := 346) (by decide +kernel)
set_option maxRecDepth 20000 in
theorem ls_X4_smoothOnce : Cond.selects RX4 yX4_smoothOnce yX4_smoothOnce ∈ wsL_law := List.mem_of_getElem? (i := 347) (by decide +kernel)
set_option maxRecDepth 20000 in
theorem lc_X4_smoothOnce : Cond.code yX4_smoothOnce cX4_smoothOnce 11 none ∈ wsL_law := List.mem_of_getElem? (i := 348) (by decide +kernel)
set_option maxRecDepth 20000 in
theorem lk_RX4_294 : Cond.constantLong RX4 294 (2) ∈ wsL_law := List.mem_of_getElem? (i := 349) (by decide +kernel)
set_option maxRecDepth 20000 in
theorem lk_RX4_240 : Cond.methodLink RX4 240 yX4_limitTo ∈ wsL_law := List.mem_of_getElem? (i := 350) (by decide +kernel)
set_option maxRecDepth 20000 in
theorem lt_X4_limitTo : Cond.static yX4_limitTo ∈ wsL_law := List.mem_of_getElem? (i := 351) (by decide +kernel)
set_option maxRecDepth 20000 in
theorem lc_X4_limitTo : Cond.code yX4_limitTo cX4_limitTo 3 (some .int) ∈ wsL_law := List.mem_of_getElem? (i := 352) (by decide +kernel)
set_option maxRecDepth 20000 in
theorem lk_RX4_216 : Cond.methodLink RX4 216 Lib.MathLoose.min_long.x ∈ wsL_law := List.mem_of_getElem? (i := 353) (by decide +kernel)
set_option maxRecDepth 20000 in
theorem lw_static_Lib_MathLoose_min_long_x : Cond.static Lib.MathLoose.min_long.x ∈ wsL_law := List.mem_of_getElem? (i := 354) (by decide +kernel)
set_option maxRecDepth 20000 in
theorem lw_code_Lib_MathLoose_min_long_x_Lib_MathLoose_min_long_co : Cond.code Lib.MathLoose.min_long.x Lib.MathLoose.min_long.code 4 (some .long) ∈ wsL_law := List.mem_of_getElem? (i := 355) (by decide +kernel)
set_option maxRecDepth 20000 in
theorem lk_RX4_220 : Cond.methodLink RX4 220 Lib.MathLoose.max_long.x ∈ wsL_law := List.mem_of_getElem? (i := 356) (by decide +kernel)
set_option maxRecDepth 20000 in
theorem lw_static_Lib_MathLoose_max_long_x : Cond.static Lib.MathLoose.max_long.x ∈ wsL_law := List.mem_of_getElem? (i := 357) (by decide +kernel)
set_option maxRecDepth 20000 in
theorem lw_code_Lib_MathLoose_max_long_x_Lib_MathLoose_max_long_co : Cond.code Lib.MathLoose.max_long.x Lib.MathLoose.max_long.code 4 (some .long) ∈ wsL_law := List.mem_of_getElem? (i := 358) (by decide +kernel)
set_option maxRecDepth 20000 in
theorem li_X5_record : Cond.instanceMethod yX5_record ∈ wsL_law := List.mem_of_getElem? (i := 360) (by decide +kernel)
set_option maxRecDepth 20000 in
theorem ls_X5_record : Cond.selects RX5 yX5_record yX5_record ∈ wsL_law := List.mem_of_getElem? (i := 361) (by decide +kernel)
set_option maxRecDepth 20000 in
theorem lc_X5_record : Cond.code yX5_record cX5_record 2 (some .int) ∈ wsL_law := List.mem_of_getElem? (i := 362) (by decide +kernel)
set_option maxRecDepth 20000 in
theorem lk_RX5_165 : Cond.constant RX5 165 (-2000000003) ∈ wsL_law := List.mem_of_getElem? (i := 363) (by decide +kernel)
set_option maxRecDepth 20000 in
theorem lk_RX5_169 : Cond.constant RX5 169 (-2000000004) ∈ wsL_law := List.mem_of_getElem? (i := 364) (by decide +kernel)
set_option maxRecDepth 20000 in
theorem lk_RX5_166 : Cond.methodLink RX5 166 yX5_finish ∈ wsL_law := List.mem_of_getElem? (i := 365) (by decide +kernel)
set_option maxRecDepth 20000 in
theorem li_X5_finish : Cond.instanceMethod yX5_finish ∈ wsL_law := List.mem_of_getElem? (i := 366) (by decide +kernel)
set_option maxRecDepth 20000 in
theorem ls_X5_finish : Cond.selects RX5 yX5_finish yX5_finish ∈ wsL_law := List.mem_of_getElem? (i := 367) (by decide +kernel)
set_option maxRecDepth 20000 in
theorem lc_X5_finish : Cond.code yX5_finish cX5_finish 4 none ∈ wsL_law := List.mem_of_getElem? (i := 368) (by decide +kernel)
set_option maxRecDepth 20000 in
theorem lk_RX5_147 : Cond.methodLink RX5 147 yX5_findShift ∈ wsL_law := List.mem_of_getElem? (i := 369) (by decide +kernel)
set_option maxRecDepth 20000 in
theorem li_X5_findShift : Cond.instanceMethod yX5_findShift ∈ wsL_law := List.mem_of_getElem? (i := 370) (by decide +kernel)
set_option maxRecDepth 20000 in
theorem ls_X5_findShift : Cond.selects RX5 yX5_findShift yX5_findShift ∈ wsL_law := List.mem_of_getElem? (i := 371) (by decide +kernel)
set_option maxRecDepth 20000 in
theorem lc_X5_findShift : Cond.code yX5_findShift cX5_findShift 3 (some .int) ∈ wsL_law := List.mem_of_getElem? (i := 372) (by decide +kernel)
set_option maxRecDepth 20000 in
theorem lk_RX5_143 : Cond.methodLink RX5 143 yX5_unlike ∈ wsL_law := List.mem_of_getElem? (i := 373) (by decide +kernel)
set_option maxRecDepth 20000 in
theorem li_X5_unlike : Cond.instanceMethod yX5_unlike ∈ wsL_law := List.mem_of_getElem? (i := 374) (by decide +kernel)
set_option maxRecDepth 20000 in
theorem ls_X5_unlike : Cond.selects RX5 yX5_unlike yX5_unlike ∈ wsL_law := List.mem_of_getElem? (i := 375) (by decide +kernel)
set_option maxRecDepth 20000 in
theorem lc_X5_unlike : Cond.code yX5_unlike cX5_unlike 5 (some .long) ∈ wsL_law := List.mem_of_getElem? (i := 376) (by decide +kernel)
set_option maxRecDepth 20000 in
theorem lk_RX5_136 : Cond.methodLink RX5 136 yX5_rawAt ∈ wsL_law := List.mem_of_getElem? (i := 377) (by decide +kernel)
set_option maxRecDepth 20000 in
theorem li_X5_rawAt : Cond.instanceMethod yX5_rawAt ∈ wsL_law := List.mem_of_getElem? (i := 378) (by decide +kernel)
set_option maxRecDepth 20000 in
theorem ls_X5_rawAt : Cond.selects RX5 yX5_rawAt yX5_rawAt ∈ wsL_law := List.mem_of_getElem? (i := 379) (by decide +kernel)
set_option maxRecDepth 20000 in
theorem lc_X5_rawAt : Cond.code yX5_rawAt cX5_rawAt 2 (some .int) ∈ wsL_law := List.mem_of_getElem? (i := 380) (by decide +kernel)
set_option maxRecDepth 20000 in
theorem lk_RX5_140 : Cond.methodLink RX5 140 yX5_size ∈ wsL_law := List.mem_of_getElem? (i := 381) (by decide +kernel)
set_option maxRecDepth 20000 in
theorem lt_X5_size : Cond.static yX5_size ∈ wsL_law := List.mem_of_getElem? (i := 382) (by decide +kernel)
set_option maxRecDepth 20000 in
theorem lc_X5_size : Cond.code yX5_size cX5_size 1 (some .int) ∈ wsL_law := List.mem_of_getElem? (i := 383) (by decide +kernel)
set_option maxRecDepth 20000 in
theorem lk_RX5_151 : Cond.methodLink RX5 151 yX5_makeRoom ∈ wsL_law := List.mem_of_getElem? (i := 384) (by decide +kernel)
set_option maxRecDepth 20000 in
theorem li_X5_makeRoom : Cond.instanceMethod yX5_makeRoom ∈ wsL_law := List.mem_of_getElem? (i := 385) (by decide +kernel)
set_option maxRecDepth 20000 in
theorem ls_X5_makeRoom : Cond.selects RX5 yX5_makeRoom yX5_makeRoom ∈ wsL_law := List.mem_of_getElem? (i := 386) (by decide +kernel)
set_option maxRecDepth 20000 in
theorem lc_X5_makeRoom : Cond.code yX5_makeRoom cX5_makeRoom 3 none ∈ wsL_law := List.mem_of_getElem? (i := 387) (by decide +kernel)
set_option maxRecDepth 20000 in
theorem lk_RX5_154 : Cond.methodLink RX5 154 yX5_rate ∈ wsL_law := List.mem_of_getElem? (i := 388) (by decide +kernel)
set_option maxRecDepth 20000 in
theorem li_X5_rate : Cond.instanceMethod yX5_rate ∈ wsL_law := List.mem_of_getElem? (i := 389) (by decide +kernel)
set_option maxRecDepth 20000 in
theorem ls_X5_rate : Cond.selects RX5 yX5_rate yX5_rate ∈ wsL_law := List.mem_of_getElem? (i := 390) (by decide +kernel)
set_option maxRecDepth 20000 in
theorem lc_X5_rate : Cond.code yX5_rate cX5_rate 3 none ∈ wsL_law := List.mem_of_getElem? (i := 391) (by decide +kernel)
set_option maxRecDepth 20000 in
theorem lk_RX5_161 : Cond.fieldLink RX5 161 "RepeatLearnerModel" "bestNorm" "I" ∈ wsL_law := List.mem_of_getElem? (i := 392) (by decide +kernel)
set_option maxRecDepth 20000 in
theorem lk_RX5_157 : Cond.methodLink RX5 157 yX5_correct ∈ wsL_law := List.mem_of_getElem? (i := 393) (by decide +kernel)
set_option maxRecDepth 20000 in
theorem li_X5_correct : Cond.instanceMethod yX5_correct ∈ wsL_law := List.mem_of_getElem? (i := 394) (by decide +kernel)
set_option maxRecDepth 20000 in
theorem ls_X5_correct : Cond.selects RX5 yX5_correct yX5_correct ∈ wsL_law := List.mem_of_getElem? (i := 395) (by decide +kernel)
set_option maxRecDepth 20000 in
theorem lc_X5_correct : Cond.code yX5_correct cX5_correct 7 none ∈ wsL_law := List.mem_of_getElem? (i := 396) (by decide +kernel)
set_option maxRecDepth 20000 in
theorem lk_RX5_123 : Cond.constantLong RX5 123 (1000) ∈ wsL_law := List.mem_of_getElem? (i := 397) (by decide +kernel)
set_option maxRecDepth 20000 in
theorem lk_RX5_125 : Cond.methodLink RX5 125 yX5_down ∈ wsL_law := List.mem_of_getElem? (i := 398) (by decide +kernel)
set_option maxRecDepth 20000 in
theorem lt_X5_down : Cond.static yX5_down ∈ wsL_law := List.mem_of_getElem? (i := 399) (by decide +kernel)
set_option maxRecDepth 20000 in
theorem lc_X5_down : Cond.code yX5_down cX5_down 6 (some .long) ∈ wsL_law := List.mem_of_getElem? (i := 400) (by decide +kernel)
set_option maxRecDepth 20000 in
theorem lk_RX5_129 : Cond.methodLink RX5 129 yX5_smooth ∈ wsL_law := List.mem_of_getElem? (i := 401) (by decide +kernel)
set_option maxRecDepth 20000 in
theorem li_X5_smooth : Cond.instanceMethod yX5_smooth ∈ wsL_law := List.mem_of_getElem? (i := 402) (by decide +kernel)
set_option maxRecDepth 20000 in
theorem ls_X5_smooth : Cond.selects RX5 yX5_smooth yX5_smooth ∈ wsL_law := List.mem_of_getElem? (i := 403) (by decide +kernel)
set_option maxRecDepth 20000 in
theorem lc_X5_smooth : Cond.code yX5_smooth cX5_smooth 6 none ∈ wsL_law := List.mem_of_getElem? (i := 404) (by decide +kernel)
set_option maxRecDepth 20000 in
theorem lk_RX5_132 : Cond.methodLink RX5 132 yX5_kept ∈ wsL_law := List.mem_of_getElem? (i := 405) (by decide +kernel)
set_option maxRecDepth 20000 in
theorem lt_X5_kept : Cond.static yX5_kept ∈ wsL_law := List.mem_of_getElem? (i := 406) (by decide +kernel)
set_option maxRecDepth 20000 in
theorem lc_X5_kept : Cond.code yX5_kept cX5_kept 3 (some .int) ∈ wsL_law := List.mem_of_getElem? (i := 407) (by decide +kernel)
set_option maxRecDepth 20000 in
theorem li_X4_abort : Cond.instanceMethod yX4_abort ∈ wsL_law := List.mem_of_getElem? (i := 409) (by decide +kernel)
set_option maxRecDepth 20000 in
theorem ls_X4_abort : Cond.selects RX4 yX4_abort yX4_abort ∈ wsL_law := List.mem_of_getElem? (i := 410) (by decide +kernel)
set_option maxRecDepth 20000 in
theorem lc_X4_abort : Cond.code yX4_abort cX4_abort 1 (some .int) ∈ wsL_law := List.mem_of_getElem? (i := 411) (by decide +kernel)
set_option maxRecDepth 20000 in
theorem lk_RX4_133 : Cond.methodLink RX4 133 yX4_learnFromPart ∈ wsL_law := List.mem_of_getElem? (i := 412) (by decide +kernel)
set_option maxRecDepth 20000 in
theorem li_X4_learnFromPart : Cond.instanceMethod yX4_learnFromPart ∈ wsL_law := List.mem_of_getElem? (i := 413) (by decide +kernel)
set_option maxRecDepth 20000 in
theorem ls_X4_learnFromPart : Cond.selects RX4 yX4_learnFromPart yX4_learnFromPart ∈ wsL_law := List.mem_of_getElem? (i := 414) (by decide +kernel)
set_option maxRecDepth 20000 in
theorem lc_X4_learnFromPart : Cond.code yX4_learnFromPart cX4_learnFromPart 2 none ∈ wsL_law := List.mem_of_getElem? (i := 415) (by decide +kernel)
set_option maxRecDepth 20000 in
theorem li_X5_abort : Cond.instanceMethod yX5_abort ∈ wsL_law := List.mem_of_getElem? (i := 417) (by decide +kernel)
set_option maxRecDepth 20000 in
theorem ls_X5_abort : Cond.selects RX5 yX5_abort yX5_abort ∈ wsL_law := List.mem_of_getElem? (i := 418) (by decide +kernel)
set_option maxRecDepth 20000 in
theorem lc_X5_abort : Cond.code yX5_abort cX5_abort 2 (some .int) ∈ wsL_law := List.mem_of_getElem? (i := 419) (by decide +kernel)
set_option maxRecDepth 20000 in
theorem li_X4_position : Cond.instanceMethod yX4_position ∈ wsL_law := List.mem_of_getElem? (i := 421) (by decide +kernel)
set_option maxRecDepth 20000 in
theorem ls_X4_position : Cond.selects RX4 yX4_position yX4_position ∈ wsL_law := List.mem_of_getElem? (i := 422) (by decide +kernel)
set_option maxRecDepth 20000 in
theorem lc_X4_position : Cond.code yX4_position cX4_position 1 (some .int) ∈ wsL_law := List.mem_of_getElem? (i := 423) (by decide +kernel)
set_option maxRecDepth 20000 in
theorem li_X5_position : Cond.instanceMethod yX5_position ∈ wsL_law := List.mem_of_getElem? (i := 425) (by decide +kernel)
set_option maxRecDepth 20000 in
theorem ls_X5_position : Cond.selects RX5 yX5_position yX5_position ∈ wsL_law := List.mem_of_getElem? (i := 426) (by decide +kernel)
set_option maxRecDepth 20000 in
theorem lc_X5_position : Cond.code yX5_position cX5_position 1 (some .int) ∈ wsL_law := List.mem_of_getElem? (i := 427) (by decide +kernel)
set_option maxRecDepth 20000 in
theorem li_X4_input : Cond.instanceMethod yX4_input ∈ wsL_law := List.mem_of_getElem? (i := 429) (by decide +kernel)
set_option maxRecDepth 20000 in
theorem ls_X4_input : Cond.selects RX4 yX4_input yX4_input ∈ wsL_law := List.mem_of_getElem? (i := 430) (by decide +kernel)
set_option maxRecDepth 20000 in
theorem lc_X4_input : Cond.code yX4_input cX4_input 2 (some .int) ∈ wsL_law := List.mem_of_getElem? (i := 431) (by decide +kernel)
set_option maxRecDepth 20000 in
theorem li_X5_input : Cond.instanceMethod yX5_input ∈ wsL_law := List.mem_of_getElem? (i := 433) (by decide +kernel)
set_option maxRecDepth 20000 in
theorem ls_X5_input : Cond.selects RX5 yX5_input yX5_input ∈ wsL_law := List.mem_of_getElem? (i := 434) (by decide +kernel)
set_option maxRecDepth 20000 in
theorem lc_X5_input : Cond.code yX5_input cX5_input 2 (some .int) ∈ wsL_law := List.mem_of_getElem? (i := 435) (by decide +kernel)
set_option maxRecDepth 20000 in
theorem li_X4_setInput : Cond.instanceMethod yX4_setInput ∈ wsL_law := List.mem_of_getElem? (i := 437) (by decide +kernel)
set_option maxRecDepth 20000 in
theorem ls_X4_setInput : Cond.selects RX4 yX4_setInput yX4_setInput ∈ wsL_law := List.mem_of_getElem? (i := 438) (by decide +kernel)
set_option maxRecDepth 20000 in
theorem lc_X4_setInput : Cond.code yX4_setInput cX4_setInput 4 (some .int) ∈ wsL_law := List.mem_of_getElem? (i := 439) (by decide +kernel)
set_option maxRecDepth 20000 in
theorem li_X5_setInput : Cond.instanceMethod yX5_setInput ∈ wsL_law := List.mem_of_getElem? (i := 441) (by decide +kernel)
set_option maxRecDepth 20000 in
theorem ls_X5_setInput : Cond.selects RX5 yX5_setInput yX5_setInput ∈ wsL_law := List.mem_of_getElem? (i := 442) (by decide +kernel)
set_option maxRecDepth 20000 in
theorem lc_X5_setInput : Cond.code yX5_setInput cX5_setInput 4 (some .int) ∈ wsL_law := List.mem_of_getElem? (i := 443) (by decide +kernel)
set_option maxRecDepth 20000 in
theorem li_X4_reference : Cond.instanceMethod yX4_reference ∈ wsL_law := List.mem_of_getElem? (i := 445) (by decide +kernel)
set_option maxRecDepth 20000 in
theorem ls_X4_reference : Cond.selects RX4 yX4_reference yX4_reference ∈ wsL_law := List.mem_of_getElem? (i := 446) (by decide +kernel)
set_option maxRecDepth 20000 in
theorem lc_X4_reference : Cond.code yX4_reference cX4_reference 2 (some .int) ∈ wsL_law := List.mem_of_getElem? (i := 447) (by decide +kernel)
set_option maxRecDepth 20000 in
theorem li_X5_reference : Cond.instanceMethod yX5_reference ∈ wsL_law := List.mem_of_getElem? (i := 449) (by decide +kernel)
set_option maxRecDepth 20000 in
theorem ls_X5_reference : Cond.selects RX5 yX5_reference yX5_reference ∈ wsL_law := List.mem_of_getElem? (i := 450) (by decide +kernel)
set_option maxRecDepth 20000 in
theorem lc_X5_reference : Cond.code yX5_reference cX5_reference 2 (some .int) ∈ wsL_law := List.mem_of_getElem? (i := 451) (by decide +kernel)
set_option maxRecDepth 20000 in
theorem li_X4_count : Cond.instanceMethod yX4_count ∈ wsL_law := List.mem_of_getElem? (i := 453) (by decide +kernel)
set_option maxRecDepth 20000 in
theorem ls_X4_count : Cond.selects RX4 yX4_count yX4_count ∈ wsL_law := List.mem_of_getElem? (i := 454) (by decide +kernel)
set_option maxRecDepth 20000 in
theorem lc_X4_count : Cond.code yX4_count cX4_count 2 (some .int) ∈ wsL_law := List.mem_of_getElem? (i := 455) (by decide +kernel)
set_option maxRecDepth 20000 in
theorem li_X5_count : Cond.instanceMethod yX5_count ∈ wsL_law := List.mem_of_getElem? (i := 457) (by decide +kernel)
set_option maxRecDepth 20000 in
theorem ls_X5_count : Cond.selects RX5 yX5_count yX5_count ∈ wsL_law := List.mem_of_getElem? (i := 458) (by decide +kernel)
set_option maxRecDepth 20000 in
theorem lc_X5_count : Cond.code yX5_count cX5_count 2 (some .int) ∈ wsL_law := List.mem_of_getElem? (i := 459) (by decide +kernel)
set_option maxRecDepth 20000 in
theorem li_X4_error : Cond.instanceMethod yX4_error ∈ wsL_law := List.mem_of_getElem? (i := 461) (by decide +kernel)
set_option maxRecDepth 20000 in
theorem ls_X4_error : Cond.selects RX4 yX4_error yX4_error ∈ wsL_law := List.mem_of_getElem? (i := 462) (by decide +kernel)
set_option maxRecDepth 20000 in
theorem lc_X4_error : Cond.code yX4_error cX4_error 3 (some .int) ∈ wsL_law := List.mem_of_getElem? (i := 463) (by decide +kernel)
set_option maxRecDepth 20000 in
theorem lk_RX4_145 : Cond.methodLink RX4 145 yX4_isAge ∈ wsL_law := List.mem_of_getElem? (i := 464) (by decide +kernel)
set_option maxRecDepth 20000 in
theorem lt_X4_isAge : Cond.static yX4_isAge ∈ wsL_law := List.mem_of_getElem? (i := 465) (by decide +kernel)
set_option maxRecDepth 20000 in
theorem lc_X4_isAge : Cond.code yX4_isAge cX4_isAge 1 (some .boolean) ∈ wsL_law := List.mem_of_getElem? (i := 466) (by decide +kernel)
set_option maxRecDepth 20000 in
theorem li_X5_error : Cond.instanceMethod yX5_error ∈ wsL_law := List.mem_of_getElem? (i := 468) (by decide +kernel)
set_option maxRecDepth 20000 in
theorem ls_X5_error : Cond.selects RX5 yX5_error yX5_error ∈ wsL_law := List.mem_of_getElem? (i := 469) (by decide +kernel)
set_option maxRecDepth 20000 in
theorem lc_X5_error : Cond.code yX5_error cX5_error 3 (some .int) ∈ wsL_law := List.mem_of_getElem? (i := 470) (by decide +kernel)
set_option maxRecDepth 20000 in
theorem lk_RX5_170 : Cond.methodLink RX5 170 yX5_isAge ∈ wsL_law := List.mem_of_getElem? (i := 471) (by decide +kernel)
set_option maxRecDepth 20000 in
theorem lt_X5_isAge : Cond.static yX5_isAge ∈ wsL_law := List.mem_of_getElem? (i := 472) (by decide +kernel)
set_option maxRecDepth 20000 in
theorem lc_X5_isAge : Cond.code yX5_isAge cX5_isAge 1 (some .boolean) ∈ wsL_law := List.mem_of_getElem? (i := 473) (by decide +kernel)
set_option maxRecDepth 20000 in
theorem li_X4_norm : Cond.instanceMethod yX4_norm ∈ wsL_law := List.mem_of_getElem? (i := 475) (by decide +kernel)
set_option maxRecDepth 20000 in
theorem ls_X4_norm : Cond.selects RX4 yX4_norm yX4_norm ∈ wsL_law := List.mem_of_getElem? (i := 476) (by decide +kernel)
set_option maxRecDepth 20000 in
theorem lc_X4_norm : Cond.code yX4_norm cX4_norm 2 (some .int) ∈ wsL_law := List.mem_of_getElem? (i := 477) (by decide +kernel)
set_option maxRecDepth 20000 in
theorem li_X5_norm : Cond.instanceMethod yX5_norm ∈ wsL_law := List.mem_of_getElem? (i := 479) (by decide +kernel)
set_option maxRecDepth 20000 in
theorem ls_X5_norm : Cond.selects RX5 yX5_norm yX5_norm ∈ wsL_law := List.mem_of_getElem? (i := 480) (by decide +kernel)
set_option maxRecDepth 20000 in
theorem lc_X5_norm : Cond.code yX5_norm cX5_norm 2 (some .int) ∈ wsL_law := List.mem_of_getElem? (i := 481) (by decide +kernel)
set_option maxRecDepth 20000 in
theorem li_X4_shift : Cond.instanceMethod yX4_shift ∈ wsL_law := List.mem_of_getElem? (i := 483) (by decide +kernel)
set_option maxRecDepth 20000 in
theorem ls_X4_shift : Cond.selects RX4 yX4_shift yX4_shift ∈ wsL_law := List.mem_of_getElem? (i := 484) (by decide +kernel)
set_option maxRecDepth 20000 in
theorem lc_X4_shift : Cond.code yX4_shift cX4_shift 2 (some .int) ∈ wsL_law := List.mem_of_getElem? (i := 485) (by decide +kernel)
set_option maxRecDepth 20000 in
theorem lk_RX4_162 : Cond.fieldLink RX4 162 "RepeatLearner$History" "shifts" "[I" ∈ wsL_law := List.mem_of_getElem? (i := 486) (by decide +kernel)
set_option maxRecDepth 20000 in
theorem li_X5_shift : Cond.instanceMethod yX5_shift ∈ wsL_law := List.mem_of_getElem? (i := 488) (by decide +kernel)
set_option maxRecDepth 20000 in
theorem ls_X5_shift : Cond.selects RX5 yX5_shift yX5_shift ∈ wsL_law := List.mem_of_getElem? (i := 489) (by decide +kernel)
set_option maxRecDepth 20000 in
theorem lc_X5_shift : Cond.code yX5_shift cX5_shift 2 (some .int) ∈ wsL_law := List.mem_of_getElem? (i := 490) (by decide +kernel)
set_option maxRecDepth 20000 in
theorem li_X4_worstSample : Cond.instanceMethod yX4_worstSample ∈ wsL_law := List.mem_of_getElem? (i := 492) (by decide +kernel)
set_option maxRecDepth 20000 in
theorem ls_X4_worstSample : Cond.selects RX4 yX4_worstSample yX4_worstSample ∈ wsL_law := List.mem_of_getElem? (i := 493) (by decide +kernel)
set_option maxRecDepth 20000 in
theorem lc_X4_worstSample : Cond.code yX4_worstSample cX4_worstSample 2 (some .int) ∈ wsL_law := List.mem_of_getElem? (i := 494) (by decide +kernel)
set_option maxRecDepth 20000 in
theorem lk_RX4_165 : Cond.methodLink RX4 165 yX4_indexOfGreatest ∈ wsL_law := List.mem_of_getElem? (i := 495) (by decide +kernel)
set_option maxRecDepth 20000 in
theorem lt_X4_indexOfGreatest : Cond.static yX4_indexOfGreatest ∈ wsL_law := List.mem_of_getElem? (i := 496) (by decide +kernel)
set_option maxRecDepth 20000 in
theorem lc_X4_indexOfGreatest : Cond.code yX4_indexOfGreatest cX4_indexOfGreatest 4 (some .int) ∈ wsL_law := List.mem_of_getElem? (i := 497) (by decide +kernel)
set_option maxRecDepth 20000 in
theorem li_X5_worstSample : Cond.instanceMethod yX5_worstSample ∈ wsL_law := List.mem_of_getElem? (i := 499) (by decide +kernel)
set_option maxRecDepth 20000 in
theorem ls_X5_worstSample : Cond.selects RX5 yX5_worstSample yX5_worstSample ∈ wsL_law := List.mem_of_getElem? (i := 500) (by decide +kernel)
set_option maxRecDepth 20000 in
theorem lc_X5_worstSample : Cond.code yX5_worstSample cX5_worstSample 4 (some .int) ∈ wsL_law := List.mem_of_getElem? (i := 501) (by decide +kernel)
set_option maxRecDepth 20000 in
theorem li_X4_energy : Cond.instanceMethod yX4_energy ∈ wsL_law := List.mem_of_getElem? (i := 503) (by decide +kernel)
set_option maxRecDepth 20000 in
theorem ls_X4_energy : Cond.selects RX4 yX4_energy yX4_energy ∈ wsL_law := List.mem_of_getElem? (i := 504) (by decide +kernel)
set_option maxRecDepth 20000 in
theorem lc_X4_energy : Cond.code yX4_energy cX4_energy 2 (some .long) ∈ wsL_law := List.mem_of_getElem? (i := 505) (by decide +kernel)
set_option maxRecDepth 20000 in
theorem lk_RX4_169 : Cond.constantLong RX4 169 (-1) ∈ wsL_law := List.mem_of_getElem? (i := 506) (by decide +kernel)
set_option maxRecDepth 20000 in
theorem lk_RX4_175 : Cond.constantLong RX4 175 (-2) ∈ wsL_law := List.mem_of_getElem? (i := 507) (by decide +kernel)
set_option maxRecDepth 20000 in
theorem lk_RX4_171 : Cond.methodLink RX4 171 yX4_sumOfSquares ∈ wsL_law := List.mem_of_getElem? (i := 508) (by decide +kernel)
set_option maxRecDepth 20000 in
theorem lt_X4_sumOfSquares : Cond.static yX4_sumOfSquares ∈ wsL_law := List.mem_of_getElem? (i := 509) (by decide +kernel)
set_option maxRecDepth 20000 in
theorem lc_X4_sumOfSquares : Cond.code yX4_sumOfSquares cX4_sumOfSquares 5 (some .long) ∈ wsL_law := List.mem_of_getElem? (i := 510) (by decide +kernel)
set_option maxRecDepth 20000 in
theorem li_X5_energy : Cond.instanceMethod yX5_energy ∈ wsL_law := List.mem_of_getElem? (i := 512) (by decide +kernel)
set_option maxRecDepth 20000 in
theorem ls_X5_energy : Cond.selects RX5 yX5_energy yX5_energy ∈ wsL_law := List.mem_of_getElem? (i := 513) (by decide +kernel)
set_option maxRecDepth 20000 in
theorem lc_X5_energy : Cond.code yX5_energy cX5_energy 7 (some .long) ∈ wsL_law := List.mem_of_getElem? (i := 514) (by decide +kernel)
set_option maxRecDepth 20000 in
theorem lk_RX5_173 : Cond.constantLong RX5 173 (-2) ∈ wsL_law := List.mem_of_getElem? (i := 515) (by decide +kernel)
set_option maxRecDepth 20000 in
theorem lk_RX5_175 : Cond.constantLong RX5 175 (-1) ∈ wsL_law := List.mem_of_getElem? (i := 516) (by decide +kernel)
set_option maxRecDepth 20000 in
theorem li_X4_best : Cond.instanceMethod yX4_best ∈ wsL_law := List.mem_of_getElem? (i := 518) (by decide +kernel)
set_option maxRecDepth 20000 in
theorem ls_X4_best : Cond.selects RX4 yX4_best yX4_best ∈ wsL_law := List.mem_of_getElem? (i := 519) (by decide +kernel)
set_option maxRecDepth 20000 in
theorem lc_X4_best : Cond.code yX4_best cX4_best 2 (some .int) ∈ wsL_law := List.mem_of_getElem? (i := 520) (by decide +kernel)
set_option maxRecDepth 20000 in
theorem lk_RX4_183 : Cond.fieldLink RX4 183 "RepeatLearner$Best" "number" "I" ∈ wsL_law := List.mem_of_getElem? (i := 521) (by decide +kernel)
set_option maxRecDepth 20000 in
theorem li_X5_best : Cond.instanceMethod yX5_best ∈ wsL_law := List.mem_of_getElem? (i := 523) (by decide +kernel)
set_option maxRecDepth 20000 in
theorem ls_X5_best : Cond.selects RX5 yX5_best yX5_best ∈ wsL_law := List.mem_of_getElem? (i := 524) (by decide +kernel)
set_option maxRecDepth 20000 in
theorem lc_X5_best : Cond.code yX5_best cX5_best 2 (some .int) ∈ wsL_law := List.mem_of_getElem? (i := 525) (by decide +kernel)
set_option maxRecDepth 20000 in
theorem li_X4_bestInput : Cond.instanceMethod yX4_bestInput ∈ wsL_law := List.mem_of_getElem? (i := 527) (by decide +kernel)
set_option maxRecDepth 20000 in
theorem ls_X4_bestInput : Cond.selects RX4 yX4_bestInput yX4_bestInput ∈ wsL_law := List.mem_of_getElem? (i := 528) (by decide +kernel)
set_option maxRecDepth 20000 in
theorem lc_X4_bestInput : Cond.code yX4_bestInput cX4_bestInput 2 (some .int) ∈ wsL_law := List.mem_of_getElem? (i := 529) (by decide +kernel)
set_option maxRecDepth 20000 in
theorem li_X5_bestInput : Cond.instanceMethod yX5_bestInput ∈ wsL_law := List.mem_of_getElem? (i := 531) (by decide +kernel)
set_option maxRecDepth 20000 in
theorem ls_X5_bestInput : Cond.selects RX5 yX5_bestInput yX5_bestInput ∈ wsL_law := List.mem_of_getElem? (i := 532) (by decide +kernel)
set_option maxRecDepth 20000 in
theorem lc_X5_bestInput : Cond.code yX5_bestInput cX5_bestInput 2 (some .int) ∈ wsL_law := List.mem_of_getElem? (i := 533) (by decide +kernel)
set_option maxRecDepth 20000 in
theorem li_X4_state : Cond.instanceMethod yX4_state ∈ wsL_law := List.mem_of_getElem? (i := 535) (by decide +kernel)
set_option maxRecDepth 20000 in
theorem ls_X4_state : Cond.selects RX4 yX4_state yX4_state ∈ wsL_law := List.mem_of_getElem? (i := 536) (by decide +kernel)
set_option maxRecDepth 20000 in
theorem lc_X4_state : Cond.code yX4_state cX4_state 2 (some .int) ∈ wsL_law := List.mem_of_getElem? (i := 537) (by decide +kernel)
set_option maxRecDepth 20000 in
theorem lk_RX4_189 : Cond.methodLink RX4 189 yX4_hasConverged ∈ wsL_law := List.mem_of_getElem? (i := 538) (by decide +kernel)
set_option maxRecDepth 20000 in
theorem li_X4_hasConverged : Cond.instanceMethod yX4_hasConverged ∈ wsL_law := List.mem_of_getElem? (i := 539) (by decide +kernel)
set_option maxRecDepth 20000 in
theorem ls_X4_hasConverged : Cond.selects RX4 yX4_hasConverged yX4_hasConverged ∈ wsL_law := List.mem_of_getElem? (i := 540) (by decide +kernel)
set_option maxRecDepth 20000 in
theorem lc_X4_hasConverged : Cond.code yX4_hasConverged cX4_hasConverged 2 (some .boolean) ∈ wsL_law := List.mem_of_getElem? (i := 541) (by decide +kernel)
set_option maxRecDepth 20000 in
theorem lk_RX4_296 : Cond.methodLink RX4 296 yX1_staysWithin ∈ wsL_law := List.mem_of_getElem? (i := 542) (by decide +kernel)
set_option maxRecDepth 20000 in
theorem li_X1_staysWithin : Cond.instanceMethod yX1_staysWithin ∈ wsL_law := List.mem_of_getElem? (i := 543) (by decide +kernel)
set_option maxRecDepth 20000 in
theorem ls_X1_staysWithin : Cond.selects RX1 yX1_staysWithin yX1_staysWithin ∈ wsL_law := List.mem_of_getElem? (i := 544) (by decide +kernel)
set_option maxRecDepth 20000 in
theorem lc_X1_staysWithin : Cond.code yX1_staysWithin cX1_staysWithin 5 (some .boolean) ∈ wsL_law := List.mem_of_getElem? (i := 545) (by decide +kernel)
set_option maxRecDepth 20000 in
theorem lk_RX1_40 : Cond.methodLink RX1 40 yX1_errorsOf ∈ wsL_law := List.mem_of_getElem? (i := 546) (by decide +kernel)
set_option maxRecDepth 20000 in
theorem lk_RX4_192 : Cond.methodLink RX4 192 yX1_hasGrown ∈ wsL_law := List.mem_of_getElem? (i := 547) (by decide +kernel)
set_option maxRecDepth 20000 in
theorem li_X1_hasGrown : Cond.instanceMethod yX1_hasGrown ∈ wsL_law := List.mem_of_getElem? (i := 548) (by decide +kernel)
set_option maxRecDepth 20000 in
theorem ls_X1_hasGrown : Cond.selects RX1 yX1_hasGrown yX1_hasGrown ∈ wsL_law := List.mem_of_getElem? (i := 549) (by decide +kernel)
set_option maxRecDepth 20000 in
theorem lc_X1_hasGrown : Cond.code yX1_hasGrown cX1_hasGrown 2 (some .boolean) ∈ wsL_law := List.mem_of_getElem? (i := 550) (by decide +kernel)
set_option maxRecDepth 20000 in
theorem li_X5_state : Cond.instanceMethod yX5_state ∈ wsL_law := List.mem_of_getElem? (i := 552) (by decide +kernel)
set_option maxRecDepth 20000 in
theorem ls_X5_state : Cond.selects RX5 yX5_state yX5_state ∈ wsL_law := List.mem_of_getElem? (i := 553) (by decide +kernel)
set_option maxRecDepth 20000 in
theorem lc_X5_state : Cond.code yX5_state cX5_state 2 (some .int) ∈ wsL_law := List.mem_of_getElem? (i := 554) (by decide +kernel)
set_option maxRecDepth 20000 in
theorem lk_RX5_177 : Cond.methodLink RX5 177 yX5_isSteady ∈ wsL_law := List.mem_of_getElem? (i := 555) (by decide +kernel)
set_option maxRecDepth 20000 in
theorem li_X5_isSteady : Cond.instanceMethod yX5_isSteady ∈ wsL_law := List.mem_of_getElem? (i := 556) (by decide +kernel)
set_option maxRecDepth 20000 in
theorem ls_X5_isSteady : Cond.selects RX5 yX5_isSteady yX5_isSteady ∈ wsL_law := List.mem_of_getElem? (i := 557) (by decide +kernel)
set_option maxRecDepth 20000 in
theorem lc_X5_isSteady : Cond.code yX5_isSteady cX5_isSteady 4 (some .boolean) ∈ wsL_law := List.mem_of_getElem? (i := 558) (by decide +kernel)
set_option maxRecDepth 20000 in
theorem li_X4_convergedCount : Cond.instanceMethod yX4_convergedCount ∈ wsL_law := List.mem_of_getElem? (i := 560) (by decide +kernel)
set_option maxRecDepth 20000 in
theorem ls_X4_convergedCount : Cond.selects RX4 yX4_convergedCount yX4_convergedCount ∈ wsL_law := List.mem_of_getElem? (i := 561) (by decide +kernel)
set_option maxRecDepth 20000 in
theorem lc_X4_convergedCount : Cond.code yX4_convergedCount cX4_convergedCount 3 (some .int) ∈ wsL_law := List.mem_of_getElem? (i := 562) (by decide +kernel)
set_option maxRecDepth 20000 in
theorem li_X5_convergedCount : Cond.instanceMethod yX5_convergedCount ∈ wsL_law := List.mem_of_getElem? (i := 564) (by decide +kernel)
set_option maxRecDepth 20000 in
theorem ls_X5_convergedCount : Cond.selects RX5 yX5_convergedCount yX5_convergedCount ∈ wsL_law := List.mem_of_getElem? (i := 565) (by decide +kernel)
set_option maxRecDepth 20000 in
theorem lc_X5_convergedCount : Cond.code yX5_convergedCount cX5_convergedCount 3 (some .int) ∈ wsL_law := List.mem_of_getElem? (i := 566) (by decide +kernel)
set_option maxRecDepth 20000 in
theorem li_X4_setPlant : Cond.instanceMethod yX4_setPlant ∈ wsL_law := List.mem_of_getElem? (i := 568) (by decide +kernel)
set_option maxRecDepth 20000 in
theorem ls_X4_setPlant : Cond.selects RX4 yX4_setPlant yX4_setPlant ∈ wsL_law := List.mem_of_getElem? (i := 569) (by decide +kernel)
set_option maxRecDepth 20000 in
theorem lc_X4_setPlant : Cond.code yX4_setPlant cX4_setPlant 4 (some .int) ∈ wsL_law := List.mem_of_getElem? (i := 570) (by decide +kernel)
set_option maxRecDepth 20000 in
theorem lk_RX4_195 : Cond.fieldLink RX4 195 "RepeatLearner$Plant" "coefficients" "[I" ∈ wsL_law := List.mem_of_getElem? (i := 571) (by decide +kernel)
set_option maxRecDepth 20000 in
theorem li_X5_setPlant : Cond.instanceMethod yX5_setPlant ∈ wsL_law := List.mem_of_getElem? (i := 573) (by decide +kernel)
set_option maxRecDepth 20000 in
theorem ls_X5_setPlant : Cond.selects RX5 yX5_setPlant yX5_setPlant ∈ wsL_law := List.mem_of_getElem? (i := 574) (by decide +kernel)
set_option maxRecDepth 20000 in
theorem lc_X5_setPlant : Cond.code yX5_setPlant cX5_setPlant 4 (some .int) ∈ wsL_law := List.mem_of_getElem? (i := 575) (by decide +kernel)
set_option maxRecDepth 20000 in
theorem li_X4_setDisturbance : Cond.instanceMethod yX4_setDisturbance ∈ wsL_law := List.mem_of_getElem? (i := 577) (by decide +kernel)
set_option maxRecDepth 20000 in
theorem ls_X4_setDisturbance : Cond.selects RX4 yX4_setDisturbance yX4_setDisturbance ∈ wsL_law := List.mem_of_getElem? (i := 578) (by decide +kernel)
set_option maxRecDepth 20000 in
theorem lc_X4_setDisturbance : Cond.code yX4_setDisturbance cX4_setDisturbance 4 (some .int) ∈ wsL_law := List.mem_of_getElem? (i := 579) (by decide +kernel)
set_option maxRecDepth 20000 in
theorem lk_RX4_198 : Cond.fieldLink RX4 198 "RepeatLearner$Plant" "amplitude" "I" ∈ wsL_law := List.mem_of_getElem? (i := 580) (by decide +kernel)
set_option maxRecDepth 20000 in
theorem lk_RX4_201 : Cond.fieldLink RX4 201 "RepeatLearner$Plant" "seed" "I" ∈ wsL_law := List.mem_of_getElem? (i := 581) (by decide +kernel)
set_option maxRecDepth 20000 in
theorem li_X5_setDisturbance : Cond.instanceMethod yX5_setDisturbance ∈ wsL_law := List.mem_of_getElem? (i := 583) (by decide +kernel)
set_option maxRecDepth 20000 in
theorem ls_X5_setDisturbance : Cond.selects RX5 yX5_setDisturbance yX5_setDisturbance ∈ wsL_law := List.mem_of_getElem? (i := 584) (by decide +kernel)
set_option maxRecDepth 20000 in
theorem lc_X5_setDisturbance : Cond.code yX5_setDisturbance cX5_setDisturbance 4 (some .int) ∈ wsL_law := List.mem_of_getElem? (i := 585) (by decide +kernel)
set_option maxRecDepth 20000 in
theorem li_X4_simulate : Cond.instanceMethod yX4_simulate ∈ wsL_law := List.mem_of_getElem? (i := 587) (by decide +kernel)
set_option maxRecDepth 20000 in
theorem ls_X4_simulate : Cond.selects RX4 yX4_simulate yX4_simulate ∈ wsL_law := List.mem_of_getElem? (i := 588) (by decide +kernel)
set_option maxRecDepth 20000 in
theorem lc_X4_simulate : Cond.code yX4_simulate cX4_simulate 3 (some .int) ∈ wsL_law := List.mem_of_getElem? (i := 589) (by decide +kernel)
set_option maxRecDepth 20000 in
theorem lk_RX4_204 : Cond.methodLink RX4 204 yX4_simulateTrial ∈ wsL_law := List.mem_of_getElem? (i := 590) (by decide +kernel)
set_option maxRecDepth 20000 in
theorem li_X4_simulateTrial : Cond.instanceMethod yX4_simulateTrial ∈ wsL_law := List.mem_of_getElem? (i := 591) (by decide +kernel)
set_option maxRecDepth 20000 in
theorem ls_X4_simulateTrial : Cond.selects RX4 yX4_simulateTrial yX4_simulateTrial ∈ wsL_law := List.mem_of_getElem? (i := 592) (by decide +kernel)
set_option maxRecDepth 20000 in
theorem lc_X4_simulateTrial : Cond.code yX4_simulateTrial cX4_simulateTrial 2 none ∈ wsL_law := List.mem_of_getElem? (i := 593) (by decide +kernel)
set_option maxRecDepth 20000 in
theorem lk_RX4_237 : Cond.methodLink RX4 237 yX2_outputAt ∈ wsL_law := List.mem_of_getElem? (i := 594) (by decide +kernel)
set_option maxRecDepth 20000 in
theorem li_X2_outputAt : Cond.instanceMethod yX2_outputAt ∈ wsL_law := List.mem_of_getElem? (i := 595) (by decide +kernel)
set_option maxRecDepth 20000 in
theorem ls_X2_outputAt : Cond.selects RX2 yX2_outputAt yX2_outputAt ∈ wsL_law := List.mem_of_getElem? (i := 596) (by decide +kernel)
set_option maxRecDepth 20000 in
theorem lc_X2_outputAt : Cond.code yX2_outputAt cX2_outputAt 7 (some .long) ∈ wsL_law := List.mem_of_getElem? (i := 597) (by decide +kernel)
set_option maxRecDepth 20000 in
theorem lk_RX2_26 : Cond.methodLink RX2 26 Lib.Math.min.name ∈ wsL_law := List.mem_of_getElem? (i := 598) (by decide +kernel)
set_option maxRecDepth 20000 in
theorem lk_RX2_32 : Cond.constantLong RX2 32 (1000) ∈ wsL_law := List.mem_of_getElem? (i := 599) (by decide +kernel)
set_option maxRecDepth 20000 in
theorem lk_RX2_34 : Cond.methodLink RX2 34 yJ9_floorDiv_f86c9 ∈ wsL_law := List.mem_of_getElem? (i := 600) (by decide +kernel)
set_option maxRecDepth 20000 in
theorem lk_RX2_38 : Cond.methodLink RX2 38 yX2_nextDisturbance ∈ wsL_law := List.mem_of_getElem? (i := 601) (by decide +kernel)
set_option maxRecDepth 20000 in
theorem li_X2_nextDisturbance : Cond.instanceMethod yX2_nextDisturbance ∈ wsL_law := List.mem_of_getElem? (i := 602) (by decide +kernel)
set_option maxRecDepth 20000 in
theorem ls_X2_nextDisturbance : Cond.selects RX2 yX2_nextDisturbance yX2_nextDisturbance ∈ wsL_law := List.mem_of_getElem? (i := 603) (by decide +kernel)
set_option maxRecDepth 20000 in
theorem lc_X2_nextDisturbance : Cond.code yX2_nextDisturbance cX2_nextDisturbance 1 (some .int) ∈ wsL_law := List.mem_of_getElem? (i := 604) (by decide +kernel)
set_option maxRecDepth 20000 in
theorem lk_RX2_42 : Cond.constant RX2 42 (1103515245) ∈ wsL_law := List.mem_of_getElem? (i := 605) (by decide +kernel)
set_option maxRecDepth 20000 in
theorem li_X5_simulate : Cond.instanceMethod yX5_simulate ∈ wsL_law := List.mem_of_getElem? (i := 607) (by decide +kernel)
set_option maxRecDepth 20000 in
theorem ls_X5_simulate : Cond.selects RX5 yX5_simulate yX5_simulate ∈ wsL_law := List.mem_of_getElem? (i := 608) (by decide +kernel)
set_option maxRecDepth 20000 in
theorem lc_X5_simulate : Cond.code yX5_simulate cX5_simulate 3 (some .int) ∈ wsL_law := List.mem_of_getElem? (i := 609) (by decide +kernel)
set_option maxRecDepth 20000 in
theorem lk_RX5_181 : Cond.methodLink RX5 181 yX5_startTrial ∈ wsL_law := List.mem_of_getElem? (i := 610) (by decide +kernel)
set_option maxRecDepth 20000 in
theorem lk_RX5_184 : Cond.methodLink RX5 184 yX5_outputOf ∈ wsL_law := List.mem_of_getElem? (i := 611) (by decide +kernel)
set_option maxRecDepth 20000 in
theorem li_X5_outputOf : Cond.instanceMethod yX5_outputOf ∈ wsL_law := List.mem_of_getElem? (i := 612) (by decide +kernel)
set_option maxRecDepth 20000 in
theorem ls_X5_outputOf : Cond.selects RX5 yX5_outputOf yX5_outputOf ∈ wsL_law := List.mem_of_getElem? (i := 613) (by decide +kernel)
set_option maxRecDepth 20000 in
theorem lc_X5_outputOf : Cond.code yX5_outputOf cX5_outputOf 6 (some .int) ∈ wsL_law := List.mem_of_getElem? (i := 614) (by decide +kernel)
set_option maxRecDepth 20000 in
theorem lk_RX5_180 : Cond.constant RX5 180 (1103515245) ∈ wsL_law := List.mem_of_getElem? (i := 615) (by decide +kernel)
set_option maxRecDepth 20000 in
theorem lk_RX5_187 : Cond.methodLink RX5 187 yX5_record ∈ wsL_law := List.mem_of_getElem? (i := 616) (by decide +kernel)
set_option maxRecDepth 20000 in
theorem li_X4_suits : Cond.instanceMethod yX4_suits ∈ wsL_law := List.mem_of_getElem? (i := 618) (by decide +kernel)
set_option maxRecDepth 20000 in
theorem ls_X4_suits : Cond.selects RX4 yX4_suits yX4_suits ∈ wsL_law := List.mem_of_getElem? (i := 619) (by decide +kernel)
set_option maxRecDepth 20000 in
theorem lc_X4_suits : Cond.code yX4_suits cX4_suits 4 (some .int) ∈ wsL_law := List.mem_of_getElem? (i := 620) (by decide +kernel)
set_option maxRecDepth 20000 in
theorem lk_RX4_207 : Cond.methodLink RX4 207 Lib.MathLoose.abs_long.x ∈ wsL_law := List.mem_of_getElem? (i := 621) (by decide +kernel)
set_option maxRecDepth 20000 in
theorem lw_static_Lib_MathLoose_abs_long_x : Cond.static Lib.MathLoose.abs_long.x ∈ wsL_law := List.mem_of_getElem? (i := 622) (by decide +kernel)
set_option maxRecDepth 20000 in
theorem lw_code_Lib_MathLoose_abs_long_x_Lib_MathLoose_abs_long_co : Cond.code Lib.MathLoose.abs_long.x Lib.MathLoose.abs_long.code 2 (some .long) ∈ wsL_law := List.mem_of_getElem? (i := 623) (by decide +kernel)
set_option maxRecDepth 20000 in
theorem lk_RX4_213 : Cond.constantLong RX4 213 (1000000) ∈ wsL_law := List.mem_of_getElem? (i := 624) (by decide +kernel)
set_option maxRecDepth 20000 in
theorem li_X5_suits : Cond.instanceMethod yX5_suits ∈ wsL_law := List.mem_of_getElem? (i := 626) (by decide +kernel)
set_option maxRecDepth 20000 in
theorem ls_X5_suits : Cond.selects RX5 yX5_suits yX5_suits ∈ wsL_law := List.mem_of_getElem? (i := 627) (by decide +kernel)
set_option maxRecDepth 20000 in
theorem lc_X5_suits : Cond.code yX5_suits cX5_suits 4 (some .int) ∈ wsL_law := List.mem_of_getElem? (i := 628) (by decide +kernel)
set_option maxRecDepth 20000 in
theorem lk_RX5_190 : Cond.constantLong RX5 190 (1000000) ∈ wsL_law := List.mem_of_getElem? (i := 629) (by decide +kernel)
theorem hd_X0_init : yX0_init.cls ≠ "java/lang/invoke/MethodHandle" ∧ yX0_init.cls ≠ "java/lang/invoke/VarHandle" ∧ (parseMethodDescriptor yX0_init.desc).map (fun d => d.parameters.length) = some 0 := by decide +kernel
theorem hV_X0_init : yX0_init.cls = RX0 ∧ yX0_init.cls ≠ "java/lang/invoke/MethodHandle" ∧ yX0_init.cls ≠ "java/lang/invoke/VarHandle" ∧ (parseMethodDescriptor yX0_init.desc).map (fun d => d.parameters.length) = some 0 := ⟨rfl, hd_X0_init⟩
theorem hd_X0_remember : yX0_remember.cls ≠ "java/lang/invoke/MethodHandle" ∧ yX0_remember.cls ≠ "java/lang/invoke/VarHandle" ∧ (parseMethodDescriptor yX0_remember.desc).map (fun d => d.parameters.length) = some 3 := by decide +kernel
theorem hV_X0_remember : yX0_remember.cls = RX0 ∧ yX0_remember.cls ≠ "java/lang/invoke/MethodHandle" ∧ yX0_remember.cls ≠ "java/lang/invoke/VarHandle" ∧ (parseMethodDescriptor yX0_remember.desc).map (fun d => d.parameters.length) = some 3 := ⟨rfl, hd_X0_remember⟩
theorem hd_X1_init : yX1_init.cls ≠ "java/lang/invoke/MethodHandle" ∧ yX1_init.cls ≠ "java/lang/invoke/VarHandle" ∧ (parseMethodDescriptor yX1_init.desc).map (fun d => d.parameters.length) = some 0 := by decide +kernel
theorem hV_X1_init : yX1_init.cls = RX1 ∧ yX1_init.cls ≠ "java/lang/invoke/MethodHandle" ∧ yX1_init.cls ≠ "java/lang/invoke/VarHandle" ∧ (parseMethodDescriptor yX1_init.desc).map (fun d => d.parameters.length) = some 0 := ⟨rfl, hd_X1_init⟩
theorem hd_X1_reaches : yX1_reaches.cls ≠ "java/lang/invoke/MethodHandle" ∧ yX1_reaches.cls ≠ "java/lang/invoke/VarHandle" ∧ (parseMethodDescriptor yX1_reaches.desc).map (fun d => d.parameters.length) = some 1 := by decide +kernel
theorem hV_X1_reaches : yX1_reaches.cls = RX1 ∧ yX1_reaches.cls ≠ "java/lang/invoke/MethodHandle" ∧ yX1_reaches.cls ≠ "java/lang/invoke/VarHandle" ∧ (parseMethodDescriptor yX1_reaches.desc).map (fun d => d.parameters.length) = some 1 := ⟨rfl, hd_X1_reaches⟩
theorem hd_X1_slot : yX1_slot.cls ≠ "java/lang/invoke/MethodHandle" ∧ yX1_slot.cls ≠ "java/lang/invoke/VarHandle" ∧ (parseMethodDescriptor yX1_slot.desc).map (fun d => d.parameters.length) = some 1 := by decide +kernel
theorem hV_X1_slot : yX1_slot.cls = RX1 ∧ yX1_slot.cls ≠ "java/lang/invoke/MethodHandle" ∧ yX1_slot.cls ≠ "java/lang/invoke/VarHandle" ∧ (parseMethodDescriptor yX1_slot.desc).map (fun d => d.parameters.length) = some 1 := ⟨rfl, hd_X1_slot⟩
theorem hd_X1_errorsOf : yX1_errorsOf.cls ≠ "java/lang/invoke/MethodHandle" ∧ yX1_errorsOf.cls ≠ "java/lang/invoke/VarHandle" ∧ (parseMethodDescriptor yX1_errorsOf.desc).map (fun d => d.parameters.length) = some 1 := by decide +kernel
theorem hV_X1_errorsOf : yX1_errorsOf.cls = RX1 ∧ yX1_errorsOf.cls ≠ "java/lang/invoke/MethodHandle" ∧ yX1_errorsOf.cls ≠ "java/lang/invoke/VarHandle" ∧ (parseMethodDescriptor yX1_errorsOf.desc).map (fun d => d.parameters.length) = some 1 := ⟨rfl, hd_X1_errorsOf⟩
theorem hd_X1_add : yX1_add.cls ≠ "java/lang/invoke/MethodHandle" ∧ yX1_add.cls ≠ "java/lang/invoke/VarHandle" ∧ (parseMethodDescriptor yX1_add.desc).map (fun d => d.parameters.length) = some 4 := by decide +kernel
theorem hV_X1_add : yX1_add.cls = RX1 ∧ yX1_add.cls ≠ "java/lang/invoke/MethodHandle" ∧ yX1_add.cls ≠ "java/lang/invoke/VarHandle" ∧ (parseMethodDescriptor yX1_add.desc).map (fun d => d.parameters.length) = some 4 := ⟨rfl, hd_X1_add⟩
theorem hd_X1_staysWithin : yX1_staysWithin.cls ≠ "java/lang/invoke/MethodHandle" ∧ yX1_staysWithin.cls ≠ "java/lang/invoke/VarHandle" ∧ (parseMethodDescriptor yX1_staysWithin.desc).map (fun d => d.parameters.length) = some 3 := by decide +kernel
theorem hV_X1_staysWithin : yX1_staysWithin.cls = RX1 ∧ yX1_staysWithin.cls ≠ "java/lang/invoke/MethodHandle" ∧ yX1_staysWithin.cls ≠ "java/lang/invoke/VarHandle" ∧ (parseMethodDescriptor yX1_staysWithin.desc).map (fun d => d.parameters.length) = some 3 := ⟨rfl, hd_X1_staysWithin⟩
theorem hd_X1_hasGrown : yX1_hasGrown.cls ≠ "java/lang/invoke/MethodHandle" ∧ yX1_hasGrown.cls ≠ "java/lang/invoke/VarHandle" ∧ (parseMethodDescriptor yX1_hasGrown.desc).map (fun d => d.parameters.length) = some 1 := by decide +kernel
theorem hV_X1_hasGrown : yX1_hasGrown.cls = RX1 ∧ yX1_hasGrown.cls ≠ "java/lang/invoke/MethodHandle" ∧ yX1_hasGrown.cls ≠ "java/lang/invoke/VarHandle" ∧ (parseMethodDescriptor yX1_hasGrown.desc).map (fun d => d.parameters.length) = some 1 := ⟨rfl, hd_X1_hasGrown⟩
theorem hd_X2_init : yX2_init.cls ≠ "java/lang/invoke/MethodHandle" ∧ yX2_init.cls ≠ "java/lang/invoke/VarHandle" ∧ (parseMethodDescriptor yX2_init.desc).map (fun d => d.parameters.length) = some 0 := by decide +kernel
theorem hV_X2_init : yX2_init.cls = RX2 ∧ yX2_init.cls ≠ "java/lang/invoke/MethodHandle" ∧ yX2_init.cls ≠ "java/lang/invoke/VarHandle" ∧ (parseMethodDescriptor yX2_init.desc).map (fun d => d.parameters.length) = some 0 := ⟨rfl, hd_X2_init⟩
theorem hd_X2_becomeAsAtFirst : yX2_becomeAsAtFirst.cls ≠ "java/lang/invoke/MethodHandle" ∧ yX2_becomeAsAtFirst.cls ≠ "java/lang/invoke/VarHandle" ∧ (parseMethodDescriptor yX2_becomeAsAtFirst.desc).map (fun d => d.parameters.length) = some 0 := by decide +kernel
theorem hV_X2_becomeAsAtFirst : yX2_becomeAsAtFirst.cls = RX2 ∧ yX2_becomeAsAtFirst.cls ≠ "java/lang/invoke/MethodHandle" ∧ yX2_becomeAsAtFirst.cls ≠ "java/lang/invoke/VarHandle" ∧ (parseMethodDescriptor yX2_becomeAsAtFirst.desc).map (fun d => d.parameters.length) = some 0 := ⟨rfl, hd_X2_becomeAsAtFirst⟩
theorem hd_X2_outputAt : yX2_outputAt.cls ≠ "java/lang/invoke/MethodHandle" ∧ yX2_outputAt.cls ≠ "java/lang/invoke/VarHandle" ∧ (parseMethodDescriptor yX2_outputAt.desc).map (fun d => d.parameters.length) = some 2 := by decide +kernel
theorem hV_X2_outputAt : yX2_outputAt.cls = RX2 ∧ yX2_outputAt.cls ≠ "java/lang/invoke/MethodHandle" ∧ yX2_outputAt.cls ≠ "java/lang/invoke/VarHandle" ∧ (parseMethodDescriptor yX2_outputAt.desc).map (fun d => d.parameters.length) = some 2 := ⟨rfl, hd_X2_outputAt⟩
theorem hd_X2_nextDisturbance : yX2_nextDisturbance.cls ≠ "java/lang/invoke/MethodHandle" ∧ yX2_nextDisturbance.cls ≠ "java/lang/invoke/VarHandle" ∧ (parseMethodDescriptor yX2_nextDisturbance.desc).map (fun d => d.parameters.length) = some 0 := by decide +kernel
theorem hV_X2_nextDisturbance : yX2_nextDisturbance.cls = RX2 ∧ yX2_nextDisturbance.cls ≠ "java/lang/invoke/MethodHandle" ∧ yX2_nextDisturbance.cls ≠ "java/lang/invoke/VarHandle" ∧ (parseMethodDescriptor yX2_nextDisturbance.desc).map (fun d => d.parameters.length) = some 0 := ⟨rfl, hd_X2_nextDisturbance⟩
theorem hd_X3_init : yX3_init.cls ≠ "java/lang/invoke/MethodHandle" ∧ yX3_init.cls ≠ "java/lang/invoke/VarHandle" ∧ (parseMethodDescriptor yX3_init.desc).map (fun d => d.parameters.length) = some 0 := by decide +kernel
theorem hV_X3_init : yX3_init.cls = RX3 ∧ yX3_init.cls ≠ "java/lang/invoke/MethodHandle" ∧ yX3_init.cls ≠ "java/lang/invoke/VarHandle" ∧ (parseMethodDescriptor yX3_init.desc).map (fun d => d.parameters.length) = some 0 := ⟨rfl, hd_X3_init⟩
theorem hd_X3_becomeAsAtFirst : yX3_becomeAsAtFirst.cls ≠ "java/lang/invoke/MethodHandle" ∧ yX3_becomeAsAtFirst.cls ≠ "java/lang/invoke/VarHandle" ∧ (parseMethodDescriptor yX3_becomeAsAtFirst.desc).map (fun d => d.parameters.length) = some 1 := by decide +kernel
theorem hV_X3_becomeAsAtFirst : yX3_becomeAsAtFirst.cls = RX3 ∧ yX3_becomeAsAtFirst.cls ≠ "java/lang/invoke/MethodHandle" ∧ yX3_becomeAsAtFirst.cls ≠ "java/lang/invoke/VarHandle" ∧ (parseMethodDescriptor yX3_becomeAsAtFirst.desc).map (fun d => d.parameters.length) = some 1 := ⟨rfl, hd_X3_becomeAsAtFirst⟩
theorem hd_X4_init : yX4_init.cls ≠ "java/lang/invoke/MethodHandle" ∧ yX4_init.cls ≠ "java/lang/invoke/VarHandle" ∧ (parseMethodDescriptor yX4_init.desc).map (fun d => d.parameters.length) = some 0 := by decide +kernel
theorem hV_X4_init : yX4_init.cls = RX4 ∧ yX4_init.cls ≠ "java/lang/invoke/MethodHandle" ∧ yX4_init.cls ≠ "java/lang/invoke/VarHandle" ∧ (parseMethodDescriptor yX4_init.desc).map (fun d => d.parameters.length) = some 0 := ⟨rfl, hd_X4_init⟩
theorem hd_X4_reset : yX4_reset.cls ≠ "java/lang/invoke/MethodHandle" ∧ yX4_reset.cls ≠ "java/lang/invoke/VarHandle" ∧ (parseMethodDescriptor yX4_reset.desc).map (fun d => d.parameters.length) = some 1 := by decide +kernel
theorem hV_X4_reset : yX4_reset.cls = RX4 ∧ yX4_reset.cls ≠ "java/lang/invoke/MethodHandle" ∧ yX4_reset.cls ≠ "java/lang/invoke/VarHandle" ∧ (parseMethodDescriptor yX4_reset.desc).map (fun d => d.parameters.length) = some 1 := ⟨rfl, hd_X4_reset⟩
theorem hd_X4_setReference : yX4_setReference.cls ≠ "java/lang/invoke/MethodHandle" ∧ yX4_setReference.cls ≠ "java/lang/invoke/VarHandle" ∧ (parseMethodDescriptor yX4_setReference.desc).map (fun d => d.parameters.length) = some 2 := by decide +kernel
theorem hV_X4_setReference : yX4_setReference.cls = RX4 ∧ yX4_setReference.cls ≠ "java/lang/invoke/MethodHandle" ∧ yX4_setReference.cls ≠ "java/lang/invoke/VarHandle" ∧ (parseMethodDescriptor yX4_setReference.desc).map (fun d => d.parameters.length) = some 2 := ⟨rfl, hd_X4_setReference⟩
theorem hd_X4_setGain : yX4_setGain.cls ≠ "java/lang/invoke/MethodHandle" ∧ yX4_setGain.cls ≠ "java/lang/invoke/VarHandle" ∧ (parseMethodDescriptor yX4_setGain.desc).map (fun d => d.parameters.length) = some 2 := by decide +kernel
theorem hV_X4_setGain : yX4_setGain.cls = RX4 ∧ yX4_setGain.cls ≠ "java/lang/invoke/MethodHandle" ∧ yX4_setGain.cls ≠ "java/lang/invoke/VarHandle" ∧ (parseMethodDescriptor yX4_setGain.desc).map (fun d => d.parameters.length) = some 2 := ⟨rfl, hd_X4_setGain⟩
theorem hd_X4_setSmoothing : yX4_setSmoothing.cls ≠ "java/lang/invoke/MethodHandle" ∧ yX4_setSmoothing.cls ≠ "java/lang/invoke/VarHandle" ∧ (parseMethodDescriptor yX4_setSmoothing.desc).map (fun d => d.parameters.length) = some 2 := by decide +kernel
theorem hV_X4_setSmoothing : yX4_setSmoothing.cls = RX4 ∧ yX4_setSmoothing.cls ≠ "java/lang/invoke/MethodHandle" ∧ yX4_setSmoothing.cls ≠ "java/lang/invoke/VarHandle" ∧ (parseMethodDescriptor yX4_setSmoothing.desc).map (fun d => d.parameters.length) = some 2 := ⟨rfl, hd_X4_setSmoothing⟩
theorem hd_X4_setLimits : yX4_setLimits.cls ≠ "java/lang/invoke/MethodHandle" ∧ yX4_setLimits.cls ≠ "java/lang/invoke/VarHandle" ∧ (parseMethodDescriptor yX4_setLimits.desc).map (fun d => d.parameters.length) = some 2 := by decide +kernel
theorem hV_X4_setLimits : yX4_setLimits.cls = RX4 ∧ yX4_setLimits.cls ≠ "java/lang/invoke/MethodHandle" ∧ yX4_setLimits.cls ≠ "java/lang/invoke/VarHandle" ∧ (parseMethodDescriptor yX4_setLimits.desc).map (fun d => d.parameters.length) = some 2 := ⟨rfl, hd_X4_setLimits⟩
theorem hd_X4_setGreatestShift : yX4_setGreatestShift.cls ≠ "java/lang/invoke/MethodHandle" ∧ yX4_setGreatestShift.cls ≠ "java/lang/invoke/VarHandle" ∧ (parseMethodDescriptor yX4_setGreatestShift.desc).map (fun d => d.parameters.length) = some 1 := by decide +kernel
theorem hV_X4_setGreatestShift : yX4_setGreatestShift.cls = RX4 ∧ yX4_setGreatestShift.cls ≠ "java/lang/invoke/MethodHandle" ∧ yX4_setGreatestShift.cls ≠ "java/lang/invoke/VarHandle" ∧ (parseMethodDescriptor yX4_setGreatestShift.desc).map (fun d => d.parameters.length) = some 1 := ⟨rfl, hd_X4_setGreatestShift⟩
theorem hd_X4_setTolerance : yX4_setTolerance.cls ≠ "java/lang/invoke/MethodHandle" ∧ yX4_setTolerance.cls ≠ "java/lang/invoke/VarHandle" ∧ (parseMethodDescriptor yX4_setTolerance.desc).map (fun d => d.parameters.length) = some 2 := by decide +kernel
theorem hV_X4_setTolerance : yX4_setTolerance.cls = RX4 ∧ yX4_setTolerance.cls ≠ "java/lang/invoke/MethodHandle" ∧ yX4_setTolerance.cls ≠ "java/lang/invoke/VarHandle" ∧ (parseMethodDescriptor yX4_setTolerance.desc).map (fun d => d.parameters.length) = some 2 := ⟨rfl, hd_X4_setTolerance⟩
theorem hd_X4_setGuard : yX4_setGuard.cls ≠ "java/lang/invoke/MethodHandle" ∧ yX4_setGuard.cls ≠ "java/lang/invoke/VarHandle" ∧ (parseMethodDescriptor yX4_setGuard.desc).map (fun d => d.parameters.length) = some 1 := by decide +kernel
theorem hV_X4_setGuard : yX4_setGuard.cls = RX4 ∧ yX4_setGuard.cls ≠ "java/lang/invoke/MethodHandle" ∧ yX4_setGuard.cls ≠ "java/lang/invoke/VarHandle" ∧ (parseMethodDescriptor yX4_setGuard.desc).map (fun d => d.parameters.length) = some 1 := ⟨rfl, hd_X4_setGuard⟩
theorem hd_X4_setting : yX4_setting.cls ≠ "java/lang/invoke/MethodHandle" ∧ yX4_setting.cls ≠ "java/lang/invoke/VarHandle" ∧ (parseMethodDescriptor yX4_setting.desc).map (fun d => d.parameters.length) = some 1 := by decide +kernel
theorem hV_X4_setting : yX4_setting.cls = RX4 ∧ yX4_setting.cls ≠ "java/lang/invoke/MethodHandle" ∧ yX4_setting.cls ≠ "java/lang/invoke/VarHandle" ∧ (parseMethodDescriptor yX4_setting.desc).map (fun d => d.parameters.length) = some 1 := ⟨rfl, hd_X4_setting⟩
theorem hd_X4_startTrial : yX4_startTrial.cls ≠ "java/lang/invoke/MethodHandle" ∧ yX4_startTrial.cls ≠ "java/lang/invoke/VarHandle" ∧ (parseMethodDescriptor yX4_startTrial.desc).map (fun d => d.parameters.length) = some 0 := by decide +kernel
theorem hV_X4_startTrial : yX4_startTrial.cls = RX4 ∧ yX4_startTrial.cls ≠ "java/lang/invoke/MethodHandle" ∧ yX4_startTrial.cls ≠ "java/lang/invoke/VarHandle" ∧ (parseMethodDescriptor yX4_startTrial.desc).map (fun d => d.parameters.length) = some 0 := ⟨rfl, hd_X4_startTrial⟩
theorem hd_X4_record : yX4_record.cls ≠ "java/lang/invoke/MethodHandle" ∧ yX4_record.cls ≠ "java/lang/invoke/VarHandle" ∧ (parseMethodDescriptor yX4_record.desc).map (fun d => d.parameters.length) = some 1 := by decide +kernel
theorem hV_X4_record : yX4_record.cls = RX4 ∧ yX4_record.cls ≠ "java/lang/invoke/MethodHandle" ∧ yX4_record.cls ≠ "java/lang/invoke/VarHandle" ∧ (parseMethodDescriptor yX4_record.desc).map (fun d => d.parameters.length) = some 1 := ⟨rfl, hd_X4_record⟩
theorem hd_X4_abort : yX4_abort.cls ≠ "java/lang/invoke/MethodHandle" ∧ yX4_abort.cls ≠ "java/lang/invoke/VarHandle" ∧ (parseMethodDescriptor yX4_abort.desc).map (fun d => d.parameters.length) = some 0 := by decide +kernel
theorem hV_X4_abort : yX4_abort.cls = RX4 ∧ yX4_abort.cls ≠ "java/lang/invoke/MethodHandle" ∧ yX4_abort.cls ≠ "java/lang/invoke/VarHandle" ∧ (parseMethodDescriptor yX4_abort.desc).map (fun d => d.parameters.length) = some 0 := ⟨rfl, hd_X4_abort⟩
theorem hd_X4_position : yX4_position.cls ≠ "java/lang/invoke/MethodHandle" ∧ yX4_position.cls ≠ "java/lang/invoke/VarHandle" ∧ (parseMethodDescriptor yX4_position.desc).map (fun d => d.parameters.length) = some 0 := by decide +kernel
theorem hV_X4_position : yX4_position.cls = RX4 ∧ yX4_position.cls ≠ "java/lang/invoke/MethodHandle" ∧ yX4_position.cls ≠ "java/lang/invoke/VarHandle" ∧ (parseMethodDescriptor yX4_position.desc).map (fun d => d.parameters.length) = some 0 := ⟨rfl, hd_X4_position⟩
theorem hd_X4_input : yX4_input.cls ≠ "java/lang/invoke/MethodHandle" ∧ yX4_input.cls ≠ "java/lang/invoke/VarHandle" ∧ (parseMethodDescriptor yX4_input.desc).map (fun d => d.parameters.length) = some 1 := by decide +kernel
theorem hV_X4_input : yX4_input.cls = RX4 ∧ yX4_input.cls ≠ "java/lang/invoke/MethodHandle" ∧ yX4_input.cls ≠ "java/lang/invoke/VarHandle" ∧ (parseMethodDescriptor yX4_input.desc).map (fun d => d.parameters.length) = some 1 := ⟨rfl, hd_X4_input⟩
theorem hd_X4_setInput : yX4_setInput.cls ≠ "java/lang/invoke/MethodHandle" ∧ yX4_setInput.cls ≠ "java/lang/invoke/VarHandle" ∧ (parseMethodDescriptor yX4_setInput.desc).map (fun d => d.parameters.length) = some 2 := by decide +kernel
theorem hV_X4_setInput : yX4_setInput.cls = RX4 ∧ yX4_setInput.cls ≠ "java/lang/invoke/MethodHandle" ∧ yX4_setInput.cls ≠ "java/lang/invoke/VarHandle" ∧ (parseMethodDescriptor yX4_setInput.desc).map (fun d => d.parameters.length) = some 2 := ⟨rfl, hd_X4_setInput⟩
theorem hd_X4_reference : yX4_reference.cls ≠ "java/lang/invoke/MethodHandle" ∧ yX4_reference.cls ≠ "java/lang/invoke/VarHandle" ∧ (parseMethodDescriptor yX4_reference.desc).map (fun d => d.parameters.length) = some 1 := by decide +kernel
theorem hV_X4_reference : yX4_reference.cls = RX4 ∧ yX4_reference.cls ≠ "java/lang/invoke/MethodHandle" ∧ yX4_reference.cls ≠ "java/lang/invoke/VarHandle" ∧ (parseMethodDescriptor yX4_reference.desc).map (fun d => d.parameters.length) = some 1 := ⟨rfl, hd_X4_reference⟩
theorem hd_X4_count : yX4_count.cls ≠ "java/lang/invoke/MethodHandle" ∧ yX4_count.cls ≠ "java/lang/invoke/VarHandle" ∧ (parseMethodDescriptor yX4_count.desc).map (fun d => d.parameters.length) = some 1 := by decide +kernel
theorem hV_X4_count : yX4_count.cls = RX4 ∧ yX4_count.cls ≠ "java/lang/invoke/MethodHandle" ∧ yX4_count.cls ≠ "java/lang/invoke/VarHandle" ∧ (parseMethodDescriptor yX4_count.desc).map (fun d => d.parameters.length) = some 1 := ⟨rfl, hd_X4_count⟩
theorem hd_X4_error : yX4_error.cls ≠ "java/lang/invoke/MethodHandle" ∧ yX4_error.cls ≠ "java/lang/invoke/VarHandle" ∧ (parseMethodDescriptor yX4_error.desc).map (fun d => d.parameters.length) = some 2 := by decide +kernel
theorem hV_X4_error : yX4_error.cls = RX4 ∧ yX4_error.cls ≠ "java/lang/invoke/MethodHandle" ∧ yX4_error.cls ≠ "java/lang/invoke/VarHandle" ∧ (parseMethodDescriptor yX4_error.desc).map (fun d => d.parameters.length) = some 2 := ⟨rfl, hd_X4_error⟩
theorem hd_X4_norm : yX4_norm.cls ≠ "java/lang/invoke/MethodHandle" ∧ yX4_norm.cls ≠ "java/lang/invoke/VarHandle" ∧ (parseMethodDescriptor yX4_norm.desc).map (fun d => d.parameters.length) = some 1 := by decide +kernel
theorem hV_X4_norm : yX4_norm.cls = RX4 ∧ yX4_norm.cls ≠ "java/lang/invoke/MethodHandle" ∧ yX4_norm.cls ≠ "java/lang/invoke/VarHandle" ∧ (parseMethodDescriptor yX4_norm.desc).map (fun d => d.parameters.length) = some 1 := ⟨rfl, hd_X4_norm⟩
theorem hd_X4_shift : yX4_shift.cls ≠ "java/lang/invoke/MethodHandle" ∧ yX4_shift.cls ≠ "java/lang/invoke/VarHandle" ∧ (parseMethodDescriptor yX4_shift.desc).map (fun d => d.parameters.length) = some 1 := by decide +kernel
theorem hV_X4_shift : yX4_shift.cls = RX4 ∧ yX4_shift.cls ≠ "java/lang/invoke/MethodHandle" ∧ yX4_shift.cls ≠ "java/lang/invoke/VarHandle" ∧ (parseMethodDescriptor yX4_shift.desc).map (fun d => d.parameters.length) = some 1 := ⟨rfl, hd_X4_shift⟩
theorem hd_X4_worstSample : yX4_worstSample.cls ≠ "java/lang/invoke/MethodHandle" ∧ yX4_worstSample.cls ≠ "java/lang/invoke/VarHandle" ∧ (parseMethodDescriptor yX4_worstSample.desc).map (fun d => d.parameters.length) = some 1 := by decide +kernel
theorem hV_X4_worstSample : yX4_worstSample.cls = RX4 ∧ yX4_worstSample.cls ≠ "java/lang/invoke/MethodHandle" ∧ yX4_worstSample.cls ≠ "java/lang/invoke/VarHandle" ∧ (parseMethodDescriptor yX4_worstSample.desc).map (fun d => d.parameters.length) = some 1 := ⟨rfl, hd_X4_worstSample⟩
theorem hd_X4_energy : yX4_energy.cls ≠ "java/lang/invoke/MethodHandle" ∧ yX4_energy.cls ≠ "java/lang/invoke/VarHandle" ∧ (parseMethodDescriptor yX4_energy.desc).map (fun d => d.parameters.length) = some 1 := by decide +kernel
theorem hV_X4_energy : yX4_energy.cls = RX4 ∧ yX4_energy.cls ≠ "java/lang/invoke/MethodHandle" ∧ yX4_energy.cls ≠ "java/lang/invoke/VarHandle" ∧ (parseMethodDescriptor yX4_energy.desc).map (fun d => d.parameters.length) = some 1 := ⟨rfl, hd_X4_energy⟩
theorem hd_X4_best : yX4_best.cls ≠ "java/lang/invoke/MethodHandle" ∧ yX4_best.cls ≠ "java/lang/invoke/VarHandle" ∧ (parseMethodDescriptor yX4_best.desc).map (fun d => d.parameters.length) = some 1 := by decide +kernel
theorem hV_X4_best : yX4_best.cls = RX4 ∧ yX4_best.cls ≠ "java/lang/invoke/MethodHandle" ∧ yX4_best.cls ≠ "java/lang/invoke/VarHandle" ∧ (parseMethodDescriptor yX4_best.desc).map (fun d => d.parameters.length) = some 1 := ⟨rfl, hd_X4_best⟩
theorem hd_X4_bestInput : yX4_bestInput.cls ≠ "java/lang/invoke/MethodHandle" ∧ yX4_bestInput.cls ≠ "java/lang/invoke/VarHandle" ∧ (parseMethodDescriptor yX4_bestInput.desc).map (fun d => d.parameters.length) = some 1 := by decide +kernel
theorem hV_X4_bestInput : yX4_bestInput.cls = RX4 ∧ yX4_bestInput.cls ≠ "java/lang/invoke/MethodHandle" ∧ yX4_bestInput.cls ≠ "java/lang/invoke/VarHandle" ∧ (parseMethodDescriptor yX4_bestInput.desc).map (fun d => d.parameters.length) = some 1 := ⟨rfl, hd_X4_bestInput⟩
theorem hd_X4_state : yX4_state.cls ≠ "java/lang/invoke/MethodHandle" ∧ yX4_state.cls ≠ "java/lang/invoke/VarHandle" ∧ (parseMethodDescriptor yX4_state.desc).map (fun d => d.parameters.length) = some 1 := by decide +kernel
theorem hV_X4_state : yX4_state.cls = RX4 ∧ yX4_state.cls ≠ "java/lang/invoke/MethodHandle" ∧ yX4_state.cls ≠ "java/lang/invoke/VarHandle" ∧ (parseMethodDescriptor yX4_state.desc).map (fun d => d.parameters.length) = some 1 := ⟨rfl, hd_X4_state⟩
theorem hd_X4_convergedCount : yX4_convergedCount.cls ≠ "java/lang/invoke/MethodHandle" ∧ yX4_convergedCount.cls ≠ "java/lang/invoke/VarHandle" ∧ (parseMethodDescriptor yX4_convergedCount.desc).map (fun d => d.parameters.length) = some 0 := by decide +kernel
theorem hV_X4_convergedCount : yX4_convergedCount.cls = RX4 ∧ yX4_convergedCount.cls ≠ "java/lang/invoke/MethodHandle" ∧ yX4_convergedCount.cls ≠ "java/lang/invoke/VarHandle" ∧ (parseMethodDescriptor yX4_convergedCount.desc).map (fun d => d.parameters.length) = some 0 := ⟨rfl, hd_X4_convergedCount⟩
theorem hd_X4_setPlant : yX4_setPlant.cls ≠ "java/lang/invoke/MethodHandle" ∧ yX4_setPlant.cls ≠ "java/lang/invoke/VarHandle" ∧ (parseMethodDescriptor yX4_setPlant.desc).map (fun d => d.parameters.length) = some 2 := by decide +kernel
theorem hV_X4_setPlant : yX4_setPlant.cls = RX4 ∧ yX4_setPlant.cls ≠ "java/lang/invoke/MethodHandle" ∧ yX4_setPlant.cls ≠ "java/lang/invoke/VarHandle" ∧ (parseMethodDescriptor yX4_setPlant.desc).map (fun d => d.parameters.length) = some 2 := ⟨rfl, hd_X4_setPlant⟩
theorem hd_X4_setDisturbance : yX4_setDisturbance.cls ≠ "java/lang/invoke/MethodHandle" ∧ yX4_setDisturbance.cls ≠ "java/lang/invoke/VarHandle" ∧ (parseMethodDescriptor yX4_setDisturbance.desc).map (fun d => d.parameters.length) = some 2 := by decide +kernel
theorem hV_X4_setDisturbance : yX4_setDisturbance.cls = RX4 ∧ yX4_setDisturbance.cls ≠ "java/lang/invoke/MethodHandle" ∧ yX4_setDisturbance.cls ≠ "java/lang/invoke/VarHandle" ∧ (parseMethodDescriptor yX4_setDisturbance.desc).map (fun d => d.parameters.length) = some 2 := ⟨rfl, hd_X4_setDisturbance⟩
theorem hd_X4_simulate : yX4_simulate.cls ≠ "java/lang/invoke/MethodHandle" ∧ yX4_simulate.cls ≠ "java/lang/invoke/VarHandle" ∧ (parseMethodDescriptor yX4_simulate.desc).map (fun d => d.parameters.length) = some 1 := by decide +kernel
theorem hV_X4_simulate : yX4_simulate.cls = RX4 ∧ yX4_simulate.cls ≠ "java/lang/invoke/MethodHandle" ∧ yX4_simulate.cls ≠ "java/lang/invoke/VarHandle" ∧ (parseMethodDescriptor yX4_simulate.desc).map (fun d => d.parameters.length) = some 1 := ⟨rfl, hd_X4_simulate⟩
theorem hd_X4_suits : yX4_suits.cls ≠ "java/lang/invoke/MethodHandle" ∧ yX4_suits.cls ≠ "java/lang/invoke/VarHandle" ∧ (parseMethodDescriptor yX4_suits.desc).map (fun d => d.parameters.length) = some 0 := by decide +kernel
theorem hV_X4_suits : yX4_suits.cls = RX4 ∧ yX4_suits.cls ≠ "java/lang/invoke/MethodHandle" ∧ yX4_suits.cls ≠ "java/lang/invoke/VarHandle" ∧ (parseMethodDescriptor yX4_suits.desc).map (fun d => d.parameters.length) = some 0 := ⟨rfl, hd_X4_suits⟩
theorem hd_X4_isWithin : yX4_isWithin.cls ≠ "java/lang/invoke/MethodHandle" ∧ yX4_isWithin.cls ≠ "java/lang/invoke/VarHandle" ∧ (parseMethodDescriptor yX4_isWithin.desc).map (fun d => d.parameters.length) = some 3 := by decide +kernel
theorem hV_X4_isWithin : yX4_isWithin.cls = RX4 ∧ yX4_isWithin.cls ≠ "java/lang/invoke/MethodHandle" ∧ yX4_isWithin.cls ≠ "java/lang/invoke/VarHandle" ∧ (parseMethodDescriptor yX4_isWithin.desc).map (fun d => d.parameters.length) = some 3 := ⟨rfl, hd_X4_isWithin⟩
theorem hd_X4_isSignal : yX4_isSignal.cls ≠ "java/lang/invoke/MethodHandle" ∧ yX4_isSignal.cls ≠ "java/lang/invoke/VarHandle" ∧ (parseMethodDescriptor yX4_isSignal.desc).map (fun d => d.parameters.length) = some 1 := by decide +kernel
theorem hV_X4_isSignal : yX4_isSignal.cls = RX4 ∧ yX4_isSignal.cls ≠ "java/lang/invoke/MethodHandle" ∧ yX4_isSignal.cls ≠ "java/lang/invoke/VarHandle" ∧ (parseMethodDescriptor yX4_isSignal.desc).map (fun d => d.parameters.length) = some 1 := ⟨rfl, hd_X4_isSignal⟩
theorem hd_X4_isAge : yX4_isAge.cls ≠ "java/lang/invoke/MethodHandle" ∧ yX4_isAge.cls ≠ "java/lang/invoke/VarHandle" ∧ (parseMethodDescriptor yX4_isAge.desc).map (fun d => d.parameters.length) = some 1 := by decide +kernel
theorem hV_X4_isAge : yX4_isAge.cls = RX4 ∧ yX4_isAge.cls ≠ "java/lang/invoke/MethodHandle" ∧ yX4_isAge.cls ≠ "java/lang/invoke/VarHandle" ∧ (parseMethodDescriptor yX4_isAge.desc).map (fun d => d.parameters.length) = some 1 := ⟨rfl, hd_X4_isAge⟩
theorem hd_X4_isSample : yX4_isSample.cls ≠ "java/lang/invoke/MethodHandle" ∧ yX4_isSample.cls ≠ "java/lang/invoke/VarHandle" ∧ (parseMethodDescriptor yX4_isSample.desc).map (fun d => d.parameters.length) = some 1 := by decide +kernel
theorem hV_X4_isSample : yX4_isSample.cls = RX4 ∧ yX4_isSample.cls ≠ "java/lang/invoke/MethodHandle" ∧ yX4_isSample.cls ≠ "java/lang/invoke/VarHandle" ∧ (parseMethodDescriptor yX4_isSample.desc).map (fun d => d.parameters.length) = some 1 := ⟨rfl, hd_X4_isSample⟩
theorem hd_X4_oneIf : yX4_oneIf.cls ≠ "java/lang/invoke/MethodHandle" ∧ yX4_oneIf.cls ≠ "java/lang/invoke/VarHandle" ∧ (parseMethodDescriptor yX4_oneIf.desc).map (fun d => d.parameters.length) = some 1 := by decide +kernel
theorem hV_X4_oneIf : yX4_oneIf.cls = RX4 ∧ yX4_oneIf.cls ≠ "java/lang/invoke/MethodHandle" ∧ yX4_oneIf.cls ≠ "java/lang/invoke/VarHandle" ∧ (parseMethodDescriptor yX4_oneIf.desc).map (fun d => d.parameters.length) = some 1 := ⟨rfl, hd_X4_oneIf⟩
theorem hd_X4_limitTo : yX4_limitTo.cls ≠ "java/lang/invoke/MethodHandle" ∧ yX4_limitTo.cls ≠ "java/lang/invoke/VarHandle" ∧ (parseMethodDescriptor yX4_limitTo.desc).map (fun d => d.parameters.length) = some 2 := by decide +kernel
theorem hV_X4_limitTo : yX4_limitTo.cls = RX4 ∧ yX4_limitTo.cls ≠ "java/lang/invoke/MethodHandle" ∧ yX4_limitTo.cls ≠ "java/lang/invoke/VarHandle" ∧ (parseMethodDescriptor yX4_limitTo.desc).map (fun d => d.parameters.length) = some 2 := ⟨rfl, hd_X4_limitTo⟩
theorem hd_X4_startAnew : yX4_startAnew.cls ≠ "java/lang/invoke/MethodHandle" ∧ yX4_startAnew.cls ≠ "java/lang/invoke/VarHandle" ∧ (parseMethodDescriptor yX4_startAnew.desc).map (fun d => d.parameters.length) = some 1 := by decide +kernel
theorem hV_X4_startAnew : yX4_startAnew.cls = RX4 ∧ yX4_startAnew.cls ≠ "java/lang/invoke/MethodHandle" ∧ yX4_startAnew.cls ≠ "java/lang/invoke/VarHandle" ∧ (parseMethodDescriptor yX4_startAnew.desc).map (fun d => d.parameters.length) = some 1 := ⟨rfl, hd_X4_startAnew⟩
theorem hd_X4_beginTrial : yX4_beginTrial.cls ≠ "java/lang/invoke/MethodHandle" ∧ yX4_beginTrial.cls ≠ "java/lang/invoke/VarHandle" ∧ (parseMethodDescriptor yX4_beginTrial.desc).map (fun d => d.parameters.length) = some 0 := by decide +kernel
theorem hV_X4_beginTrial : yX4_beginTrial.cls = RX4 ∧ yX4_beginTrial.cls ≠ "java/lang/invoke/MethodHandle" ∧ yX4_beginTrial.cls ≠ "java/lang/invoke/VarHandle" ∧ (parseMethodDescriptor yX4_beginTrial.desc).map (fun d => d.parameters.length) = some 0 := ⟨rfl, hd_X4_beginTrial⟩
theorem hd_X4_takeOutput : yX4_takeOutput.cls ≠ "java/lang/invoke/MethodHandle" ∧ yX4_takeOutput.cls ≠ "java/lang/invoke/VarHandle" ∧ (parseMethodDescriptor yX4_takeOutput.desc).map (fun d => d.parameters.length) = some 1 := by decide +kernel
theorem hV_X4_takeOutput : yX4_takeOutput.cls = RX4 ∧ yX4_takeOutput.cls ≠ "java/lang/invoke/MethodHandle" ∧ yX4_takeOutput.cls ≠ "java/lang/invoke/VarHandle" ∧ (parseMethodDescriptor yX4_takeOutput.desc).map (fun d => d.parameters.length) = some 1 := ⟨rfl, hd_X4_takeOutput⟩
theorem hd_X4_simulateTrial : yX4_simulateTrial.cls ≠ "java/lang/invoke/MethodHandle" ∧ yX4_simulateTrial.cls ≠ "java/lang/invoke/VarHandle" ∧ (parseMethodDescriptor yX4_simulateTrial.desc).map (fun d => d.parameters.length) = some 0 := by decide +kernel
theorem hV_X4_simulateTrial : yX4_simulateTrial.cls = RX4 ∧ yX4_simulateTrial.cls ≠ "java/lang/invoke/MethodHandle" ∧ yX4_simulateTrial.cls ≠ "java/lang/invoke/VarHandle" ∧ (parseMethodDescriptor yX4_simulateTrial.desc).map (fun d => d.parameters.length) = some 0 := ⟨rfl, hd_X4_simulateTrial⟩
theorem hd_X4_completeTrial : yX4_completeTrial.cls ≠ "java/lang/invoke/MethodHandle" ∧ yX4_completeTrial.cls ≠ "java/lang/invoke/VarHandle" ∧ (parseMethodDescriptor yX4_completeTrial.desc).map (fun d => d.parameters.length) = some 0 := by decide +kernel
theorem hV_X4_completeTrial : yX4_completeTrial.cls = RX4 ∧ yX4_completeTrial.cls ≠ "java/lang/invoke/MethodHandle" ∧ yX4_completeTrial.cls ≠ "java/lang/invoke/VarHandle" ∧ (parseMethodDescriptor yX4_completeTrial.desc).map (fun d => d.parameters.length) = some 0 := ⟨rfl, hd_X4_completeTrial⟩
theorem hd_X4_bestFittingShift : yX4_bestFittingShift.cls ≠ "java/lang/invoke/MethodHandle" ∧ yX4_bestFittingShift.cls ≠ "java/lang/invoke/VarHandle" ∧ (parseMethodDescriptor yX4_bestFittingShift.desc).map (fun d => d.parameters.length) = some 0 := by decide +kernel
theorem hV_X4_bestFittingShift : yX4_bestFittingShift.cls = RX4 ∧ yX4_bestFittingShift.cls ≠ "java/lang/invoke/MethodHandle" ∧ yX4_bestFittingShift.cls ≠ "java/lang/invoke/VarHandle" ∧ (parseMethodDescriptor yX4_bestFittingShift.desc).map (fun d => d.parameters.length) = some 0 := ⟨rfl, hd_X4_bestFittingShift⟩
theorem hd_X4_misfit : yX4_misfit.cls ≠ "java/lang/invoke/MethodHandle" ∧ yX4_misfit.cls ≠ "java/lang/invoke/VarHandle" ∧ (parseMethodDescriptor yX4_misfit.desc).map (fun d => d.parameters.length) = some 1 := by decide +kernel
theorem hV_X4_misfit : yX4_misfit.cls = RX4 ∧ yX4_misfit.cls ≠ "java/lang/invoke/MethodHandle" ∧ yX4_misfit.cls ≠ "java/lang/invoke/VarHandle" ∧ (parseMethodDescriptor yX4_misfit.desc).map (fun d => d.parameters.length) = some 1 := ⟨rfl, hd_X4_misfit⟩
theorem hd_X4_rawAt : yX4_rawAt.cls ≠ "java/lang/invoke/MethodHandle" ∧ yX4_rawAt.cls ≠ "java/lang/invoke/VarHandle" ∧ (parseMethodDescriptor yX4_rawAt.desc).map (fun d => d.parameters.length) = some 1 := by decide +kernel
theorem hV_X4_rawAt : yX4_rawAt.cls = RX4 ∧ yX4_rawAt.cls ≠ "java/lang/invoke/MethodHandle" ∧ yX4_rawAt.cls ≠ "java/lang/invoke/VarHandle" ∧ (parseMethodDescriptor yX4_rawAt.desc).map (fun d => d.parameters.length) = some 1 := ⟨rfl, hd_X4_rawAt⟩
theorem hd_X4_judge : yX4_judge.cls ≠ "java/lang/invoke/MethodHandle" ∧ yX4_judge.cls ≠ "java/lang/invoke/VarHandle" ∧ (parseMethodDescriptor yX4_judge.desc).map (fun d => d.parameters.length) = some 1 := by decide +kernel
theorem hV_X4_judge : yX4_judge.cls = RX4 ∧ yX4_judge.cls ≠ "java/lang/invoke/MethodHandle" ∧ yX4_judge.cls ≠ "java/lang/invoke/VarHandle" ∧ (parseMethodDescriptor yX4_judge.desc).map (fun d => d.parameters.length) = some 1 := ⟨rfl, hd_X4_judge⟩
theorem hd_X4_fallBack : yX4_fallBack.cls ≠ "java/lang/invoke/MethodHandle" ∧ yX4_fallBack.cls ≠ "java/lang/invoke/VarHandle" ∧ (parseMethodDescriptor yX4_fallBack.desc).map (fun d => d.parameters.length) = some 0 := by decide +kernel
theorem hV_X4_fallBack : yX4_fallBack.cls = RX4 ∧ yX4_fallBack.cls ≠ "java/lang/invoke/MethodHandle" ∧ yX4_fallBack.cls ≠ "java/lang/invoke/VarHandle" ∧ (parseMethodDescriptor yX4_fallBack.desc).map (fun d => d.parameters.length) = some 0 := ⟨rfl, hd_X4_fallBack⟩
theorem hd_X4_learnFromPart : yX4_learnFromPart.cls ≠ "java/lang/invoke/MethodHandle" ∧ yX4_learnFromPart.cls ≠ "java/lang/invoke/VarHandle" ∧ (parseMethodDescriptor yX4_learnFromPart.desc).map (fun d => d.parameters.length) = some 0 := by decide +kernel
theorem hV_X4_learnFromPart : yX4_learnFromPart.cls = RX4 ∧ yX4_learnFromPart.cls ≠ "java/lang/invoke/MethodHandle" ∧ yX4_learnFromPart.cls ≠ "java/lang/invoke/VarHandle" ∧ (parseMethodDescriptor yX4_learnFromPart.desc).map (fun d => d.parameters.length) = some 0 := ⟨rfl, hd_X4_learnFromPart⟩
theorem hd_X4_correct : yX4_correct.cls ≠ "java/lang/invoke/MethodHandle" ∧ yX4_correct.cls ≠ "java/lang/invoke/VarHandle" ∧ (parseMethodDescriptor yX4_correct.desc).map (fun d => d.parameters.length) = some 3 := by decide +kernel
theorem hV_X4_correct : yX4_correct.cls = RX4 ∧ yX4_correct.cls ≠ "java/lang/invoke/MethodHandle" ∧ yX4_correct.cls ≠ "java/lang/invoke/VarHandle" ∧ (parseMethodDescriptor yX4_correct.desc).map (fun d => d.parameters.length) = some 3 := ⟨rfl, hd_X4_correct⟩
theorem hd_X4_smoothOnce : yX4_smoothOnce.cls ≠ "java/lang/invoke/MethodHandle" ∧ yX4_smoothOnce.cls ≠ "java/lang/invoke/VarHandle" ∧ (parseMethodDescriptor yX4_smoothOnce.desc).map (fun d => d.parameters.length) = some 0 := by decide +kernel
theorem hV_X4_smoothOnce : yX4_smoothOnce.cls = RX4 ∧ yX4_smoothOnce.cls ≠ "java/lang/invoke/MethodHandle" ∧ yX4_smoothOnce.cls ≠ "java/lang/invoke/VarHandle" ∧ (parseMethodDescriptor yX4_smoothOnce.desc).map (fun d => d.parameters.length) = some 0 := ⟨rfl, hd_X4_smoothOnce⟩
theorem hd_X4_hasConverged : yX4_hasConverged.cls ≠ "java/lang/invoke/MethodHandle" ∧ yX4_hasConverged.cls ≠ "java/lang/invoke/VarHandle" ∧ (parseMethodDescriptor yX4_hasConverged.desc).map (fun d => d.parameters.length) = some 1 := by decide +kernel
theorem hV_X4_hasConverged : yX4_hasConverged.cls = RX4 ∧ yX4_hasConverged.cls ≠ "java/lang/invoke/MethodHandle" ∧ yX4_hasConverged.cls ≠ "java/lang/invoke/VarHandle" ∧ (parseMethodDescriptor yX4_hasConverged.desc).map (fun d => d.parameters.length) = some 1 := ⟨rfl, hd_X4_hasConverged⟩
theorem hd_X4_indexOfGreatest : yX4_indexOfGreatest.cls ≠ "java/lang/invoke/MethodHandle" ∧ yX4_indexOfGreatest.cls ≠ "java/lang/invoke/VarHandle" ∧ (parseMethodDescriptor yX4_indexOfGreatest.desc).map (fun d => d.parameters.length) = some 2 := by decide +kernel
theorem hV_X4_indexOfGreatest : yX4_indexOfGreatest.cls = RX4 ∧ yX4_indexOfGreatest.cls ≠ "java/lang/invoke/MethodHandle" ∧ yX4_indexOfGreatest.cls ≠ "java/lang/invoke/VarHandle" ∧ (parseMethodDescriptor yX4_indexOfGreatest.desc).map (fun d => d.parameters.length) = some 2 := ⟨rfl, hd_X4_indexOfGreatest⟩
theorem hd_X4_sumOfSquares : yX4_sumOfSquares.cls ≠ "java/lang/invoke/MethodHandle" ∧ yX4_sumOfSquares.cls ≠ "java/lang/invoke/VarHandle" ∧ (parseMethodDescriptor yX4_sumOfSquares.desc).map (fun d => d.parameters.length) = some 2 := by decide +kernel
theorem hV_X4_sumOfSquares : yX4_sumOfSquares.cls = RX4 ∧ yX4_sumOfSquares.cls ≠ "java/lang/invoke/MethodHandle" ∧ yX4_sumOfSquares.cls ≠ "java/lang/invoke/VarHandle" ∧ (parseMethodDescriptor yX4_sumOfSquares.desc).map (fun d => d.parameters.length) = some 2 := ⟨rfl, hd_X4_sumOfSquares⟩
theorem hd_X5_init : yX5_init.cls ≠ "java/lang/invoke/MethodHandle" ∧ yX5_init.cls ≠ "java/lang/invoke/VarHandle" ∧ (parseMethodDescriptor yX5_init.desc).map (fun d => d.parameters.length) = some 0 := by decide +kernel
theorem hV_X5_init : yX5_init.cls = RX5 ∧ yX5_init.cls ≠ "java/lang/invoke/MethodHandle" ∧ yX5_init.cls ≠ "java/lang/invoke/VarHandle" ∧ (parseMethodDescriptor yX5_init.desc).map (fun d => d.parameters.length) = some 0 := ⟨rfl, hd_X5_init⟩
theorem hd_X5_in : yX5_in.cls ≠ "java/lang/invoke/MethodHandle" ∧ yX5_in.cls ≠ "java/lang/invoke/VarHandle" ∧ (parseMethodDescriptor yX5_in.desc).map (fun d => d.parameters.length) = some 3 := by decide +kernel
theorem hV_X5_in : yX5_in.cls = RX5 ∧ yX5_in.cls ≠ "java/lang/invoke/MethodHandle" ∧ yX5_in.cls ≠ "java/lang/invoke/VarHandle" ∧ (parseMethodDescriptor yX5_in.desc).map (fun d => d.parameters.length) = some 3 := ⟨rfl, hd_X5_in⟩
theorem hd_X5_down : yX5_down.cls ≠ "java/lang/invoke/MethodHandle" ∧ yX5_down.cls ≠ "java/lang/invoke/VarHandle" ∧ (parseMethodDescriptor yX5_down.desc).map (fun d => d.parameters.length) = some 2 := by decide +kernel
theorem hV_X5_down : yX5_down.cls = RX5 ∧ yX5_down.cls ≠ "java/lang/invoke/MethodHandle" ∧ yX5_down.cls ≠ "java/lang/invoke/VarHandle" ∧ (parseMethodDescriptor yX5_down.desc).map (fun d => d.parameters.length) = some 2 := ⟨rfl, hd_X5_down⟩
theorem hd_X5_size : yX5_size.cls ≠ "java/lang/invoke/MethodHandle" ∧ yX5_size.cls ≠ "java/lang/invoke/VarHandle" ∧ (parseMethodDescriptor yX5_size.desc).map (fun d => d.parameters.length) = some 1 := by decide +kernel
theorem hV_X5_size : yX5_size.cls = RX5 ∧ yX5_size.cls ≠ "java/lang/invoke/MethodHandle" ∧ yX5_size.cls ≠ "java/lang/invoke/VarHandle" ∧ (parseMethodDescriptor yX5_size.desc).map (fun d => d.parameters.length) = some 1 := ⟨rfl, hd_X5_size⟩
theorem hd_X5_kept : yX5_kept.cls ≠ "java/lang/invoke/MethodHandle" ∧ yX5_kept.cls ≠ "java/lang/invoke/VarHandle" ∧ (parseMethodDescriptor yX5_kept.desc).map (fun d => d.parameters.length) = some 2 := by decide +kernel
theorem hV_X5_kept : yX5_kept.cls = RX5 ∧ yX5_kept.cls ≠ "java/lang/invoke/MethodHandle" ∧ yX5_kept.cls ≠ "java/lang/invoke/VarHandle" ∧ (parseMethodDescriptor yX5_kept.desc).map (fun d => d.parameters.length) = some 2 := ⟨rfl, hd_X5_kept⟩
theorem hd_X5_begin : yX5_begin.cls ≠ "java/lang/invoke/MethodHandle" ∧ yX5_begin.cls ≠ "java/lang/invoke/VarHandle" ∧ (parseMethodDescriptor yX5_begin.desc).map (fun d => d.parameters.length) = some 1 := by decide +kernel
theorem hV_X5_begin : yX5_begin.cls = RX5 ∧ yX5_begin.cls ≠ "java/lang/invoke/MethodHandle" ∧ yX5_begin.cls ≠ "java/lang/invoke/VarHandle" ∧ (parseMethodDescriptor yX5_begin.desc).map (fun d => d.parameters.length) = some 1 := ⟨rfl, hd_X5_begin⟩
theorem hd_X5_reset : yX5_reset.cls ≠ "java/lang/invoke/MethodHandle" ∧ yX5_reset.cls ≠ "java/lang/invoke/VarHandle" ∧ (parseMethodDescriptor yX5_reset.desc).map (fun d => d.parameters.length) = some 1 := by decide +kernel
theorem hV_X5_reset : yX5_reset.cls = RX5 ∧ yX5_reset.cls ≠ "java/lang/invoke/MethodHandle" ∧ yX5_reset.cls ≠ "java/lang/invoke/VarHandle" ∧ (parseMethodDescriptor yX5_reset.desc).map (fun d => d.parameters.length) = some 1 := ⟨rfl, hd_X5_reset⟩
theorem hd_X5_noSample : yX5_noSample.cls ≠ "java/lang/invoke/MethodHandle" ∧ yX5_noSample.cls ≠ "java/lang/invoke/VarHandle" ∧ (parseMethodDescriptor yX5_noSample.desc).map (fun d => d.parameters.length) = some 1 := by decide +kernel
theorem hV_X5_noSample : yX5_noSample.cls = RX5 ∧ yX5_noSample.cls ≠ "java/lang/invoke/MethodHandle" ∧ yX5_noSample.cls ≠ "java/lang/invoke/VarHandle" ∧ (parseMethodDescriptor yX5_noSample.desc).map (fun d => d.parameters.length) = some 1 := ⟨rfl, hd_X5_noSample⟩
theorem hd_X5_setReference : yX5_setReference.cls ≠ "java/lang/invoke/MethodHandle" ∧ yX5_setReference.cls ≠ "java/lang/invoke/VarHandle" ∧ (parseMethodDescriptor yX5_setReference.desc).map (fun d => d.parameters.length) = some 2 := by decide +kernel
theorem hV_X5_setReference : yX5_setReference.cls = RX5 ∧ yX5_setReference.cls ≠ "java/lang/invoke/MethodHandle" ∧ yX5_setReference.cls ≠ "java/lang/invoke/VarHandle" ∧ (parseMethodDescriptor yX5_setReference.desc).map (fun d => d.parameters.length) = some 2 := ⟨rfl, hd_X5_setReference⟩
theorem hd_X5_setGain : yX5_setGain.cls ≠ "java/lang/invoke/MethodHandle" ∧ yX5_setGain.cls ≠ "java/lang/invoke/VarHandle" ∧ (parseMethodDescriptor yX5_setGain.desc).map (fun d => d.parameters.length) = some 2 := by decide +kernel
theorem hV_X5_setGain : yX5_setGain.cls = RX5 ∧ yX5_setGain.cls ≠ "java/lang/invoke/MethodHandle" ∧ yX5_setGain.cls ≠ "java/lang/invoke/VarHandle" ∧ (parseMethodDescriptor yX5_setGain.desc).map (fun d => d.parameters.length) = some 2 := ⟨rfl, hd_X5_setGain⟩
theorem hd_X5_setSmoothing : yX5_setSmoothing.cls ≠ "java/lang/invoke/MethodHandle" ∧ yX5_setSmoothing.cls ≠ "java/lang/invoke/VarHandle" ∧ (parseMethodDescriptor yX5_setSmoothing.desc).map (fun d => d.parameters.length) = some 2 := by decide +kernel
theorem hV_X5_setSmoothing : yX5_setSmoothing.cls = RX5 ∧ yX5_setSmoothing.cls ≠ "java/lang/invoke/MethodHandle" ∧ yX5_setSmoothing.cls ≠ "java/lang/invoke/VarHandle" ∧ (parseMethodDescriptor yX5_setSmoothing.desc).map (fun d => d.parameters.length) = some 2 := ⟨rfl, hd_X5_setSmoothing⟩
theorem hd_X5_setLimits : yX5_setLimits.cls ≠ "java/lang/invoke/MethodHandle" ∧ yX5_setLimits.cls ≠ "java/lang/invoke/VarHandle" ∧ (parseMethodDescriptor yX5_setLimits.desc).map (fun d => d.parameters.length) = some 2 := by decide +kernel
theorem hV_X5_setLimits : yX5_setLimits.cls = RX5 ∧ yX5_setLimits.cls ≠ "java/lang/invoke/MethodHandle" ∧ yX5_setLimits.cls ≠ "java/lang/invoke/VarHandle" ∧ (parseMethodDescriptor yX5_setLimits.desc).map (fun d => d.parameters.length) = some 2 := ⟨rfl, hd_X5_setLimits⟩
theorem hd_X5_setGreatestShift : yX5_setGreatestShift.cls ≠ "java/lang/invoke/MethodHandle" ∧ yX5_setGreatestShift.cls ≠ "java/lang/invoke/VarHandle" ∧ (parseMethodDescriptor yX5_setGreatestShift.desc).map (fun d => d.parameters.length) = some 1 := by decide +kernel
theorem hV_X5_setGreatestShift : yX5_setGreatestShift.cls = RX5 ∧ yX5_setGreatestShift.cls ≠ "java/lang/invoke/MethodHandle" ∧ yX5_setGreatestShift.cls ≠ "java/lang/invoke/VarHandle" ∧ (parseMethodDescriptor yX5_setGreatestShift.desc).map (fun d => d.parameters.length) = some 1 := ⟨rfl, hd_X5_setGreatestShift⟩
theorem hd_X5_setTolerance : yX5_setTolerance.cls ≠ "java/lang/invoke/MethodHandle" ∧ yX5_setTolerance.cls ≠ "java/lang/invoke/VarHandle" ∧ (parseMethodDescriptor yX5_setTolerance.desc).map (fun d => d.parameters.length) = some 2 := by decide +kernel
theorem hV_X5_setTolerance : yX5_setTolerance.cls = RX5 ∧ yX5_setTolerance.cls ≠ "java/lang/invoke/MethodHandle" ∧ yX5_setTolerance.cls ≠ "java/lang/invoke/VarHandle" ∧ (parseMethodDescriptor yX5_setTolerance.desc).map (fun d => d.parameters.length) = some 2 := ⟨rfl, hd_X5_setTolerance⟩
theorem hd_X5_setGuard : yX5_setGuard.cls ≠ "java/lang/invoke/MethodHandle" ∧ yX5_setGuard.cls ≠ "java/lang/invoke/VarHandle" ∧ (parseMethodDescriptor yX5_setGuard.desc).map (fun d => d.parameters.length) = some 1 := by decide +kernel
theorem hV_X5_setGuard : yX5_setGuard.cls = RX5 ∧ yX5_setGuard.cls ≠ "java/lang/invoke/MethodHandle" ∧ yX5_setGuard.cls ≠ "java/lang/invoke/VarHandle" ∧ (parseMethodDescriptor yX5_setGuard.desc).map (fun d => d.parameters.length) = some 1 := ⟨rfl, hd_X5_setGuard⟩
theorem hd_X5_setting : yX5_setting.cls ≠ "java/lang/invoke/MethodHandle" ∧ yX5_setting.cls ≠ "java/lang/invoke/VarHandle" ∧ (parseMethodDescriptor yX5_setting.desc).map (fun d => d.parameters.length) = some 1 := by decide +kernel
theorem hV_X5_setting : yX5_setting.cls = RX5 ∧ yX5_setting.cls ≠ "java/lang/invoke/MethodHandle" ∧ yX5_setting.cls ≠ "java/lang/invoke/VarHandle" ∧ (parseMethodDescriptor yX5_setting.desc).map (fun d => d.parameters.length) = some 1 := ⟨rfl, hd_X5_setting⟩
theorem hd_X5_correct : yX5_correct.cls ≠ "java/lang/invoke/MethodHandle" ∧ yX5_correct.cls ≠ "java/lang/invoke/VarHandle" ∧ (parseMethodDescriptor yX5_correct.desc).map (fun d => d.parameters.length) = some 2 := by decide +kernel
theorem hV_X5_correct : yX5_correct.cls = RX5 ∧ yX5_correct.cls ≠ "java/lang/invoke/MethodHandle" ∧ yX5_correct.cls ≠ "java/lang/invoke/VarHandle" ∧ (parseMethodDescriptor yX5_correct.desc).map (fun d => d.parameters.length) = some 2 := ⟨rfl, hd_X5_correct⟩
theorem hd_X5_smooth : yX5_smooth.cls ≠ "java/lang/invoke/MethodHandle" ∧ yX5_smooth.cls ≠ "java/lang/invoke/VarHandle" ∧ (parseMethodDescriptor yX5_smooth.desc).map (fun d => d.parameters.length) = some 0 := by decide +kernel
theorem hV_X5_smooth : yX5_smooth.cls = RX5 ∧ yX5_smooth.cls ≠ "java/lang/invoke/MethodHandle" ∧ yX5_smooth.cls ≠ "java/lang/invoke/VarHandle" ∧ (parseMethodDescriptor yX5_smooth.desc).map (fun d => d.parameters.length) = some 0 := ⟨rfl, hd_X5_smooth⟩
theorem hd_X5_rawAt : yX5_rawAt.cls ≠ "java/lang/invoke/MethodHandle" ∧ yX5_rawAt.cls ≠ "java/lang/invoke/VarHandle" ∧ (parseMethodDescriptor yX5_rawAt.desc).map (fun d => d.parameters.length) = some 1 := by decide +kernel
theorem hV_X5_rawAt : yX5_rawAt.cls = RX5 ∧ yX5_rawAt.cls ≠ "java/lang/invoke/MethodHandle" ∧ yX5_rawAt.cls ≠ "java/lang/invoke/VarHandle" ∧ (parseMethodDescriptor yX5_rawAt.desc).map (fun d => d.parameters.length) = some 1 := ⟨rfl, hd_X5_rawAt⟩
theorem hd_X5_unlike : yX5_unlike.cls ≠ "java/lang/invoke/MethodHandle" ∧ yX5_unlike.cls ≠ "java/lang/invoke/VarHandle" ∧ (parseMethodDescriptor yX5_unlike.desc).map (fun d => d.parameters.length) = some 1 := by decide +kernel
theorem hV_X5_unlike : yX5_unlike.cls = RX5 ∧ yX5_unlike.cls ≠ "java/lang/invoke/MethodHandle" ∧ yX5_unlike.cls ≠ "java/lang/invoke/VarHandle" ∧ (parseMethodDescriptor yX5_unlike.desc).map (fun d => d.parameters.length) = some 1 := ⟨rfl, hd_X5_unlike⟩
theorem hd_X5_findShift : yX5_findShift.cls ≠ "java/lang/invoke/MethodHandle" ∧ yX5_findShift.cls ≠ "java/lang/invoke/VarHandle" ∧ (parseMethodDescriptor yX5_findShift.desc).map (fun d => d.parameters.length) = some 0 := by decide +kernel
theorem hV_X5_findShift : yX5_findShift.cls = RX5 ∧ yX5_findShift.cls ≠ "java/lang/invoke/MethodHandle" ∧ yX5_findShift.cls ≠ "java/lang/invoke/VarHandle" ∧ (parseMethodDescriptor yX5_findShift.desc).map (fun d => d.parameters.length) = some 0 := ⟨rfl, hd_X5_findShift⟩
theorem hd_X5_makeRoom : yX5_makeRoom.cls ≠ "java/lang/invoke/MethodHandle" ∧ yX5_makeRoom.cls ≠ "java/lang/invoke/VarHandle" ∧ (parseMethodDescriptor yX5_makeRoom.desc).map (fun d => d.parameters.length) = some 0 := by decide +kernel
theorem hV_X5_makeRoom : yX5_makeRoom.cls = RX5 ∧ yX5_makeRoom.cls ≠ "java/lang/invoke/MethodHandle" ∧ yX5_makeRoom.cls ≠ "java/lang/invoke/VarHandle" ∧ (parseMethodDescriptor yX5_makeRoom.desc).map (fun d => d.parameters.length) = some 0 := ⟨rfl, hd_X5_makeRoom⟩
theorem hd_X5_finish : yX5_finish.cls ≠ "java/lang/invoke/MethodHandle" ∧ yX5_finish.cls ≠ "java/lang/invoke/VarHandle" ∧ (parseMethodDescriptor yX5_finish.desc).map (fun d => d.parameters.length) = some 0 := by decide +kernel
theorem hV_X5_finish : yX5_finish.cls = RX5 ∧ yX5_finish.cls ≠ "java/lang/invoke/MethodHandle" ∧ yX5_finish.cls ≠ "java/lang/invoke/VarHandle" ∧ (parseMethodDescriptor yX5_finish.desc).map (fun d => d.parameters.length) = some 0 := ⟨rfl, hd_X5_finish⟩
theorem hd_X5_rate : yX5_rate.cls ≠ "java/lang/invoke/MethodHandle" ∧ yX5_rate.cls ≠ "java/lang/invoke/VarHandle" ∧ (parseMethodDescriptor yX5_rate.desc).map (fun d => d.parameters.length) = some 1 := by decide +kernel
theorem hV_X5_rate : yX5_rate.cls = RX5 ∧ yX5_rate.cls ≠ "java/lang/invoke/MethodHandle" ∧ yX5_rate.cls ≠ "java/lang/invoke/VarHandle" ∧ (parseMethodDescriptor yX5_rate.desc).map (fun d => d.parameters.length) = some 1 := ⟨rfl, hd_X5_rate⟩
theorem hd_X5_startTrial : yX5_startTrial.cls ≠ "java/lang/invoke/MethodHandle" ∧ yX5_startTrial.cls ≠ "java/lang/invoke/VarHandle" ∧ (parseMethodDescriptor yX5_startTrial.desc).map (fun d => d.parameters.length) = some 0 := by decide +kernel
theorem hV_X5_startTrial : yX5_startTrial.cls = RX5 ∧ yX5_startTrial.cls ≠ "java/lang/invoke/MethodHandle" ∧ yX5_startTrial.cls ≠ "java/lang/invoke/VarHandle" ∧ (parseMethodDescriptor yX5_startTrial.desc).map (fun d => d.parameters.length) = some 0 := ⟨rfl, hd_X5_startTrial⟩
theorem hd_X5_record : yX5_record.cls ≠ "java/lang/invoke/MethodHandle" ∧ yX5_record.cls ≠ "java/lang/invoke/VarHandle" ∧ (parseMethodDescriptor yX5_record.desc).map (fun d => d.parameters.length) = some 1 := by decide +kernel
theorem hV_X5_record : yX5_record.cls = RX5 ∧ yX5_record.cls ≠ "java/lang/invoke/MethodHandle" ∧ yX5_record.cls ≠ "java/lang/invoke/VarHandle" ∧ (parseMethodDescriptor yX5_record.desc).map (fun d => d.parameters.length) = some 1 := ⟨rfl, hd_X5_record⟩
theorem hd_X5_abort : yX5_abort.cls ≠ "java/lang/invoke/MethodHandle" ∧ yX5_abort.cls ≠ "java/lang/invoke/VarHandle" ∧ (parseMethodDescriptor yX5_abort.desc).map (fun d => d.parameters.length) = some 0 := by decide +kernel
theorem hV_X5_abort : yX5_abort.cls = RX5 ∧ yX5_abort.cls ≠ "java/lang/invoke/MethodHandle" ∧ yX5_abort.cls ≠ "java/lang/invoke/VarHandle" ∧ (parseMethodDescriptor yX5_abort.desc).map (fun d => d.parameters.length) = some 0 := ⟨rfl, hd_X5_abort⟩
theorem hd_X5_position : yX5_position.cls ≠ "java/lang/invoke/MethodHandle" ∧ yX5_position.cls ≠ "java/lang/invoke/VarHandle" ∧ (parseMethodDescriptor yX5_position.desc).map (fun d => d.parameters.length) = some 0 := by decide +kernel
theorem hV_X5_position : yX5_position.cls = RX5 ∧ yX5_position.cls ≠ "java/lang/invoke/MethodHandle" ∧ yX5_position.cls ≠ "java/lang/invoke/VarHandle" ∧ (parseMethodDescriptor yX5_position.desc).map (fun d => d.parameters.length) = some 0 := ⟨rfl, hd_X5_position⟩
theorem hd_X5_input : yX5_input.cls ≠ "java/lang/invoke/MethodHandle" ∧ yX5_input.cls ≠ "java/lang/invoke/VarHandle" ∧ (parseMethodDescriptor yX5_input.desc).map (fun d => d.parameters.length) = some 1 := by decide +kernel
theorem hV_X5_input : yX5_input.cls = RX5 ∧ yX5_input.cls ≠ "java/lang/invoke/MethodHandle" ∧ yX5_input.cls ≠ "java/lang/invoke/VarHandle" ∧ (parseMethodDescriptor yX5_input.desc).map (fun d => d.parameters.length) = some 1 := ⟨rfl, hd_X5_input⟩
theorem hd_X5_setInput : yX5_setInput.cls ≠ "java/lang/invoke/MethodHandle" ∧ yX5_setInput.cls ≠ "java/lang/invoke/VarHandle" ∧ (parseMethodDescriptor yX5_setInput.desc).map (fun d => d.parameters.length) = some 2 := by decide +kernel
theorem hV_X5_setInput : yX5_setInput.cls = RX5 ∧ yX5_setInput.cls ≠ "java/lang/invoke/MethodHandle" ∧ yX5_setInput.cls ≠ "java/lang/invoke/VarHandle" ∧ (parseMethodDescriptor yX5_setInput.desc).map (fun d => d.parameters.length) = some 2 := ⟨rfl, hd_X5_setInput⟩
theorem hd_X5_reference : yX5_reference.cls ≠ "java/lang/invoke/MethodHandle" ∧ yX5_reference.cls ≠ "java/lang/invoke/VarHandle" ∧ (parseMethodDescriptor yX5_reference.desc).map (fun d => d.parameters.length) = some 1 := by decide +kernel
theorem hV_X5_reference : yX5_reference.cls = RX5 ∧ yX5_reference.cls ≠ "java/lang/invoke/MethodHandle" ∧ yX5_reference.cls ≠ "java/lang/invoke/VarHandle" ∧ (parseMethodDescriptor yX5_reference.desc).map (fun d => d.parameters.length) = some 1 := ⟨rfl, hd_X5_reference⟩
theorem hd_X5_count : yX5_count.cls ≠ "java/lang/invoke/MethodHandle" ∧ yX5_count.cls ≠ "java/lang/invoke/VarHandle" ∧ (parseMethodDescriptor yX5_count.desc).map (fun d => d.parameters.length) = some 1 := by decide +kernel
theorem hV_X5_count : yX5_count.cls = RX5 ∧ yX5_count.cls ≠ "java/lang/invoke/MethodHandle" ∧ yX5_count.cls ≠ "java/lang/invoke/VarHandle" ∧ (parseMethodDescriptor yX5_count.desc).map (fun d => d.parameters.length) = some 1 := ⟨rfl, hd_X5_count⟩
theorem hd_X5_isAge : yX5_isAge.cls ≠ "java/lang/invoke/MethodHandle" ∧ yX5_isAge.cls ≠ "java/lang/invoke/VarHandle" ∧ (parseMethodDescriptor yX5_isAge.desc).map (fun d => d.parameters.length) = some 1 := by decide +kernel
theorem hV_X5_isAge : yX5_isAge.cls = RX5 ∧ yX5_isAge.cls ≠ "java/lang/invoke/MethodHandle" ∧ yX5_isAge.cls ≠ "java/lang/invoke/VarHandle" ∧ (parseMethodDescriptor yX5_isAge.desc).map (fun d => d.parameters.length) = some 1 := ⟨rfl, hd_X5_isAge⟩
theorem hd_X5_error : yX5_error.cls ≠ "java/lang/invoke/MethodHandle" ∧ yX5_error.cls ≠ "java/lang/invoke/VarHandle" ∧ (parseMethodDescriptor yX5_error.desc).map (fun d => d.parameters.length) = some 2 := by decide +kernel
theorem hV_X5_error : yX5_error.cls = RX5 ∧ yX5_error.cls ≠ "java/lang/invoke/MethodHandle" ∧ yX5_error.cls ≠ "java/lang/invoke/VarHandle" ∧ (parseMethodDescriptor yX5_error.desc).map (fun d => d.parameters.length) = some 2 := ⟨rfl, hd_X5_error⟩
theorem hd_X5_norm : yX5_norm.cls ≠ "java/lang/invoke/MethodHandle" ∧ yX5_norm.cls ≠ "java/lang/invoke/VarHandle" ∧ (parseMethodDescriptor yX5_norm.desc).map (fun d => d.parameters.length) = some 1 := by decide +kernel
theorem hV_X5_norm : yX5_norm.cls = RX5 ∧ yX5_norm.cls ≠ "java/lang/invoke/MethodHandle" ∧ yX5_norm.cls ≠ "java/lang/invoke/VarHandle" ∧ (parseMethodDescriptor yX5_norm.desc).map (fun d => d.parameters.length) = some 1 := ⟨rfl, hd_X5_norm⟩
theorem hd_X5_shift : yX5_shift.cls ≠ "java/lang/invoke/MethodHandle" ∧ yX5_shift.cls ≠ "java/lang/invoke/VarHandle" ∧ (parseMethodDescriptor yX5_shift.desc).map (fun d => d.parameters.length) = some 1 := by decide +kernel
theorem hV_X5_shift : yX5_shift.cls = RX5 ∧ yX5_shift.cls ≠ "java/lang/invoke/MethodHandle" ∧ yX5_shift.cls ≠ "java/lang/invoke/VarHandle" ∧ (parseMethodDescriptor yX5_shift.desc).map (fun d => d.parameters.length) = some 1 := ⟨rfl, hd_X5_shift⟩
theorem hd_X5_worstSample : yX5_worstSample.cls ≠ "java/lang/invoke/MethodHandle" ∧ yX5_worstSample.cls ≠ "java/lang/invoke/VarHandle" ∧ (parseMethodDescriptor yX5_worstSample.desc).map (fun d => d.parameters.length) = some 1 := by decide +kernel
theorem hV_X5_worstSample : yX5_worstSample.cls = RX5 ∧ yX5_worstSample.cls ≠ "java/lang/invoke/MethodHandle" ∧ yX5_worstSample.cls ≠ "java/lang/invoke/VarHandle" ∧ (parseMethodDescriptor yX5_worstSample.desc).map (fun d => d.parameters.length) = some 1 := ⟨rfl, hd_X5_worstSample⟩
theorem hd_X5_energy : yX5_energy.cls ≠ "java/lang/invoke/MethodHandle" ∧ yX5_energy.cls ≠ "java/lang/invoke/VarHandle" ∧ (parseMethodDescriptor yX5_energy.desc).map (fun d => d.parameters.length) = some 1 := by decide +kernel
theorem hV_X5_energy : yX5_energy.cls = RX5 ∧ yX5_energy.cls ≠ "java/lang/invoke/MethodHandle" ∧ yX5_energy.cls ≠ "java/lang/invoke/VarHandle" ∧ (parseMethodDescriptor yX5_energy.desc).map (fun d => d.parameters.length) = some 1 := ⟨rfl, hd_X5_energy⟩
theorem hd_X5_best : yX5_best.cls ≠ "java/lang/invoke/MethodHandle" ∧ yX5_best.cls ≠ "java/lang/invoke/VarHandle" ∧ (parseMethodDescriptor yX5_best.desc).map (fun d => d.parameters.length) = some 1 := by decide +kernel
theorem hV_X5_best : yX5_best.cls = RX5 ∧ yX5_best.cls ≠ "java/lang/invoke/MethodHandle" ∧ yX5_best.cls ≠ "java/lang/invoke/VarHandle" ∧ (parseMethodDescriptor yX5_best.desc).map (fun d => d.parameters.length) = some 1 := ⟨rfl, hd_X5_best⟩
theorem hd_X5_bestInput : yX5_bestInput.cls ≠ "java/lang/invoke/MethodHandle" ∧ yX5_bestInput.cls ≠ "java/lang/invoke/VarHandle" ∧ (parseMethodDescriptor yX5_bestInput.desc).map (fun d => d.parameters.length) = some 1 := by decide +kernel
theorem hV_X5_bestInput : yX5_bestInput.cls = RX5 ∧ yX5_bestInput.cls ≠ "java/lang/invoke/MethodHandle" ∧ yX5_bestInput.cls ≠ "java/lang/invoke/VarHandle" ∧ (parseMethodDescriptor yX5_bestInput.desc).map (fun d => d.parameters.length) = some 1 := ⟨rfl, hd_X5_bestInput⟩
theorem hd_X5_isSteady : yX5_isSteady.cls ≠ "java/lang/invoke/MethodHandle" ∧ yX5_isSteady.cls ≠ "java/lang/invoke/VarHandle" ∧ (parseMethodDescriptor yX5_isSteady.desc).map (fun d => d.parameters.length) = some 1 := by decide +kernel
theorem hV_X5_isSteady : yX5_isSteady.cls = RX5 ∧ yX5_isSteady.cls ≠ "java/lang/invoke/MethodHandle" ∧ yX5_isSteady.cls ≠ "java/lang/invoke/VarHandle" ∧ (parseMethodDescriptor yX5_isSteady.desc).map (fun d => d.parameters.length) = some 1 := ⟨rfl, hd_X5_isSteady⟩
theorem hd_X5_state : yX5_state.cls ≠ "java/lang/invoke/MethodHandle" ∧ yX5_state.cls ≠ "java/lang/invoke/VarHandle" ∧ (parseMethodDescriptor yX5_state.desc).map (fun d => d.parameters.length) = some 1 := by decide +kernel
theorem hV_X5_state : yX5_state.cls = RX5 ∧ yX5_state.cls ≠ "java/lang/invoke/MethodHandle" ∧ yX5_state.cls ≠ "java/lang/invoke/VarHandle" ∧ (parseMethodDescriptor yX5_state.desc).map (fun d => d.parameters.length) = some 1 := ⟨rfl, hd_X5_state⟩
theorem hd_X5_convergedCount : yX5_convergedCount.cls ≠ "java/lang/invoke/MethodHandle" ∧ yX5_convergedCount.cls ≠ "java/lang/invoke/VarHandle" ∧ (parseMethodDescriptor yX5_convergedCount.desc).map (fun d => d.parameters.length) = some 0 := by decide +kernel
theorem hV_X5_convergedCount : yX5_convergedCount.cls = RX5 ∧ yX5_convergedCount.cls ≠ "java/lang/invoke/MethodHandle" ∧ yX5_convergedCount.cls ≠ "java/lang/invoke/VarHandle" ∧ (parseMethodDescriptor yX5_convergedCount.desc).map (fun d => d.parameters.length) = some 0 := ⟨rfl, hd_X5_convergedCount⟩
theorem hd_X5_setPlant : yX5_setPlant.cls ≠ "java/lang/invoke/MethodHandle" ∧ yX5_setPlant.cls ≠ "java/lang/invoke/VarHandle" ∧ (parseMethodDescriptor yX5_setPlant.desc).map (fun d => d.parameters.length) = some 2 := by decide +kernel
theorem hV_X5_setPlant : yX5_setPlant.cls = RX5 ∧ yX5_setPlant.cls ≠ "java/lang/invoke/MethodHandle" ∧ yX5_setPlant.cls ≠ "java/lang/invoke/VarHandle" ∧ (parseMethodDescriptor yX5_setPlant.desc).map (fun d => d.parameters.length) = some 2 := ⟨rfl, hd_X5_setPlant⟩
theorem hd_X5_setDisturbance : yX5_setDisturbance.cls ≠ "java/lang/invoke/MethodHandle" ∧ yX5_setDisturbance.cls ≠ "java/lang/invoke/VarHandle" ∧ (parseMethodDescriptor yX5_setDisturbance.desc).map (fun d => d.parameters.length) = some 2 := by decide +kernel
theorem hV_X5_setDisturbance : yX5_setDisturbance.cls = RX5 ∧ yX5_setDisturbance.cls ≠ "java/lang/invoke/MethodHandle" ∧ yX5_setDisturbance.cls ≠ "java/lang/invoke/VarHandle" ∧ (parseMethodDescriptor yX5_setDisturbance.desc).map (fun d => d.parameters.length) = some 2 := ⟨rfl, hd_X5_setDisturbance⟩
theorem hd_X5_outputOf : yX5_outputOf.cls ≠ "java/lang/invoke/MethodHandle" ∧ yX5_outputOf.cls ≠ "java/lang/invoke/VarHandle" ∧ (parseMethodDescriptor yX5_outputOf.desc).map (fun d => d.parameters.length) = some 1 := by decide +kernel
theorem hV_X5_outputOf : yX5_outputOf.cls = RX5 ∧ yX5_outputOf.cls ≠ "java/lang/invoke/MethodHandle" ∧ yX5_outputOf.cls ≠ "java/lang/invoke/VarHandle" ∧ (parseMethodDescriptor yX5_outputOf.desc).map (fun d => d.parameters.length) = some 1 := ⟨rfl, hd_X5_outputOf⟩
theorem hd_X5_simulate : yX5_simulate.cls ≠ "java/lang/invoke/MethodHandle" ∧ yX5_simulate.cls ≠ "java/lang/invoke/VarHandle" ∧ (parseMethodDescriptor yX5_simulate.desc).map (fun d => d.parameters.length) = some 1 := by decide +kernel
theorem hV_X5_simulate : yX5_simulate.cls = RX5 ∧ yX5_simulate.cls ≠ "java/lang/invoke/MethodHandle" ∧ yX5_simulate.cls ≠ "java/lang/invoke/VarHandle" ∧ (parseMethodDescriptor yX5_simulate.desc).map (fun d => d.parameters.length) = some 1 := ⟨rfl, hd_X5_simulate⟩
theorem hd_X5_suits : yX5_suits.cls ≠ "java/lang/invoke/MethodHandle" ∧ yX5_suits.cls ≠ "java/lang/invoke/VarHandle" ∧ (parseMethodDescriptor yX5_suits.desc).map (fun d => d.parameters.length) = some 0 := by decide +kernel
theorem hV_X5_suits : yX5_suits.cls = RX5 ∧ yX5_suits.cls ≠ "java/lang/invoke/MethodHandle" ∧ yX5_suits.cls ≠ "java/lang/invoke/VarHandle" ∧ (parseMethodDescriptor yX5_suits.desc).map (fun d => d.parameters.length) = some 0 := ⟨rfl, hd_X5_suits⟩
theorem hd_J9_floorDiv_f86c9 : yJ9_floorDiv_f86c9.cls ≠ "java/lang/invoke/MethodHandle" ∧ yJ9_floorDiv_f86c9.cls ≠ "java/lang/invoke/VarHandle" ∧ (parseMethodDescriptor yJ9_floorDiv_f86c9.desc).map (fun d => d.parameters.length) = some 2 := by decide +kernel
theorem hV_J9_floorDiv_f86c9 : yJ9_floorDiv_f86c9.cls = RJ9 ∧ yJ9_floorDiv_f86c9.cls ≠ "java/lang/invoke/MethodHandle" ∧ yJ9_floorDiv_f86c9.cls ≠ "java/lang/invoke/VarHandle" ∧ (parseMethodDescriptor yJ9_floorDiv_f86c9.desc).map (fun d => d.parameters.length) = some 2 := ⟨rfl, hd_J9_floorDiv_f86c9⟩
theorem hd_J9_floorMod_7cf53 : yJ9_floorMod_7cf53.cls ≠ "java/lang/invoke/MethodHandle" ∧ yJ9_floorMod_7cf53.cls ≠ "java/lang/invoke/VarHandle" ∧ (parseMethodDescriptor yJ9_floorMod_7cf53.desc).map (fun d => d.parameters.length) = some 2 := by decide +kernel
theorem hV_J9_floorMod_7cf53 : yJ9_floorMod_7cf53.cls = RJ9 ∧ yJ9_floorMod_7cf53.cls ≠ "java/lang/invoke/MethodHandle" ∧ yJ9_floorMod_7cf53.cls ≠ "java/lang/invoke/VarHandle" ∧ (parseMethodDescriptor yJ9_floorMod_7cf53.desc).map (fun d => d.parameters.length) = some 2 := ⟨rfl, hd_J9_floorMod_7cf53⟩
theorem hd_J9_abs_0f7a4 : yJ9_abs_0f7a4.cls ≠ "java/lang/invoke/MethodHandle" ∧ yJ9_abs_0f7a4.cls ≠ "java/lang/invoke/VarHandle" ∧ (parseMethodDescriptor yJ9_abs_0f7a4.desc).map (fun d => d.parameters.length) = some 1 := by decide +kernel
theorem hV_J9_abs_0f7a4 : yJ9_abs_0f7a4.cls = RJ9 ∧ yJ9_abs_0f7a4.cls ≠ "java/lang/invoke/MethodHandle" ∧ yJ9_abs_0f7a4.cls ≠ "java/lang/invoke/VarHandle" ∧ (parseMethodDescriptor yJ9_abs_0f7a4.desc).map (fun d => d.parameters.length) = some 1 := ⟨rfl, hd_J9_abs_0f7a4⟩
theorem hd_J9_abs_067f4 : yJ9_abs_067f4.cls ≠ "java/lang/invoke/MethodHandle" ∧ yJ9_abs_067f4.cls ≠ "java/lang/invoke/VarHandle" ∧ (parseMethodDescriptor yJ9_abs_067f4.desc).map (fun d => d.parameters.length) = some 1 := by decide +kernel
theorem hV_J9_abs_067f4 : yJ9_abs_067f4.cls = RJ9 ∧ yJ9_abs_067f4.cls ≠ "java/lang/invoke/MethodHandle" ∧ yJ9_abs_067f4.cls ≠ "java/lang/invoke/VarHandle" ∧ (parseMethodDescriptor yJ9_abs_067f4.desc).map (fun d => d.parameters.length) = some 1 := ⟨rfl, hd_J9_abs_067f4⟩
theorem hd_J9_max_7cf53 : yJ9_max_7cf53.cls ≠ "java/lang/invoke/MethodHandle" ∧ yJ9_max_7cf53.cls ≠ "java/lang/invoke/VarHandle" ∧ (parseMethodDescriptor yJ9_max_7cf53.desc).map (fun d => d.parameters.length) = some 2 := by decide +kernel
theorem hV_J9_max_7cf53 : yJ9_max_7cf53.cls = RJ9 ∧ yJ9_max_7cf53.cls ≠ "java/lang/invoke/MethodHandle" ∧ yJ9_max_7cf53.cls ≠ "java/lang/invoke/VarHandle" ∧ (parseMethodDescriptor yJ9_max_7cf53.desc).map (fun d => d.parameters.length) = some 2 := ⟨rfl, hd_J9_max_7cf53⟩
theorem hd_J9_max_f86c9 : yJ9_max_f86c9.cls ≠ "java/lang/invoke/MethodHandle" ∧ yJ9_max_f86c9.cls ≠ "java/lang/invoke/VarHandle" ∧ (parseMethodDescriptor yJ9_max_f86c9.desc).map (fun d => d.parameters.length) = some 2 := by decide +kernel
theorem hV_J9_max_f86c9 : yJ9_max_f86c9.cls = RJ9 ∧ yJ9_max_f86c9.cls ≠ "java/lang/invoke/MethodHandle" ∧ yJ9_max_f86c9.cls ≠ "java/lang/invoke/VarHandle" ∧ (parseMethodDescriptor yJ9_max_f86c9.desc).map (fun d => d.parameters.length) = some 2 := ⟨rfl, hd_J9_max_f86c9⟩
theorem hd_J9_min_7cf53 : yJ9_min_7cf53.cls ≠ "java/lang/invoke/MethodHandle" ∧ yJ9_min_7cf53.cls ≠ "java/lang/invoke/VarHandle" ∧ (parseMethodDescriptor yJ9_min_7cf53.desc).map (fun d => d.parameters.length) = some 2 := by decide +kernel
theorem hV_J9_min_7cf53 : yJ9_min_7cf53.cls = RJ9 ∧ yJ9_min_7cf53.cls ≠ "java/lang/invoke/MethodHandle" ∧ yJ9_min_7cf53.cls ≠ "java/lang/invoke/VarHandle" ∧ (parseMethodDescriptor yJ9_min_7cf53.desc).map (fun d => d.parameters.length) = some 2 := ⟨rfl, hd_J9_min_7cf53⟩
theorem hd_J9_min_f86c9 : yJ9_min_f86c9.cls ≠ "java/lang/invoke/MethodHandle" ∧ yJ9_min_f86c9.cls ≠ "java/lang/invoke/VarHandle" ∧ (parseMethodDescriptor yJ9_min_f86c9.desc).map (fun d => d.parameters.length) = some 2 := by decide +kernel
theorem hV_J9_min_f86c9 : yJ9_min_f86c9.cls = RJ9 ∧ yJ9_min_f86c9.cls ≠ "java/lang/invoke/MethodHandle" ∧ yJ9_min_f86c9.cls ≠ "java/lang/invoke/VarHandle" ∧ (parseMethodDescriptor yJ9_min_f86c9.desc).map (fun d => d.parameters.length) = some 2 := ⟨rfl, hd_J9_min_f86c9⟩
theorem hd_J7_fill_53178 : yJ7_fill_53178.cls ≠ "java/lang/invoke/MethodHandle" ∧ yJ7_fill_53178.cls ≠ "java/lang/invoke/VarHandle" ∧ (parseMethodDescriptor yJ7_fill_53178.desc).map (fun d => d.parameters.length) = some 2 := by decide +kernel
theorem hV_J7_fill_53178 : yJ7_fill_53178.cls = RJ7 ∧ yJ7_fill_53178.cls ≠ "java/lang/invoke/MethodHandle" ∧ yJ7_fill_53178.cls ≠ "java/lang/invoke/VarHandle" ∧ (parseMethodDescriptor yJ7_fill_53178.desc).map (fun d => d.parameters.length) = some 2 := ⟨rfl, hd_J7_fill_53178⟩
end
section
theorem dX0_init_0 : decode cX0_init 0 = .ok (.aload_n 0, 1) := by decide +kernel
theorem dX0_init_1 : decode cX0_init 1 = .ok (.invokespecial 3, 3) := by decide +kernel
theorem dX0_init_4 : decode cX0_init 4 = .ok (.aload_n 0, 1) := by decide +kernel
theorem dX0_init_5 : decode cX0_init 5 = .ok (.bipush 48, 2) := by decide +kernel
theorem dX0_init_7 : decode cX0_init 7 = .ok (.newarray .int, 2) := by decide +kernel
theorem dX0_init_9 : decode cX0_init 9 = .ok (.putfield 9, 3) := by decide +kernel
theorem dX0_init_12 : decode cX0_init 12 = .ok (.return_, 1) := by decide +kernel
theorem dX0_remember_0 : decode cX0_remember 0 = .ok (.aload_n 0, 1) := by decide +kernel
theorem dX0_remember_1 : decode cX0_remember 1 = .ok (.iconst 1, 1) := by decide +kernel
theorem dX0_remember_2 : decode cX0_remember 2 = .ok (.putfield 15, 3) := by decide +kernel
theorem dX0_remember_5 : decode cX0_remember 5 = .ok (.aload_n 0, 1) := by decide +kernel
theorem dX0_remember_6 : decode cX0_remember 6 = .ok (.iload_n 1, 1) := by decide +kernel
theorem dX0_remember_7 : decode cX0_remember 7 = .ok (.putfield 19, 3) := by decide +kernel
theorem dX0_remember_10 : decode cX0_remember 10 = .ok (.aload_n 0, 1) := by decide +kernel
theorem dX0_remember_11 : decode cX0_remember 11 = .ok (.iload_n 2, 1) := by decide +kernel
theorem dX0_remember_12 : decode cX0_remember 12 = .ok (.putfield 23, 3) := by decide +kernel
theorem dX0_remember_15 : decode cX0_remember 15 = .ok (.aload_n 3, 1) := by decide +kernel
theorem dX0_remember_16 : decode cX0_remember 16 = .ok (.iconst 0, 1) := by decide +kernel
theorem dX0_remember_17 : decode cX0_remember 17 = .ok (.aload_n 0, 1) := by decide +kernel
theorem dX0_remember_18 : decode cX0_remember 18 = .ok (.getfield 9, 3) := by decide +kernel
theorem dX0_remember_21 : decode cX0_remember 21 = .ok (.iconst 0, 1) := by decide +kernel
theorem dX0_remember_22 : decode cX0_remember 22 = .ok (.bipush 48, 2) := by decide +kernel
theorem dX0_remember_24 : decode cX0_remember 24 = .ok (.invokestatic 26, 3) := by decide +kernel
theorem dX0_remember_27 : decode cX0_remember 27 = .ok (.return_, 1) := by decide +kernel
theorem dX1_init_0 : decode cX1_init 0 = .ok (.aload_n 0, 1) := by decide +kernel
theorem dX1_init_1 : decode cX1_init 1 = .ok (.invokespecial 3, 3) := by decide +kernel
theorem dX1_init_4 : decode cX1_init 4 = .ok (.aload_n 0, 1) := by decide +kernel
theorem dX1_init_5 : decode cX1_init 5 = .ok (.iconst 5, 1) := by decide +kernel
theorem dX1_init_6 : decode cX1_init 6 = .ok (.bipush 48, 2) := by decide +kernel
theorem dX1_init_8 : decode cX1_init 8 = .ok (.multianewarray 11 2, 4) := by decide +kernel
theorem dX1_init_12 : decode cX1_init 12 = .ok (.putfield 13, 3) := by decide +kernel
theorem dX1_init_15 : decode cX1_init 15 = .ok (.aload_n 0, 1) := by decide +kernel
theorem dX1_init_16 : decode cX1_init 16 = .ok (.iconst 5, 1) := by decide +kernel
theorem dX1_init_17 : decode cX1_init 17 = .ok (.newarray .int, 2) := by decide +kernel
theorem dX1_init_19 : decode cX1_init 19 = .ok (.putfield 16, 3) := by decide +kernel
theorem dX1_init_22 : decode cX1_init 22 = .ok (.aload_n 0, 1) := by decide +kernel
theorem dX1_init_23 : decode cX1_init 23 = .ok (.iconst 5, 1) := by decide +kernel
theorem dX1_init_24 : decode cX1_init 24 = .ok (.newarray .int, 2) := by decide +kernel
theorem dX1_init_26 : decode cX1_init 26 = .ok (.putfield 20, 3) := by decide +kernel
theorem dX1_init_29 : decode cX1_init 29 = .ok (.return_, 1) := by decide +kernel
theorem dX1_reaches_0 : decode cX1_reaches 0 = .ok (.iload_n 1, 1) := by decide +kernel
theorem dX1_reaches_1 : decode cX1_reaches 1 = .ok (.aload_n 0, 1) := by decide +kernel
theorem dX1_reaches_2 : decode cX1_reaches 2 = .ok (.getfield 23, 3) := by decide +kernel
theorem dX1_reaches_5 : decode cX1_reaches 5 = .ok (.if_icmp .ge 7, 3) := by decide +kernel
theorem dX1_reaches_8 : decode cX1_reaches 8 = .ok (.iconst 1, 1) := by decide +kernel
theorem dX1_reaches_9 : decode cX1_reaches 9 = .ok (.goto 4, 3) := by decide +kernel
theorem dX1_reaches_12 : decode cX1_reaches 12 = .ok (.iconst 0, 1) := by decide +kernel
theorem dX1_reaches_13 : decode cX1_reaches 13 = .ok (.ireturn, 1) := by decide +kernel
theorem dX1_slot_0 : decode cX1_slot 0 = .ok (.aload_n 0, 1) := by decide +kernel
theorem dX1_slot_1 : decode cX1_slot 1 = .ok (.getfield 23, 3) := by decide +kernel
theorem dX1_slot_4 : decode cX1_slot 4 = .ok (.iconst 1, 1) := by decide +kernel
theorem dX1_slot_5 : decode cX1_slot 5 = .ok (.isub, 1) := by decide +kernel
theorem dX1_slot_6 : decode cX1_slot 6 = .ok (.iload_n 1, 1) := by decide +kernel
theorem dX1_slot_7 : decode cX1_slot 7 = .ok (.isub, 1) := by decide +kernel
theorem dX1_slot_8 : decode cX1_slot 8 = .ok (.iconst 5, 1) := by decide +kernel
theorem dX1_slot_9 : decode cX1_slot 9 = .ok (.invokestatic 27, 3) := by decide +kernel
theorem dX1_slot_12 : decode cX1_slot 12 = .ok (.ireturn, 1) := by decide +kernel
theorem dX1_errorsOf_0 : decode cX1_errorsOf 0 = .ok (.aload_n 0, 1) := by decide +kernel
theorem dX1_errorsOf_1 : decode cX1_errorsOf 1 = .ok (.getfield 13, 3) := by decide +kernel
theorem dX1_errorsOf_4 : decode cX1_errorsOf 4 = .ok (.aload_n 0, 1) := by decide +kernel
theorem dX1_errorsOf_5 : decode cX1_errorsOf 5 = .ok (.iload_n 1, 1) := by decide +kernel
theorem dX1_errorsOf_6 : decode cX1_errorsOf 6 = .ok (.invokevirtual 33, 3) := by decide +kernel
theorem dX1_errorsOf_9 : decode cX1_errorsOf 9 = .ok (.aaload, 1) := by decide +kernel
theorem dX1_errorsOf_10 : decode cX1_errorsOf 10 = .ok (.areturn, 1) := by decide +kernel
theorem dX1_add_0 : decode cX1_add 0 = .ok (.aload_n 0, 1) := by decide +kernel
theorem dX1_add_1 : decode cX1_add 1 = .ok (.dup, 1) := by decide +kernel
theorem dX1_add_2 : decode cX1_add 2 = .ok (.getfield 23, 3) := by decide +kernel
theorem dX1_add_5 : decode cX1_add 5 = .ok (.iconst 1, 1) := by decide +kernel
theorem dX1_add_6 : decode cX1_add 6 = .ok (.iadd, 1) := by decide +kernel
theorem dX1_add_7 : decode cX1_add 7 = .ok (.putfield 23, 3) := by decide +kernel
theorem dX1_add_10 : decode cX1_add 10 = .ok (.aload_n 0, 1) := by decide +kernel
theorem dX1_add_11 : decode cX1_add 11 = .ok (.iconst 0, 1) := by decide +kernel
theorem dX1_add_12 : decode cX1_add 12 = .ok (.invokevirtual 33, 3) := by decide +kernel
theorem dX1_add_15 : decode cX1_add 15 = .ok (.istore 5, 2) := by decide +kernel
theorem dX1_add_17 : decode cX1_add 17 = .ok (.iconst 0, 1) := by decide +kernel
theorem dX1_add_18 : decode cX1_add 18 = .ok (.istore 6, 2) := by decide +kernel
theorem dX1_add_20 : decode cX1_add 20 = .ok (.iconst 0, 1) := by decide +kernel
theorem dX1_add_21 : decode cX1_add 21 = .ok (.istore 7, 2) := by decide +kernel
theorem dX1_add_23 : decode cX1_add 23 = .ok (.iload 7, 2) := by decide +kernel
theorem dX1_add_25 : decode cX1_add 25 = .ok (.iload_n 3, 1) := by decide +kernel
theorem dX1_add_26 : decode cX1_add 26 = .ok (.if_icmp .ge 46, 3) := by decide +kernel
theorem dX1_add_29 : decode cX1_add 29 = .ok (.aload_n 0, 1) := by decide +kernel
theorem dX1_add_30 : decode cX1_add 30 = .ok (.getfield 13, 3) := by decide +kernel
theorem dX1_add_33 : decode cX1_add 33 = .ok (.iload 5, 2) := by decide +kernel
theorem dX1_add_35 : decode cX1_add 35 = .ok (.aaload, 1) := by decide +kernel
theorem dX1_add_36 : decode cX1_add 36 = .ok (.iload 7, 2) := by decide +kernel
theorem dX1_add_38 : decode cX1_add 38 = .ok (.aload_n 1, 1) := by decide +kernel
theorem dX1_add_39 : decode cX1_add 39 = .ok (.iload 7, 2) := by decide +kernel
theorem dX1_add_41 : decode cX1_add 41 = .ok (.iaload, 1) := by decide +kernel
theorem dX1_add_42 : decode cX1_add 42 = .ok (.aload_n 2, 1) := by decide +kernel
theorem dX1_add_43 : decode cX1_add 43 = .ok (.iload 7, 2) := by decide +kernel
theorem dX1_add_45 : decode cX1_add 45 = .ok (.iaload, 1) := by decide +kernel
theorem dX1_add_46 : decode cX1_add 46 = .ok (.isub, 1) := by decide +kernel
theorem dX1_add_47 : decode cX1_add 47 = .ok (.iastore, 1) := by decide +kernel
theorem dX1_add_48 : decode cX1_add 48 = .ok (.iload 6, 2) := by decide +kernel
theorem dX1_add_50 : decode cX1_add 50 = .ok (.aload_n 0, 1) := by decide +kernel
theorem dX1_add_51 : decode cX1_add 51 = .ok (.getfield 13, 3) := by decide +kernel
theorem dX1_add_54 : decode cX1_add 54 = .ok (.iload 5, 2) := by decide +kernel
theorem dX1_add_56 : decode cX1_add 56 = .ok (.aaload, 1) := by decide +kernel
theorem dX1_add_57 : decode cX1_add 57 = .ok (.iload 7, 2) := by decide +kernel
theorem dX1_add_59 : decode cX1_add 59 = .ok (.iaload, 1) := by decide +kernel
theorem dX1_add_60 : decode cX1_add 60 = .ok (.invokestatic 37, 3) := by decide +kernel
theorem dX1_add_63 : decode cX1_add 63 = .ok (.iadd, 1) := by decide +kernel
theorem dX1_add_64 : decode cX1_add 64 = .ok (.istore 6, 2) := by decide +kernel
theorem dX1_add_66 : decode cX1_add 66 = .ok (.iinc 7 1, 3) := by decide +kernel
theorem dX1_add_69 : decode cX1_add 69 = .ok (.goto (-46), 3) := by decide +kernel
theorem dX1_add_72 : decode cX1_add 72 = .ok (.aload_n 0, 1) := by decide +kernel
theorem dX1_add_73 : decode cX1_add 73 = .ok (.getfield 16, 3) := by decide +kernel
theorem dX1_add_76 : decode cX1_add 76 = .ok (.iload 5, 2) := by decide +kernel
theorem dX1_add_78 : decode cX1_add 78 = .ok (.iload 6, 2) := by decide +kernel
theorem dX1_add_80 : decode cX1_add 80 = .ok (.iastore, 1) := by decide +kernel
theorem dX1_add_81 : decode cX1_add 81 = .ok (.aload_n 0, 1) := by decide +kernel
theorem dX1_add_82 : decode cX1_add 82 = .ok (.getfield 20, 3) := by decide +kernel
theorem dX1_add_85 : decode cX1_add 85 = .ok (.iload 5, 2) := by decide +kernel
theorem dX1_add_87 : decode cX1_add 87 = .ok (.iload 4, 2) := by decide +kernel
theorem dX1_add_89 : decode cX1_add 89 = .ok (.iastore, 1) := by decide +kernel
theorem dX1_add_90 : decode cX1_add 90 = .ok (.return_, 1) := by decide +kernel
theorem dX1_staysWithin_0 : decode cX1_staysWithin 0 = .ok (.aload_n 0, 1) := by decide +kernel
theorem dX1_staysWithin_1 : decode cX1_staysWithin 1 = .ok (.getfield 23, 3) := by decide +kernel
theorem dX1_staysWithin_4 : decode cX1_staysWithin 4 = .ok (.iload_n 2, 1) := by decide +kernel
theorem dX1_staysWithin_5 : decode cX1_staysWithin 5 = .ok (.if_icmp .ge 5, 3) := by decide +kernel
theorem dX1_staysWithin_8 : decode cX1_staysWithin 8 = .ok (.iconst 0, 1) := by decide +kernel
theorem dX1_staysWithin_9 : decode cX1_staysWithin 9 = .ok (.ireturn, 1) := by decide +kernel
theorem dX1_staysWithin_10 : decode cX1_staysWithin 10 = .ok (.iconst 0, 1) := by decide +kernel
theorem dX1_staysWithin_11 : decode cX1_staysWithin 11 = .ok (.istore 4, 2) := by decide +kernel
theorem dX1_staysWithin_13 : decode cX1_staysWithin 13 = .ok (.iload 4, 2) := by decide +kernel
theorem dX1_staysWithin_15 : decode cX1_staysWithin 15 = .ok (.iload_n 2, 1) := by decide +kernel
theorem dX1_staysWithin_16 : decode cX1_staysWithin 16 = .ok (.if_icmp .ge 26, 3) := by decide +kernel
theorem dX1_staysWithin_19 : decode cX1_staysWithin 19 = .ok (.aload_n 0, 1) := by decide +kernel
theorem dX1_staysWithin_20 : decode cX1_staysWithin 20 = .ok (.iload 4, 2) := by decide +kernel
theorem dX1_staysWithin_22 : decode cX1_staysWithin 22 = .ok (.invokevirtual 40, 3) := by decide +kernel
theorem dX1_staysWithin_25 : decode cX1_staysWithin 25 = .ok (.iload_n 1, 1) := by decide +kernel
theorem dX1_staysWithin_26 : decode cX1_staysWithin 26 = .ok (.iaload, 1) := by decide +kernel
theorem dX1_staysWithin_27 : decode cX1_staysWithin 27 = .ok (.invokestatic 37, 3) := by decide +kernel
theorem dX1_staysWithin_30 : decode cX1_staysWithin 30 = .ok (.iload_n 3, 1) := by decide +kernel
theorem dX1_staysWithin_31 : decode cX1_staysWithin 31 = .ok (.if_icmp .le 5, 3) := by decide +kernel
theorem dX1_staysWithin_34 : decode cX1_staysWithin 34 = .ok (.iconst 0, 1) := by decide +kernel
theorem dX1_staysWithin_35 : decode cX1_staysWithin 35 = .ok (.ireturn, 1) := by decide +kernel
theorem dX1_staysWithin_36 : decode cX1_staysWithin 36 = .ok (.iinc 4 1, 3) := by decide +kernel
theorem dX1_staysWithin_39 : decode cX1_staysWithin 39 = .ok (.goto (-26), 3) := by decide +kernel
theorem dX1_staysWithin_42 : decode cX1_staysWithin 42 = .ok (.iconst 1, 1) := by decide +kernel
theorem dX1_staysWithin_43 : decode cX1_staysWithin 43 = .ok (.ireturn, 1) := by decide +kernel
theorem dX1_hasGrown_0 : decode cX1_hasGrown 0 = .ok (.aload_n 0, 1) := by decide +kernel
theorem dX1_hasGrown_1 : decode cX1_hasGrown 1 = .ok (.getfield 23, 3) := by decide +kernel
theorem dX1_hasGrown_4 : decode cX1_hasGrown 4 = .ok (.iconst 2, 1) := by decide +kernel
theorem dX1_hasGrown_5 : decode cX1_hasGrown 5 = .ok (.if_icmp .lt 30, 3) := by decide +kernel
theorem dX1_hasGrown_8 : decode cX1_hasGrown 8 = .ok (.aload_n 0, 1) := by decide +kernel
theorem dX1_hasGrown_9 : decode cX1_hasGrown 9 = .ok (.iconst 0, 1) := by decide +kernel
theorem dX1_hasGrown_10 : decode cX1_hasGrown 10 = .ok (.invokevirtual 40, 3) := by decide +kernel
theorem dX1_hasGrown_13 : decode cX1_hasGrown 13 = .ok (.iload_n 1, 1) := by decide +kernel
theorem dX1_hasGrown_14 : decode cX1_hasGrown 14 = .ok (.iaload, 1) := by decide +kernel
theorem dX1_hasGrown_15 : decode cX1_hasGrown 15 = .ok (.invokestatic 37, 3) := by decide +kernel
theorem dX1_hasGrown_18 : decode cX1_hasGrown 18 = .ok (.aload_n 0, 1) := by decide +kernel
theorem dX1_hasGrown_19 : decode cX1_hasGrown 19 = .ok (.iconst 1, 1) := by decide +kernel
theorem dX1_hasGrown_20 : decode cX1_hasGrown 20 = .ok (.invokevirtual 40, 3) := by decide +kernel
theorem dX1_hasGrown_23 : decode cX1_hasGrown 23 = .ok (.iload_n 1, 1) := by decide +kernel
theorem dX1_hasGrown_24 : decode cX1_hasGrown 24 = .ok (.iaload, 1) := by decide +kernel
theorem dX1_hasGrown_25 : decode cX1_hasGrown 25 = .ok (.invokestatic 37, 3) := by decide +kernel
theorem dX1_hasGrown_28 : decode cX1_hasGrown 28 = .ok (.if_icmp .le 7, 3) := by decide +kernel
theorem dX1_hasGrown_31 : decode cX1_hasGrown 31 = .ok (.iconst 1, 1) := by decide +kernel
theorem dX1_hasGrown_32 : decode cX1_hasGrown 32 = .ok (.goto 4, 3) := by decide +kernel
theorem dX1_hasGrown_35 : decode cX1_hasGrown 35 = .ok (.iconst 0, 1) := by decide +kernel
theorem dX1_hasGrown_36 : decode cX1_hasGrown 36 = .ok (.ireturn, 1) := by decide +kernel
theorem dX2_init_0 : decode cX2_init 0 = .ok (.aload_n 0, 1) := by decide +kernel
theorem dX2_init_1 : decode cX2_init 1 = .ok (.invokespecial 1, 3) := by decide +kernel
theorem dX2_init_4 : decode cX2_init 4 = .ok (.aload_n 0, 1) := by decide +kernel
theorem dX2_init_5 : decode cX2_init 5 = .ok (.bipush 6, 2) := by decide +kernel
theorem dX2_init_7 : decode cX2_init 7 = .ok (.newarray .int, 2) := by decide +kernel
theorem dX2_init_9 : decode cX2_init 9 = .ok (.putfield 9, 3) := by decide +kernel
theorem dX2_init_12 : decode cX2_init 12 = .ok (.return_, 1) := by decide +kernel
theorem dX2_becomeAsAtFirst_0 : decode cX2_becomeAsAtFirst 0 = .ok (.aload_n 0, 1) := by decide +kernel
theorem dX2_becomeAsAtFirst_1 : decode cX2_becomeAsAtFirst 1 = .ok (.getfield 9, 3) := by decide +kernel
theorem dX2_becomeAsAtFirst_4 : decode cX2_becomeAsAtFirst 4 = .ok (.iconst 0, 1) := by decide +kernel
theorem dX2_becomeAsAtFirst_5 : decode cX2_becomeAsAtFirst 5 = .ok (.invokestatic 13, 3) := by decide +kernel
theorem dX2_becomeAsAtFirst_8 : decode cX2_becomeAsAtFirst 8 = .ok (.aload_n 0, 1) := by decide +kernel
theorem dX2_becomeAsAtFirst_9 : decode cX2_becomeAsAtFirst 9 = .ok (.getfield 9, 3) := by decide +kernel
theorem dX2_becomeAsAtFirst_12 : decode cX2_becomeAsAtFirst 12 = .ok (.iconst 0, 1) := by decide +kernel
theorem dX2_becomeAsAtFirst_13 : decode cX2_becomeAsAtFirst 13 = .ok (.sipush 1000, 3) := by decide +kernel
theorem dX2_becomeAsAtFirst_16 : decode cX2_becomeAsAtFirst 16 = .ok (.iastore, 1) := by decide +kernel
theorem dX2_becomeAsAtFirst_17 : decode cX2_becomeAsAtFirst 17 = .ok (.aload_n 0, 1) := by decide +kernel
theorem dX2_becomeAsAtFirst_18 : decode cX2_becomeAsAtFirst 18 = .ok (.iconst 0, 1) := by decide +kernel
theorem dX2_becomeAsAtFirst_19 : decode cX2_becomeAsAtFirst 19 = .ok (.putfield 19, 3) := by decide +kernel
theorem dX2_becomeAsAtFirst_22 : decode cX2_becomeAsAtFirst 22 = .ok (.aload_n 0, 1) := by decide +kernel
theorem dX2_becomeAsAtFirst_23 : decode cX2_becomeAsAtFirst 23 = .ok (.iconst 0, 1) := by decide +kernel
theorem dX2_becomeAsAtFirst_24 : decode cX2_becomeAsAtFirst 24 = .ok (.putfield 23, 3) := by decide +kernel
theorem dX2_becomeAsAtFirst_27 : decode cX2_becomeAsAtFirst 27 = .ok (.return_, 1) := by decide +kernel
theorem dX2_outputAt_0 : decode cX2_outputAt 0 = .ok (.lconst 0, 1) := by decide +kernel
theorem dX2_outputAt_1 : decode cX2_outputAt 1 = .ok (.lstore_n 3, 1) := by decide +kernel
theorem dX2_outputAt_2 : decode cX2_outputAt 2 = .ok (.iload_n 2, 1) := by decide +kernel
theorem dX2_outputAt_3 : decode cX2_outputAt 3 = .ok (.iconst 5, 1) := by decide +kernel
theorem dX2_outputAt_4 : decode cX2_outputAt 4 = .ok (.invokestatic 26, 3) := by decide +kernel
theorem dX2_outputAt_7 : decode cX2_outputAt 7 = .ok (.istore 5, 2) := by decide +kernel
theorem dX2_outputAt_9 : decode cX2_outputAt 9 = .ok (.iconst 0, 1) := by decide +kernel
theorem dX2_outputAt_10 : decode cX2_outputAt 10 = .ok (.istore 6, 2) := by decide +kernel
theorem dX2_outputAt_12 : decode cX2_outputAt 12 = .ok (.iload 6, 2) := by decide +kernel
theorem dX2_outputAt_14 : decode cX2_outputAt 14 = .ok (.iload 5, 2) := by decide +kernel
theorem dX2_outputAt_16 : decode cX2_outputAt 16 = .ok (.if_icmp .gt 28, 3) := by decide +kernel
theorem dX2_outputAt_19 : decode cX2_outputAt 19 = .ok (.lload_n 3, 1) := by decide +kernel
theorem dX2_outputAt_20 : decode cX2_outputAt 20 = .ok (.aload_n 0, 1) := by decide +kernel
theorem dX2_outputAt_21 : decode cX2_outputAt 21 = .ok (.getfield 9, 3) := by decide +kernel
theorem dX2_outputAt_24 : decode cX2_outputAt 24 = .ok (.iload 6, 2) := by decide +kernel
theorem dX2_outputAt_26 : decode cX2_outputAt 26 = .ok (.iaload, 1) := by decide +kernel
theorem dX2_outputAt_27 : decode cX2_outputAt 27 = .ok (.i2l, 1) := by decide +kernel
theorem dX2_outputAt_28 : decode cX2_outputAt 28 = .ok (.aload_n 1, 1) := by decide +kernel
theorem dX2_outputAt_29 : decode cX2_outputAt 29 = .ok (.iload_n 2, 1) := by decide +kernel
theorem dX2_outputAt_30 : decode cX2_outputAt 30 = .ok (.iload 6, 2) := by decide +kernel
theorem dX2_outputAt_32 : decode cX2_outputAt 32 = .ok (.isub, 1) := by decide +kernel
theorem dX2_outputAt_33 : decode cX2_outputAt 33 = .ok (.iaload, 1) := by decide +kernel
theorem dX2_outputAt_34 : decode cX2_outputAt 34 = .ok (.i2l, 1) := by decide +kernel
theorem dX2_outputAt_35 : decode cX2_outputAt 35 = .ok (.lmul, 1) := by decide +kernel
theorem dX2_outputAt_36 : decode cX2_outputAt 36 = .ok (.ladd, 1) := by decide +kernel
theorem dX2_outputAt_37 : decode cX2_outputAt 37 = .ok (.lstore_n 3, 1) := by decide +kernel
theorem dX2_outputAt_38 : decode cX2_outputAt 38 = .ok (.iinc 6 1, 3) := by decide +kernel
theorem dX2_outputAt_41 : decode cX2_outputAt 41 = .ok (.goto (-29), 3) := by decide +kernel
theorem dX2_outputAt_44 : decode cX2_outputAt 44 = .ok (.lload_n 3, 1) := by decide +kernel
theorem dX2_outputAt_45 : decode cX2_outputAt 45 = .ok (.ldc2_w 32, 3) := by decide +kernel
theorem dX2_outputAt_48 : decode cX2_outputAt 48 = .ok (.invokestatic 34, 3) := by decide +kernel
theorem dX2_outputAt_51 : decode cX2_outputAt 51 = .ok (.aload_n 0, 1) := by decide +kernel
theorem dX2_outputAt_52 : decode cX2_outputAt 52 = .ok (.invokevirtual 38, 3) := by decide +kernel
theorem dX2_outputAt_55 : decode cX2_outputAt 55 = .ok (.i2l, 1) := by decide +kernel
theorem dX2_outputAt_56 : decode cX2_outputAt 56 = .ok (.ladd, 1) := by decide +kernel
theorem dX2_outputAt_57 : decode cX2_outputAt 57 = .ok (.lreturn, 1) := by decide +kernel
theorem dX2_nextDisturbance_0 : decode cX2_nextDisturbance 0 = .ok (.aload_n 0, 1) := by decide +kernel
theorem dX2_nextDisturbance_1 : decode cX2_nextDisturbance 1 = .ok (.getfield 19, 3) := by decide +kernel
theorem dX2_nextDisturbance_4 : decode cX2_nextDisturbance 4 = .ok (.ifCond .ne 5, 3) := by decide +kernel
theorem dX2_nextDisturbance_7 : decode cX2_nextDisturbance 7 = .ok (.iconst 0, 1) := by decide +kernel
theorem dX2_nextDisturbance_8 : decode cX2_nextDisturbance 8 = .ok (.ireturn, 1) := by decide +kernel
theorem dX2_nextDisturbance_9 : decode cX2_nextDisturbance 9 = .ok (.aload_n 0, 1) := by decide +kernel
theorem dX2_nextDisturbance_10 : decode cX2_nextDisturbance 10 = .ok (.aload_n 0, 1) := by decide +kernel
theorem dX2_nextDisturbance_11 : decode cX2_nextDisturbance 11 = .ok (.getfield 23, 3) := by decide +kernel
theorem dX2_nextDisturbance_14 : decode cX2_nextDisturbance 14 = .ok (.ldc 42, 2) := by decide +kernel
theorem dX2_nextDisturbance_16 : decode cX2_nextDisturbance 16 = .ok (.imul, 1) := by decide +kernel
theorem dX2_nextDisturbance_17 : decode cX2_nextDisturbance 17 = .ok (.sipush 12345, 3) := by decide +kernel
theorem dX2_nextDisturbance_20 : decode cX2_nextDisturbance 20 = .ok (.iadd, 1) := by decide +kernel
theorem dX2_nextDisturbance_21 : decode cX2_nextDisturbance 21 = .ok (.putfield 23, 3) := by decide +kernel
theorem dX2_nextDisturbance_24 : decode cX2_nextDisturbance 24 = .ok (.aload_n 0, 1) := by decide +kernel
theorem dX2_nextDisturbance_25 : decode cX2_nextDisturbance 25 = .ok (.getfield 23, 3) := by decide +kernel
theorem dX2_nextDisturbance_28 : decode cX2_nextDisturbance 28 = .ok (.bipush 16, 2) := by decide +kernel
theorem dX2_nextDisturbance_30 : decode cX2_nextDisturbance 30 = .ok (.iushr, 1) := by decide +kernel
theorem dX2_nextDisturbance_31 : decode cX2_nextDisturbance 31 = .ok (.iconst 2, 1) := by decide +kernel
theorem dX2_nextDisturbance_32 : decode cX2_nextDisturbance 32 = .ok (.aload_n 0, 1) := by decide +kernel
theorem dX2_nextDisturbance_33 : decode cX2_nextDisturbance 33 = .ok (.getfield 19, 3) := by decide +kernel
theorem dX2_nextDisturbance_36 : decode cX2_nextDisturbance 36 = .ok (.imul, 1) := by decide +kernel
theorem dX2_nextDisturbance_37 : decode cX2_nextDisturbance 37 = .ok (.iconst 1, 1) := by decide +kernel
theorem dX2_nextDisturbance_38 : decode cX2_nextDisturbance 38 = .ok (.iadd, 1) := by decide +kernel
theorem dX2_nextDisturbance_39 : decode cX2_nextDisturbance 39 = .ok (.irem, 1) := by decide +kernel
theorem dX2_nextDisturbance_40 : decode cX2_nextDisturbance 40 = .ok (.aload_n 0, 1) := by decide +kernel
theorem dX2_nextDisturbance_41 : decode cX2_nextDisturbance 41 = .ok (.getfield 19, 3) := by decide +kernel
theorem dX2_nextDisturbance_44 : decode cX2_nextDisturbance 44 = .ok (.isub, 1) := by decide +kernel
theorem dX2_nextDisturbance_45 : decode cX2_nextDisturbance 45 = .ok (.ireturn, 1) := by decide +kernel
theorem dX3_init_0 : decode cX3_init 0 = .ok (.aload_n 0, 1) := by decide +kernel
theorem dX3_init_1 : decode cX3_init 1 = .ok (.invokespecial 3, 3) := by decide +kernel
theorem dX3_init_4 : decode cX3_init 4 = .ok (.return_, 1) := by decide +kernel
theorem dX3_becomeAsAtFirst_0 : decode cX3_becomeAsAtFirst 0 = .ok (.aload_n 0, 1) := by decide +kernel
theorem dX3_becomeAsAtFirst_1 : decode cX3_becomeAsAtFirst 1 = .ok (.iload_n 1, 1) := by decide +kernel
theorem dX3_becomeAsAtFirst_2 : decode cX3_becomeAsAtFirst 2 = .ok (.putfield 9, 3) := by decide +kernel
theorem dX3_becomeAsAtFirst_5 : decode cX3_becomeAsAtFirst 5 = .ok (.aload_n 0, 1) := by decide +kernel
theorem dX3_becomeAsAtFirst_6 : decode cX3_becomeAsAtFirst 6 = .ok (.sipush 500, 3) := by decide +kernel
theorem dX3_becomeAsAtFirst_9 : decode cX3_becomeAsAtFirst 9 = .ok (.putfield 15, 3) := by decide +kernel
theorem dX3_becomeAsAtFirst_12 : decode cX3_becomeAsAtFirst 12 = .ok (.aload_n 0, 1) := by decide +kernel
theorem dX3_becomeAsAtFirst_13 : decode cX3_becomeAsAtFirst 13 = .ok (.iconst 0, 1) := by decide +kernel
theorem dX3_becomeAsAtFirst_14 : decode cX3_becomeAsAtFirst 14 = .ok (.putfield 18, 3) := by decide +kernel
theorem dX3_becomeAsAtFirst_17 : decode cX3_becomeAsAtFirst 17 = .ok (.aload_n 0, 1) := by decide +kernel
theorem dX3_becomeAsAtFirst_18 : decode cX3_becomeAsAtFirst 18 = .ok (.iconst 0, 1) := by decide +kernel
theorem dX3_becomeAsAtFirst_19 : decode cX3_becomeAsAtFirst 19 = .ok (.putfield 21, 3) := by decide +kernel
theorem dX3_becomeAsAtFirst_22 : decode cX3_becomeAsAtFirst 22 = .ok (.aload_n 0, 1) := by decide +kernel
theorem dX3_becomeAsAtFirst_23 : decode cX3_becomeAsAtFirst 23 = .ok (.iconst 1, 1) := by decide +kernel
theorem dX3_becomeAsAtFirst_24 : decode cX3_becomeAsAtFirst 24 = .ok (.putfield 24, 3) := by decide +kernel
theorem dX3_becomeAsAtFirst_27 : decode cX3_becomeAsAtFirst 27 = .ok (.aload_n 0, 1) := by decide +kernel
theorem dX3_becomeAsAtFirst_28 : decode cX3_becomeAsAtFirst 28 = .ok (.ldc 27, 2) := by decide +kernel
theorem dX3_becomeAsAtFirst_30 : decode cX3_becomeAsAtFirst 30 = .ok (.putfield 28, 3) := by decide +kernel
theorem dX3_becomeAsAtFirst_33 : decode cX3_becomeAsAtFirst 33 = .ok (.aload_n 0, 1) := by decide +kernel
theorem dX3_becomeAsAtFirst_34 : decode cX3_becomeAsAtFirst 34 = .ok (.iconst 4, 1) := by decide +kernel
theorem dX3_becomeAsAtFirst_35 : decode cX3_becomeAsAtFirst 35 = .ok (.putfield 31, 3) := by decide +kernel
theorem dX3_becomeAsAtFirst_38 : decode cX3_becomeAsAtFirst 38 = .ok (.aload_n 0, 1) := by decide +kernel
theorem dX3_becomeAsAtFirst_39 : decode cX3_becomeAsAtFirst 39 = .ok (.iconst 0, 1) := by decide +kernel
theorem dX3_becomeAsAtFirst_40 : decode cX3_becomeAsAtFirst 40 = .ok (.putfield 34, 3) := by decide +kernel
theorem dX3_becomeAsAtFirst_43 : decode cX3_becomeAsAtFirst 43 = .ok (.aload_n 0, 1) := by decide +kernel
theorem dX3_becomeAsAtFirst_44 : decode cX3_becomeAsAtFirst 44 = .ok (.bipush 10, 2) := by decide +kernel
theorem dX3_becomeAsAtFirst_46 : decode cX3_becomeAsAtFirst 46 = .ok (.putfield 37, 3) := by decide +kernel
theorem dX3_becomeAsAtFirst_49 : decode cX3_becomeAsAtFirst 49 = .ok (.aload_n 0, 1) := by decide +kernel
theorem dX3_becomeAsAtFirst_50 : decode cX3_becomeAsAtFirst 50 = .ok (.iconst 2, 1) := by decide +kernel
theorem dX3_becomeAsAtFirst_51 : decode cX3_becomeAsAtFirst 51 = .ok (.putfield 40, 3) := by decide +kernel
theorem dX3_becomeAsAtFirst_54 : decode cX3_becomeAsAtFirst 54 = .ok (.aload_n 0, 1) := by decide +kernel
theorem dX3_becomeAsAtFirst_55 : decode cX3_becomeAsAtFirst 55 = .ok (.iconst 0, 1) := by decide +kernel
theorem dX3_becomeAsAtFirst_56 : decode cX3_becomeAsAtFirst 56 = .ok (.putfield 43, 3) := by decide +kernel
theorem dX3_becomeAsAtFirst_59 : decode cX3_becomeAsAtFirst 59 = .ok (.return_, 1) := by decide +kernel
theorem dX4_init_0 : decode cX4_init 0 = .ok (.aload_n 0, 1) := by decide +kernel
theorem dX4_init_1 : decode cX4_init 1 = .ok (.invokespecial 1, 3) := by decide +kernel
theorem dX4_init_4 : decode cX4_init 4 = .ok (.aload_n 0, 1) := by decide +kernel
theorem dX4_init_5 : decode cX4_init 5 = .ok (.new 7, 3) := by decide +kernel
theorem dX4_init_8 : decode cX4_init 8 = .ok (.dup, 1) := by decide +kernel
theorem dX4_init_9 : decode cX4_init 9 = .ok (.invokespecial 9, 3) := by decide +kernel
theorem dX4_init_12 : decode cX4_init 12 = .ok (.putfield 10, 3) := by decide +kernel
theorem dX4_init_15 : decode cX4_init 15 = .ok (.aload_n 0, 1) := by decide +kernel
theorem dX4_init_16 : decode cX4_init 16 = .ok (.new 16, 3) := by decide +kernel
theorem dX4_init_19 : decode cX4_init 19 = .ok (.dup, 1) := by decide +kernel
theorem dX4_init_20 : decode cX4_init 20 = .ok (.invokespecial 18, 3) := by decide +kernel
theorem dX4_init_23 : decode cX4_init 23 = .ok (.putfield 19, 3) := by decide +kernel
theorem dX4_init_26 : decode cX4_init 26 = .ok (.aload_n 0, 1) := by decide +kernel
theorem dX4_init_27 : decode cX4_init 27 = .ok (.new 23, 3) := by decide +kernel
theorem dX4_init_30 : decode cX4_init 30 = .ok (.dup, 1) := by decide +kernel
theorem dX4_init_31 : decode cX4_init 31 = .ok (.invokespecial 25, 3) := by decide +kernel
theorem dX4_init_34 : decode cX4_init 34 = .ok (.putfield 26, 3) := by decide +kernel
theorem dX4_init_37 : decode cX4_init 37 = .ok (.aload_n 0, 1) := by decide +kernel
theorem dX4_init_38 : decode cX4_init 38 = .ok (.new 30, 3) := by decide +kernel
theorem dX4_init_41 : decode cX4_init 41 = .ok (.dup, 1) := by decide +kernel
theorem dX4_init_42 : decode cX4_init 42 = .ok (.invokespecial 32, 3) := by decide +kernel
theorem dX4_init_45 : decode cX4_init 45 = .ok (.putfield 33, 3) := by decide +kernel
theorem dX4_init_48 : decode cX4_init 48 = .ok (.aload_n 0, 1) := by decide +kernel
theorem dX4_init_49 : decode cX4_init 49 = .ok (.bipush 48, 2) := by decide +kernel
theorem dX4_init_51 : decode cX4_init 51 = .ok (.newarray .int, 2) := by decide +kernel
theorem dX4_init_53 : decode cX4_init 53 = .ok (.putfield 37, 3) := by decide +kernel
theorem dX4_init_56 : decode cX4_init 56 = .ok (.aload_n 0, 1) := by decide +kernel
theorem dX4_init_57 : decode cX4_init 57 = .ok (.bipush 48, 2) := by decide +kernel
theorem dX4_init_59 : decode cX4_init 59 = .ok (.newarray .int, 2) := by decide +kernel
theorem dX4_init_61 : decode cX4_init 61 = .ok (.putfield 41, 3) := by decide +kernel
theorem dX4_init_64 : decode cX4_init 64 = .ok (.aload_n 0, 1) := by decide +kernel
theorem dX4_init_65 : decode cX4_init 65 = .ok (.bipush 48, 2) := by decide +kernel
theorem dX4_init_67 : decode cX4_init 67 = .ok (.newarray .int, 2) := by decide +kernel
theorem dX4_init_69 : decode cX4_init 69 = .ok (.putfield 44, 3) := by decide +kernel
theorem dX4_init_72 : decode cX4_init 72 = .ok (.aload_n 0, 1) := by decide +kernel
theorem dX4_init_73 : decode cX4_init 73 = .ok (.bipush 48, 2) := by decide +kernel
theorem dX4_init_75 : decode cX4_init 75 = .ok (.newarray .int, 2) := by decide +kernel
theorem dX4_init_77 : decode cX4_init 77 = .ok (.putfield 47, 3) := by decide +kernel
theorem dX4_init_80 : decode cX4_init 80 = .ok (.aload_n 0, 1) := by decide +kernel
theorem dX4_init_81 : decode cX4_init 81 = .ok (.bipush 48, 2) := by decide +kernel
theorem dX4_init_83 : decode cX4_init 83 = .ok (.newarray .int, 2) := by decide +kernel
theorem dX4_init_85 : decode cX4_init 85 = .ok (.putfield 50, 3) := by decide +kernel
theorem dX4_init_88 : decode cX4_init 88 = .ok (.aload_n 0, 1) := by decide +kernel
theorem dX4_init_89 : decode cX4_init 89 = .ok (.bipush 48, 2) := by decide +kernel
theorem dX4_init_91 : decode cX4_init 91 = .ok (.newarray .int, 2) := by decide +kernel
theorem dX4_init_93 : decode cX4_init 93 = .ok (.putfield 53, 3) := by decide +kernel
theorem dX4_init_96 : decode cX4_init 96 = .ok (.aload_n 0, 1) := by decide +kernel
theorem dX4_init_97 : decode cX4_init 97 = .ok (.bipush 16, 2) := by decide +kernel
theorem dX4_init_99 : decode cX4_init 99 = .ok (.invokevirtual 56, 3) := by decide +kernel
theorem dX4_init_102 : decode cX4_init 102 = .ok (.return_, 1) := by decide +kernel
theorem dX4_reset_0 : decode cX4_reset 0 = .ok (.iload_n 1, 1) := by decide +kernel
theorem dX4_reset_1 : decode cX4_reset 1 = .ok (.iconst 4, 1) := by decide +kernel
theorem dX4_reset_2 : decode cX4_reset 2 = .ok (.bipush 48, 2) := by decide +kernel
theorem dX4_reset_4 : decode cX4_reset 4 = .ok (.invokestatic 60, 3) := by decide +kernel
theorem dX4_reset_7 : decode cX4_reset 7 = .ok (.ifCond .ne 6, 3) := by decide +kernel
theorem dX4_reset_10 : decode cX4_reset 10 = .ok (.ldc 64, 2) := by decide +kernel
theorem dX4_reset_12 : decode cX4_reset 12 = .ok (.ireturn, 1) := by decide +kernel
theorem dX4_reset_13 : decode cX4_reset 13 = .ok (.aload_n 0, 1) := by decide +kernel
theorem dX4_reset_14 : decode cX4_reset 14 = .ok (.getfield 10, 3) := by decide +kernel
theorem dX4_reset_17 : decode cX4_reset 17 = .ok (.getfield 65, 3) := by decide +kernel
theorem dX4_reset_20 : decode cX4_reset 20 = .ok (.istore_n 2, 1) := by decide +kernel
theorem dX4_reset_21 : decode cX4_reset 21 = .ok (.aload_n 0, 1) := by decide +kernel
theorem dX4_reset_22 : decode cX4_reset 22 = .ok (.iload_n 1, 1) := by decide +kernel
theorem dX4_reset_23 : decode cX4_reset 23 = .ok (.invokevirtual 56, 3) := by decide +kernel
theorem dX4_reset_26 : decode cX4_reset 26 = .ok (.iload_n 2, 1) := by decide +kernel
theorem dX4_reset_27 : decode cX4_reset 27 = .ok (.ireturn, 1) := by decide +kernel
theorem dX4_setReference_0 : decode cX4_setReference 0 = .ok (.aload_n 0, 1) := by decide +kernel
theorem dX4_setReference_1 : decode cX4_setReference 1 = .ok (.iload_n 1, 1) := by decide +kernel
theorem dX4_setReference_2 : decode cX4_setReference 2 = .ok (.invokevirtual 69, 3) := by decide +kernel
theorem dX4_setReference_5 : decode cX4_setReference 5 = .ok (.ifCond .eq 10, 3) := by decide +kernel
theorem dX4_setReference_8 : decode cX4_setReference 8 = .ok (.iload_n 2, 1) := by decide +kernel
theorem dX4_setReference_9 : decode cX4_setReference 9 = .ok (.invokestatic 73, 3) := by decide +kernel
theorem dX4_setReference_12 : decode cX4_setReference 12 = .ok (.ifCond .ne 6, 3) := by decide +kernel
theorem dX4_setReference_15 : decode cX4_setReference 15 = .ok (.ldc 64, 2) := by decide +kernel
theorem dX4_setReference_17 : decode cX4_setReference 17 = .ok (.ireturn, 1) := by decide +kernel
theorem dX4_setReference_18 : decode cX4_setReference 18 = .ok (.aload_n 0, 1) := by decide +kernel
theorem dX4_setReference_19 : decode cX4_setReference 19 = .ok (.getfield 37, 3) := by decide +kernel
theorem dX4_setReference_22 : decode cX4_setReference 22 = .ok (.iload_n 1, 1) := by decide +kernel
theorem dX4_setReference_23 : decode cX4_setReference 23 = .ok (.iaload, 1) := by decide +kernel
theorem dX4_setReference_24 : decode cX4_setReference 24 = .ok (.istore_n 3, 1) := by decide +kernel
theorem dX4_setReference_25 : decode cX4_setReference 25 = .ok (.aload_n 0, 1) := by decide +kernel
theorem dX4_setReference_26 : decode cX4_setReference 26 = .ok (.getfield 37, 3) := by decide +kernel
theorem dX4_setReference_29 : decode cX4_setReference 29 = .ok (.iload_n 1, 1) := by decide +kernel
theorem dX4_setReference_30 : decode cX4_setReference 30 = .ok (.iload_n 2, 1) := by decide +kernel
theorem dX4_setReference_31 : decode cX4_setReference 31 = .ok (.iastore, 1) := by decide +kernel
theorem dX4_setReference_32 : decode cX4_setReference 32 = .ok (.iload_n 3, 1) := by decide +kernel
theorem dX4_setReference_33 : decode cX4_setReference 33 = .ok (.ireturn, 1) := by decide +kernel
theorem dX4_setGain_0 : decode cX4_setGain 0 = .ok (.iload_n 1, 1) := by decide +kernel
theorem dX4_setGain_1 : decode cX4_setGain 1 = .ok (.iconst 0, 1) := by decide +kernel
theorem dX4_setGain_2 : decode cX4_setGain 2 = .ok (.sipush 2000, 3) := by decide +kernel
theorem dX4_setGain_5 : decode cX4_setGain 5 = .ok (.invokestatic 60, 3) := by decide +kernel
theorem dX4_setGain_8 : decode cX4_setGain 8 = .ok (.ifCond .eq 13, 3) := by decide +kernel
theorem dX4_setGain_11 : decode cX4_setGain 11 = .ok (.iload_n 2, 1) := by decide +kernel
theorem dX4_setGain_12 : decode cX4_setGain 12 = .ok (.iconst 0, 1) := by decide +kernel
theorem dX4_setGain_13 : decode cX4_setGain 13 = .ok (.bipush 8, 2) := by decide +kernel
theorem dX4_setGain_15 : decode cX4_setGain 15 = .ok (.invokestatic 60, 3) := by decide +kernel
theorem dX4_setGain_18 : decode cX4_setGain 18 = .ok (.ifCond .ne 6, 3) := by decide +kernel
theorem dX4_setGain_21 : decode cX4_setGain 21 = .ok (.ldc 64, 2) := by decide +kernel
theorem dX4_setGain_23 : decode cX4_setGain 23 = .ok (.ireturn, 1) := by decide +kernel
theorem dX4_setGain_24 : decode cX4_setGain 24 = .ok (.iload_n 1, 1) := by decide +kernel
theorem dX4_setGain_25 : decode cX4_setGain 25 = .ok (.aload_n 0, 1) := by decide +kernel
theorem dX4_setGain_26 : decode cX4_setGain 26 = .ok (.getfield 10, 3) := by decide +kernel
theorem dX4_setGain_29 : decode cX4_setGain 29 = .ok (.getfield 76, 3) := by decide +kernel
theorem dX4_setGain_32 : decode cX4_setGain 32 = .ok (.if_icmp .ne 14, 3) := by decide +kernel
theorem dX4_setGain_35 : decode cX4_setGain 35 = .ok (.iload_n 2, 1) := by decide +kernel
theorem dX4_setGain_36 : decode cX4_setGain 36 = .ok (.aload_n 0, 1) := by decide +kernel
theorem dX4_setGain_37 : decode cX4_setGain 37 = .ok (.getfield 10, 3) := by decide +kernel
theorem dX4_setGain_40 : decode cX4_setGain 40 = .ok (.getfield 79, 3) := by decide +kernel
theorem dX4_setGain_43 : decode cX4_setGain 43 = .ok (.if_icmp .eq 7, 3) := by decide +kernel
theorem dX4_setGain_46 : decode cX4_setGain 46 = .ok (.iconst 1, 1) := by decide +kernel
theorem dX4_setGain_47 : decode cX4_setGain 47 = .ok (.goto 4, 3) := by decide +kernel
theorem dX4_setGain_50 : decode cX4_setGain 50 = .ok (.iconst 0, 1) := by decide +kernel
theorem dX4_setGain_51 : decode cX4_setGain 51 = .ok (.istore_n 3, 1) := by decide +kernel
theorem dX4_setGain_52 : decode cX4_setGain 52 = .ok (.aload_n 0, 1) := by decide +kernel
theorem dX4_setGain_53 : decode cX4_setGain 53 = .ok (.getfield 10, 3) := by decide +kernel
theorem dX4_setGain_56 : decode cX4_setGain 56 = .ok (.iload_n 1, 1) := by decide +kernel
theorem dX4_setGain_57 : decode cX4_setGain 57 = .ok (.putfield 76, 3) := by decide +kernel
theorem dX4_setGain_60 : decode cX4_setGain 60 = .ok (.aload_n 0, 1) := by decide +kernel
theorem dX4_setGain_61 : decode cX4_setGain 61 = .ok (.getfield 10, 3) := by decide +kernel
theorem dX4_setGain_64 : decode cX4_setGain 64 = .ok (.iload_n 2, 1) := by decide +kernel
theorem dX4_setGain_65 : decode cX4_setGain 65 = .ok (.putfield 79, 3) := by decide +kernel
theorem dX4_setGain_68 : decode cX4_setGain 68 = .ok (.iload_n 3, 1) := by decide +kernel
theorem dX4_setGain_69 : decode cX4_setGain 69 = .ok (.invokestatic 82, 3) := by decide +kernel
theorem dX4_setGain_72 : decode cX4_setGain 72 = .ok (.ireturn, 1) := by decide +kernel
theorem dX4_setSmoothing_0 : decode cX4_setSmoothing 0 = .ok (.iload_n 1, 1) := by decide +kernel
theorem dX4_setSmoothing_1 : decode cX4_setSmoothing 1 = .ok (.iconst 0, 1) := by decide +kernel
theorem dX4_setSmoothing_2 : decode cX4_setSmoothing 2 = .ok (.sipush 333, 3) := by decide +kernel
theorem dX4_setSmoothing_5 : decode cX4_setSmoothing 5 = .ok (.invokestatic 60, 3) := by decide +kernel
theorem dX4_setSmoothing_8 : decode cX4_setSmoothing 8 = .ok (.ifCond .eq 12, 3) := by decide +kernel
theorem dX4_setSmoothing_11 : decode cX4_setSmoothing 11 = .ok (.iload_n 2, 1) := by decide +kernel
theorem dX4_setSmoothing_12 : decode cX4_setSmoothing 12 = .ok (.iconst 0, 1) := by decide +kernel
theorem dX4_setSmoothing_13 : decode cX4_setSmoothing 13 = .ok (.iconst 4, 1) := by decide +kernel
theorem dX4_setSmoothing_14 : decode cX4_setSmoothing 14 = .ok (.invokestatic 60, 3) := by decide +kernel
theorem dX4_setSmoothing_17 : decode cX4_setSmoothing 17 = .ok (.ifCond .ne 6, 3) := by decide +kernel
theorem dX4_setSmoothing_20 : decode cX4_setSmoothing 20 = .ok (.ldc 64, 2) := by decide +kernel
theorem dX4_setSmoothing_22 : decode cX4_setSmoothing 22 = .ok (.ireturn, 1) := by decide +kernel
theorem dX4_setSmoothing_23 : decode cX4_setSmoothing 23 = .ok (.iload_n 1, 1) := by decide +kernel
theorem dX4_setSmoothing_24 : decode cX4_setSmoothing 24 = .ok (.aload_n 0, 1) := by decide +kernel
theorem dX4_setSmoothing_25 : decode cX4_setSmoothing 25 = .ok (.getfield 10, 3) := by decide +kernel
theorem dX4_setSmoothing_28 : decode cX4_setSmoothing 28 = .ok (.getfield 86, 3) := by decide +kernel
theorem dX4_setSmoothing_31 : decode cX4_setSmoothing 31 = .ok (.if_icmp .ne 14, 3) := by decide +kernel
theorem dX4_setSmoothing_34 : decode cX4_setSmoothing 34 = .ok (.iload_n 2, 1) := by decide +kernel
theorem dX4_setSmoothing_35 : decode cX4_setSmoothing 35 = .ok (.aload_n 0, 1) := by decide +kernel
theorem dX4_setSmoothing_36 : decode cX4_setSmoothing 36 = .ok (.getfield 10, 3) := by decide +kernel
theorem dX4_setSmoothing_39 : decode cX4_setSmoothing 39 = .ok (.getfield 89, 3) := by decide +kernel
theorem dX4_setSmoothing_42 : decode cX4_setSmoothing 42 = .ok (.if_icmp .eq 7, 3) := by decide +kernel
theorem dX4_setSmoothing_45 : decode cX4_setSmoothing 45 = .ok (.iconst 1, 1) := by decide +kernel
theorem dX4_setSmoothing_46 : decode cX4_setSmoothing 46 = .ok (.goto 4, 3) := by decide +kernel
theorem dX4_setSmoothing_49 : decode cX4_setSmoothing 49 = .ok (.iconst 0, 1) := by decide +kernel
theorem dX4_setSmoothing_50 : decode cX4_setSmoothing 50 = .ok (.istore_n 3, 1) := by decide +kernel
theorem dX4_setSmoothing_51 : decode cX4_setSmoothing 51 = .ok (.aload_n 0, 1) := by decide +kernel
theorem dX4_setSmoothing_52 : decode cX4_setSmoothing 52 = .ok (.getfield 10, 3) := by decide +kernel
theorem dX4_setSmoothing_55 : decode cX4_setSmoothing 55 = .ok (.iload_n 1, 1) := by decide +kernel
theorem dX4_setSmoothing_56 : decode cX4_setSmoothing 56 = .ok (.putfield 86, 3) := by decide +kernel
theorem dX4_setSmoothing_59 : decode cX4_setSmoothing 59 = .ok (.aload_n 0, 1) := by decide +kernel
theorem dX4_setSmoothing_60 : decode cX4_setSmoothing 60 = .ok (.getfield 10, 3) := by decide +kernel
theorem dX4_setSmoothing_63 : decode cX4_setSmoothing 63 = .ok (.iload_n 2, 1) := by decide +kernel
theorem dX4_setSmoothing_64 : decode cX4_setSmoothing 64 = .ok (.putfield 89, 3) := by decide +kernel
theorem dX4_setSmoothing_67 : decode cX4_setSmoothing 67 = .ok (.iload_n 3, 1) := by decide +kernel
theorem dX4_setSmoothing_68 : decode cX4_setSmoothing 68 = .ok (.invokestatic 82, 3) := by decide +kernel
theorem dX4_setSmoothing_71 : decode cX4_setSmoothing 71 = .ok (.ireturn, 1) := by decide +kernel
theorem dX4_setLimits_0 : decode cX4_setLimits 0 = .ok (.iload_n 1, 1) := by decide +kernel
theorem dX4_setLimits_1 : decode cX4_setLimits 1 = .ok (.iconst 1, 1) := by decide +kernel
theorem dX4_setLimits_2 : decode cX4_setLimits 2 = .ok (.ldc 92, 2) := by decide +kernel
theorem dX4_setLimits_4 : decode cX4_setLimits 4 = .ok (.invokestatic 60, 3) := by decide +kernel
theorem dX4_setLimits_7 : decode cX4_setLimits 7 = .ok (.ifCond .eq 13, 3) := by decide +kernel
theorem dX4_setLimits_10 : decode cX4_setLimits 10 = .ok (.iload_n 2, 1) := by decide +kernel
theorem dX4_setLimits_11 : decode cX4_setLimits 11 = .ok (.iconst 1, 1) := by decide +kernel
theorem dX4_setLimits_12 : decode cX4_setLimits 12 = .ok (.bipush 10, 2) := by decide +kernel
theorem dX4_setLimits_14 : decode cX4_setLimits 14 = .ok (.invokestatic 60, 3) := by decide +kernel
theorem dX4_setLimits_17 : decode cX4_setLimits 17 = .ok (.ifCond .ne 6, 3) := by decide +kernel
theorem dX4_setLimits_20 : decode cX4_setLimits 20 = .ok (.ldc 64, 2) := by decide +kernel
theorem dX4_setLimits_22 : decode cX4_setLimits 22 = .ok (.ireturn, 1) := by decide +kernel
theorem dX4_setLimits_23 : decode cX4_setLimits 23 = .ok (.iload_n 1, 1) := by decide +kernel
theorem dX4_setLimits_24 : decode cX4_setLimits 24 = .ok (.aload_n 0, 1) := by decide +kernel
theorem dX4_setLimits_25 : decode cX4_setLimits 25 = .ok (.getfield 10, 3) := by decide +kernel
theorem dX4_setLimits_28 : decode cX4_setLimits 28 = .ok (.getfield 93, 3) := by decide +kernel
theorem dX4_setLimits_31 : decode cX4_setLimits 31 = .ok (.if_icmp .ne 14, 3) := by decide +kernel
theorem dX4_setLimits_34 : decode cX4_setLimits 34 = .ok (.iload_n 2, 1) := by decide +kernel
theorem dX4_setLimits_35 : decode cX4_setLimits 35 = .ok (.aload_n 0, 1) := by decide +kernel
theorem dX4_setLimits_36 : decode cX4_setLimits 36 = .ok (.getfield 10, 3) := by decide +kernel
theorem dX4_setLimits_39 : decode cX4_setLimits 39 = .ok (.getfield 96, 3) := by decide +kernel
theorem dX4_setLimits_42 : decode cX4_setLimits 42 = .ok (.if_icmp .eq 7, 3) := by decide +kernel
theorem dX4_setLimits_45 : decode cX4_setLimits 45 = .ok (.iconst 1, 1) := by decide +kernel
theorem dX4_setLimits_46 : decode cX4_setLimits 46 = .ok (.goto 4, 3) := by decide +kernel
theorem dX4_setLimits_49 : decode cX4_setLimits 49 = .ok (.iconst 0, 1) := by decide +kernel
theorem dX4_setLimits_50 : decode cX4_setLimits 50 = .ok (.istore_n 3, 1) := by decide +kernel
theorem dX4_setLimits_51 : decode cX4_setLimits 51 = .ok (.aload_n 0, 1) := by decide +kernel
theorem dX4_setLimits_52 : decode cX4_setLimits 52 = .ok (.getfield 10, 3) := by decide +kernel
theorem dX4_setLimits_55 : decode cX4_setLimits 55 = .ok (.iload_n 1, 1) := by decide +kernel
theorem dX4_setLimits_56 : decode cX4_setLimits 56 = .ok (.putfield 93, 3) := by decide +kernel
theorem dX4_setLimits_59 : decode cX4_setLimits 59 = .ok (.aload_n 0, 1) := by decide +kernel
theorem dX4_setLimits_60 : decode cX4_setLimits 60 = .ok (.getfield 10, 3) := by decide +kernel
theorem dX4_setLimits_63 : decode cX4_setLimits 63 = .ok (.iload_n 2, 1) := by decide +kernel
theorem dX4_setLimits_64 : decode cX4_setLimits 64 = .ok (.putfield 96, 3) := by decide +kernel
theorem dX4_setLimits_67 : decode cX4_setLimits 67 = .ok (.iload_n 3, 1) := by decide +kernel
theorem dX4_setLimits_68 : decode cX4_setLimits 68 = .ok (.invokestatic 82, 3) := by decide +kernel
theorem dX4_setLimits_71 : decode cX4_setLimits 71 = .ok (.ireturn, 1) := by decide +kernel
theorem dX4_setGreatestShift_0 : decode cX4_setGreatestShift 0 = .ok (.iload_n 1, 1) := by decide +kernel
theorem dX4_setGreatestShift_1 : decode cX4_setGreatestShift 1 = .ok (.iconst 0, 1) := by decide +kernel
theorem dX4_setGreatestShift_2 : decode cX4_setGreatestShift 2 = .ok (.iconst 5, 1) := by decide +kernel
theorem dX4_setGreatestShift_3 : decode cX4_setGreatestShift 3 = .ok (.invokestatic 60, 3) := by decide +kernel
theorem dX4_setGreatestShift_6 : decode cX4_setGreatestShift 6 = .ok (.ifCond .ne 6, 3) := by decide +kernel
theorem dX4_setGreatestShift_9 : decode cX4_setGreatestShift 9 = .ok (.ldc 64, 2) := by decide +kernel
theorem dX4_setGreatestShift_11 : decode cX4_setGreatestShift 11 = .ok (.ireturn, 1) := by decide +kernel
theorem dX4_setGreatestShift_12 : decode cX4_setGreatestShift 12 = .ok (.aload_n 0, 1) := by decide +kernel
theorem dX4_setGreatestShift_13 : decode cX4_setGreatestShift 13 = .ok (.getfield 10, 3) := by decide +kernel
theorem dX4_setGreatestShift_16 : decode cX4_setGreatestShift 16 = .ok (.getfield 99, 3) := by decide +kernel
theorem dX4_setGreatestShift_19 : decode cX4_setGreatestShift 19 = .ok (.istore_n 2, 1) := by decide +kernel
theorem dX4_setGreatestShift_20 : decode cX4_setGreatestShift 20 = .ok (.aload_n 0, 1) := by decide +kernel
theorem dX4_setGreatestShift_21 : decode cX4_setGreatestShift 21 = .ok (.getfield 10, 3) := by decide +kernel
theorem dX4_setGreatestShift_24 : decode cX4_setGreatestShift 24 = .ok (.iload_n 1, 1) := by decide +kernel
theorem dX4_setGreatestShift_25 : decode cX4_setGreatestShift 25 = .ok (.putfield 99, 3) := by decide +kernel
theorem dX4_setGreatestShift_28 : decode cX4_setGreatestShift 28 = .ok (.iload_n 2, 1) := by decide +kernel
theorem dX4_setGreatestShift_29 : decode cX4_setGreatestShift 29 = .ok (.ireturn, 1) := by decide +kernel
theorem dX4_setTolerance_0 : decode cX4_setTolerance 0 = .ok (.iload_n 1, 1) := by decide +kernel
theorem dX4_setTolerance_1 : decode cX4_setTolerance 1 = .ok (.iconst 0, 1) := by decide +kernel
theorem dX4_setTolerance_2 : decode cX4_setTolerance 2 = .ok (.ldc 92, 2) := by decide +kernel
theorem dX4_setTolerance_4 : decode cX4_setTolerance 4 = .ok (.invokestatic 60, 3) := by decide +kernel
theorem dX4_setTolerance_7 : decode cX4_setTolerance 7 = .ok (.ifCond .eq 12, 3) := by decide +kernel
theorem dX4_setTolerance_10 : decode cX4_setTolerance 10 = .ok (.iload_n 2, 1) := by decide +kernel
theorem dX4_setTolerance_11 : decode cX4_setTolerance 11 = .ok (.iconst 1, 1) := by decide +kernel
theorem dX4_setTolerance_12 : decode cX4_setTolerance 12 = .ok (.iconst 5, 1) := by decide +kernel
theorem dX4_setTolerance_13 : decode cX4_setTolerance 13 = .ok (.invokestatic 60, 3) := by decide +kernel
theorem dX4_setTolerance_16 : decode cX4_setTolerance 16 = .ok (.ifCond .ne 6, 3) := by decide +kernel
theorem dX4_setTolerance_19 : decode cX4_setTolerance 19 = .ok (.ldc 64, 2) := by decide +kernel
theorem dX4_setTolerance_21 : decode cX4_setTolerance 21 = .ok (.ireturn, 1) := by decide +kernel
theorem dX4_setTolerance_22 : decode cX4_setTolerance 22 = .ok (.iload_n 1, 1) := by decide +kernel
theorem dX4_setTolerance_23 : decode cX4_setTolerance 23 = .ok (.aload_n 0, 1) := by decide +kernel
theorem dX4_setTolerance_24 : decode cX4_setTolerance 24 = .ok (.getfield 10, 3) := by decide +kernel
theorem dX4_setTolerance_27 : decode cX4_setTolerance 27 = .ok (.getfield 102, 3) := by decide +kernel
theorem dX4_setTolerance_30 : decode cX4_setTolerance 30 = .ok (.if_icmp .ne 14, 3) := by decide +kernel
theorem dX4_setTolerance_33 : decode cX4_setTolerance 33 = .ok (.iload_n 2, 1) := by decide +kernel
theorem dX4_setTolerance_34 : decode cX4_setTolerance 34 = .ok (.aload_n 0, 1) := by decide +kernel
theorem dX4_setTolerance_35 : decode cX4_setTolerance 35 = .ok (.getfield 10, 3) := by decide +kernel
theorem dX4_setTolerance_38 : decode cX4_setTolerance 38 = .ok (.getfield 105, 3) := by decide +kernel
theorem dX4_setTolerance_41 : decode cX4_setTolerance 41 = .ok (.if_icmp .eq 7, 3) := by decide +kernel
theorem dX4_setTolerance_44 : decode cX4_setTolerance 44 = .ok (.iconst 1, 1) := by decide +kernel
theorem dX4_setTolerance_45 : decode cX4_setTolerance 45 = .ok (.goto 4, 3) := by decide +kernel
theorem dX4_setTolerance_48 : decode cX4_setTolerance 48 = .ok (.iconst 0, 1) := by decide +kernel
theorem dX4_setTolerance_49 : decode cX4_setTolerance 49 = .ok (.istore_n 3, 1) := by decide +kernel
theorem dX4_setTolerance_50 : decode cX4_setTolerance 50 = .ok (.aload_n 0, 1) := by decide +kernel
theorem dX4_setTolerance_51 : decode cX4_setTolerance 51 = .ok (.getfield 10, 3) := by decide +kernel
theorem dX4_setTolerance_54 : decode cX4_setTolerance 54 = .ok (.iload_n 1, 1) := by decide +kernel
theorem dX4_setTolerance_55 : decode cX4_setTolerance 55 = .ok (.putfield 102, 3) := by decide +kernel
theorem dX4_setTolerance_58 : decode cX4_setTolerance 58 = .ok (.aload_n 0, 1) := by decide +kernel
theorem dX4_setTolerance_59 : decode cX4_setTolerance 59 = .ok (.getfield 10, 3) := by decide +kernel
theorem dX4_setTolerance_62 : decode cX4_setTolerance 62 = .ok (.iload_n 2, 1) := by decide +kernel
theorem dX4_setTolerance_63 : decode cX4_setTolerance 63 = .ok (.putfield 105, 3) := by decide +kernel
theorem dX4_setTolerance_66 : decode cX4_setTolerance 66 = .ok (.iload_n 3, 1) := by decide +kernel
theorem dX4_setTolerance_67 : decode cX4_setTolerance 67 = .ok (.invokestatic 82, 3) := by decide +kernel
theorem dX4_setTolerance_70 : decode cX4_setTolerance 70 = .ok (.ireturn, 1) := by decide +kernel
theorem dX4_setGuard_0 : decode cX4_setGuard 0 = .ok (.iload_n 1, 1) := by decide +kernel
theorem dX4_setGuard_1 : decode cX4_setGuard 1 = .ok (.aload_n 0, 1) := by decide +kernel
theorem dX4_setGuard_2 : decode cX4_setGuard 2 = .ok (.getfield 10, 3) := by decide +kernel
theorem dX4_setGuard_5 : decode cX4_setGuard 5 = .ok (.getfield 108, 3) := by decide +kernel
theorem dX4_setGuard_8 : decode cX4_setGuard 8 = .ok (.if_icmp .eq 7, 3) := by decide +kernel
theorem dX4_setGuard_11 : decode cX4_setGuard 11 = .ok (.iconst 1, 1) := by decide +kernel
theorem dX4_setGuard_12 : decode cX4_setGuard 12 = .ok (.goto 4, 3) := by decide +kernel
theorem dX4_setGuard_15 : decode cX4_setGuard 15 = .ok (.iconst 0, 1) := by decide +kernel
theorem dX4_setGuard_16 : decode cX4_setGuard 16 = .ok (.istore_n 2, 1) := by decide +kernel
theorem dX4_setGuard_17 : decode cX4_setGuard 17 = .ok (.aload_n 0, 1) := by decide +kernel
theorem dX4_setGuard_18 : decode cX4_setGuard 18 = .ok (.getfield 10, 3) := by decide +kernel
theorem dX4_setGuard_21 : decode cX4_setGuard 21 = .ok (.iload_n 1, 1) := by decide +kernel
theorem dX4_setGuard_22 : decode cX4_setGuard 22 = .ok (.putfield 108, 3) := by decide +kernel
theorem dX4_setGuard_25 : decode cX4_setGuard 25 = .ok (.iload_n 2, 1) := by decide +kernel
theorem dX4_setGuard_26 : decode cX4_setGuard 26 = .ok (.invokestatic 82, 3) := by decide +kernel
theorem dX4_setGuard_29 : decode cX4_setGuard 29 = .ok (.ireturn, 1) := by decide +kernel
theorem dX4_setting_0 : decode cX4_setting 0 = .ok (.iload_n 1, 1) := by decide +kernel
theorem dX4_setting_1 : decode cX4_setting 1 = .ok (.tableswitch 150 0 10 #[59, 67, 75, 83, 91, 99, 107, 115, 123, 131, 139], 59) := by decide +kernel
theorem dX4_setting_60 : decode cX4_setting 60 = .ok (.aload_n 0, 1) := by decide +kernel
theorem dX4_setting_61 : decode cX4_setting 61 = .ok (.getfield 10, 3) := by decide +kernel
theorem dX4_setting_64 : decode cX4_setting 64 = .ok (.getfield 65, 3) := by decide +kernel
theorem dX4_setting_67 : decode cX4_setting 67 = .ok (.ireturn, 1) := by decide +kernel
theorem dX4_setting_68 : decode cX4_setting 68 = .ok (.aload_n 0, 1) := by decide +kernel
theorem dX4_setting_69 : decode cX4_setting 69 = .ok (.getfield 10, 3) := by decide +kernel
theorem dX4_setting_72 : decode cX4_setting 72 = .ok (.getfield 76, 3) := by decide +kernel
theorem dX4_setting_75 : decode cX4_setting 75 = .ok (.ireturn, 1) := by decide +kernel
theorem dX4_setting_76 : decode cX4_setting 76 = .ok (.aload_n 0, 1) := by decide +kernel
theorem dX4_setting_77 : decode cX4_setting 77 = .ok (.getfield 10, 3) := by decide +kernel
theorem dX4_setting_80 : decode cX4_setting 80 = .ok (.getfield 79, 3) := by decide +kernel
theorem dX4_setting_83 : decode cX4_setting 83 = .ok (.ireturn, 1) := by decide +kernel
theorem dX4_setting_84 : decode cX4_setting 84 = .ok (.aload_n 0, 1) := by decide +kernel
theorem dX4_setting_85 : decode cX4_setting 85 = .ok (.getfield 10, 3) := by decide +kernel
theorem dX4_setting_88 : decode cX4_setting 88 = .ok (.getfield 86, 3) := by decide +kernel
theorem dX4_setting_91 : decode cX4_setting 91 = .ok (.ireturn, 1) := by decide +kernel
theorem dX4_setting_92 : decode cX4_setting 92 = .ok (.aload_n 0, 1) := by decide +kernel
theorem dX4_setting_93 : decode cX4_setting 93 = .ok (.getfield 10, 3) := by decide +kernel
theorem dX4_setting_96 : decode cX4_setting 96 = .ok (.getfield 89, 3) := by decide +kernel
theorem dX4_setting_99 : decode cX4_setting 99 = .ok (.ireturn, 1) := by decide +kernel
theorem dX4_setting_100 : decode cX4_setting 100 = .ok (.aload_n 0, 1) := by decide +kernel
theorem dX4_setting_101 : decode cX4_setting 101 = .ok (.getfield 10, 3) := by decide +kernel
theorem dX4_setting_104 : decode cX4_setting 104 = .ok (.getfield 93, 3) := by decide +kernel
theorem dX4_setting_107 : decode cX4_setting 107 = .ok (.ireturn, 1) := by decide +kernel
theorem dX4_setting_108 : decode cX4_setting 108 = .ok (.aload_n 0, 1) := by decide +kernel
theorem dX4_setting_109 : decode cX4_setting 109 = .ok (.getfield 10, 3) := by decide +kernel
theorem dX4_setting_112 : decode cX4_setting 112 = .ok (.getfield 96, 3) := by decide +kernel
theorem dX4_setting_115 : decode cX4_setting 115 = .ok (.ireturn, 1) := by decide +kernel
theorem dX4_setting_116 : decode cX4_setting 116 = .ok (.aload_n 0, 1) := by decide +kernel
theorem dX4_setting_117 : decode cX4_setting 117 = .ok (.getfield 10, 3) := by decide +kernel
theorem dX4_setting_120 : decode cX4_setting 120 = .ok (.getfield 99, 3) := by decide +kernel
theorem dX4_setting_123 : decode cX4_setting 123 = .ok (.ireturn, 1) := by decide +kernel
theorem dX4_setting_124 : decode cX4_setting 124 = .ok (.aload_n 0, 1) := by decide +kernel
theorem dX4_setting_125 : decode cX4_setting 125 = .ok (.getfield 10, 3) := by decide +kernel
theorem dX4_setting_128 : decode cX4_setting 128 = .ok (.getfield 102, 3) := by decide +kernel
theorem dX4_setting_131 : decode cX4_setting 131 = .ok (.ireturn, 1) := by decide +kernel
theorem dX4_setting_132 : decode cX4_setting 132 = .ok (.aload_n 0, 1) := by decide +kernel
theorem dX4_setting_133 : decode cX4_setting 133 = .ok (.getfield 10, 3) := by decide +kernel
theorem dX4_setting_136 : decode cX4_setting 136 = .ok (.getfield 105, 3) := by decide +kernel
theorem dX4_setting_139 : decode cX4_setting 139 = .ok (.ireturn, 1) := by decide +kernel
theorem dX4_setting_140 : decode cX4_setting 140 = .ok (.aload_n 0, 1) := by decide +kernel
theorem dX4_setting_141 : decode cX4_setting 141 = .ok (.getfield 10, 3) := by decide +kernel
theorem dX4_setting_144 : decode cX4_setting 144 = .ok (.getfield 108, 3) := by decide +kernel
theorem dX4_setting_147 : decode cX4_setting 147 = .ok (.invokestatic 82, 3) := by decide +kernel
theorem dX4_setting_150 : decode cX4_setting 150 = .ok (.ireturn, 1) := by decide +kernel
theorem dX4_setting_151 : decode cX4_setting 151 = .ok (.ldc 64, 2) := by decide +kernel
theorem dX4_setting_153 : decode cX4_setting 153 = .ok (.ireturn, 1) := by decide +kernel
theorem dX4_startTrial_0 : decode cX4_startTrial 0 = .ok (.aload_n 0, 1) := by decide +kernel
theorem dX4_startTrial_1 : decode cX4_startTrial 1 = .ok (.getfield 112, 3) := by decide +kernel
theorem dX4_startTrial_4 : decode cX4_startTrial 4 = .ok (.ifCond .eq 6, 3) := by decide +kernel
theorem dX4_startTrial_7 : decode cX4_startTrial 7 = .ok (.ldc 115, 2) := by decide +kernel
theorem dX4_startTrial_9 : decode cX4_startTrial 9 = .ok (.ireturn, 1) := by decide +kernel
theorem dX4_startTrial_10 : decode cX4_startTrial 10 = .ok (.aload_n 0, 1) := by decide +kernel
theorem dX4_startTrial_11 : decode cX4_startTrial 11 = .ok (.invokevirtual 116, 3) := by decide +kernel
theorem dX4_startTrial_14 : decode cX4_startTrial 14 = .ok (.aload_n 0, 1) := by decide +kernel
theorem dX4_startTrial_15 : decode cX4_startTrial 15 = .ok (.getfield 119, 3) := by decide +kernel
theorem dX4_startTrial_18 : decode cX4_startTrial 18 = .ok (.iconst 1, 1) := by decide +kernel
theorem dX4_startTrial_19 : decode cX4_startTrial 19 = .ok (.isub, 1) := by decide +kernel
theorem dX4_startTrial_20 : decode cX4_startTrial 20 = .ok (.ireturn, 1) := by decide +kernel
theorem dX4_record_0 : decode cX4_record 0 = .ok (.aload_n 0, 1) := by decide +kernel
theorem dX4_record_1 : decode cX4_record 1 = .ok (.getfield 112, 3) := by decide +kernel
theorem dX4_record_4 : decode cX4_record 4 = .ok (.ifCond .ne 6, 3) := by decide +kernel
theorem dX4_record_7 : decode cX4_record 7 = .ok (.ldc 122, 2) := by decide +kernel
theorem dX4_record_9 : decode cX4_record 9 = .ok (.ireturn, 1) := by decide +kernel
theorem dX4_record_10 : decode cX4_record 10 = .ok (.iload_n 1, 1) := by decide +kernel
theorem dX4_record_11 : decode cX4_record 11 = .ok (.invokestatic 73, 3) := by decide +kernel
theorem dX4_record_14 : decode cX4_record 14 = .ok (.ifCond .ne 6, 3) := by decide +kernel
theorem dX4_record_17 : decode cX4_record 17 = .ok (.ldc 64, 2) := by decide +kernel
theorem dX4_record_19 : decode cX4_record 19 = .ok (.ireturn, 1) := by decide +kernel
theorem dX4_record_20 : decode cX4_record 20 = .ok (.aload_n 0, 1) := by decide +kernel
theorem dX4_record_21 : decode cX4_record 21 = .ok (.iload_n 1, 1) := by decide +kernel
theorem dX4_record_22 : decode cX4_record 22 = .ok (.invokevirtual 123, 3) := by decide +kernel
theorem dX4_record_25 : decode cX4_record 25 = .ok (.aload_n 0, 1) := by decide +kernel
theorem dX4_record_26 : decode cX4_record 26 = .ok (.getfield 112, 3) := by decide +kernel
theorem dX4_record_29 : decode cX4_record 29 = .ok (.ifCond .eq 15, 3) := by decide +kernel
theorem dX4_record_32 : decode cX4_record 32 = .ok (.aload_n 0, 1) := by decide +kernel
theorem dX4_record_33 : decode cX4_record 33 = .ok (.getfield 41, 3) := by decide +kernel
theorem dX4_record_36 : decode cX4_record 36 = .ok (.aload_n 0, 1) := by decide +kernel
theorem dX4_record_37 : decode cX4_record 37 = .ok (.getfield 126, 3) := by decide +kernel
theorem dX4_record_40 : decode cX4_record 40 = .ok (.iaload, 1) := by decide +kernel
theorem dX4_record_41 : decode cX4_record 41 = .ok (.goto 5, 3) := by decide +kernel
theorem dX4_record_44 : decode cX4_record 44 = .ok (.ldc 129, 2) := by decide +kernel
theorem dX4_record_46 : decode cX4_record 46 = .ok (.ireturn, 1) := by decide +kernel
theorem dX4_abort_0 : decode cX4_abort 0 = .ok (.aload_n 0, 1) := by decide +kernel
theorem dX4_abort_1 : decode cX4_abort 1 = .ok (.getfield 112, 3) := by decide +kernel
theorem dX4_abort_4 : decode cX4_abort 4 = .ok (.ifCond .ne 6, 3) := by decide +kernel
theorem dX4_abort_7 : decode cX4_abort 7 = .ok (.ldc 122, 2) := by decide +kernel
theorem dX4_abort_9 : decode cX4_abort 9 = .ok (.ireturn, 1) := by decide +kernel
theorem dX4_abort_10 : decode cX4_abort 10 = .ok (.aload_n 0, 1) := by decide +kernel
theorem dX4_abort_11 : decode cX4_abort 11 = .ok (.iconst 0, 1) := by decide +kernel
theorem dX4_abort_12 : decode cX4_abort 12 = .ok (.putfield 112, 3) := by decide +kernel
theorem dX4_abort_15 : decode cX4_abort 15 = .ok (.aload_n 0, 1) := by decide +kernel
theorem dX4_abort_16 : decode cX4_abort 16 = .ok (.dup, 1) := by decide +kernel
theorem dX4_abort_17 : decode cX4_abort 17 = .ok (.getfield 130, 3) := by decide +kernel
theorem dX4_abort_20 : decode cX4_abort 20 = .ok (.iconst 1, 1) := by decide +kernel
theorem dX4_abort_21 : decode cX4_abort 21 = .ok (.iadd, 1) := by decide +kernel
theorem dX4_abort_22 : decode cX4_abort 22 = .ok (.putfield 130, 3) := by decide +kernel
theorem dX4_abort_25 : decode cX4_abort 25 = .ok (.aload_n 0, 1) := by decide +kernel
theorem dX4_abort_26 : decode cX4_abort 26 = .ok (.getfield 126, 3) := by decide +kernel
theorem dX4_abort_29 : decode cX4_abort 29 = .ok (.ifCond .le 7, 3) := by decide +kernel
theorem dX4_abort_32 : decode cX4_abort 32 = .ok (.aload_n 0, 1) := by decide +kernel
theorem dX4_abort_33 : decode cX4_abort 33 = .ok (.invokevirtual 133, 3) := by decide +kernel
theorem dX4_abort_36 : decode cX4_abort 36 = .ok (.aload_n 0, 1) := by decide +kernel
theorem dX4_abort_37 : decode cX4_abort 37 = .ok (.getfield 126, 3) := by decide +kernel
theorem dX4_abort_40 : decode cX4_abort 40 = .ok (.ireturn, 1) := by decide +kernel
theorem dX4_position_0 : decode cX4_position 0 = .ok (.aload_n 0, 1) := by decide +kernel
theorem dX4_position_1 : decode cX4_position 1 = .ok (.getfield 112, 3) := by decide +kernel
theorem dX4_position_4 : decode cX4_position 4 = .ok (.ifCond .eq 10, 3) := by decide +kernel
theorem dX4_position_7 : decode cX4_position 7 = .ok (.aload_n 0, 1) := by decide +kernel
theorem dX4_position_8 : decode cX4_position 8 = .ok (.getfield 126, 3) := by decide +kernel
theorem dX4_position_11 : decode cX4_position 11 = .ok (.goto 5, 3) := by decide +kernel
theorem dX4_position_14 : decode cX4_position 14 = .ok (.ldc 122, 2) := by decide +kernel
theorem dX4_position_16 : decode cX4_position 16 = .ok (.ireturn, 1) := by decide +kernel
theorem dX4_input_0 : decode cX4_input 0 = .ok (.aload_n 0, 1) := by decide +kernel
theorem dX4_input_1 : decode cX4_input 1 = .ok (.iload_n 1, 1) := by decide +kernel
theorem dX4_input_2 : decode cX4_input 2 = .ok (.invokevirtual 69, 3) := by decide +kernel
theorem dX4_input_5 : decode cX4_input 5 = .ok (.ifCond .eq 12, 3) := by decide +kernel
theorem dX4_input_8 : decode cX4_input 8 = .ok (.aload_n 0, 1) := by decide +kernel
theorem dX4_input_9 : decode cX4_input 9 = .ok (.getfield 41, 3) := by decide +kernel
theorem dX4_input_12 : decode cX4_input 12 = .ok (.iload_n 1, 1) := by decide +kernel
theorem dX4_input_13 : decode cX4_input 13 = .ok (.iaload, 1) := by decide +kernel
theorem dX4_input_14 : decode cX4_input 14 = .ok (.goto 5, 3) := by decide +kernel
theorem dX4_input_17 : decode cX4_input 17 = .ok (.ldc 64, 2) := by decide +kernel
theorem dX4_input_19 : decode cX4_input 19 = .ok (.ireturn, 1) := by decide +kernel
theorem dX4_setInput_0 : decode cX4_setInput 0 = .ok (.aload_n 0, 1) := by decide +kernel
theorem dX4_setInput_1 : decode cX4_setInput 1 = .ok (.getfield 112, 3) := by decide +kernel
theorem dX4_setInput_4 : decode cX4_setInput 4 = .ok (.ifCond .eq 6, 3) := by decide +kernel
theorem dX4_setInput_7 : decode cX4_setInput 7 = .ok (.ldc 115, 2) := by decide +kernel
theorem dX4_setInput_9 : decode cX4_setInput 9 = .ok (.ireturn, 1) := by decide +kernel
theorem dX4_setInput_10 : decode cX4_setInput 10 = .ok (.aload_n 0, 1) := by decide +kernel
theorem dX4_setInput_11 : decode cX4_setInput 11 = .ok (.iload_n 1, 1) := by decide +kernel
theorem dX4_setInput_12 : decode cX4_setInput 12 = .ok (.invokevirtual 69, 3) := by decide +kernel
theorem dX4_setInput_15 : decode cX4_setInput 15 = .ok (.ifCond .eq 10, 3) := by decide +kernel
theorem dX4_setInput_18 : decode cX4_setInput 18 = .ok (.iload_n 2, 1) := by decide +kernel
theorem dX4_setInput_19 : decode cX4_setInput 19 = .ok (.invokestatic 73, 3) := by decide +kernel
theorem dX4_setInput_22 : decode cX4_setInput 22 = .ok (.ifCond .ne 6, 3) := by decide +kernel
theorem dX4_setInput_25 : decode cX4_setInput 25 = .ok (.ldc 64, 2) := by decide +kernel
theorem dX4_setInput_27 : decode cX4_setInput 27 = .ok (.ireturn, 1) := by decide +kernel
theorem dX4_setInput_28 : decode cX4_setInput 28 = .ok (.aload_n 0, 1) := by decide +kernel
theorem dX4_setInput_29 : decode cX4_setInput 29 = .ok (.getfield 41, 3) := by decide +kernel
theorem dX4_setInput_32 : decode cX4_setInput 32 = .ok (.iload_n 1, 1) := by decide +kernel
theorem dX4_setInput_33 : decode cX4_setInput 33 = .ok (.iaload, 1) := by decide +kernel
theorem dX4_setInput_34 : decode cX4_setInput 34 = .ok (.istore_n 3, 1) := by decide +kernel
theorem dX4_setInput_35 : decode cX4_setInput 35 = .ok (.aload_n 0, 1) := by decide +kernel
theorem dX4_setInput_36 : decode cX4_setInput 36 = .ok (.getfield 41, 3) := by decide +kernel
theorem dX4_setInput_39 : decode cX4_setInput 39 = .ok (.iload_n 1, 1) := by decide +kernel
theorem dX4_setInput_40 : decode cX4_setInput 40 = .ok (.iload_n 2, 1) := by decide +kernel
theorem dX4_setInput_41 : decode cX4_setInput 41 = .ok (.iastore, 1) := by decide +kernel
theorem dX4_setInput_42 : decode cX4_setInput 42 = .ok (.iload_n 3, 1) := by decide +kernel
theorem dX4_setInput_43 : decode cX4_setInput 43 = .ok (.ireturn, 1) := by decide +kernel
theorem dX4_reference_0 : decode cX4_reference 0 = .ok (.aload_n 0, 1) := by decide +kernel
theorem dX4_reference_1 : decode cX4_reference 1 = .ok (.iload_n 1, 1) := by decide +kernel
theorem dX4_reference_2 : decode cX4_reference 2 = .ok (.invokevirtual 69, 3) := by decide +kernel
theorem dX4_reference_5 : decode cX4_reference 5 = .ok (.ifCond .eq 12, 3) := by decide +kernel
theorem dX4_reference_8 : decode cX4_reference 8 = .ok (.aload_n 0, 1) := by decide +kernel
theorem dX4_reference_9 : decode cX4_reference 9 = .ok (.getfield 37, 3) := by decide +kernel
theorem dX4_reference_12 : decode cX4_reference 12 = .ok (.iload_n 1, 1) := by decide +kernel
theorem dX4_reference_13 : decode cX4_reference 13 = .ok (.iaload, 1) := by decide +kernel
theorem dX4_reference_14 : decode cX4_reference 14 = .ok (.goto 5, 3) := by decide +kernel
theorem dX4_reference_17 : decode cX4_reference 17 = .ok (.ldc 64, 2) := by decide +kernel
theorem dX4_reference_19 : decode cX4_reference 19 = .ok (.ireturn, 1) := by decide +kernel
theorem dX4_count_0 : decode cX4_count 0 = .ok (.iload_n 1, 1) := by decide +kernel
theorem dX4_count_1 : decode cX4_count 1 = .ok (.tableswitch 63 0 4 #[35, 40, 48, 53, 58], 35) := by decide +kernel
theorem dX4_count_36 : decode cX4_count 36 = .ok (.aload_n 0, 1) := by decide +kernel
theorem dX4_count_37 : decode cX4_count 37 = .ok (.getfield 119, 3) := by decide +kernel
theorem dX4_count_40 : decode cX4_count 40 = .ok (.ireturn, 1) := by decide +kernel
theorem dX4_count_41 : decode cX4_count 41 = .ok (.aload_n 0, 1) := by decide +kernel
theorem dX4_count_42 : decode cX4_count 42 = .ok (.getfield 26, 3) := by decide +kernel
theorem dX4_count_45 : decode cX4_count 45 = .ok (.getfield 136, 3) := by decide +kernel
theorem dX4_count_48 : decode cX4_count 48 = .ok (.ireturn, 1) := by decide +kernel
theorem dX4_count_49 : decode cX4_count 49 = .ok (.aload_n 0, 1) := by decide +kernel
theorem dX4_count_50 : decode cX4_count 50 = .ok (.getfield 130, 3) := by decide +kernel
theorem dX4_count_53 : decode cX4_count 53 = .ok (.ireturn, 1) := by decide +kernel
theorem dX4_count_54 : decode cX4_count 54 = .ok (.aload_n 0, 1) := by decide +kernel
theorem dX4_count_55 : decode cX4_count 55 = .ok (.getfield 139, 3) := by decide +kernel
theorem dX4_count_58 : decode cX4_count 58 = .ok (.ireturn, 1) := by decide +kernel
theorem dX4_count_59 : decode cX4_count 59 = .ok (.aload_n 0, 1) := by decide +kernel
theorem dX4_count_60 : decode cX4_count 60 = .ok (.getfield 142, 3) := by decide +kernel
theorem dX4_count_63 : decode cX4_count 63 = .ok (.ireturn, 1) := by decide +kernel
theorem dX4_count_64 : decode cX4_count 64 = .ok (.ldc 64, 2) := by decide +kernel
theorem dX4_count_66 : decode cX4_count 66 = .ok (.ireturn, 1) := by decide +kernel
theorem dX4_error_0 : decode cX4_error 0 = .ok (.aload_n 0, 1) := by decide +kernel
theorem dX4_error_1 : decode cX4_error 1 = .ok (.iload_n 1, 1) := by decide +kernel
theorem dX4_error_2 : decode cX4_error 2 = .ok (.invokevirtual 69, 3) := by decide +kernel
theorem dX4_error_5 : decode cX4_error 5 = .ok (.ifCond .eq 10, 3) := by decide +kernel
theorem dX4_error_8 : decode cX4_error 8 = .ok (.iload_n 2, 1) := by decide +kernel
theorem dX4_error_9 : decode cX4_error 9 = .ok (.invokestatic 145, 3) := by decide +kernel
theorem dX4_error_12 : decode cX4_error 12 = .ok (.ifCond .ne 6, 3) := by decide +kernel
theorem dX4_error_15 : decode cX4_error 15 = .ok (.ldc 64, 2) := by decide +kernel
theorem dX4_error_17 : decode cX4_error 17 = .ok (.ireturn, 1) := by decide +kernel
theorem dX4_error_18 : decode cX4_error 18 = .ok (.aload_n 0, 1) := by decide +kernel
theorem dX4_error_19 : decode cX4_error 19 = .ok (.getfield 26, 3) := by decide +kernel
theorem dX4_error_22 : decode cX4_error 22 = .ok (.iload_n 2, 1) := by decide +kernel
theorem dX4_error_23 : decode cX4_error 23 = .ok (.invokevirtual 148, 3) := by decide +kernel
theorem dX4_error_26 : decode cX4_error 26 = .ok (.ifCond .eq 16, 3) := by decide +kernel
theorem dX4_error_29 : decode cX4_error 29 = .ok (.aload_n 0, 1) := by decide +kernel
theorem dX4_error_30 : decode cX4_error 30 = .ok (.getfield 26, 3) := by decide +kernel
theorem dX4_error_33 : decode cX4_error 33 = .ok (.iload_n 2, 1) := by decide +kernel
theorem dX4_error_34 : decode cX4_error 34 = .ok (.invokevirtual 151, 3) := by decide +kernel
theorem dX4_error_37 : decode cX4_error 37 = .ok (.iload_n 1, 1) := by decide +kernel
theorem dX4_error_38 : decode cX4_error 38 = .ok (.iaload, 1) := by decide +kernel
theorem dX4_error_39 : decode cX4_error 39 = .ok (.goto 5, 3) := by decide +kernel
theorem dX4_error_42 : decode cX4_error 42 = .ok (.ldc 129, 2) := by decide +kernel
theorem dX4_error_44 : decode cX4_error 44 = .ok (.ireturn, 1) := by decide +kernel
theorem dX4_norm_0 : decode cX4_norm 0 = .ok (.iload_n 1, 1) := by decide +kernel
theorem dX4_norm_1 : decode cX4_norm 1 = .ok (.invokestatic 145, 3) := by decide +kernel
theorem dX4_norm_4 : decode cX4_norm 4 = .ok (.ifCond .ne 6, 3) := by decide +kernel
theorem dX4_norm_7 : decode cX4_norm 7 = .ok (.ldc 64, 2) := by decide +kernel
theorem dX4_norm_9 : decode cX4_norm 9 = .ok (.ireturn, 1) := by decide +kernel
theorem dX4_norm_10 : decode cX4_norm 10 = .ok (.aload_n 0, 1) := by decide +kernel
theorem dX4_norm_11 : decode cX4_norm 11 = .ok (.getfield 26, 3) := by decide +kernel
theorem dX4_norm_14 : decode cX4_norm 14 = .ok (.iload_n 1, 1) := by decide +kernel
theorem dX4_norm_15 : decode cX4_norm 15 = .ok (.invokevirtual 148, 3) := by decide +kernel
theorem dX4_norm_18 : decode cX4_norm 18 = .ok (.ifCond .eq 22, 3) := by decide +kernel
theorem dX4_norm_21 : decode cX4_norm 21 = .ok (.aload_n 0, 1) := by decide +kernel
theorem dX4_norm_22 : decode cX4_norm 22 = .ok (.getfield 26, 3) := by decide +kernel
theorem dX4_norm_25 : decode cX4_norm 25 = .ok (.getfield 155, 3) := by decide +kernel
theorem dX4_norm_28 : decode cX4_norm 28 = .ok (.aload_n 0, 1) := by decide +kernel
theorem dX4_norm_29 : decode cX4_norm 29 = .ok (.getfield 26, 3) := by decide +kernel
theorem dX4_norm_32 : decode cX4_norm 32 = .ok (.iload_n 1, 1) := by decide +kernel
theorem dX4_norm_33 : decode cX4_norm 33 = .ok (.invokevirtual 158, 3) := by decide +kernel
theorem dX4_norm_36 : decode cX4_norm 36 = .ok (.iaload, 1) := by decide +kernel
theorem dX4_norm_37 : decode cX4_norm 37 = .ok (.goto 5, 3) := by decide +kernel
theorem dX4_norm_40 : decode cX4_norm 40 = .ok (.ldc 129, 2) := by decide +kernel
theorem dX4_norm_42 : decode cX4_norm 42 = .ok (.ireturn, 1) := by decide +kernel
theorem dX4_shift_0 : decode cX4_shift 0 = .ok (.iload_n 1, 1) := by decide +kernel
theorem dX4_shift_1 : decode cX4_shift 1 = .ok (.invokestatic 145, 3) := by decide +kernel
theorem dX4_shift_4 : decode cX4_shift 4 = .ok (.ifCond .ne 6, 3) := by decide +kernel
theorem dX4_shift_7 : decode cX4_shift 7 = .ok (.ldc 64, 2) := by decide +kernel
theorem dX4_shift_9 : decode cX4_shift 9 = .ok (.ireturn, 1) := by decide +kernel
theorem dX4_shift_10 : decode cX4_shift 10 = .ok (.aload_n 0, 1) := by decide +kernel
theorem dX4_shift_11 : decode cX4_shift 11 = .ok (.getfield 26, 3) := by decide +kernel
theorem dX4_shift_14 : decode cX4_shift 14 = .ok (.iload_n 1, 1) := by decide +kernel
theorem dX4_shift_15 : decode cX4_shift 15 = .ok (.invokevirtual 148, 3) := by decide +kernel
theorem dX4_shift_18 : decode cX4_shift 18 = .ok (.ifCond .eq 22, 3) := by decide +kernel
theorem dX4_shift_21 : decode cX4_shift 21 = .ok (.aload_n 0, 1) := by decide +kernel
theorem dX4_shift_22 : decode cX4_shift 22 = .ok (.getfield 26, 3) := by decide +kernel
theorem dX4_shift_25 : decode cX4_shift 25 = .ok (.getfield 162, 3) := by decide +kernel
theorem dX4_shift_28 : decode cX4_shift 28 = .ok (.aload_n 0, 1) := by decide +kernel
theorem dX4_shift_29 : decode cX4_shift 29 = .ok (.getfield 26, 3) := by decide +kernel
theorem dX4_shift_32 : decode cX4_shift 32 = .ok (.iload_n 1, 1) := by decide +kernel
theorem dX4_shift_33 : decode cX4_shift 33 = .ok (.invokevirtual 158, 3) := by decide +kernel
theorem dX4_shift_36 : decode cX4_shift 36 = .ok (.iaload, 1) := by decide +kernel
theorem dX4_shift_37 : decode cX4_shift 37 = .ok (.goto 5, 3) := by decide +kernel
theorem dX4_shift_40 : decode cX4_shift 40 = .ok (.ldc 129, 2) := by decide +kernel
theorem dX4_shift_42 : decode cX4_shift 42 = .ok (.ireturn, 1) := by decide +kernel
theorem dX4_worstSample_0 : decode cX4_worstSample 0 = .ok (.iload_n 1, 1) := by decide +kernel
theorem dX4_worstSample_1 : decode cX4_worstSample 1 = .ok (.invokestatic 145, 3) := by decide +kernel
theorem dX4_worstSample_4 : decode cX4_worstSample 4 = .ok (.ifCond .ne 6, 3) := by decide +kernel
theorem dX4_worstSample_7 : decode cX4_worstSample 7 = .ok (.ldc 64, 2) := by decide +kernel
theorem dX4_worstSample_9 : decode cX4_worstSample 9 = .ok (.ireturn, 1) := by decide +kernel
theorem dX4_worstSample_10 : decode cX4_worstSample 10 = .ok (.aload_n 0, 1) := by decide +kernel
theorem dX4_worstSample_11 : decode cX4_worstSample 11 = .ok (.getfield 26, 3) := by decide +kernel
theorem dX4_worstSample_14 : decode cX4_worstSample 14 = .ok (.iload_n 1, 1) := by decide +kernel
theorem dX4_worstSample_15 : decode cX4_worstSample 15 = .ok (.invokevirtual 148, 3) := by decide +kernel
theorem dX4_worstSample_18 : decode cX4_worstSample 18 = .ok (.ifCond .eq 24, 3) := by decide +kernel
theorem dX4_worstSample_21 : decode cX4_worstSample 21 = .ok (.aload_n 0, 1) := by decide +kernel
theorem dX4_worstSample_22 : decode cX4_worstSample 22 = .ok (.getfield 26, 3) := by decide +kernel
theorem dX4_worstSample_25 : decode cX4_worstSample 25 = .ok (.iload_n 1, 1) := by decide +kernel
theorem dX4_worstSample_26 : decode cX4_worstSample 26 = .ok (.invokevirtual 151, 3) := by decide +kernel
theorem dX4_worstSample_29 : decode cX4_worstSample 29 = .ok (.aload_n 0, 1) := by decide +kernel
theorem dX4_worstSample_30 : decode cX4_worstSample 30 = .ok (.getfield 10, 3) := by decide +kernel
theorem dX4_worstSample_33 : decode cX4_worstSample 33 = .ok (.getfield 65, 3) := by decide +kernel
theorem dX4_worstSample_36 : decode cX4_worstSample 36 = .ok (.invokestatic 165, 3) := by decide +kernel
theorem dX4_worstSample_39 : decode cX4_worstSample 39 = .ok (.goto 5, 3) := by decide +kernel
theorem dX4_worstSample_42 : decode cX4_worstSample 42 = .ok (.ldc 129, 2) := by decide +kernel
theorem dX4_worstSample_44 : decode cX4_worstSample 44 = .ok (.ireturn, 1) := by decide +kernel
theorem dX4_energy_0 : decode cX4_energy 0 = .ok (.iload_n 1, 1) := by decide +kernel
theorem dX4_energy_1 : decode cX4_energy 1 = .ok (.invokestatic 145, 3) := by decide +kernel
theorem dX4_energy_4 : decode cX4_energy 4 = .ok (.ifCond .ne 7, 3) := by decide +kernel
theorem dX4_energy_7 : decode cX4_energy 7 = .ok (.ldc2_w 169, 3) := by decide +kernel
theorem dX4_energy_10 : decode cX4_energy 10 = .ok (.lreturn, 1) := by decide +kernel
theorem dX4_energy_11 : decode cX4_energy 11 = .ok (.aload_n 0, 1) := by decide +kernel
theorem dX4_energy_12 : decode cX4_energy 12 = .ok (.getfield 26, 3) := by decide +kernel
theorem dX4_energy_15 : decode cX4_energy 15 = .ok (.iload_n 1, 1) := by decide +kernel
theorem dX4_energy_16 : decode cX4_energy 16 = .ok (.invokevirtual 148, 3) := by decide +kernel
theorem dX4_energy_19 : decode cX4_energy 19 = .ok (.ifCond .eq 24, 3) := by decide +kernel
theorem dX4_energy_22 : decode cX4_energy 22 = .ok (.aload_n 0, 1) := by decide +kernel
theorem dX4_energy_23 : decode cX4_energy 23 = .ok (.getfield 26, 3) := by decide +kernel
theorem dX4_energy_26 : decode cX4_energy 26 = .ok (.iload_n 1, 1) := by decide +kernel
theorem dX4_energy_27 : decode cX4_energy 27 = .ok (.invokevirtual 151, 3) := by decide +kernel
theorem dX4_energy_30 : decode cX4_energy 30 = .ok (.aload_n 0, 1) := by decide +kernel
theorem dX4_energy_31 : decode cX4_energy 31 = .ok (.getfield 10, 3) := by decide +kernel
theorem dX4_energy_34 : decode cX4_energy 34 = .ok (.getfield 65, 3) := by decide +kernel
theorem dX4_energy_37 : decode cX4_energy 37 = .ok (.invokestatic 171, 3) := by decide +kernel
theorem dX4_energy_40 : decode cX4_energy 40 = .ok (.goto 6, 3) := by decide +kernel
theorem dX4_energy_43 : decode cX4_energy 43 = .ok (.ldc2_w 175, 3) := by decide +kernel
theorem dX4_energy_46 : decode cX4_energy 46 = .ok (.lreturn, 1) := by decide +kernel
theorem dX4_best_0 : decode cX4_best 0 = .ok (.iload_n 1, 1) := by decide +kernel
theorem dX4_best_1 : decode cX4_best 1 = .ok (.iconst 0, 1) := by decide +kernel
theorem dX4_best_2 : decode cX4_best 2 = .ok (.iconst 1, 1) := by decide +kernel
theorem dX4_best_3 : decode cX4_best 3 = .ok (.invokestatic 60, 3) := by decide +kernel
theorem dX4_best_6 : decode cX4_best 6 = .ok (.ifCond .ne 6, 3) := by decide +kernel
theorem dX4_best_9 : decode cX4_best 9 = .ok (.ldc 64, 2) := by decide +kernel
theorem dX4_best_11 : decode cX4_best 11 = .ok (.ireturn, 1) := by decide +kernel
theorem dX4_best_12 : decode cX4_best 12 = .ok (.aload_n 0, 1) := by decide +kernel
theorem dX4_best_13 : decode cX4_best 13 = .ok (.getfield 33, 3) := by decide +kernel
theorem dX4_best_16 : decode cX4_best 16 = .ok (.getfield 177, 3) := by decide +kernel
theorem dX4_best_19 : decode cX4_best 19 = .ok (.ifCond .ne 6, 3) := by decide +kernel
theorem dX4_best_22 : decode cX4_best 22 = .ok (.ldc 129, 2) := by decide +kernel
theorem dX4_best_24 : decode cX4_best 24 = .ok (.ireturn, 1) := by decide +kernel
theorem dX4_best_25 : decode cX4_best 25 = .ok (.iload_n 1, 1) := by decide +kernel
theorem dX4_best_26 : decode cX4_best 26 = .ok (.ifCond .ne 13, 3) := by decide +kernel
theorem dX4_best_29 : decode cX4_best 29 = .ok (.aload_n 0, 1) := by decide +kernel
theorem dX4_best_30 : decode cX4_best 30 = .ok (.getfield 33, 3) := by decide +kernel
theorem dX4_best_33 : decode cX4_best 33 = .ok (.getfield 180, 3) := by decide +kernel
theorem dX4_best_36 : decode cX4_best 36 = .ok (.goto 10, 3) := by decide +kernel
theorem dX4_best_39 : decode cX4_best 39 = .ok (.aload_n 0, 1) := by decide +kernel
theorem dX4_best_40 : decode cX4_best 40 = .ok (.getfield 33, 3) := by decide +kernel
theorem dX4_best_43 : decode cX4_best 43 = .ok (.getfield 183, 3) := by decide +kernel
theorem dX4_best_46 : decode cX4_best 46 = .ok (.ireturn, 1) := by decide +kernel
theorem dX4_bestInput_0 : decode cX4_bestInput 0 = .ok (.aload_n 0, 1) := by decide +kernel
theorem dX4_bestInput_1 : decode cX4_bestInput 1 = .ok (.iload_n 1, 1) := by decide +kernel
theorem dX4_bestInput_2 : decode cX4_bestInput 2 = .ok (.invokevirtual 69, 3) := by decide +kernel
theorem dX4_bestInput_5 : decode cX4_bestInput 5 = .ok (.ifCond .ne 6, 3) := by decide +kernel
theorem dX4_bestInput_8 : decode cX4_bestInput 8 = .ok (.ldc 64, 2) := by decide +kernel
theorem dX4_bestInput_10 : decode cX4_bestInput 10 = .ok (.ireturn, 1) := by decide +kernel
theorem dX4_bestInput_11 : decode cX4_bestInput 11 = .ok (.aload_n 0, 1) := by decide +kernel
theorem dX4_bestInput_12 : decode cX4_bestInput 12 = .ok (.getfield 33, 3) := by decide +kernel
theorem dX4_bestInput_15 : decode cX4_bestInput 15 = .ok (.getfield 177, 3) := by decide +kernel
theorem dX4_bestInput_18 : decode cX4_bestInput 18 = .ok (.ifCond .eq 15, 3) := by decide +kernel
theorem dX4_bestInput_21 : decode cX4_bestInput 21 = .ok (.aload_n 0, 1) := by decide +kernel
theorem dX4_bestInput_22 : decode cX4_bestInput 22 = .ok (.getfield 33, 3) := by decide +kernel
theorem dX4_bestInput_25 : decode cX4_bestInput 25 = .ok (.getfield 186, 3) := by decide +kernel
theorem dX4_bestInput_28 : decode cX4_bestInput 28 = .ok (.iload_n 1, 1) := by decide +kernel
theorem dX4_bestInput_29 : decode cX4_bestInput 29 = .ok (.iaload, 1) := by decide +kernel
theorem dX4_bestInput_30 : decode cX4_bestInput 30 = .ok (.goto 5, 3) := by decide +kernel
theorem dX4_bestInput_33 : decode cX4_bestInput 33 = .ok (.ldc 129, 2) := by decide +kernel
theorem dX4_bestInput_35 : decode cX4_bestInput 35 = .ok (.ireturn, 1) := by decide +kernel
theorem dX4_state_0 : decode cX4_state 0 = .ok (.aload_n 0, 1) := by decide +kernel
theorem dX4_state_1 : decode cX4_state 1 = .ok (.iload_n 1, 1) := by decide +kernel
theorem dX4_state_2 : decode cX4_state 2 = .ok (.invokevirtual 69, 3) := by decide +kernel
theorem dX4_state_5 : decode cX4_state 5 = .ok (.ifCond .ne 6, 3) := by decide +kernel
theorem dX4_state_8 : decode cX4_state 8 = .ok (.ldc 64, 2) := by decide +kernel
theorem dX4_state_10 : decode cX4_state 10 = .ok (.ireturn, 1) := by decide +kernel
theorem dX4_state_11 : decode cX4_state 11 = .ok (.aload_n 0, 1) := by decide +kernel
theorem dX4_state_12 : decode cX4_state 12 = .ok (.getfield 26, 3) := by decide +kernel
theorem dX4_state_15 : decode cX4_state 15 = .ok (.iconst 0, 1) := by decide +kernel
theorem dX4_state_16 : decode cX4_state 16 = .ok (.invokevirtual 148, 3) := by decide +kernel
theorem dX4_state_19 : decode cX4_state 19 = .ok (.ifCond .ne 5, 3) := by decide +kernel
theorem dX4_state_22 : decode cX4_state 22 = .ok (.iconst 0, 1) := by decide +kernel
theorem dX4_state_23 : decode cX4_state 23 = .ok (.ireturn, 1) := by decide +kernel
theorem dX4_state_24 : decode cX4_state 24 = .ok (.aload_n 0, 1) := by decide +kernel
theorem dX4_state_25 : decode cX4_state 25 = .ok (.iload_n 1, 1) := by decide +kernel
theorem dX4_state_26 : decode cX4_state 26 = .ok (.invokevirtual 189, 3) := by decide +kernel
theorem dX4_state_29 : decode cX4_state 29 = .ok (.ifCond .eq 5, 3) := by decide +kernel
theorem dX4_state_32 : decode cX4_state 32 = .ok (.iconst 1, 1) := by decide +kernel
theorem dX4_state_33 : decode cX4_state 33 = .ok (.ireturn, 1) := by decide +kernel
theorem dX4_state_34 : decode cX4_state 34 = .ok (.aload_n 0, 1) := by decide +kernel
theorem dX4_state_35 : decode cX4_state 35 = .ok (.getfield 26, 3) := by decide +kernel
theorem dX4_state_38 : decode cX4_state 38 = .ok (.iload_n 1, 1) := by decide +kernel
theorem dX4_state_39 : decode cX4_state 39 = .ok (.invokevirtual 192, 3) := by decide +kernel
theorem dX4_state_42 : decode cX4_state 42 = .ok (.ifCond .eq 7, 3) := by decide +kernel
theorem dX4_state_45 : decode cX4_state 45 = .ok (.iconst 2, 1) := by decide +kernel
theorem dX4_state_46 : decode cX4_state 46 = .ok (.goto 4, 3) := by decide +kernel
theorem dX4_state_49 : decode cX4_state 49 = .ok (.iconst 3, 1) := by decide +kernel
theorem dX4_state_50 : decode cX4_state 50 = .ok (.ireturn, 1) := by decide +kernel
theorem dX4_convergedCount_0 : decode cX4_convergedCount 0 = .ok (.iconst 0, 1) := by decide +kernel
theorem dX4_convergedCount_1 : decode cX4_convergedCount 1 = .ok (.istore_n 1, 1) := by decide +kernel
theorem dX4_convergedCount_2 : decode cX4_convergedCount 2 = .ok (.iconst 0, 1) := by decide +kernel
theorem dX4_convergedCount_3 : decode cX4_convergedCount 3 = .ok (.istore_n 2, 1) := by decide +kernel
theorem dX4_convergedCount_4 : decode cX4_convergedCount 4 = .ok (.iload_n 2, 1) := by decide +kernel
theorem dX4_convergedCount_5 : decode cX4_convergedCount 5 = .ok (.aload_n 0, 1) := by decide +kernel
theorem dX4_convergedCount_6 : decode cX4_convergedCount 6 = .ok (.getfield 10, 3) := by decide +kernel
theorem dX4_convergedCount_9 : decode cX4_convergedCount 9 = .ok (.getfield 65, 3) := by decide +kernel
theorem dX4_convergedCount_12 : decode cX4_convergedCount 12 = .ok (.if_icmp .ge 20, 3) := by decide +kernel
theorem dX4_convergedCount_15 : decode cX4_convergedCount 15 = .ok (.aload_n 0, 1) := by decide +kernel
theorem dX4_convergedCount_16 : decode cX4_convergedCount 16 = .ok (.iload_n 2, 1) := by decide +kernel
theorem dX4_convergedCount_17 : decode cX4_convergedCount 17 = .ok (.invokevirtual 189, 3) := by decide +kernel
theorem dX4_convergedCount_20 : decode cX4_convergedCount 20 = .ok (.ifCond .eq 6, 3) := by decide +kernel
theorem dX4_convergedCount_23 : decode cX4_convergedCount 23 = .ok (.iinc 1 1, 3) := by decide +kernel
theorem dX4_convergedCount_26 : decode cX4_convergedCount 26 = .ok (.iinc 2 1, 3) := by decide +kernel
theorem dX4_convergedCount_29 : decode cX4_convergedCount 29 = .ok (.goto (-25), 3) := by decide +kernel
theorem dX4_convergedCount_32 : decode cX4_convergedCount 32 = .ok (.iload_n 1, 1) := by decide +kernel
theorem dX4_convergedCount_33 : decode cX4_convergedCount 33 = .ok (.ireturn, 1) := by decide +kernel
theorem dX4_setPlant_0 : decode cX4_setPlant 0 = .ok (.iload_n 1, 1) := by decide +kernel
theorem dX4_setPlant_1 : decode cX4_setPlant 1 = .ok (.iconst 0, 1) := by decide +kernel
theorem dX4_setPlant_2 : decode cX4_setPlant 2 = .ok (.iconst 5, 1) := by decide +kernel
theorem dX4_setPlant_3 : decode cX4_setPlant 3 = .ok (.invokestatic 60, 3) := by decide +kernel
theorem dX4_setPlant_6 : decode cX4_setPlant 6 = .ok (.ifCond .eq 16, 3) := by decide +kernel
theorem dX4_setPlant_9 : decode cX4_setPlant 9 = .ok (.iload_n 2, 1) := by decide +kernel
theorem dX4_setPlant_10 : decode cX4_setPlant 10 = .ok (.sipush (-3000), 3) := by decide +kernel
theorem dX4_setPlant_13 : decode cX4_setPlant 13 = .ok (.sipush 3000, 3) := by decide +kernel
theorem dX4_setPlant_16 : decode cX4_setPlant 16 = .ok (.invokestatic 60, 3) := by decide +kernel
theorem dX4_setPlant_19 : decode cX4_setPlant 19 = .ok (.ifCond .ne 6, 3) := by decide +kernel
theorem dX4_setPlant_22 : decode cX4_setPlant 22 = .ok (.ldc 64, 2) := by decide +kernel
theorem dX4_setPlant_24 : decode cX4_setPlant 24 = .ok (.ireturn, 1) := by decide +kernel
theorem dX4_setPlant_25 : decode cX4_setPlant 25 = .ok (.aload_n 0, 1) := by decide +kernel
theorem dX4_setPlant_26 : decode cX4_setPlant 26 = .ok (.getfield 19, 3) := by decide +kernel
theorem dX4_setPlant_29 : decode cX4_setPlant 29 = .ok (.getfield 195, 3) := by decide +kernel
theorem dX4_setPlant_32 : decode cX4_setPlant 32 = .ok (.iload_n 1, 1) := by decide +kernel
theorem dX4_setPlant_33 : decode cX4_setPlant 33 = .ok (.iaload, 1) := by decide +kernel
theorem dX4_setPlant_34 : decode cX4_setPlant 34 = .ok (.istore_n 3, 1) := by decide +kernel
theorem dX4_setPlant_35 : decode cX4_setPlant 35 = .ok (.aload_n 0, 1) := by decide +kernel
theorem dX4_setPlant_36 : decode cX4_setPlant 36 = .ok (.getfield 19, 3) := by decide +kernel
theorem dX4_setPlant_39 : decode cX4_setPlant 39 = .ok (.getfield 195, 3) := by decide +kernel
theorem dX4_setPlant_42 : decode cX4_setPlant 42 = .ok (.iload_n 1, 1) := by decide +kernel
theorem dX4_setPlant_43 : decode cX4_setPlant 43 = .ok (.iload_n 2, 1) := by decide +kernel
theorem dX4_setPlant_44 : decode cX4_setPlant 44 = .ok (.iastore, 1) := by decide +kernel
theorem dX4_setPlant_45 : decode cX4_setPlant 45 = .ok (.iload_n 3, 1) := by decide +kernel
theorem dX4_setPlant_46 : decode cX4_setPlant 46 = .ok (.ireturn, 1) := by decide +kernel
theorem dX4_setDisturbance_0 : decode cX4_setDisturbance 0 = .ok (.iload_n 1, 1) := by decide +kernel
theorem dX4_setDisturbance_1 : decode cX4_setDisturbance 1 = .ok (.iconst 0, 1) := by decide +kernel
theorem dX4_setDisturbance_2 : decode cX4_setDisturbance 2 = .ok (.sipush 1000, 3) := by decide +kernel
theorem dX4_setDisturbance_5 : decode cX4_setDisturbance 5 = .ok (.invokestatic 60, 3) := by decide +kernel
theorem dX4_setDisturbance_8 : decode cX4_setDisturbance 8 = .ok (.ifCond .ne 6, 3) := by decide +kernel
theorem dX4_setDisturbance_11 : decode cX4_setDisturbance 11 = .ok (.ldc 64, 2) := by decide +kernel
theorem dX4_setDisturbance_13 : decode cX4_setDisturbance 13 = .ok (.ireturn, 1) := by decide +kernel
theorem dX4_setDisturbance_14 : decode cX4_setDisturbance 14 = .ok (.aload_n 0, 1) := by decide +kernel
theorem dX4_setDisturbance_15 : decode cX4_setDisturbance 15 = .ok (.getfield 19, 3) := by decide +kernel
theorem dX4_setDisturbance_18 : decode cX4_setDisturbance 18 = .ok (.getfield 198, 3) := by decide +kernel
theorem dX4_setDisturbance_21 : decode cX4_setDisturbance 21 = .ok (.istore_n 3, 1) := by decide +kernel
theorem dX4_setDisturbance_22 : decode cX4_setDisturbance 22 = .ok (.aload_n 0, 1) := by decide +kernel
theorem dX4_setDisturbance_23 : decode cX4_setDisturbance 23 = .ok (.getfield 19, 3) := by decide +kernel
theorem dX4_setDisturbance_26 : decode cX4_setDisturbance 26 = .ok (.iload_n 1, 1) := by decide +kernel
theorem dX4_setDisturbance_27 : decode cX4_setDisturbance 27 = .ok (.putfield 198, 3) := by decide +kernel
theorem dX4_setDisturbance_30 : decode cX4_setDisturbance 30 = .ok (.aload_n 0, 1) := by decide +kernel
theorem dX4_setDisturbance_31 : decode cX4_setDisturbance 31 = .ok (.getfield 19, 3) := by decide +kernel
theorem dX4_setDisturbance_34 : decode cX4_setDisturbance 34 = .ok (.iload_n 2, 1) := by decide +kernel
theorem dX4_setDisturbance_35 : decode cX4_setDisturbance 35 = .ok (.putfield 201, 3) := by decide +kernel
theorem dX4_setDisturbance_38 : decode cX4_setDisturbance 38 = .ok (.iload_n 3, 1) := by decide +kernel
theorem dX4_setDisturbance_39 : decode cX4_setDisturbance 39 = .ok (.ireturn, 1) := by decide +kernel
theorem dX4_simulate_0 : decode cX4_simulate 0 = .ok (.iload_n 1, 1) := by decide +kernel
theorem dX4_simulate_1 : decode cX4_simulate 1 = .ok (.iconst 1, 1) := by decide +kernel
theorem dX4_simulate_2 : decode cX4_simulate 2 = .ok (.bipush 20, 2) := by decide +kernel
theorem dX4_simulate_4 : decode cX4_simulate 4 = .ok (.invokestatic 60, 3) := by decide +kernel
theorem dX4_simulate_7 : decode cX4_simulate 7 = .ok (.ifCond .ne 6, 3) := by decide +kernel
theorem dX4_simulate_10 : decode cX4_simulate 10 = .ok (.ldc 64, 2) := by decide +kernel
theorem dX4_simulate_12 : decode cX4_simulate 12 = .ok (.ireturn, 1) := by decide +kernel
theorem dX4_simulate_13 : decode cX4_simulate 13 = .ok (.aload_n 0, 1) := by decide +kernel
theorem dX4_simulate_14 : decode cX4_simulate 14 = .ok (.getfield 112, 3) := by decide +kernel
theorem dX4_simulate_17 : decode cX4_simulate 17 = .ok (.ifCond .eq 6, 3) := by decide +kernel
theorem dX4_simulate_20 : decode cX4_simulate 20 = .ok (.ldc 115, 2) := by decide +kernel
theorem dX4_simulate_22 : decode cX4_simulate 22 = .ok (.ireturn, 1) := by decide +kernel
theorem dX4_simulate_23 : decode cX4_simulate 23 = .ok (.iconst 0, 1) := by decide +kernel
theorem dX4_simulate_24 : decode cX4_simulate 24 = .ok (.istore_n 2, 1) := by decide +kernel
theorem dX4_simulate_25 : decode cX4_simulate 25 = .ok (.iload_n 2, 1) := by decide +kernel
theorem dX4_simulate_26 : decode cX4_simulate 26 = .ok (.iload_n 1, 1) := by decide +kernel
theorem dX4_simulate_27 : decode cX4_simulate 27 = .ok (.if_icmp .ge 13, 3) := by decide +kernel
theorem dX4_simulate_30 : decode cX4_simulate 30 = .ok (.aload_n 0, 1) := by decide +kernel
theorem dX4_simulate_31 : decode cX4_simulate 31 = .ok (.invokevirtual 204, 3) := by decide +kernel
theorem dX4_simulate_34 : decode cX4_simulate 34 = .ok (.iinc 2 1, 3) := by decide +kernel
theorem dX4_simulate_37 : decode cX4_simulate 37 = .ok (.goto (-12), 3) := by decide +kernel
theorem dX4_simulate_40 : decode cX4_simulate 40 = .ok (.aload_n 0, 1) := by decide +kernel
theorem dX4_simulate_41 : decode cX4_simulate 41 = .ok (.getfield 26, 3) := by decide +kernel
theorem dX4_simulate_44 : decode cX4_simulate 44 = .ok (.getfield 155, 3) := by decide +kernel
theorem dX4_simulate_47 : decode cX4_simulate 47 = .ok (.aload_n 0, 1) := by decide +kernel
theorem dX4_simulate_48 : decode cX4_simulate 48 = .ok (.getfield 26, 3) := by decide +kernel
theorem dX4_simulate_51 : decode cX4_simulate 51 = .ok (.iconst 0, 1) := by decide +kernel
theorem dX4_simulate_52 : decode cX4_simulate 52 = .ok (.invokevirtual 158, 3) := by decide +kernel
theorem dX4_simulate_55 : decode cX4_simulate 55 = .ok (.iaload, 1) := by decide +kernel
theorem dX4_simulate_56 : decode cX4_simulate 56 = .ok (.ireturn, 1) := by decide +kernel
theorem dX4_suits_0 : decode cX4_suits 0 = .ok (.lconst 0, 1) := by decide +kernel
theorem dX4_suits_1 : decode cX4_suits 1 = .ok (.lstore_n 1, 1) := by decide +kernel
theorem dX4_suits_2 : decode cX4_suits 2 = .ok (.iconst 0, 1) := by decide +kernel
theorem dX4_suits_3 : decode cX4_suits 3 = .ok (.istore_n 3, 1) := by decide +kernel
theorem dX4_suits_4 : decode cX4_suits 4 = .ok (.iload_n 3, 1) := by decide +kernel
theorem dX4_suits_5 : decode cX4_suits 5 = .ok (.bipush 6, 2) := by decide +kernel
theorem dX4_suits_7 : decode cX4_suits 7 = .ok (.if_icmp .ge 45, 3) := by decide +kernel
theorem dX4_suits_10 : decode cX4_suits 10 = .ok (.iload_n 3, 1) := by decide +kernel
theorem dX4_suits_11 : decode cX4_suits 11 = .ok (.aload_n 0, 1) := by decide +kernel
theorem dX4_suits_12 : decode cX4_suits 12 = .ok (.getfield 10, 3) := by decide +kernel
theorem dX4_suits_15 : decode cX4_suits 15 = .ok (.getfield 79, 3) := by decide +kernel
theorem dX4_suits_18 : decode cX4_suits 18 = .ok (.if_icmp .eq 28, 3) := by decide +kernel
theorem dX4_suits_21 : decode cX4_suits 21 = .ok (.lload_n 1, 1) := by decide +kernel
theorem dX4_suits_22 : decode cX4_suits 22 = .ok (.aload_n 0, 1) := by decide +kernel
theorem dX4_suits_23 : decode cX4_suits 23 = .ok (.getfield 10, 3) := by decide +kernel
theorem dX4_suits_26 : decode cX4_suits 26 = .ok (.getfield 76, 3) := by decide +kernel
theorem dX4_suits_29 : decode cX4_suits 29 = .ok (.i2l, 1) := by decide +kernel
theorem dX4_suits_30 : decode cX4_suits 30 = .ok (.aload_n 0, 1) := by decide +kernel
theorem dX4_suits_31 : decode cX4_suits 31 = .ok (.getfield 19, 3) := by decide +kernel
theorem dX4_suits_34 : decode cX4_suits 34 = .ok (.getfield 195, 3) := by decide +kernel
theorem dX4_suits_37 : decode cX4_suits 37 = .ok (.iload_n 3, 1) := by decide +kernel
theorem dX4_suits_38 : decode cX4_suits 38 = .ok (.iaload, 1) := by decide +kernel
theorem dX4_suits_39 : decode cX4_suits 39 = .ok (.i2l, 1) := by decide +kernel
theorem dX4_suits_40 : decode cX4_suits 40 = .ok (.lmul, 1) := by decide +kernel
theorem dX4_suits_41 : decode cX4_suits 41 = .ok (.invokestatic 207, 3) := by decide +kernel
theorem dX4_suits_44 : decode cX4_suits 44 = .ok (.ladd, 1) := by decide +kernel
theorem dX4_suits_45 : decode cX4_suits 45 = .ok (.lstore_n 1, 1) := by decide +kernel
theorem dX4_suits_46 : decode cX4_suits 46 = .ok (.iinc 3 1, 3) := by decide +kernel
theorem dX4_suits_49 : decode cX4_suits 49 = .ok (.goto (-45), 3) := by decide +kernel
theorem dX4_suits_52 : decode cX4_suits 52 = .ok (.aload_n 0, 1) := by decide +kernel
theorem dX4_suits_53 : decode cX4_suits 53 = .ok (.getfield 10, 3) := by decide +kernel
theorem dX4_suits_56 : decode cX4_suits 56 = .ok (.getfield 79, 3) := by decide +kernel
theorem dX4_suits_59 : decode cX4_suits 59 = .ok (.bipush 6, 2) := by decide +kernel
theorem dX4_suits_61 : decode cX4_suits 61 = .ok (.if_icmp .ge 21, 3) := by decide +kernel
theorem dX4_suits_64 : decode cX4_suits 64 = .ok (.aload_n 0, 1) := by decide +kernel
theorem dX4_suits_65 : decode cX4_suits 65 = .ok (.getfield 19, 3) := by decide +kernel
theorem dX4_suits_68 : decode cX4_suits 68 = .ok (.getfield 195, 3) := by decide +kernel
theorem dX4_suits_71 : decode cX4_suits 71 = .ok (.aload_n 0, 1) := by decide +kernel
theorem dX4_suits_72 : decode cX4_suits 72 = .ok (.getfield 10, 3) := by decide +kernel
theorem dX4_suits_75 : decode cX4_suits 75 = .ok (.getfield 79, 3) := by decide +kernel
theorem dX4_suits_78 : decode cX4_suits 78 = .ok (.iaload, 1) := by decide +kernel
theorem dX4_suits_79 : decode cX4_suits 79 = .ok (.goto 4, 3) := by decide +kernel
theorem dX4_suits_82 : decode cX4_suits 82 = .ok (.iconst 0, 1) := by decide +kernel
theorem dX4_suits_83 : decode cX4_suits 83 = .ok (.istore_n 3, 1) := by decide +kernel
theorem dX4_suits_84 : decode cX4_suits 84 = .ok (.lload_n 1, 1) := by decide +kernel
theorem dX4_suits_85 : decode cX4_suits 85 = .ok (.ldc2_w 213, 3) := by decide +kernel
theorem dX4_suits_88 : decode cX4_suits 88 = .ok (.aload_n 0, 1) := by decide +kernel
theorem dX4_suits_89 : decode cX4_suits 89 = .ok (.getfield 10, 3) := by decide +kernel
theorem dX4_suits_92 : decode cX4_suits 92 = .ok (.getfield 76, 3) := by decide +kernel
theorem dX4_suits_95 : decode cX4_suits 95 = .ok (.i2l, 1) := by decide +kernel
theorem dX4_suits_96 : decode cX4_suits 96 = .ok (.iload_n 3, 1) := by decide +kernel
theorem dX4_suits_97 : decode cX4_suits 97 = .ok (.i2l, 1) := by decide +kernel
theorem dX4_suits_98 : decode cX4_suits 98 = .ok (.lmul, 1) := by decide +kernel
theorem dX4_suits_99 : decode cX4_suits 99 = .ok (.lsub, 1) := by decide +kernel
theorem dX4_suits_100 : decode cX4_suits 100 = .ok (.invokestatic 207, 3) := by decide +kernel
theorem dX4_suits_103 : decode cX4_suits 103 = .ok (.ladd, 1) := by decide +kernel
theorem dX4_suits_104 : decode cX4_suits 104 = .ok (.lstore_n 1, 1) := by decide +kernel
theorem dX4_suits_105 : decode cX4_suits 105 = .ok (.lload_n 1, 1) := by decide +kernel
theorem dX4_suits_106 : decode cX4_suits 106 = .ok (.ldc2_w 213, 3) := by decide +kernel
theorem dX4_suits_109 : decode cX4_suits 109 = .ok (.lcmp, 1) := by decide +kernel
theorem dX4_suits_110 : decode cX4_suits 110 = .ok (.ifCond .gt 7, 3) := by decide +kernel
theorem dX4_suits_113 : decode cX4_suits 113 = .ok (.iconst 1, 1) := by decide +kernel
theorem dX4_suits_114 : decode cX4_suits 114 = .ok (.goto 4, 3) := by decide +kernel
theorem dX4_suits_117 : decode cX4_suits 117 = .ok (.iconst 0, 1) := by decide +kernel
theorem dX4_suits_118 : decode cX4_suits 118 = .ok (.invokestatic 82, 3) := by decide +kernel
theorem dX4_suits_121 : decode cX4_suits 121 = .ok (.ireturn, 1) := by decide +kernel
theorem dX4_isWithin_0 : decode cX4_isWithin 0 = .ok (.iload_n 0, 1) := by decide +kernel
theorem dX4_isWithin_1 : decode cX4_isWithin 1 = .ok (.iload_n 1, 1) := by decide +kernel
theorem dX4_isWithin_2 : decode cX4_isWithin 2 = .ok (.if_icmp .lt 12, 3) := by decide +kernel
theorem dX4_isWithin_5 : decode cX4_isWithin 5 = .ok (.iload_n 0, 1) := by decide +kernel
theorem dX4_isWithin_6 : decode cX4_isWithin 6 = .ok (.iload_n 2, 1) := by decide +kernel
theorem dX4_isWithin_7 : decode cX4_isWithin 7 = .ok (.if_icmp .gt 7, 3) := by decide +kernel
theorem dX4_isWithin_10 : decode cX4_isWithin 10 = .ok (.iconst 1, 1) := by decide +kernel
theorem dX4_isWithin_11 : decode cX4_isWithin 11 = .ok (.goto 4, 3) := by decide +kernel
theorem dX4_isWithin_14 : decode cX4_isWithin 14 = .ok (.iconst 0, 1) := by decide +kernel
theorem dX4_isWithin_15 : decode cX4_isWithin 15 = .ok (.ireturn, 1) := by decide +kernel
theorem dX4_isSignal_0 : decode cX4_isSignal 0 = .ok (.iload_n 0, 1) := by decide +kernel
theorem dX4_isSignal_1 : decode cX4_isSignal 1 = .ok (.ldc 215, 2) := by decide +kernel
theorem dX4_isSignal_3 : decode cX4_isSignal 3 = .ok (.ldc 92, 2) := by decide +kernel
theorem dX4_isSignal_5 : decode cX4_isSignal 5 = .ok (.invokestatic 60, 3) := by decide +kernel
theorem dX4_isSignal_8 : decode cX4_isSignal 8 = .ok (.ireturn, 1) := by decide +kernel
theorem dX4_isAge_0 : decode cX4_isAge 0 = .ok (.iload_n 0, 1) := by decide +kernel
theorem dX4_isAge_1 : decode cX4_isAge 1 = .ok (.iconst 0, 1) := by decide +kernel
theorem dX4_isAge_2 : decode cX4_isAge 2 = .ok (.iconst 4, 1) := by decide +kernel
theorem dX4_isAge_3 : decode cX4_isAge 3 = .ok (.invokestatic 60, 3) := by decide +kernel
theorem dX4_isAge_6 : decode cX4_isAge 6 = .ok (.ireturn, 1) := by decide +kernel
theorem dX4_isSample_0 : decode cX4_isSample 0 = .ok (.iload_n 1, 1) := by decide +kernel
theorem dX4_isSample_1 : decode cX4_isSample 1 = .ok (.iconst 0, 1) := by decide +kernel
theorem dX4_isSample_2 : decode cX4_isSample 2 = .ok (.aload_n 0, 1) := by decide +kernel
theorem dX4_isSample_3 : decode cX4_isSample 3 = .ok (.getfield 10, 3) := by decide +kernel
theorem dX4_isSample_6 : decode cX4_isSample 6 = .ok (.getfield 65, 3) := by decide +kernel
theorem dX4_isSample_9 : decode cX4_isSample 9 = .ok (.iconst 1, 1) := by decide +kernel
theorem dX4_isSample_10 : decode cX4_isSample 10 = .ok (.isub, 1) := by decide +kernel
theorem dX4_isSample_11 : decode cX4_isSample 11 = .ok (.invokestatic 60, 3) := by decide +kernel
theorem dX4_isSample_14 : decode cX4_isSample 14 = .ok (.ireturn, 1) := by decide +kernel
theorem dX4_oneIf_0 : decode cX4_oneIf 0 = .ok (.iload_n 0, 1) := by decide +kernel
theorem dX4_oneIf_1 : decode cX4_oneIf 1 = .ok (.ifCond .eq 7, 3) := by decide +kernel
theorem dX4_oneIf_4 : decode cX4_oneIf 4 = .ok (.iconst 1, 1) := by decide +kernel
theorem dX4_oneIf_5 : decode cX4_oneIf 5 = .ok (.goto 4, 3) := by decide +kernel
theorem dX4_oneIf_8 : decode cX4_oneIf 8 = .ok (.iconst 0, 1) := by decide +kernel
theorem dX4_oneIf_9 : decode cX4_oneIf 9 = .ok (.ireturn, 1) := by decide +kernel
theorem dX4_limitTo_0 : decode cX4_limitTo 0 = .ok (.iload_n 2, 1) := by decide +kernel
theorem dX4_limitTo_1 : decode cX4_limitTo 1 = .ok (.ineg, 1) := by decide +kernel
theorem dX4_limitTo_2 : decode cX4_limitTo 2 = .ok (.i2l, 1) := by decide +kernel
theorem dX4_limitTo_3 : decode cX4_limitTo 3 = .ok (.iload_n 2, 1) := by decide +kernel
theorem dX4_limitTo_4 : decode cX4_limitTo 4 = .ok (.i2l, 1) := by decide +kernel
theorem dX4_limitTo_5 : decode cX4_limitTo 5 = .ok (.lload_n 0, 1) := by decide +kernel
theorem dX4_limitTo_6 : decode cX4_limitTo 6 = .ok (.invokestatic 216, 3) := by decide +kernel
theorem dX4_limitTo_9 : decode cX4_limitTo 9 = .ok (.invokestatic 220, 3) := by decide +kernel
theorem dX4_limitTo_12 : decode cX4_limitTo 12 = .ok (.l2i, 1) := by decide +kernel
theorem dX4_limitTo_13 : decode cX4_limitTo 13 = .ok (.ireturn, 1) := by decide +kernel
theorem dX4_startAnew_0 : decode cX4_startAnew 0 = .ok (.aload_n 0, 1) := by decide +kernel
theorem dX4_startAnew_1 : decode cX4_startAnew 1 = .ok (.getfield 10, 3) := by decide +kernel
theorem dX4_startAnew_4 : decode cX4_startAnew 4 = .ok (.iload_n 1, 1) := by decide +kernel
theorem dX4_startAnew_5 : decode cX4_startAnew 5 = .ok (.invokevirtual 223, 3) := by decide +kernel
theorem dX4_startAnew_8 : decode cX4_startAnew 8 = .ok (.aload_n 0, 1) := by decide +kernel
theorem dX4_startAnew_9 : decode cX4_startAnew 9 = .ok (.getfield 19, 3) := by decide +kernel
theorem dX4_startAnew_12 : decode cX4_startAnew 12 = .ok (.invokevirtual 226, 3) := by decide +kernel
theorem dX4_startAnew_15 : decode cX4_startAnew 15 = .ok (.aload_n 0, 1) := by decide +kernel
theorem dX4_startAnew_16 : decode cX4_startAnew 16 = .ok (.getfield 26, 3) := by decide +kernel
theorem dX4_startAnew_19 : decode cX4_startAnew 19 = .ok (.iconst 0, 1) := by decide +kernel
theorem dX4_startAnew_20 : decode cX4_startAnew 20 = .ok (.putfield 136, 3) := by decide +kernel
theorem dX4_startAnew_23 : decode cX4_startAnew 23 = .ok (.aload_n 0, 1) := by decide +kernel
theorem dX4_startAnew_24 : decode cX4_startAnew 24 = .ok (.getfield 33, 3) := by decide +kernel
theorem dX4_startAnew_27 : decode cX4_startAnew 27 = .ok (.iconst 0, 1) := by decide +kernel
theorem dX4_startAnew_28 : decode cX4_startAnew 28 = .ok (.putfield 177, 3) := by decide +kernel
theorem dX4_startAnew_31 : decode cX4_startAnew 31 = .ok (.aload_n 0, 1) := by decide +kernel
theorem dX4_startAnew_32 : decode cX4_startAnew 32 = .ok (.getfield 37, 3) := by decide +kernel
theorem dX4_startAnew_35 : decode cX4_startAnew 35 = .ok (.iconst 0, 1) := by decide +kernel
theorem dX4_startAnew_36 : decode cX4_startAnew 36 = .ok (.invokestatic 228, 3) := by decide +kernel
theorem dX4_startAnew_39 : decode cX4_startAnew 39 = .ok (.aload_n 0, 1) := by decide +kernel
theorem dX4_startAnew_40 : decode cX4_startAnew 40 = .ok (.getfield 41, 3) := by decide +kernel
theorem dX4_startAnew_43 : decode cX4_startAnew 43 = .ok (.iconst 0, 1) := by decide +kernel
theorem dX4_startAnew_44 : decode cX4_startAnew 44 = .ok (.invokestatic 228, 3) := by decide +kernel
theorem dX4_startAnew_47 : decode cX4_startAnew 47 = .ok (.aload_n 0, 1) := by decide +kernel
theorem dX4_startAnew_48 : decode cX4_startAnew 48 = .ok (.iconst 0, 1) := by decide +kernel
theorem dX4_startAnew_49 : decode cX4_startAnew 49 = .ok (.putfield 112, 3) := by decide +kernel
theorem dX4_startAnew_52 : decode cX4_startAnew 52 = .ok (.aload_n 0, 1) := by decide +kernel
theorem dX4_startAnew_53 : decode cX4_startAnew 53 = .ok (.iconst 0, 1) := by decide +kernel
theorem dX4_startAnew_54 : decode cX4_startAnew 54 = .ok (.putfield 126, 3) := by decide +kernel
theorem dX4_startAnew_57 : decode cX4_startAnew 57 = .ok (.aload_n 0, 1) := by decide +kernel
theorem dX4_startAnew_58 : decode cX4_startAnew 58 = .ok (.iconst 0, 1) := by decide +kernel
theorem dX4_startAnew_59 : decode cX4_startAnew 59 = .ok (.putfield 119, 3) := by decide +kernel
theorem dX4_startAnew_62 : decode cX4_startAnew 62 = .ok (.aload_n 0, 1) := by decide +kernel
theorem dX4_startAnew_63 : decode cX4_startAnew 63 = .ok (.iconst 0, 1) := by decide +kernel
theorem dX4_startAnew_64 : decode cX4_startAnew 64 = .ok (.putfield 130, 3) := by decide +kernel
theorem dX4_startAnew_67 : decode cX4_startAnew 67 = .ok (.aload_n 0, 1) := by decide +kernel
theorem dX4_startAnew_68 : decode cX4_startAnew 68 = .ok (.iconst 0, 1) := by decide +kernel
theorem dX4_startAnew_69 : decode cX4_startAnew 69 = .ok (.putfield 139, 3) := by decide +kernel
theorem dX4_startAnew_72 : decode cX4_startAnew 72 = .ok (.aload_n 0, 1) := by decide +kernel
theorem dX4_startAnew_73 : decode cX4_startAnew 73 = .ok (.iconst 0, 1) := by decide +kernel
theorem dX4_startAnew_74 : decode cX4_startAnew 74 = .ok (.putfield 142, 3) := by decide +kernel
theorem dX4_startAnew_77 : decode cX4_startAnew 77 = .ok (.return_, 1) := by decide +kernel
theorem dX4_beginTrial_0 : decode cX4_beginTrial 0 = .ok (.aload_n 0, 1) := by decide +kernel
theorem dX4_beginTrial_1 : decode cX4_beginTrial 1 = .ok (.iconst 1, 1) := by decide +kernel
theorem dX4_beginTrial_2 : decode cX4_beginTrial 2 = .ok (.putfield 112, 3) := by decide +kernel
theorem dX4_beginTrial_5 : decode cX4_beginTrial 5 = .ok (.aload_n 0, 1) := by decide +kernel
theorem dX4_beginTrial_6 : decode cX4_beginTrial 6 = .ok (.iconst 0, 1) := by decide +kernel
theorem dX4_beginTrial_7 : decode cX4_beginTrial 7 = .ok (.putfield 126, 3) := by decide +kernel
theorem dX4_beginTrial_10 : decode cX4_beginTrial 10 = .ok (.aload_n 0, 1) := by decide +kernel
theorem dX4_beginTrial_11 : decode cX4_beginTrial 11 = .ok (.dup, 1) := by decide +kernel
theorem dX4_beginTrial_12 : decode cX4_beginTrial 12 = .ok (.getfield 119, 3) := by decide +kernel
theorem dX4_beginTrial_15 : decode cX4_beginTrial 15 = .ok (.iconst 1, 1) := by decide +kernel
theorem dX4_beginTrial_16 : decode cX4_beginTrial 16 = .ok (.iadd, 1) := by decide +kernel
theorem dX4_beginTrial_17 : decode cX4_beginTrial 17 = .ok (.putfield 119, 3) := by decide +kernel
theorem dX4_beginTrial_20 : decode cX4_beginTrial 20 = .ok (.return_, 1) := by decide +kernel
theorem dX4_takeOutput_0 : decode cX4_takeOutput 0 = .ok (.aload_n 0, 1) := by decide +kernel
theorem dX4_takeOutput_1 : decode cX4_takeOutput 1 = .ok (.getfield 47, 3) := by decide +kernel
theorem dX4_takeOutput_4 : decode cX4_takeOutput 4 = .ok (.aload_n 0, 1) := by decide +kernel
theorem dX4_takeOutput_5 : decode cX4_takeOutput 5 = .ok (.getfield 126, 3) := by decide +kernel
theorem dX4_takeOutput_8 : decode cX4_takeOutput 8 = .ok (.iload_n 1, 1) := by decide +kernel
theorem dX4_takeOutput_9 : decode cX4_takeOutput 9 = .ok (.iastore, 1) := by decide +kernel
theorem dX4_takeOutput_10 : decode cX4_takeOutput 10 = .ok (.aload_n 0, 1) := by decide +kernel
theorem dX4_takeOutput_11 : decode cX4_takeOutput 11 = .ok (.dup, 1) := by decide +kernel
theorem dX4_takeOutput_12 : decode cX4_takeOutput 12 = .ok (.getfield 126, 3) := by decide +kernel
theorem dX4_takeOutput_15 : decode cX4_takeOutput 15 = .ok (.iconst 1, 1) := by decide +kernel
theorem dX4_takeOutput_16 : decode cX4_takeOutput 16 = .ok (.iadd, 1) := by decide +kernel
theorem dX4_takeOutput_17 : decode cX4_takeOutput 17 = .ok (.putfield 126, 3) := by decide +kernel
theorem dX4_takeOutput_20 : decode cX4_takeOutput 20 = .ok (.aload_n 0, 1) := by decide +kernel
theorem dX4_takeOutput_21 : decode cX4_takeOutput 21 = .ok (.getfield 126, 3) := by decide +kernel
theorem dX4_takeOutput_24 : decode cX4_takeOutput 24 = .ok (.aload_n 0, 1) := by decide +kernel
theorem dX4_takeOutput_25 : decode cX4_takeOutput 25 = .ok (.getfield 10, 3) := by decide +kernel
theorem dX4_takeOutput_28 : decode cX4_takeOutput 28 = .ok (.getfield 65, 3) := by decide +kernel
theorem dX4_takeOutput_31 : decode cX4_takeOutput 31 = .ok (.if_icmp .lt 7, 3) := by decide +kernel
theorem dX4_takeOutput_34 : decode cX4_takeOutput 34 = .ok (.aload_n 0, 1) := by decide +kernel
theorem dX4_takeOutput_35 : decode cX4_takeOutput 35 = .ok (.invokevirtual 234, 3) := by decide +kernel
theorem dX4_takeOutput_38 : decode cX4_takeOutput 38 = .ok (.return_, 1) := by decide +kernel
theorem dX4_simulateTrial_0 : decode cX4_simulateTrial 0 = .ok (.aload_n 0, 1) := by decide +kernel
theorem dX4_simulateTrial_1 : decode cX4_simulateTrial 1 = .ok (.invokevirtual 116, 3) := by decide +kernel
theorem dX4_simulateTrial_4 : decode cX4_simulateTrial 4 = .ok (.iconst 0, 1) := by decide +kernel
theorem dX4_simulateTrial_5 : decode cX4_simulateTrial 5 = .ok (.istore_n 1, 1) := by decide +kernel
theorem dX4_simulateTrial_6 : decode cX4_simulateTrial 6 = .ok (.iload_n 1, 1) := by decide +kernel
theorem dX4_simulateTrial_7 : decode cX4_simulateTrial 7 = .ok (.aload_n 0, 1) := by decide +kernel
theorem dX4_simulateTrial_8 : decode cX4_simulateTrial 8 = .ok (.getfield 10, 3) := by decide +kernel
theorem dX4_simulateTrial_11 : decode cX4_simulateTrial 11 = .ok (.getfield 65, 3) := by decide +kernel
theorem dX4_simulateTrial_14 : decode cX4_simulateTrial 14 = .ok (.if_icmp .ge 30, 3) := by decide +kernel
theorem dX4_simulateTrial_17 : decode cX4_simulateTrial 17 = .ok (.aload_n 0, 1) := by decide +kernel
theorem dX4_simulateTrial_18 : decode cX4_simulateTrial 18 = .ok (.aload_n 0, 1) := by decide +kernel
theorem dX4_simulateTrial_19 : decode cX4_simulateTrial 19 = .ok (.getfield 19, 3) := by decide +kernel
theorem dX4_simulateTrial_22 : decode cX4_simulateTrial 22 = .ok (.aload_n 0, 1) := by decide +kernel
theorem dX4_simulateTrial_23 : decode cX4_simulateTrial 23 = .ok (.getfield 41, 3) := by decide +kernel
theorem dX4_simulateTrial_26 : decode cX4_simulateTrial 26 = .ok (.iload_n 1, 1) := by decide +kernel
theorem dX4_simulateTrial_27 : decode cX4_simulateTrial 27 = .ok (.invokevirtual 237, 3) := by decide +kernel
theorem dX4_simulateTrial_30 : decode cX4_simulateTrial 30 = .ok (.ldc 92, 2) := by decide +kernel
theorem dX4_simulateTrial_32 : decode cX4_simulateTrial 32 = .ok (.invokestatic 240, 3) := by decide +kernel
theorem dX4_simulateTrial_35 : decode cX4_simulateTrial 35 = .ok (.invokevirtual 123, 3) := by decide +kernel
theorem dX4_simulateTrial_38 : decode cX4_simulateTrial 38 = .ok (.iinc 1 1, 3) := by decide +kernel
theorem dX4_simulateTrial_41 : decode cX4_simulateTrial 41 = .ok (.goto (-35), 3) := by decide +kernel
theorem dX4_simulateTrial_44 : decode cX4_simulateTrial 44 = .ok (.return_, 1) := by decide +kernel
theorem dX4_completeTrial_0 : decode cX4_completeTrial 0 = .ok (.aload_n 0, 1) := by decide +kernel
theorem dX4_completeTrial_1 : decode cX4_completeTrial 1 = .ok (.iconst 0, 1) := by decide +kernel
theorem dX4_completeTrial_2 : decode cX4_completeTrial 2 = .ok (.putfield 112, 3) := by decide +kernel
theorem dX4_completeTrial_5 : decode cX4_completeTrial 5 = .ok (.aload_n 0, 1) := by decide +kernel
theorem dX4_completeTrial_6 : decode cX4_completeTrial 6 = .ok (.getfield 26, 3) := by decide +kernel
theorem dX4_completeTrial_9 : decode cX4_completeTrial 9 = .ok (.iconst 0, 1) := by decide +kernel
theorem dX4_completeTrial_10 : decode cX4_completeTrial 10 = .ok (.invokevirtual 148, 3) := by decide +kernel
theorem dX4_completeTrial_13 : decode cX4_completeTrial 13 = .ok (.ifCond .eq 10, 3) := by decide +kernel
theorem dX4_completeTrial_16 : decode cX4_completeTrial 16 = .ok (.aload_n 0, 1) := by decide +kernel
theorem dX4_completeTrial_17 : decode cX4_completeTrial 17 = .ok (.invokevirtual 244, 3) := by decide +kernel
theorem dX4_completeTrial_20 : decode cX4_completeTrial 20 = .ok (.goto 4, 3) := by decide +kernel
theorem dX4_completeTrial_23 : decode cX4_completeTrial 23 = .ok (.iconst 0, 1) := by decide +kernel
theorem dX4_completeTrial_24 : decode cX4_completeTrial 24 = .ok (.istore_n 1, 1) := by decide +kernel
theorem dX4_completeTrial_25 : decode cX4_completeTrial 25 = .ok (.iconst 0, 1) := by decide +kernel
theorem dX4_completeTrial_26 : decode cX4_completeTrial 26 = .ok (.istore_n 2, 1) := by decide +kernel
theorem dX4_completeTrial_27 : decode cX4_completeTrial 27 = .ok (.iload_n 2, 1) := by decide +kernel
theorem dX4_completeTrial_28 : decode cX4_completeTrial 28 = .ok (.aload_n 0, 1) := by decide +kernel
theorem dX4_completeTrial_29 : decode cX4_completeTrial 29 = .ok (.getfield 10, 3) := by decide +kernel
theorem dX4_completeTrial_32 : decode cX4_completeTrial 32 = .ok (.getfield 65, 3) := by decide +kernel
theorem dX4_completeTrial_35 : decode cX4_completeTrial 35 = .ok (.if_icmp .ge 22, 3) := by decide +kernel
theorem dX4_completeTrial_38 : decode cX4_completeTrial 38 = .ok (.aload_n 0, 1) := by decide +kernel
theorem dX4_completeTrial_39 : decode cX4_completeTrial 39 = .ok (.getfield 50, 3) := by decide +kernel
theorem dX4_completeTrial_42 : decode cX4_completeTrial 42 = .ok (.iload_n 2, 1) := by decide +kernel
theorem dX4_completeTrial_43 : decode cX4_completeTrial 43 = .ok (.aload_n 0, 1) := by decide +kernel
theorem dX4_completeTrial_44 : decode cX4_completeTrial 44 = .ok (.iload_n 2, 1) := by decide +kernel
theorem dX4_completeTrial_45 : decode cX4_completeTrial 45 = .ok (.iload_n 1, 1) := by decide +kernel
theorem dX4_completeTrial_46 : decode cX4_completeTrial 46 = .ok (.iadd, 1) := by decide +kernel
theorem dX4_completeTrial_47 : decode cX4_completeTrial 47 = .ok (.invokevirtual 248, 3) := by decide +kernel
theorem dX4_completeTrial_50 : decode cX4_completeTrial 50 = .ok (.iastore, 1) := by decide +kernel
theorem dX4_completeTrial_51 : decode cX4_completeTrial 51 = .ok (.iinc 2 1, 3) := by decide +kernel
theorem dX4_completeTrial_54 : decode cX4_completeTrial 54 = .ok (.goto (-27), 3) := by decide +kernel
theorem dX4_completeTrial_57 : decode cX4_completeTrial 57 = .ok (.aload_n 0, 1) := by decide +kernel
theorem dX4_completeTrial_58 : decode cX4_completeTrial 58 = .ok (.getfield 26, 3) := by decide +kernel
theorem dX4_completeTrial_61 : decode cX4_completeTrial 61 = .ok (.aload_n 0, 1) := by decide +kernel
theorem dX4_completeTrial_62 : decode cX4_completeTrial 62 = .ok (.getfield 37, 3) := by decide +kernel
theorem dX4_completeTrial_65 : decode cX4_completeTrial 65 = .ok (.aload_n 0, 1) := by decide +kernel
theorem dX4_completeTrial_66 : decode cX4_completeTrial 66 = .ok (.getfield 50, 3) := by decide +kernel
theorem dX4_completeTrial_69 : decode cX4_completeTrial 69 = .ok (.aload_n 0, 1) := by decide +kernel
theorem dX4_completeTrial_70 : decode cX4_completeTrial 70 = .ok (.getfield 10, 3) := by decide +kernel
theorem dX4_completeTrial_73 : decode cX4_completeTrial 73 = .ok (.getfield 65, 3) := by decide +kernel
theorem dX4_completeTrial_76 : decode cX4_completeTrial 76 = .ok (.iload_n 1, 1) := by decide +kernel
theorem dX4_completeTrial_77 : decode cX4_completeTrial 77 = .ok (.invokevirtual 251, 3) := by decide +kernel
theorem dX4_completeTrial_80 : decode cX4_completeTrial 80 = .ok (.aload_n 0, 1) := by decide +kernel
theorem dX4_completeTrial_81 : decode cX4_completeTrial 81 = .ok (.aload_n 0, 1) := by decide +kernel
theorem dX4_completeTrial_82 : decode cX4_completeTrial 82 = .ok (.getfield 26, 3) := by decide +kernel
theorem dX4_completeTrial_85 : decode cX4_completeTrial 85 = .ok (.getfield 155, 3) := by decide +kernel
theorem dX4_completeTrial_88 : decode cX4_completeTrial 88 = .ok (.aload_n 0, 1) := by decide +kernel
theorem dX4_completeTrial_89 : decode cX4_completeTrial 89 = .ok (.getfield 26, 3) := by decide +kernel
theorem dX4_completeTrial_92 : decode cX4_completeTrial 92 = .ok (.iconst 0, 1) := by decide +kernel
theorem dX4_completeTrial_93 : decode cX4_completeTrial 93 = .ok (.invokevirtual 158, 3) := by decide +kernel
theorem dX4_completeTrial_96 : decode cX4_completeTrial 96 = .ok (.iaload, 1) := by decide +kernel
theorem dX4_completeTrial_97 : decode cX4_completeTrial 97 = .ok (.invokevirtual 255, 3) := by decide +kernel
theorem dX4_completeTrial_100 : decode cX4_completeTrial 100 = .ok (.aload_n 0, 1) := by decide +kernel
theorem dX4_completeTrial_101 : decode cX4_completeTrial 101 = .ok (.getfield 10, 3) := by decide +kernel
theorem dX4_completeTrial_104 : decode cX4_completeTrial 104 = .ok (.getfield 108, 3) := by decide +kernel
theorem dX4_completeTrial_107 : decode cX4_completeTrial 107 = .ok (.ifCond .eq 18, 3) := by decide +kernel
theorem dX4_completeTrial_110 : decode cX4_completeTrial 110 = .ok (.aload_n 0, 1) := by decide +kernel
theorem dX4_completeTrial_111 : decode cX4_completeTrial 111 = .ok (.getfield 142, 3) := by decide +kernel
theorem dX4_completeTrial_114 : decode cX4_completeTrial 114 = .ok (.iconst 2, 1) := by decide +kernel
theorem dX4_completeTrial_115 : decode cX4_completeTrial 115 = .ok (.if_icmp .lt 10, 3) := by decide +kernel
theorem dX4_completeTrial_118 : decode cX4_completeTrial 118 = .ok (.aload_n 0, 1) := by decide +kernel
theorem dX4_completeTrial_119 : decode cX4_completeTrial 119 = .ok (.invokevirtual 258, 3) := by decide +kernel
theorem dX4_completeTrial_122 : decode cX4_completeTrial 122 = .ok (.goto 23, 3) := by decide +kernel
theorem dX4_completeTrial_125 : decode cX4_completeTrial 125 = .ok (.aload_n 0, 1) := by decide +kernel
theorem dX4_completeTrial_126 : decode cX4_completeTrial 126 = .ok (.aload_n 0, 1) := by decide +kernel
theorem dX4_completeTrial_127 : decode cX4_completeTrial 127 = .ok (.getfield 26, 3) := by decide +kernel
theorem dX4_completeTrial_130 : decode cX4_completeTrial 130 = .ok (.iconst 0, 1) := by decide +kernel
theorem dX4_completeTrial_131 : decode cX4_completeTrial 131 = .ok (.invokevirtual 151, 3) := by decide +kernel
theorem dX4_completeTrial_134 : decode cX4_completeTrial 134 = .ok (.aload_n 0, 1) := by decide +kernel
theorem dX4_completeTrial_135 : decode cX4_completeTrial 135 = .ok (.getfield 10, 3) := by decide +kernel
theorem dX4_completeTrial_138 : decode cX4_completeTrial 138 = .ok (.getfield 65, 3) := by decide +kernel
theorem dX4_completeTrial_141 : decode cX4_completeTrial 141 = .ok (.iconst 0, 1) := by decide +kernel
theorem dX4_completeTrial_142 : decode cX4_completeTrial 142 = .ok (.invokevirtual 261, 3) := by decide +kernel
theorem dX4_completeTrial_145 : decode cX4_completeTrial 145 = .ok (.return_, 1) := by decide +kernel
theorem dX4_bestFittingShift_0 : decode cX4_bestFittingShift 0 = .ok (.iconst 0, 1) := by decide +kernel
theorem dX4_bestFittingShift_1 : decode cX4_bestFittingShift 1 = .ok (.istore_n 1, 1) := by decide +kernel
theorem dX4_bestFittingShift_2 : decode cX4_bestFittingShift 2 = .ok (.aload_n 0, 1) := by decide +kernel
theorem dX4_bestFittingShift_3 : decode cX4_bestFittingShift 3 = .ok (.iconst 0, 1) := by decide +kernel
theorem dX4_bestFittingShift_4 : decode cX4_bestFittingShift 4 = .ok (.invokevirtual 265, 3) := by decide +kernel
theorem dX4_bestFittingShift_7 : decode cX4_bestFittingShift 7 = .ok (.lstore_n 2, 1) := by decide +kernel
theorem dX4_bestFittingShift_8 : decode cX4_bestFittingShift 8 = .ok (.iconst 1, 1) := by decide +kernel
theorem dX4_bestFittingShift_9 : decode cX4_bestFittingShift 9 = .ok (.istore 4, 2) := by decide +kernel
theorem dX4_bestFittingShift_11 : decode cX4_bestFittingShift 11 = .ok (.iload 4, 2) := by decide +kernel
theorem dX4_bestFittingShift_13 : decode cX4_bestFittingShift 13 = .ok (.aload_n 0, 1) := by decide +kernel
theorem dX4_bestFittingShift_14 : decode cX4_bestFittingShift 14 = .ok (.getfield 10, 3) := by decide +kernel
theorem dX4_bestFittingShift_17 : decode cX4_bestFittingShift 17 = .ok (.getfield 99, 3) := by decide +kernel
theorem dX4_bestFittingShift_20 : decode cX4_bestFittingShift 20 = .ok (.if_icmp .gt 54, 3) := by decide +kernel
theorem dX4_bestFittingShift_23 : decode cX4_bestFittingShift 23 = .ok (.iload 4, 2) := by decide +kernel
theorem dX4_bestFittingShift_25 : decode cX4_bestFittingShift 25 = .ok (.ineg, 1) := by decide +kernel
theorem dX4_bestFittingShift_26 : decode cX4_bestFittingShift 26 = .ok (.istore 5, 2) := by decide +kernel
theorem dX4_bestFittingShift_28 : decode cX4_bestFittingShift 28 = .ok (.iload 5, 2) := by decide +kernel
theorem dX4_bestFittingShift_30 : decode cX4_bestFittingShift 30 = .ok (.iload 4, 2) := by decide +kernel
theorem dX4_bestFittingShift_32 : decode cX4_bestFittingShift 32 = .ok (.if_icmp .gt 36, 3) := by decide +kernel
theorem dX4_bestFittingShift_35 : decode cX4_bestFittingShift 35 = .ok (.aload_n 0, 1) := by decide +kernel
theorem dX4_bestFittingShift_36 : decode cX4_bestFittingShift 36 = .ok (.iload 5, 2) := by decide +kernel
theorem dX4_bestFittingShift_38 : decode cX4_bestFittingShift 38 = .ok (.invokevirtual 265, 3) := by decide +kernel
theorem dX4_bestFittingShift_41 : decode cX4_bestFittingShift 41 = .ok (.lstore 6, 2) := by decide +kernel
theorem dX4_bestFittingShift_43 : decode cX4_bestFittingShift 43 = .ok (.lload 6, 2) := by decide +kernel
theorem dX4_bestFittingShift_45 : decode cX4_bestFittingShift 45 = .ok (.lload_n 2, 1) := by decide +kernel
theorem dX4_bestFittingShift_46 : decode cX4_bestFittingShift 46 = .ok (.lcmp, 1) := by decide +kernel
theorem dX4_bestFittingShift_47 : decode cX4_bestFittingShift 47 = .ok (.ifCond .ge 9, 3) := by decide +kernel
theorem dX4_bestFittingShift_50 : decode cX4_bestFittingShift 50 = .ok (.lload 6, 2) := by decide +kernel
theorem dX4_bestFittingShift_52 : decode cX4_bestFittingShift 52 = .ok (.lstore_n 2, 1) := by decide +kernel
theorem dX4_bestFittingShift_53 : decode cX4_bestFittingShift 53 = .ok (.iload 5, 2) := by decide +kernel
theorem dX4_bestFittingShift_55 : decode cX4_bestFittingShift 55 = .ok (.istore_n 1, 1) := by decide +kernel
theorem dX4_bestFittingShift_56 : decode cX4_bestFittingShift 56 = .ok (.iload 5, 2) := by decide +kernel
theorem dX4_bestFittingShift_58 : decode cX4_bestFittingShift 58 = .ok (.iconst 2, 1) := by decide +kernel
theorem dX4_bestFittingShift_59 : decode cX4_bestFittingShift 59 = .ok (.iload 4, 2) := by decide +kernel
theorem dX4_bestFittingShift_61 : decode cX4_bestFittingShift 61 = .ok (.imul, 1) := by decide +kernel
theorem dX4_bestFittingShift_62 : decode cX4_bestFittingShift 62 = .ok (.iadd, 1) := by decide +kernel
theorem dX4_bestFittingShift_63 : decode cX4_bestFittingShift 63 = .ok (.istore 5, 2) := by decide +kernel
theorem dX4_bestFittingShift_65 : decode cX4_bestFittingShift 65 = .ok (.goto (-37), 3) := by decide +kernel
theorem dX4_bestFittingShift_68 : decode cX4_bestFittingShift 68 = .ok (.iinc 4 1, 3) := by decide +kernel
theorem dX4_bestFittingShift_71 : decode cX4_bestFittingShift 71 = .ok (.goto (-60), 3) := by decide +kernel
theorem dX4_bestFittingShift_74 : decode cX4_bestFittingShift 74 = .ok (.iload_n 1, 1) := by decide +kernel
theorem dX4_bestFittingShift_75 : decode cX4_bestFittingShift 75 = .ok (.ireturn, 1) := by decide +kernel
theorem dX4_misfit_0 : decode cX4_misfit 0 = .ok (.lconst 0, 1) := by decide +kernel
theorem dX4_misfit_1 : decode cX4_misfit 1 = .ok (.lstore_n 2, 1) := by decide +kernel
theorem dX4_misfit_2 : decode cX4_misfit 2 = .ok (.iconst 0, 1) := by decide +kernel
theorem dX4_misfit_3 : decode cX4_misfit 3 = .ok (.istore 4, 2) := by decide +kernel
theorem dX4_misfit_5 : decode cX4_misfit 5 = .ok (.iload 4, 2) := by decide +kernel
theorem dX4_misfit_7 : decode cX4_misfit 7 = .ok (.aload_n 0, 1) := by decide +kernel
theorem dX4_misfit_8 : decode cX4_misfit 8 = .ok (.getfield 10, 3) := by decide +kernel
theorem dX4_misfit_11 : decode cX4_misfit 11 = .ok (.getfield 65, 3) := by decide +kernel
theorem dX4_misfit_14 : decode cX4_misfit 14 = .ok (.if_icmp .ge 32, 3) := by decide +kernel
theorem dX4_misfit_17 : decode cX4_misfit 17 = .ok (.lload_n 2, 1) := by decide +kernel
theorem dX4_misfit_18 : decode cX4_misfit 18 = .ok (.aload_n 0, 1) := by decide +kernel
theorem dX4_misfit_19 : decode cX4_misfit 19 = .ok (.iload 4, 2) := by decide +kernel
theorem dX4_misfit_21 : decode cX4_misfit 21 = .ok (.iload_n 1, 1) := by decide +kernel
theorem dX4_misfit_22 : decode cX4_misfit 22 = .ok (.iadd, 1) := by decide +kernel
theorem dX4_misfit_23 : decode cX4_misfit 23 = .ok (.invokevirtual 248, 3) := by decide +kernel
theorem dX4_misfit_26 : decode cX4_misfit 26 = .ok (.aload_n 0, 1) := by decide +kernel
theorem dX4_misfit_27 : decode cX4_misfit 27 = .ok (.getfield 50, 3) := by decide +kernel
theorem dX4_misfit_30 : decode cX4_misfit 30 = .ok (.iload 4, 2) := by decide +kernel
theorem dX4_misfit_32 : decode cX4_misfit 32 = .ok (.iaload, 1) := by decide +kernel
theorem dX4_misfit_33 : decode cX4_misfit 33 = .ok (.isub, 1) := by decide +kernel
theorem dX4_misfit_34 : decode cX4_misfit 34 = .ok (.invokestatic 269, 3) := by decide +kernel
theorem dX4_misfit_37 : decode cX4_misfit 37 = .ok (.i2l, 1) := by decide +kernel
theorem dX4_misfit_38 : decode cX4_misfit 38 = .ok (.ladd, 1) := by decide +kernel
theorem dX4_misfit_39 : decode cX4_misfit 39 = .ok (.lstore_n 2, 1) := by decide +kernel
theorem dX4_misfit_40 : decode cX4_misfit 40 = .ok (.iinc 4 1, 3) := by decide +kernel
theorem dX4_misfit_43 : decode cX4_misfit 43 = .ok (.goto (-38), 3) := by decide +kernel
theorem dX4_misfit_46 : decode cX4_misfit 46 = .ok (.lload_n 2, 1) := by decide +kernel
theorem dX4_misfit_47 : decode cX4_misfit 47 = .ok (.lreturn, 1) := by decide +kernel
theorem dX4_rawAt_0 : decode cX4_rawAt 0 = .ok (.aload_n 0, 1) := by decide +kernel
theorem dX4_rawAt_1 : decode cX4_rawAt 1 = .ok (.getfield 47, 3) := by decide +kernel
theorem dX4_rawAt_4 : decode cX4_rawAt 4 = .ok (.iconst 0, 1) := by decide +kernel
theorem dX4_rawAt_5 : decode cX4_rawAt 5 = .ok (.aload_n 0, 1) := by decide +kernel
theorem dX4_rawAt_6 : decode cX4_rawAt 6 = .ok (.getfield 10, 3) := by decide +kernel
theorem dX4_rawAt_9 : decode cX4_rawAt 9 = .ok (.getfield 65, 3) := by decide +kernel
theorem dX4_rawAt_12 : decode cX4_rawAt 12 = .ok (.iconst 1, 1) := by decide +kernel
theorem dX4_rawAt_13 : decode cX4_rawAt 13 = .ok (.isub, 1) := by decide +kernel
theorem dX4_rawAt_14 : decode cX4_rawAt 14 = .ok (.iload_n 1, 1) := by decide +kernel
theorem dX4_rawAt_15 : decode cX4_rawAt 15 = .ok (.invokestatic 271, 3) := by decide +kernel
theorem dX4_rawAt_18 : decode cX4_rawAt 18 = .ok (.invokestatic 274, 3) := by decide +kernel
theorem dX4_rawAt_21 : decode cX4_rawAt 21 = .ok (.iaload, 1) := by decide +kernel
theorem dX4_rawAt_22 : decode cX4_rawAt 22 = .ok (.ireturn, 1) := by decide +kernel
theorem dX4_judge_0 : decode cX4_judge 0 = .ok (.aload_n 0, 1) := by decide +kernel
theorem dX4_judge_1 : decode cX4_judge 1 = .ok (.getfield 33, 3) := by decide +kernel
theorem dX4_judge_4 : decode cX4_judge 4 = .ok (.getfield 177, 3) := by decide +kernel
theorem dX4_judge_7 : decode cX4_judge 7 = .ok (.ifCond .eq 14, 3) := by decide +kernel
theorem dX4_judge_10 : decode cX4_judge 10 = .ok (.iload_n 1, 1) := by decide +kernel
theorem dX4_judge_11 : decode cX4_judge 11 = .ok (.aload_n 0, 1) := by decide +kernel
theorem dX4_judge_12 : decode cX4_judge 12 = .ok (.getfield 33, 3) := by decide +kernel
theorem dX4_judge_15 : decode cX4_judge 15 = .ok (.getfield 180, 3) := by decide +kernel
theorem dX4_judge_18 : decode cX4_judge 18 = .ok (.if_icmp .ge 29, 3) := by decide +kernel
theorem dX4_judge_21 : decode cX4_judge 21 = .ok (.aload_n 0, 1) := by decide +kernel
theorem dX4_judge_22 : decode cX4_judge 22 = .ok (.getfield 33, 3) := by decide +kernel
theorem dX4_judge_25 : decode cX4_judge 25 = .ok (.iload_n 1, 1) := by decide +kernel
theorem dX4_judge_26 : decode cX4_judge 26 = .ok (.aload_n 0, 1) := by decide +kernel
theorem dX4_judge_27 : decode cX4_judge 27 = .ok (.getfield 119, 3) := by decide +kernel
theorem dX4_judge_30 : decode cX4_judge 30 = .ok (.iconst 1, 1) := by decide +kernel
theorem dX4_judge_31 : decode cX4_judge 31 = .ok (.isub, 1) := by decide +kernel
theorem dX4_judge_32 : decode cX4_judge 32 = .ok (.aload_n 0, 1) := by decide +kernel
theorem dX4_judge_33 : decode cX4_judge 33 = .ok (.getfield 41, 3) := by decide +kernel
theorem dX4_judge_36 : decode cX4_judge 36 = .ok (.invokevirtual 276, 3) := by decide +kernel
theorem dX4_judge_39 : decode cX4_judge 39 = .ok (.aload_n 0, 1) := by decide +kernel
theorem dX4_judge_40 : decode cX4_judge 40 = .ok (.iconst 0, 1) := by decide +kernel
theorem dX4_judge_41 : decode cX4_judge 41 = .ok (.putfield 142, 3) := by decide +kernel
theorem dX4_judge_44 : decode cX4_judge 44 = .ok (.goto 32, 3) := by decide +kernel
theorem dX4_judge_47 : decode cX4_judge 47 = .ok (.iload_n 1, 1) := by decide +kernel
theorem dX4_judge_48 : decode cX4_judge 48 = .ok (.aload_n 0, 1) := by decide +kernel
theorem dX4_judge_49 : decode cX4_judge 49 = .ok (.getfield 33, 3) := by decide +kernel
theorem dX4_judge_52 : decode cX4_judge 52 = .ok (.getfield 180, 3) := by decide +kernel
theorem dX4_judge_55 : decode cX4_judge 55 = .ok (.if_icmp .le 16, 3) := by decide +kernel
theorem dX4_judge_58 : decode cX4_judge 58 = .ok (.aload_n 0, 1) := by decide +kernel
theorem dX4_judge_59 : decode cX4_judge 59 = .ok (.dup, 1) := by decide +kernel
theorem dX4_judge_60 : decode cX4_judge 60 = .ok (.getfield 142, 3) := by decide +kernel
theorem dX4_judge_63 : decode cX4_judge 63 = .ok (.iconst 1, 1) := by decide +kernel
theorem dX4_judge_64 : decode cX4_judge 64 = .ok (.iadd, 1) := by decide +kernel
theorem dX4_judge_65 : decode cX4_judge 65 = .ok (.putfield 142, 3) := by decide +kernel
theorem dX4_judge_68 : decode cX4_judge 68 = .ok (.goto 8, 3) := by decide +kernel
theorem dX4_judge_71 : decode cX4_judge 71 = .ok (.aload_n 0, 1) := by decide +kernel
theorem dX4_judge_72 : decode cX4_judge 72 = .ok (.iconst 0, 1) := by decide +kernel
theorem dX4_judge_73 : decode cX4_judge 73 = .ok (.putfield 142, 3) := by decide +kernel
theorem dX4_judge_76 : decode cX4_judge 76 = .ok (.return_, 1) := by decide +kernel
theorem dX4_fallBack_0 : decode cX4_fallBack 0 = .ok (.aload_n 0, 1) := by decide +kernel
theorem dX4_fallBack_1 : decode cX4_fallBack 1 = .ok (.getfield 33, 3) := by decide +kernel
theorem dX4_fallBack_4 : decode cX4_fallBack 4 = .ok (.getfield 186, 3) := by decide +kernel
theorem dX4_fallBack_7 : decode cX4_fallBack 7 = .ok (.iconst 0, 1) := by decide +kernel
theorem dX4_fallBack_8 : decode cX4_fallBack 8 = .ok (.aload_n 0, 1) := by decide +kernel
theorem dX4_fallBack_9 : decode cX4_fallBack 9 = .ok (.getfield 41, 3) := by decide +kernel
theorem dX4_fallBack_12 : decode cX4_fallBack 12 = .ok (.iconst 0, 1) := by decide +kernel
theorem dX4_fallBack_13 : decode cX4_fallBack 13 = .ok (.bipush 48, 2) := by decide +kernel
theorem dX4_fallBack_15 : decode cX4_fallBack 15 = .ok (.invokestatic 280, 3) := by decide +kernel
theorem dX4_fallBack_18 : decode cX4_fallBack 18 = .ok (.aload_n 0, 1) := by decide +kernel
theorem dX4_fallBack_19 : decode cX4_fallBack 19 = .ok (.getfield 10, 3) := by decide +kernel
theorem dX4_fallBack_22 : decode cX4_fallBack 22 = .ok (.dup, 1) := by decide +kernel
theorem dX4_fallBack_23 : decode cX4_fallBack 23 = .ok (.getfield 76, 3) := by decide +kernel
theorem dX4_fallBack_26 : decode cX4_fallBack 26 = .ok (.iconst 2, 1) := by decide +kernel
theorem dX4_fallBack_27 : decode cX4_fallBack 27 = .ok (.idiv, 1) := by decide +kernel
theorem dX4_fallBack_28 : decode cX4_fallBack 28 = .ok (.putfield 76, 3) := by decide +kernel
theorem dX4_fallBack_31 : decode cX4_fallBack 31 = .ok (.aload_n 0, 1) := by decide +kernel
theorem dX4_fallBack_32 : decode cX4_fallBack 32 = .ok (.iconst 0, 1) := by decide +kernel
theorem dX4_fallBack_33 : decode cX4_fallBack 33 = .ok (.putfield 142, 3) := by decide +kernel
theorem dX4_fallBack_36 : decode cX4_fallBack 36 = .ok (.aload_n 0, 1) := by decide +kernel
theorem dX4_fallBack_37 : decode cX4_fallBack 37 = .ok (.dup, 1) := by decide +kernel
theorem dX4_fallBack_38 : decode cX4_fallBack 38 = .ok (.getfield 139, 3) := by decide +kernel
theorem dX4_fallBack_41 : decode cX4_fallBack 41 = .ok (.iconst 1, 1) := by decide +kernel
theorem dX4_fallBack_42 : decode cX4_fallBack 42 = .ok (.iadd, 1) := by decide +kernel
theorem dX4_fallBack_43 : decode cX4_fallBack 43 = .ok (.putfield 139, 3) := by decide +kernel
theorem dX4_fallBack_46 : decode cX4_fallBack 46 = .ok (.return_, 1) := by decide +kernel
theorem dX4_learnFromPart_0 : decode cX4_learnFromPart 0 = .ok (.iconst 0, 1) := by decide +kernel
theorem dX4_learnFromPart_1 : decode cX4_learnFromPart 1 = .ok (.istore_n 1, 1) := by decide +kernel
theorem dX4_learnFromPart_2 : decode cX4_learnFromPart 2 = .ok (.iload_n 1, 1) := by decide +kernel
theorem dX4_learnFromPart_3 : decode cX4_learnFromPart 3 = .ok (.aload_n 0, 1) := by decide +kernel
theorem dX4_learnFromPart_4 : decode cX4_learnFromPart 4 = .ok (.getfield 126, 3) := by decide +kernel
theorem dX4_learnFromPart_7 : decode cX4_learnFromPart 7 = .ok (.if_icmp .ge 28, 3) := by decide +kernel
theorem dX4_learnFromPart_10 : decode cX4_learnFromPart 10 = .ok (.aload_n 0, 1) := by decide +kernel
theorem dX4_learnFromPart_11 : decode cX4_learnFromPart 11 = .ok (.getfield 53, 3) := by decide +kernel
theorem dX4_learnFromPart_14 : decode cX4_learnFromPart 14 = .ok (.iload_n 1, 1) := by decide +kernel
theorem dX4_learnFromPart_15 : decode cX4_learnFromPart 15 = .ok (.aload_n 0, 1) := by decide +kernel
theorem dX4_learnFromPart_16 : decode cX4_learnFromPart 16 = .ok (.getfield 37, 3) := by decide +kernel
theorem dX4_learnFromPart_19 : decode cX4_learnFromPart 19 = .ok (.iload_n 1, 1) := by decide +kernel
theorem dX4_learnFromPart_20 : decode cX4_learnFromPart 20 = .ok (.iaload, 1) := by decide +kernel
theorem dX4_learnFromPart_21 : decode cX4_learnFromPart 21 = .ok (.aload_n 0, 1) := by decide +kernel
theorem dX4_learnFromPart_22 : decode cX4_learnFromPart 22 = .ok (.getfield 47, 3) := by decide +kernel
theorem dX4_learnFromPart_25 : decode cX4_learnFromPart 25 = .ok (.iload_n 1, 1) := by decide +kernel
theorem dX4_learnFromPart_26 : decode cX4_learnFromPart 26 = .ok (.iaload, 1) := by decide +kernel
theorem dX4_learnFromPart_27 : decode cX4_learnFromPart 27 = .ok (.isub, 1) := by decide +kernel
theorem dX4_learnFromPart_28 : decode cX4_learnFromPart 28 = .ok (.iastore, 1) := by decide +kernel
theorem dX4_learnFromPart_29 : decode cX4_learnFromPart 29 = .ok (.iinc 1 1, 3) := by decide +kernel
theorem dX4_learnFromPart_32 : decode cX4_learnFromPart 32 = .ok (.goto (-30), 3) := by decide +kernel
theorem dX4_learnFromPart_35 : decode cX4_learnFromPart 35 = .ok (.aload_n 0, 1) := by decide +kernel
theorem dX4_learnFromPart_36 : decode cX4_learnFromPart 36 = .ok (.aload_n 0, 1) := by decide +kernel
theorem dX4_learnFromPart_37 : decode cX4_learnFromPart 37 = .ok (.getfield 53, 3) := by decide +kernel
theorem dX4_learnFromPart_40 : decode cX4_learnFromPart 40 = .ok (.aload_n 0, 1) := by decide +kernel
theorem dX4_learnFromPart_41 : decode cX4_learnFromPart 41 = .ok (.getfield 126, 3) := by decide +kernel
theorem dX4_learnFromPart_44 : decode cX4_learnFromPart 44 = .ok (.iconst 1, 1) := by decide +kernel
theorem dX4_learnFromPart_45 : decode cX4_learnFromPart 45 = .ok (.invokevirtual 261, 3) := by decide +kernel
theorem dX4_learnFromPart_48 : decode cX4_learnFromPart 48 = .ok (.return_, 1) := by decide +kernel
theorem dX4_correct_0 : decode cX4_correct 0 = .ok (.iconst 0, 1) := by decide +kernel
theorem dX4_correct_1 : decode cX4_correct 1 = .ok (.istore 4, 2) := by decide +kernel
theorem dX4_correct_3 : decode cX4_correct 3 = .ok (.iload 4, 2) := by decide +kernel
theorem dX4_correct_5 : decode cX4_correct 5 = .ok (.aload_n 0, 1) := by decide +kernel
theorem dX4_correct_6 : decode cX4_correct 6 = .ok (.getfield 10, 3) := by decide +kernel
theorem dX4_correct_9 : decode cX4_correct 9 = .ok (.getfield 79, 3) := by decide +kernel
theorem dX4_correct_12 : decode cX4_correct 12 = .ok (.iadd, 1) := by decide +kernel
theorem dX4_correct_13 : decode cX4_correct 13 = .ok (.iload_n 2, 1) := by decide +kernel
theorem dX4_correct_14 : decode cX4_correct 14 = .ok (.if_icmp .ge 99, 3) := by decide +kernel
theorem dX4_correct_17 : decode cX4_correct 17 = .ok (.iload 4, 2) := by decide +kernel
theorem dX4_correct_19 : decode cX4_correct 19 = .ok (.aload_n 0, 1) := by decide +kernel
theorem dX4_correct_20 : decode cX4_correct 20 = .ok (.getfield 10, 3) := by decide +kernel
theorem dX4_correct_23 : decode cX4_correct 23 = .ok (.getfield 79, 3) := by decide +kernel
theorem dX4_correct_26 : decode cX4_correct 26 = .ok (.iadd, 1) := by decide +kernel
theorem dX4_correct_27 : decode cX4_correct 27 = .ok (.istore 5, 2) := by decide +kernel
theorem dX4_correct_29 : decode cX4_correct 29 = .ok (.iload_n 3, 1) := by decide +kernel
theorem dX4_correct_30 : decode cX4_correct 30 = .ok (.ifCond .eq 20, 3) := by decide +kernel
theorem dX4_correct_33 : decode cX4_correct 33 = .ok (.aload_n 0, 1) := by decide +kernel
theorem dX4_correct_34 : decode cX4_correct 34 = .ok (.getfield 10, 3) := by decide +kernel
theorem dX4_correct_37 : decode cX4_correct 37 = .ok (.getfield 96, 3) := by decide +kernel
theorem dX4_correct_40 : decode cX4_correct 40 = .ok (.iload_n 2, 1) := by decide +kernel
theorem dX4_correct_41 : decode cX4_correct 41 = .ok (.iload 5, 2) := by decide +kernel
theorem dX4_correct_43 : decode cX4_correct 43 = .ok (.isub, 1) := by decide +kernel
theorem dX4_correct_44 : decode cX4_correct 44 = .ok (.invokestatic 271, 3) := by decide +kernel
theorem dX4_correct_47 : decode cX4_correct 47 = .ok (.goto 10, 3) := by decide +kernel
theorem dX4_correct_50 : decode cX4_correct 50 = .ok (.aload_n 0, 1) := by decide +kernel
theorem dX4_correct_51 : decode cX4_correct 51 = .ok (.getfield 10, 3) := by decide +kernel
theorem dX4_correct_54 : decode cX4_correct 54 = .ok (.getfield 96, 3) := by decide +kernel
theorem dX4_correct_57 : decode cX4_correct 57 = .ok (.istore 6, 2) := by decide +kernel
theorem dX4_correct_59 : decode cX4_correct 59 = .ok (.aload_n 0, 1) := by decide +kernel
theorem dX4_correct_60 : decode cX4_correct 60 = .ok (.getfield 10, 3) := by decide +kernel
theorem dX4_correct_63 : decode cX4_correct 63 = .ok (.getfield 76, 3) := by decide +kernel
theorem dX4_correct_66 : decode cX4_correct 66 = .ok (.i2l, 1) := by decide +kernel
theorem dX4_correct_67 : decode cX4_correct 67 = .ok (.aload_n 1, 1) := by decide +kernel
theorem dX4_correct_68 : decode cX4_correct 68 = .ok (.iload 5, 2) := by decide +kernel
theorem dX4_correct_70 : decode cX4_correct 70 = .ok (.iaload, 1) := by decide +kernel
theorem dX4_correct_71 : decode cX4_correct 71 = .ok (.i2l, 1) := by decide +kernel
theorem dX4_correct_72 : decode cX4_correct 72 = .ok (.lmul, 1) := by decide +kernel
theorem dX4_correct_73 : decode cX4_correct 73 = .ok (.iload 6, 2) := by decide +kernel
theorem dX4_correct_75 : decode cX4_correct 75 = .ok (.i2l, 1) := by decide +kernel
theorem dX4_correct_76 : decode cX4_correct 76 = .ok (.lmul, 1) := by decide +kernel
theorem dX4_correct_77 : decode cX4_correct 77 = .ok (.lstore 7, 2) := by decide +kernel
theorem dX4_correct_79 : decode cX4_correct 79 = .ok (.aload_n 0, 1) := by decide +kernel
theorem dX4_correct_80 : decode cX4_correct 80 = .ok (.getfield 41, 3) := by decide +kernel
theorem dX4_correct_83 : decode cX4_correct 83 = .ok (.iload 4, 2) := by decide +kernel
theorem dX4_correct_85 : decode cX4_correct 85 = .ok (.dup2, 1) := by decide +kernel
theorem dX4_correct_86 : decode cX4_correct 86 = .ok (.iaload, 1) := by decide +kernel
theorem dX4_correct_87 : decode cX4_correct 87 = .ok (.lload 7, 2) := by decide +kernel
theorem dX4_correct_89 : decode cX4_correct 89 = .ok (.ldc2_w 286, 3) := by decide +kernel
theorem dX4_correct_92 : decode cX4_correct 92 = .ok (.aload_n 0, 1) := by decide +kernel
theorem dX4_correct_93 : decode cX4_correct 93 = .ok (.getfield 10, 3) := by decide +kernel
theorem dX4_correct_96 : decode cX4_correct 96 = .ok (.getfield 96, 3) := by decide +kernel
theorem dX4_correct_99 : decode cX4_correct 99 = .ok (.i2l, 1) := by decide +kernel
theorem dX4_correct_100 : decode cX4_correct 100 = .ok (.lmul, 1) := by decide +kernel
theorem dX4_correct_101 : decode cX4_correct 101 = .ok (.invokestatic 288, 3) := by decide +kernel
theorem dX4_correct_104 : decode cX4_correct 104 = .ok (.l2i, 1) := by decide +kernel
theorem dX4_correct_105 : decode cX4_correct 105 = .ok (.iadd, 1) := by decide +kernel
theorem dX4_correct_106 : decode cX4_correct 106 = .ok (.iastore, 1) := by decide +kernel
theorem dX4_correct_107 : decode cX4_correct 107 = .ok (.iinc 4 1, 3) := by decide +kernel
theorem dX4_correct_110 : decode cX4_correct 110 = .ok (.goto (-107), 3) := by decide +kernel
theorem dX4_correct_113 : decode cX4_correct 113 = .ok (.iconst 0, 1) := by decide +kernel
theorem dX4_correct_114 : decode cX4_correct 114 = .ok (.istore 4, 2) := by decide +kernel
theorem dX4_correct_116 : decode cX4_correct 116 = .ok (.iload 4, 2) := by decide +kernel
theorem dX4_correct_118 : decode cX4_correct 118 = .ok (.aload_n 0, 1) := by decide +kernel
theorem dX4_correct_119 : decode cX4_correct 119 = .ok (.getfield 10, 3) := by decide +kernel
theorem dX4_correct_122 : decode cX4_correct 122 = .ok (.getfield 89, 3) := by decide +kernel
theorem dX4_correct_125 : decode cX4_correct 125 = .ok (.if_icmp .ge 13, 3) := by decide +kernel
theorem dX4_correct_128 : decode cX4_correct 128 = .ok (.aload_n 0, 1) := by decide +kernel
theorem dX4_correct_129 : decode cX4_correct 129 = .ok (.invokevirtual 291, 3) := by decide +kernel
theorem dX4_correct_132 : decode cX4_correct 132 = .ok (.iinc 4 1, 3) := by decide +kernel
theorem dX4_correct_135 : decode cX4_correct 135 = .ok (.goto (-19), 3) := by decide +kernel
theorem dX4_correct_138 : decode cX4_correct 138 = .ok (.iconst 0, 1) := by decide +kernel
theorem dX4_correct_139 : decode cX4_correct 139 = .ok (.istore 4, 2) := by decide +kernel
theorem dX4_correct_141 : decode cX4_correct 141 = .ok (.iload 4, 2) := by decide +kernel
theorem dX4_correct_143 : decode cX4_correct 143 = .ok (.aload_n 0, 1) := by decide +kernel
theorem dX4_correct_144 : decode cX4_correct 144 = .ok (.getfield 10, 3) := by decide +kernel
theorem dX4_correct_147 : decode cX4_correct 147 = .ok (.getfield 65, 3) := by decide +kernel
theorem dX4_correct_150 : decode cX4_correct 150 = .ok (.if_icmp .ge 34, 3) := by decide +kernel
theorem dX4_correct_153 : decode cX4_correct 153 = .ok (.aload_n 0, 1) := by decide +kernel
theorem dX4_correct_154 : decode cX4_correct 154 = .ok (.getfield 41, 3) := by decide +kernel
theorem dX4_correct_157 : decode cX4_correct 157 = .ok (.iload 4, 2) := by decide +kernel
theorem dX4_correct_159 : decode cX4_correct 159 = .ok (.aload_n 0, 1) := by decide +kernel
theorem dX4_correct_160 : decode cX4_correct 160 = .ok (.getfield 41, 3) := by decide +kernel
theorem dX4_correct_163 : decode cX4_correct 163 = .ok (.iload 4, 2) := by decide +kernel
theorem dX4_correct_165 : decode cX4_correct 165 = .ok (.iaload, 1) := by decide +kernel
theorem dX4_correct_166 : decode cX4_correct 166 = .ok (.i2l, 1) := by decide +kernel
theorem dX4_correct_167 : decode cX4_correct 167 = .ok (.aload_n 0, 1) := by decide +kernel
theorem dX4_correct_168 : decode cX4_correct 168 = .ok (.getfield 10, 3) := by decide +kernel
theorem dX4_correct_171 : decode cX4_correct 171 = .ok (.getfield 93, 3) := by decide +kernel
theorem dX4_correct_174 : decode cX4_correct 174 = .ok (.invokestatic 240, 3) := by decide +kernel
theorem dX4_correct_177 : decode cX4_correct 177 = .ok (.iastore, 1) := by decide +kernel
theorem dX4_correct_178 : decode cX4_correct 178 = .ok (.iinc 4 1, 3) := by decide +kernel
theorem dX4_correct_181 : decode cX4_correct 181 = .ok (.goto (-40), 3) := by decide +kernel
theorem dX4_correct_184 : decode cX4_correct 184 = .ok (.return_, 1) := by decide +kernel
theorem dX4_smoothOnce_0 : decode cX4_smoothOnce 0 = .ok (.aload_n 0, 1) := by decide +kernel
theorem dX4_smoothOnce_1 : decode cX4_smoothOnce 1 = .ok (.getfield 10, 3) := by decide +kernel
theorem dX4_smoothOnce_4 : decode cX4_smoothOnce 4 = .ok (.getfield 65, 3) := by decide +kernel
theorem dX4_smoothOnce_7 : decode cX4_smoothOnce 7 = .ok (.iconst 1, 1) := by decide +kernel
theorem dX4_smoothOnce_8 : decode cX4_smoothOnce 8 = .ok (.isub, 1) := by decide +kernel
theorem dX4_smoothOnce_9 : decode cX4_smoothOnce 9 = .ok (.istore_n 1, 1) := by decide +kernel
theorem dX4_smoothOnce_10 : decode cX4_smoothOnce 10 = .ok (.aload_n 0, 1) := by decide +kernel
theorem dX4_smoothOnce_11 : decode cX4_smoothOnce 11 = .ok (.getfield 10, 3) := by decide +kernel
theorem dX4_smoothOnce_14 : decode cX4_smoothOnce 14 = .ok (.getfield 86, 3) := by decide +kernel
theorem dX4_smoothOnce_17 : decode cX4_smoothOnce 17 = .ok (.i2l, 1) := by decide +kernel
theorem dX4_smoothOnce_18 : decode cX4_smoothOnce 18 = .ok (.lstore_n 2, 1) := by decide +kernel
theorem dX4_smoothOnce_19 : decode cX4_smoothOnce 19 = .ok (.ldc2_w 286, 3) := by decide +kernel
theorem dX4_smoothOnce_22 : decode cX4_smoothOnce 22 = .ok (.ldc2_w 294, 3) := by decide +kernel
theorem dX4_smoothOnce_25 : decode cX4_smoothOnce 25 = .ok (.lload_n 2, 1) := by decide +kernel
theorem dX4_smoothOnce_26 : decode cX4_smoothOnce 26 = .ok (.lmul, 1) := by decide +kernel
theorem dX4_smoothOnce_27 : decode cX4_smoothOnce 27 = .ok (.lsub, 1) := by decide +kernel
theorem dX4_smoothOnce_28 : decode cX4_smoothOnce 28 = .ok (.lstore 4, 2) := by decide +kernel
theorem dX4_smoothOnce_30 : decode cX4_smoothOnce 30 = .ok (.iconst 0, 1) := by decide +kernel
theorem dX4_smoothOnce_31 : decode cX4_smoothOnce 31 = .ok (.istore 6, 2) := by decide +kernel
theorem dX4_smoothOnce_33 : decode cX4_smoothOnce 33 = .ok (.iload 6, 2) := by decide +kernel
theorem dX4_smoothOnce_35 : decode cX4_smoothOnce 35 = .ok (.iload_n 1, 1) := by decide +kernel
theorem dX4_smoothOnce_36 : decode cX4_smoothOnce 36 = .ok (.if_icmp .gt 76, 3) := by decide +kernel
theorem dX4_smoothOnce_39 : decode cX4_smoothOnce 39 = .ok (.aload_n 0, 1) := by decide +kernel
theorem dX4_smoothOnce_40 : decode cX4_smoothOnce 40 = .ok (.getfield 41, 3) := by decide +kernel
theorem dX4_smoothOnce_43 : decode cX4_smoothOnce 43 = .ok (.iconst 0, 1) := by decide +kernel
theorem dX4_smoothOnce_44 : decode cX4_smoothOnce 44 = .ok (.iload 6, 2) := by decide +kernel
theorem dX4_smoothOnce_46 : decode cX4_smoothOnce 46 = .ok (.iconst 1, 1) := by decide +kernel
theorem dX4_smoothOnce_47 : decode cX4_smoothOnce 47 = .ok (.isub, 1) := by decide +kernel
theorem dX4_smoothOnce_48 : decode cX4_smoothOnce 48 = .ok (.invokestatic 274, 3) := by decide +kernel
theorem dX4_smoothOnce_51 : decode cX4_smoothOnce 51 = .ok (.iaload, 1) := by decide +kernel
theorem dX4_smoothOnce_52 : decode cX4_smoothOnce 52 = .ok (.i2l, 1) := by decide +kernel
theorem dX4_smoothOnce_53 : decode cX4_smoothOnce 53 = .ok (.lstore 7, 2) := by decide +kernel
theorem dX4_smoothOnce_55 : decode cX4_smoothOnce 55 = .ok (.aload_n 0, 1) := by decide +kernel
theorem dX4_smoothOnce_56 : decode cX4_smoothOnce 56 = .ok (.getfield 41, 3) := by decide +kernel
theorem dX4_smoothOnce_59 : decode cX4_smoothOnce 59 = .ok (.iload_n 1, 1) := by decide +kernel
theorem dX4_smoothOnce_60 : decode cX4_smoothOnce 60 = .ok (.iload 6, 2) := by decide +kernel
theorem dX4_smoothOnce_62 : decode cX4_smoothOnce 62 = .ok (.iconst 1, 1) := by decide +kernel
theorem dX4_smoothOnce_63 : decode cX4_smoothOnce 63 = .ok (.iadd, 1) := by decide +kernel
theorem dX4_smoothOnce_64 : decode cX4_smoothOnce 64 = .ok (.invokestatic 271, 3) := by decide +kernel
theorem dX4_smoothOnce_67 : decode cX4_smoothOnce 67 = .ok (.iaload, 1) := by decide +kernel
theorem dX4_smoothOnce_68 : decode cX4_smoothOnce 68 = .ok (.i2l, 1) := by decide +kernel
theorem dX4_smoothOnce_69 : decode cX4_smoothOnce 69 = .ok (.lstore 9, 2) := by decide +kernel
theorem dX4_smoothOnce_71 : decode cX4_smoothOnce 71 = .ok (.aload_n 0, 1) := by decide +kernel
theorem dX4_smoothOnce_72 : decode cX4_smoothOnce 72 = .ok (.getfield 44, 3) := by decide +kernel
theorem dX4_smoothOnce_75 : decode cX4_smoothOnce 75 = .ok (.iload 6, 2) := by decide +kernel
theorem dX4_smoothOnce_77 : decode cX4_smoothOnce 77 = .ok (.lload_n 2, 1) := by decide +kernel
theorem dX4_smoothOnce_78 : decode cX4_smoothOnce 78 = .ok (.lload 7, 2) := by decide +kernel
theorem dX4_smoothOnce_80 : decode cX4_smoothOnce 80 = .ok (.lmul, 1) := by decide +kernel
theorem dX4_smoothOnce_81 : decode cX4_smoothOnce 81 = .ok (.lload 4, 2) := by decide +kernel
theorem dX4_smoothOnce_83 : decode cX4_smoothOnce 83 = .ok (.aload_n 0, 1) := by decide +kernel
theorem dX4_smoothOnce_84 : decode cX4_smoothOnce 84 = .ok (.getfield 41, 3) := by decide +kernel
theorem dX4_smoothOnce_87 : decode cX4_smoothOnce 87 = .ok (.iload 6, 2) := by decide +kernel
theorem dX4_smoothOnce_89 : decode cX4_smoothOnce 89 = .ok (.iaload, 1) := by decide +kernel
theorem dX4_smoothOnce_90 : decode cX4_smoothOnce 90 = .ok (.i2l, 1) := by decide +kernel
theorem dX4_smoothOnce_91 : decode cX4_smoothOnce 91 = .ok (.lmul, 1) := by decide +kernel
theorem dX4_smoothOnce_92 : decode cX4_smoothOnce 92 = .ok (.ladd, 1) := by decide +kernel
theorem dX4_smoothOnce_93 : decode cX4_smoothOnce 93 = .ok (.lload_n 2, 1) := by decide +kernel
theorem dX4_smoothOnce_94 : decode cX4_smoothOnce 94 = .ok (.lload 9, 2) := by decide +kernel
theorem dX4_smoothOnce_96 : decode cX4_smoothOnce 96 = .ok (.lmul, 1) := by decide +kernel
theorem dX4_smoothOnce_97 : decode cX4_smoothOnce 97 = .ok (.ladd, 1) := by decide +kernel
theorem dX4_smoothOnce_98 : decode cX4_smoothOnce 98 = .ok (.ldc2_w 286, 3) := by decide +kernel
theorem dX4_smoothOnce_101 : decode cX4_smoothOnce 101 = .ok (.invokestatic 288, 3) := by decide +kernel
theorem dX4_smoothOnce_104 : decode cX4_smoothOnce 104 = .ok (.l2i, 1) := by decide +kernel
theorem dX4_smoothOnce_105 : decode cX4_smoothOnce 105 = .ok (.iastore, 1) := by decide +kernel
theorem dX4_smoothOnce_106 : decode cX4_smoothOnce 106 = .ok (.iinc 6 1, 3) := by decide +kernel
theorem dX4_smoothOnce_109 : decode cX4_smoothOnce 109 = .ok (.goto (-76), 3) := by decide +kernel
theorem dX4_smoothOnce_112 : decode cX4_smoothOnce 112 = .ok (.aload_n 0, 1) := by decide +kernel
theorem dX4_smoothOnce_113 : decode cX4_smoothOnce 113 = .ok (.getfield 44, 3) := by decide +kernel
theorem dX4_smoothOnce_116 : decode cX4_smoothOnce 116 = .ok (.iconst 0, 1) := by decide +kernel
theorem dX4_smoothOnce_117 : decode cX4_smoothOnce 117 = .ok (.aload_n 0, 1) := by decide +kernel
theorem dX4_smoothOnce_118 : decode cX4_smoothOnce 118 = .ok (.getfield 41, 3) := by decide +kernel
theorem dX4_smoothOnce_121 : decode cX4_smoothOnce 121 = .ok (.iconst 0, 1) := by decide +kernel
theorem dX4_smoothOnce_122 : decode cX4_smoothOnce 122 = .ok (.aload_n 0, 1) := by decide +kernel
theorem dX4_smoothOnce_123 : decode cX4_smoothOnce 123 = .ok (.getfield 10, 3) := by decide +kernel
theorem dX4_smoothOnce_126 : decode cX4_smoothOnce 126 = .ok (.getfield 65, 3) := by decide +kernel
theorem dX4_smoothOnce_129 : decode cX4_smoothOnce 129 = .ok (.invokestatic 280, 3) := by decide +kernel
theorem dX4_smoothOnce_132 : decode cX4_smoothOnce 132 = .ok (.return_, 1) := by decide +kernel
theorem dX4_hasConverged_0 : decode cX4_hasConverged 0 = .ok (.aload_n 0, 1) := by decide +kernel
theorem dX4_hasConverged_1 : decode cX4_hasConverged 1 = .ok (.getfield 26, 3) := by decide +kernel
theorem dX4_hasConverged_4 : decode cX4_hasConverged 4 = .ok (.iload_n 1, 1) := by decide +kernel
theorem dX4_hasConverged_5 : decode cX4_hasConverged 5 = .ok (.aload_n 0, 1) := by decide +kernel
theorem dX4_hasConverged_6 : decode cX4_hasConverged 6 = .ok (.getfield 10, 3) := by decide +kernel
theorem dX4_hasConverged_9 : decode cX4_hasConverged 9 = .ok (.getfield 105, 3) := by decide +kernel
theorem dX4_hasConverged_12 : decode cX4_hasConverged 12 = .ok (.aload_n 0, 1) := by decide +kernel
theorem dX4_hasConverged_13 : decode cX4_hasConverged 13 = .ok (.getfield 10, 3) := by decide +kernel
theorem dX4_hasConverged_16 : decode cX4_hasConverged 16 = .ok (.getfield 102, 3) := by decide +kernel
theorem dX4_hasConverged_19 : decode cX4_hasConverged 19 = .ok (.invokevirtual 296, 3) := by decide +kernel
theorem dX4_hasConverged_22 : decode cX4_hasConverged 22 = .ok (.ireturn, 1) := by decide +kernel
theorem dX4_indexOfGreatest_0 : decode cX4_indexOfGreatest 0 = .ok (.iconst 0, 1) := by decide +kernel
theorem dX4_indexOfGreatest_1 : decode cX4_indexOfGreatest 1 = .ok (.istore_n 2, 1) := by decide +kernel
theorem dX4_indexOfGreatest_2 : decode cX4_indexOfGreatest 2 = .ok (.iconst 1, 1) := by decide +kernel
theorem dX4_indexOfGreatest_3 : decode cX4_indexOfGreatest 3 = .ok (.istore_n 3, 1) := by decide +kernel
theorem dX4_indexOfGreatest_4 : decode cX4_indexOfGreatest 4 = .ok (.iload_n 3, 1) := by decide +kernel
theorem dX4_indexOfGreatest_5 : decode cX4_indexOfGreatest 5 = .ok (.iload_n 1, 1) := by decide +kernel
theorem dX4_indexOfGreatest_6 : decode cX4_indexOfGreatest 6 = .ok (.if_icmp .ge 26, 3) := by decide +kernel
theorem dX4_indexOfGreatest_9 : decode cX4_indexOfGreatest 9 = .ok (.aload_n 0, 1) := by decide +kernel
theorem dX4_indexOfGreatest_10 : decode cX4_indexOfGreatest 10 = .ok (.iload_n 3, 1) := by decide +kernel
theorem dX4_indexOfGreatest_11 : decode cX4_indexOfGreatest 11 = .ok (.iaload, 1) := by decide +kernel
theorem dX4_indexOfGreatest_12 : decode cX4_indexOfGreatest 12 = .ok (.invokestatic 269, 3) := by decide +kernel
theorem dX4_indexOfGreatest_15 : decode cX4_indexOfGreatest 15 = .ok (.aload_n 0, 1) := by decide +kernel
theorem dX4_indexOfGreatest_16 : decode cX4_indexOfGreatest 16 = .ok (.iload_n 2, 1) := by decide +kernel
theorem dX4_indexOfGreatest_17 : decode cX4_indexOfGreatest 17 = .ok (.iaload, 1) := by decide +kernel
theorem dX4_indexOfGreatest_18 : decode cX4_indexOfGreatest 18 = .ok (.invokestatic 269, 3) := by decide +kernel
theorem dX4_indexOfGreatest_21 : decode cX4_indexOfGreatest 21 = .ok (.if_icmp .le 5, 3) := by decide +kernel
theorem dX4_indexOfGreatest_24 : decode cX4_indexOfGreatest 24 = .ok (.iload_n 3, 1) := by decide +kernel
theorem dX4_indexOfGreatest_25 : decode cX4_indexOfGreatest 25 = .ok (.istore_n 2, 1) := by decide +kernel
theorem dX4_indexOfGreatest_26 : decode cX4_indexOfGreatest 26 = .ok (.iinc 3 1, 3) := by decide +kernel
theorem dX4_indexOfGreatest_29 : decode cX4_indexOfGreatest 29 = .ok (.goto (-25), 3) := by decide +kernel
theorem dX4_indexOfGreatest_32 : decode cX4_indexOfGreatest 32 = .ok (.iload_n 2, 1) := by decide +kernel
theorem dX4_indexOfGreatest_33 : decode cX4_indexOfGreatest 33 = .ok (.ireturn, 1) := by decide +kernel
theorem dX4_sumOfSquares_0 : decode cX4_sumOfSquares 0 = .ok (.lconst 0, 1) := by decide +kernel
theorem dX4_sumOfSquares_1 : decode cX4_sumOfSquares 1 = .ok (.lstore_n 2, 1) := by decide +kernel
theorem dX4_sumOfSquares_2 : decode cX4_sumOfSquares 2 = .ok (.iconst 0, 1) := by decide +kernel
theorem dX4_sumOfSquares_3 : decode cX4_sumOfSquares 3 = .ok (.istore 4, 2) := by decide +kernel
theorem dX4_sumOfSquares_5 : decode cX4_sumOfSquares 5 = .ok (.iload 4, 2) := by decide +kernel
theorem dX4_sumOfSquares_7 : decode cX4_sumOfSquares 7 = .ok (.iload_n 1, 1) := by decide +kernel
theorem dX4_sumOfSquares_8 : decode cX4_sumOfSquares 8 = .ok (.if_icmp .ge 23, 3) := by decide +kernel
theorem dX4_sumOfSquares_11 : decode cX4_sumOfSquares 11 = .ok (.lload_n 2, 1) := by decide +kernel
theorem dX4_sumOfSquares_12 : decode cX4_sumOfSquares 12 = .ok (.aload_n 0, 1) := by decide +kernel
theorem dX4_sumOfSquares_13 : decode cX4_sumOfSquares 13 = .ok (.iload 4, 2) := by decide +kernel
theorem dX4_sumOfSquares_15 : decode cX4_sumOfSquares 15 = .ok (.iaload, 1) := by decide +kernel
theorem dX4_sumOfSquares_16 : decode cX4_sumOfSquares 16 = .ok (.i2l, 1) := by decide +kernel
theorem dX4_sumOfSquares_17 : decode cX4_sumOfSquares 17 = .ok (.aload_n 0, 1) := by decide +kernel
theorem dX4_sumOfSquares_18 : decode cX4_sumOfSquares 18 = .ok (.iload 4, 2) := by decide +kernel
theorem dX4_sumOfSquares_20 : decode cX4_sumOfSquares 20 = .ok (.iaload, 1) := by decide +kernel
theorem dX4_sumOfSquares_21 : decode cX4_sumOfSquares 21 = .ok (.i2l, 1) := by decide +kernel
theorem dX4_sumOfSquares_22 : decode cX4_sumOfSquares 22 = .ok (.lmul, 1) := by decide +kernel
theorem dX4_sumOfSquares_23 : decode cX4_sumOfSquares 23 = .ok (.ladd, 1) := by decide +kernel
theorem dX4_sumOfSquares_24 : decode cX4_sumOfSquares 24 = .ok (.lstore_n 2, 1) := by decide +kernel
theorem dX4_sumOfSquares_25 : decode cX4_sumOfSquares 25 = .ok (.iinc 4 1, 3) := by decide +kernel
theorem dX4_sumOfSquares_28 : decode cX4_sumOfSquares 28 = .ok (.goto (-23), 3) := by decide +kernel
theorem dX4_sumOfSquares_31 : decode cX4_sumOfSquares 31 = .ok (.lload_n 2, 1) := by decide +kernel
theorem dX4_sumOfSquares_32 : decode cX4_sumOfSquares 32 = .ok (.lreturn, 1) := by decide +kernel
theorem dJ9_floorDiv_f86c9_0 : decode cJ9_floorDiv_f86c9 0 = .ok (.lload_n 0, 1) := by decide +kernel
theorem dJ9_floorDiv_f86c9_1 : decode cJ9_floorDiv_f86c9 1 = .ok (.lload_n 2, 1) := by decide +kernel
theorem dJ9_floorDiv_f86c9_2 : decode cJ9_floorDiv_f86c9 2 = .ok (.ldiv, 1) := by decide +kernel
theorem dJ9_floorDiv_f86c9_3 : decode cJ9_floorDiv_f86c9 3 = .ok (.lstore 4, 2) := by decide +kernel
theorem dJ9_floorDiv_f86c9_5 : decode cJ9_floorDiv_f86c9 5 = .ok (.lload_n 0, 1) := by decide +kernel
theorem dJ9_floorDiv_f86c9_6 : decode cJ9_floorDiv_f86c9 6 = .ok (.lload_n 2, 1) := by decide +kernel
theorem dJ9_floorDiv_f86c9_7 : decode cJ9_floorDiv_f86c9 7 = .ok (.lxor, 1) := by decide +kernel
theorem dJ9_floorDiv_f86c9_8 : decode cJ9_floorDiv_f86c9 8 = .ok (.lconst 0, 1) := by decide +kernel
theorem dJ9_floorDiv_f86c9_9 : decode cJ9_floorDiv_f86c9 9 = .ok (.lcmp, 1) := by decide +kernel
theorem dJ9_floorDiv_f86c9_10 : decode cJ9_floorDiv_f86c9 10 = .ok (.ifCond .ge 17, 3) := by decide +kernel
theorem dJ9_floorDiv_f86c9_13 : decode cJ9_floorDiv_f86c9 13 = .ok (.lload 4, 2) := by decide +kernel
theorem dJ9_floorDiv_f86c9_15 : decode cJ9_floorDiv_f86c9 15 = .ok (.lload_n 2, 1) := by decide +kernel
theorem dJ9_floorDiv_f86c9_16 : decode cJ9_floorDiv_f86c9 16 = .ok (.lmul, 1) := by decide +kernel
theorem dJ9_floorDiv_f86c9_17 : decode cJ9_floorDiv_f86c9 17 = .ok (.lload_n 0, 1) := by decide +kernel
theorem dJ9_floorDiv_f86c9_18 : decode cJ9_floorDiv_f86c9 18 = .ok (.lcmp, 1) := by decide +kernel
theorem dJ9_floorDiv_f86c9_19 : decode cJ9_floorDiv_f86c9 19 = .ok (.ifCond .eq 8, 3) := by decide +kernel
theorem dJ9_floorDiv_f86c9_22 : decode cJ9_floorDiv_f86c9 22 = .ok (.lload 4, 2) := by decide +kernel
theorem dJ9_floorDiv_f86c9_24 : decode cJ9_floorDiv_f86c9 24 = .ok (.lconst 1, 1) := by decide +kernel
theorem dJ9_floorDiv_f86c9_25 : decode cJ9_floorDiv_f86c9 25 = .ok (.lsub, 1) := by decide +kernel
theorem dJ9_floorDiv_f86c9_26 : decode cJ9_floorDiv_f86c9 26 = .ok (.lreturn, 1) := by decide +kernel
theorem dJ9_floorDiv_f86c9_27 : decode cJ9_floorDiv_f86c9 27 = .ok (.lload 4, 2) := by decide +kernel
theorem dJ9_floorDiv_f86c9_29 : decode cJ9_floorDiv_f86c9 29 = .ok (.lreturn, 1) := by decide +kernel
theorem dJ9_floorMod_7cf53_0 : decode cJ9_floorMod_7cf53 0 = .ok (.iload_n 0, 1) := by decide +kernel
theorem dJ9_floorMod_7cf53_1 : decode cJ9_floorMod_7cf53 1 = .ok (.iload_n 1, 1) := by decide +kernel
theorem dJ9_floorMod_7cf53_2 : decode cJ9_floorMod_7cf53 2 = .ok (.irem, 1) := by decide +kernel
theorem dJ9_floorMod_7cf53_3 : decode cJ9_floorMod_7cf53 3 = .ok (.istore_n 2, 1) := by decide +kernel
theorem dJ9_floorMod_7cf53_4 : decode cJ9_floorMod_7cf53 4 = .ok (.iload_n 0, 1) := by decide +kernel
theorem dJ9_floorMod_7cf53_5 : decode cJ9_floorMod_7cf53 5 = .ok (.iload_n 1, 1) := by decide +kernel
theorem dJ9_floorMod_7cf53_6 : decode cJ9_floorMod_7cf53 6 = .ok (.ixor, 1) := by decide +kernel
theorem dJ9_floorMod_7cf53_7 : decode cJ9_floorMod_7cf53 7 = .ok (.ifCond .ge 11, 3) := by decide +kernel
theorem dJ9_floorMod_7cf53_10 : decode cJ9_floorMod_7cf53 10 = .ok (.iload_n 2, 1) := by decide +kernel
theorem dJ9_floorMod_7cf53_11 : decode cJ9_floorMod_7cf53 11 = .ok (.ifCond .eq 7, 3) := by decide +kernel
theorem dJ9_floorMod_7cf53_14 : decode cJ9_floorMod_7cf53 14 = .ok (.iload_n 2, 1) := by decide +kernel
theorem dJ9_floorMod_7cf53_15 : decode cJ9_floorMod_7cf53 15 = .ok (.iload_n 1, 1) := by decide +kernel
theorem dJ9_floorMod_7cf53_16 : decode cJ9_floorMod_7cf53 16 = .ok (.iadd, 1) := by decide +kernel
theorem dJ9_floorMod_7cf53_17 : decode cJ9_floorMod_7cf53 17 = .ok (.ireturn, 1) := by decide +kernel
theorem dJ9_floorMod_7cf53_18 : decode cJ9_floorMod_7cf53 18 = .ok (.iload_n 2, 1) := by decide +kernel
theorem dJ9_floorMod_7cf53_19 : decode cJ9_floorMod_7cf53 19 = .ok (.ireturn, 1) := by decide +kernel
theorem dJ9_abs_0f7a4_0 : decode cJ9_abs_0f7a4 0 = .ok (.iload_n 0, 1) := by decide +kernel
theorem dJ9_abs_0f7a4_1 : decode cJ9_abs_0f7a4 1 = .ok (.ifCond .ge 8, 3) := by decide +kernel
theorem dJ9_abs_0f7a4_4 : decode cJ9_abs_0f7a4 4 = .ok (.iload_n 0, 1) := by decide +kernel
theorem dJ9_abs_0f7a4_5 : decode cJ9_abs_0f7a4 5 = .ok (.ineg, 1) := by decide +kernel
theorem dJ9_abs_0f7a4_6 : decode cJ9_abs_0f7a4 6 = .ok (.goto 4, 3) := by decide +kernel
theorem dJ9_abs_0f7a4_9 : decode cJ9_abs_0f7a4 9 = .ok (.iload_n 0, 1) := by decide +kernel
theorem dJ9_abs_0f7a4_10 : decode cJ9_abs_0f7a4 10 = .ok (.ireturn, 1) := by decide +kernel
theorem dJ9_abs_067f4_0 : decode cJ9_abs_067f4 0 = .ok (.lload_n 0, 1) := by decide +kernel
theorem dJ9_abs_067f4_1 : decode cJ9_abs_067f4 1 = .ok (.lconst 0, 1) := by decide +kernel
theorem dJ9_abs_067f4_2 : decode cJ9_abs_067f4 2 = .ok (.lcmp, 1) := by decide +kernel
theorem dJ9_abs_067f4_3 : decode cJ9_abs_067f4 3 = .ok (.ifCond .ge 8, 3) := by decide +kernel
theorem dJ9_abs_067f4_6 : decode cJ9_abs_067f4 6 = .ok (.lload_n 0, 1) := by decide +kernel
theorem dJ9_abs_067f4_7 : decode cJ9_abs_067f4 7 = .ok (.lneg, 1) := by decide +kernel
theorem dJ9_abs_067f4_8 : decode cJ9_abs_067f4 8 = .ok (.goto 4, 3) := by decide +kernel
theorem dJ9_abs_067f4_11 : decode cJ9_abs_067f4 11 = .ok (.lload_n 0, 1) := by decide +kernel
theorem dJ9_abs_067f4_12 : decode cJ9_abs_067f4 12 = .ok (.lreturn, 1) := by decide +kernel
theorem dJ9_max_7cf53_0 : decode cJ9_max_7cf53 0 = .ok (.iload_n 0, 1) := by decide +kernel
theorem dJ9_max_7cf53_1 : decode cJ9_max_7cf53 1 = .ok (.iload_n 1, 1) := by decide +kernel
theorem dJ9_max_7cf53_2 : decode cJ9_max_7cf53 2 = .ok (.if_icmp .lt 7, 3) := by decide +kernel
theorem dJ9_max_7cf53_5 : decode cJ9_max_7cf53 5 = .ok (.iload_n 0, 1) := by decide +kernel
theorem dJ9_max_7cf53_6 : decode cJ9_max_7cf53 6 = .ok (.goto 4, 3) := by decide +kernel
theorem dJ9_max_7cf53_9 : decode cJ9_max_7cf53 9 = .ok (.iload_n 1, 1) := by decide +kernel
theorem dJ9_max_7cf53_10 : decode cJ9_max_7cf53 10 = .ok (.ireturn, 1) := by decide +kernel
theorem dJ9_max_f86c9_0 : decode cJ9_max_f86c9 0 = .ok (.lload_n 0, 1) := by decide +kernel
theorem dJ9_max_f86c9_1 : decode cJ9_max_f86c9 1 = .ok (.lload_n 2, 1) := by decide +kernel
theorem dJ9_max_f86c9_2 : decode cJ9_max_f86c9 2 = .ok (.lcmp, 1) := by decide +kernel
theorem dJ9_max_f86c9_3 : decode cJ9_max_f86c9 3 = .ok (.ifCond .lt 7, 3) := by decide +kernel
theorem dJ9_max_f86c9_6 : decode cJ9_max_f86c9 6 = .ok (.lload_n 0, 1) := by decide +kernel
theorem dJ9_max_f86c9_7 : decode cJ9_max_f86c9 7 = .ok (.goto 4, 3) := by decide +kernel
theorem dJ9_max_f86c9_10 : decode cJ9_max_f86c9 10 = .ok (.lload_n 2, 1) := by decide +kernel
theorem dJ9_max_f86c9_11 : decode cJ9_max_f86c9 11 = .ok (.lreturn, 1) := by decide +kernel
theorem dJ9_min_7cf53_0 : decode cJ9_min_7cf53 0 = .ok (.iload_n 0, 1) := by decide +kernel
theorem dJ9_min_7cf53_1 : decode cJ9_min_7cf53 1 = .ok (.iload_n 1, 1) := by decide +kernel
theorem dJ9_min_7cf53_2 : decode cJ9_min_7cf53 2 = .ok (.if_icmp .gt 7, 3) := by decide +kernel
theorem dJ9_min_7cf53_5 : decode cJ9_min_7cf53 5 = .ok (.iload_n 0, 1) := by decide +kernel
theorem dJ9_min_7cf53_6 : decode cJ9_min_7cf53 6 = .ok (.goto 4, 3) := by decide +kernel
theorem dJ9_min_7cf53_9 : decode cJ9_min_7cf53 9 = .ok (.iload_n 1, 1) := by decide +kernel
theorem dJ9_min_7cf53_10 : decode cJ9_min_7cf53 10 = .ok (.ireturn, 1) := by decide +kernel
theorem dJ9_min_f86c9_0 : decode cJ9_min_f86c9 0 = .ok (.lload_n 0, 1) := by decide +kernel
theorem dJ9_min_f86c9_1 : decode cJ9_min_f86c9 1 = .ok (.lload_n 2, 1) := by decide +kernel
theorem dJ9_min_f86c9_2 : decode cJ9_min_f86c9 2 = .ok (.lcmp, 1) := by decide +kernel
theorem dJ9_min_f86c9_3 : decode cJ9_min_f86c9 3 = .ok (.ifCond .gt 7, 3) := by decide +kernel
theorem dJ9_min_f86c9_6 : decode cJ9_min_f86c9 6 = .ok (.lload_n 0, 1) := by decide +kernel
theorem dJ9_min_f86c9_7 : decode cJ9_min_f86c9 7 = .ok (.goto 4, 3) := by decide +kernel
theorem dJ9_min_f86c9_10 : decode cJ9_min_f86c9 10 = .ok (.lload_n 2, 1) := by decide +kernel
theorem dJ9_min_f86c9_11 : decode cJ9_min_f86c9 11 = .ok (.lreturn, 1) := by decide +kernel
theorem dJ7_fill_53178_0 : decode cJ7_fill_53178 0 = .ok (.iconst 0, 1) := by decide +kernel
theorem dJ7_fill_53178_1 : decode cJ7_fill_53178 1 = .ok (.istore_n 2, 1) := by decide +kernel
theorem dJ7_fill_53178_2 : decode cJ7_fill_53178 2 = .ok (.aload_n 0, 1) := by decide +kernel
theorem dJ7_fill_53178_3 : decode cJ7_fill_53178 3 = .ok (.arraylength, 1) := by decide +kernel
theorem dJ7_fill_53178_4 : decode cJ7_fill_53178 4 = .ok (.istore_n 3, 1) := by decide +kernel
theorem dJ7_fill_53178_5 : decode cJ7_fill_53178 5 = .ok (.iload_n 2, 1) := by decide +kernel
theorem dJ7_fill_53178_6 : decode cJ7_fill_53178 6 = .ok (.iload_n 3, 1) := by decide +kernel
theorem dJ7_fill_53178_7 : decode cJ7_fill_53178 7 = .ok (.if_icmp .ge 13, 3) := by decide +kernel
theorem dJ7_fill_53178_10 : decode cJ7_fill_53178 10 = .ok (.aload_n 0, 1) := by decide +kernel
theorem dJ7_fill_53178_11 : decode cJ7_fill_53178 11 = .ok (.iload_n 2, 1) := by decide +kernel
theorem dJ7_fill_53178_12 : decode cJ7_fill_53178 12 = .ok (.iload_n 1, 1) := by decide +kernel
theorem dJ7_fill_53178_13 : decode cJ7_fill_53178 13 = .ok (.iastore, 1) := by decide +kernel
theorem dJ7_fill_53178_14 : decode cJ7_fill_53178 14 = .ok (.iinc 2 1, 3) := by decide +kernel
theorem dJ7_fill_53178_17 : decode cJ7_fill_53178 17 = .ok (.goto (-12), 3) := by decide +kernel
theorem dJ7_fill_53178_20 : decode cJ7_fill_53178 20 = .ok (.return_, 1) := by decide +kernel
end
section
theorem dX5_init_0 : decode cX5_init 0 = .ok (.aload_n 0, 1) := by decide +kernel
theorem dX5_init_1 : decode cX5_init 1 = .ok (.invokespecial 1, 3) := by decide +kernel
theorem dX5_init_4 : decode cX5_init 4 = .ok (.aload_n 0, 1) := by decide +kernel
theorem dX5_init_5 : decode cX5_init 5 = .ok (.bipush 48, 2) := by decide +kernel
theorem dX5_init_7 : decode cX5_init 7 = .ok (.newarray .int, 2) := by decide +kernel
theorem dX5_init_9 : decode cX5_init 9 = .ok (.putfield 7, 3) := by decide +kernel
theorem dX5_init_12 : decode cX5_init 12 = .ok (.aload_n 0, 1) := by decide +kernel
theorem dX5_init_13 : decode cX5_init 13 = .ok (.bipush 48, 2) := by decide +kernel
theorem dX5_init_15 : decode cX5_init 15 = .ok (.newarray .int, 2) := by decide +kernel
theorem dX5_init_17 : decode cX5_init 17 = .ok (.putfield 13, 3) := by decide +kernel
theorem dX5_init_20 : decode cX5_init 20 = .ok (.aload_n 0, 1) := by decide +kernel
theorem dX5_init_21 : decode cX5_init 21 = .ok (.bipush 48, 2) := by decide +kernel
theorem dX5_init_23 : decode cX5_init 23 = .ok (.newarray .int, 2) := by decide +kernel
theorem dX5_init_25 : decode cX5_init 25 = .ok (.putfield 16, 3) := by decide +kernel
theorem dX5_init_28 : decode cX5_init 28 = .ok (.aload_n 0, 1) := by decide +kernel
theorem dX5_init_29 : decode cX5_init 29 = .ok (.bipush 48, 2) := by decide +kernel
theorem dX5_init_31 : decode cX5_init 31 = .ok (.newarray .int, 2) := by decide +kernel
theorem dX5_init_33 : decode cX5_init 33 = .ok (.putfield 19, 3) := by decide +kernel
theorem dX5_init_36 : decode cX5_init 36 = .ok (.aload_n 0, 1) := by decide +kernel
theorem dX5_init_37 : decode cX5_init 37 = .ok (.bipush 48, 2) := by decide +kernel
theorem dX5_init_39 : decode cX5_init 39 = .ok (.newarray .int, 2) := by decide +kernel
theorem dX5_init_41 : decode cX5_init 41 = .ok (.putfield 22, 3) := by decide +kernel
theorem dX5_init_44 : decode cX5_init 44 = .ok (.aload_n 0, 1) := by decide +kernel
theorem dX5_init_45 : decode cX5_init 45 = .ok (.sipush 240, 3) := by decide +kernel
theorem dX5_init_48 : decode cX5_init 48 = .ok (.newarray .int, 2) := by decide +kernel
theorem dX5_init_50 : decode cX5_init 50 = .ok (.putfield 25, 3) := by decide +kernel
theorem dX5_init_53 : decode cX5_init 53 = .ok (.aload_n 0, 1) := by decide +kernel
theorem dX5_init_54 : decode cX5_init 54 = .ok (.iconst 5, 1) := by decide +kernel
theorem dX5_init_55 : decode cX5_init 55 = .ok (.newarray .int, 2) := by decide +kernel
theorem dX5_init_57 : decode cX5_init 57 = .ok (.putfield 28, 3) := by decide +kernel
theorem dX5_init_60 : decode cX5_init 60 = .ok (.aload_n 0, 1) := by decide +kernel
theorem dX5_init_61 : decode cX5_init 61 = .ok (.iconst 5, 1) := by decide +kernel
theorem dX5_init_62 : decode cX5_init 62 = .ok (.newarray .int, 2) := by decide +kernel
theorem dX5_init_64 : decode cX5_init 64 = .ok (.putfield 31, 3) := by decide +kernel
theorem dX5_init_67 : decode cX5_init 67 = .ok (.aload_n 0, 1) := by decide +kernel
theorem dX5_init_68 : decode cX5_init 68 = .ok (.bipush 48, 2) := by decide +kernel
theorem dX5_init_70 : decode cX5_init 70 = .ok (.newarray .int, 2) := by decide +kernel
theorem dX5_init_72 : decode cX5_init 72 = .ok (.putfield 34, 3) := by decide +kernel
theorem dX5_init_75 : decode cX5_init 75 = .ok (.aload_n 0, 1) := by decide +kernel
theorem dX5_init_76 : decode cX5_init 76 = .ok (.bipush 48, 2) := by decide +kernel
theorem dX5_init_78 : decode cX5_init 78 = .ok (.newarray .int, 2) := by decide +kernel
theorem dX5_init_80 : decode cX5_init 80 = .ok (.putfield 37, 3) := by decide +kernel
theorem dX5_init_83 : decode cX5_init 83 = .ok (.aload_n 0, 1) := by decide +kernel
theorem dX5_init_84 : decode cX5_init 84 = .ok (.bipush 6, 2) := by decide +kernel
theorem dX5_init_86 : decode cX5_init 86 = .ok (.newarray .int, 2) := by decide +kernel
theorem dX5_init_88 : decode cX5_init 88 = .ok (.putfield 40, 3) := by decide +kernel
theorem dX5_init_91 : decode cX5_init 91 = .ok (.aload_n 0, 1) := by decide +kernel
theorem dX5_init_92 : decode cX5_init 92 = .ok (.bipush 16, 2) := by decide +kernel
theorem dX5_init_94 : decode cX5_init 94 = .ok (.invokevirtual 43, 3) := by decide +kernel
theorem dX5_init_97 : decode cX5_init 97 = .ok (.return_, 1) := by decide +kernel
theorem dX5_in_0 : decode cX5_in 0 = .ok (.iload_n 0, 1) := by decide +kernel
theorem dX5_in_1 : decode cX5_in 1 = .ok (.iload_n 1, 1) := by decide +kernel
theorem dX5_in_2 : decode cX5_in 2 = .ok (.if_icmp .lt 12, 3) := by decide +kernel
theorem dX5_in_5 : decode cX5_in 5 = .ok (.iload_n 0, 1) := by decide +kernel
theorem dX5_in_6 : decode cX5_in 6 = .ok (.iload_n 2, 1) := by decide +kernel
theorem dX5_in_7 : decode cX5_in 7 = .ok (.if_icmp .gt 7, 3) := by decide +kernel
theorem dX5_in_10 : decode cX5_in 10 = .ok (.iconst 1, 1) := by decide +kernel
theorem dX5_in_11 : decode cX5_in 11 = .ok (.goto 4, 3) := by decide +kernel
theorem dX5_in_14 : decode cX5_in 14 = .ok (.iconst 0, 1) := by decide +kernel
theorem dX5_in_15 : decode cX5_in 15 = .ok (.ireturn, 1) := by decide +kernel
theorem dX5_down_0 : decode cX5_down 0 = .ok (.lload_n 0, 1) := by decide +kernel
theorem dX5_down_1 : decode cX5_down 1 = .ok (.lload_n 2, 1) := by decide +kernel
theorem dX5_down_2 : decode cX5_down 2 = .ok (.ldiv, 1) := by decide +kernel
theorem dX5_down_3 : decode cX5_down 3 = .ok (.lstore 4, 2) := by decide +kernel
theorem dX5_down_5 : decode cX5_down 5 = .ok (.lload 4, 2) := by decide +kernel
theorem dX5_down_7 : decode cX5_down 7 = .ok (.lload_n 2, 1) := by decide +kernel
theorem dX5_down_8 : decode cX5_down 8 = .ok (.lmul, 1) := by decide +kernel
theorem dX5_down_9 : decode cX5_down 9 = .ok (.lload_n 0, 1) := by decide +kernel
theorem dX5_down_10 : decode cX5_down 10 = .ok (.lcmp, 1) := by decide +kernel
theorem dX5_down_11 : decode cX5_down 11 = .ok (.ifCond .le 10, 3) := by decide +kernel
theorem dX5_down_14 : decode cX5_down 14 = .ok (.lload 4, 2) := by decide +kernel
theorem dX5_down_16 : decode cX5_down 16 = .ok (.lconst 1, 1) := by decide +kernel
theorem dX5_down_17 : decode cX5_down 17 = .ok (.lsub, 1) := by decide +kernel
theorem dX5_down_18 : decode cX5_down 18 = .ok (.goto 5, 3) := by decide +kernel
theorem dX5_down_21 : decode cX5_down 21 = .ok (.lload 4, 2) := by decide +kernel
theorem dX5_down_23 : decode cX5_down 23 = .ok (.lreturn, 1) := by decide +kernel
theorem dX5_size_0 : decode cX5_size 0 = .ok (.iload_n 0, 1) := by decide +kernel
theorem dX5_size_1 : decode cX5_size 1 = .ok (.ifCond .ge 8, 3) := by decide +kernel
theorem dX5_size_4 : decode cX5_size 4 = .ok (.iload_n 0, 1) := by decide +kernel
theorem dX5_size_5 : decode cX5_size 5 = .ok (.ineg, 1) := by decide +kernel
theorem dX5_size_6 : decode cX5_size 6 = .ok (.goto 4, 3) := by decide +kernel
theorem dX5_size_9 : decode cX5_size 9 = .ok (.iload_n 0, 1) := by decide +kernel
theorem dX5_size_10 : decode cX5_size 10 = .ok (.ireturn, 1) := by decide +kernel
theorem dX5_kept_0 : decode cX5_kept 0 = .ok (.lload_n 0, 1) := by decide +kernel
theorem dX5_kept_1 : decode cX5_kept 1 = .ok (.iload_n 2, 1) := by decide +kernel
theorem dX5_kept_2 : decode cX5_kept 2 = .ok (.i2l, 1) := by decide +kernel
theorem dX5_kept_3 : decode cX5_kept 3 = .ok (.lcmp, 1) := by decide +kernel
theorem dX5_kept_4 : decode cX5_kept 4 = .ok (.ifCond .le 7, 3) := by decide +kernel
theorem dX5_kept_7 : decode cX5_kept 7 = .ok (.iload_n 2, 1) := by decide +kernel
theorem dX5_kept_8 : decode cX5_kept 8 = .ok (.goto 18, 3) := by decide +kernel
theorem dX5_kept_11 : decode cX5_kept 11 = .ok (.lload_n 0, 1) := by decide +kernel
theorem dX5_kept_12 : decode cX5_kept 12 = .ok (.iload_n 2, 1) := by decide +kernel
theorem dX5_kept_13 : decode cX5_kept 13 = .ok (.ineg, 1) := by decide +kernel
theorem dX5_kept_14 : decode cX5_kept 14 = .ok (.i2l, 1) := by decide +kernel
theorem dX5_kept_15 : decode cX5_kept 15 = .ok (.lcmp, 1) := by decide +kernel
theorem dX5_kept_16 : decode cX5_kept 16 = .ok (.ifCond .ge 8, 3) := by decide +kernel
theorem dX5_kept_19 : decode cX5_kept 19 = .ok (.iload_n 2, 1) := by decide +kernel
theorem dX5_kept_20 : decode cX5_kept 20 = .ok (.ineg, 1) := by decide +kernel
theorem dX5_kept_21 : decode cX5_kept 21 = .ok (.goto 5, 3) := by decide +kernel
theorem dX5_kept_24 : decode cX5_kept 24 = .ok (.lload_n 0, 1) := by decide +kernel
theorem dX5_kept_25 : decode cX5_kept 25 = .ok (.l2i, 1) := by decide +kernel
theorem dX5_kept_26 : decode cX5_kept 26 = .ok (.ireturn, 1) := by decide +kernel
theorem dX5_begin_0 : decode cX5_begin 0 = .ok (.aload_n 0, 1) := by decide +kernel
theorem dX5_begin_1 : decode cX5_begin 1 = .ok (.iload_n 1, 1) := by decide +kernel
theorem dX5_begin_2 : decode cX5_begin 2 = .ok (.putfield 47, 3) := by decide +kernel
theorem dX5_begin_5 : decode cX5_begin 5 = .ok (.iconst 0, 1) := by decide +kernel
theorem dX5_begin_6 : decode cX5_begin 6 = .ok (.istore_n 2, 1) := by decide +kernel
theorem dX5_begin_7 : decode cX5_begin 7 = .ok (.iload_n 2, 1) := by decide +kernel
theorem dX5_begin_8 : decode cX5_begin 8 = .ok (.bipush 48, 2) := by decide +kernel
theorem dX5_begin_10 : decode cX5_begin 10 = .ok (.if_icmp .ge 23, 3) := by decide +kernel
theorem dX5_begin_13 : decode cX5_begin 13 = .ok (.aload_n 0, 1) := by decide +kernel
theorem dX5_begin_14 : decode cX5_begin 14 = .ok (.getfield 7, 3) := by decide +kernel
theorem dX5_begin_17 : decode cX5_begin 17 = .ok (.iload_n 2, 1) := by decide +kernel
theorem dX5_begin_18 : decode cX5_begin 18 = .ok (.iconst 0, 1) := by decide +kernel
theorem dX5_begin_19 : decode cX5_begin 19 = .ok (.iastore, 1) := by decide +kernel
theorem dX5_begin_20 : decode cX5_begin 20 = .ok (.aload_n 0, 1) := by decide +kernel
theorem dX5_begin_21 : decode cX5_begin 21 = .ok (.getfield 13, 3) := by decide +kernel
theorem dX5_begin_24 : decode cX5_begin 24 = .ok (.iload_n 2, 1) := by decide +kernel
theorem dX5_begin_25 : decode cX5_begin 25 = .ok (.iconst 0, 1) := by decide +kernel
theorem dX5_begin_26 : decode cX5_begin 26 = .ok (.iastore, 1) := by decide +kernel
theorem dX5_begin_27 : decode cX5_begin 27 = .ok (.iinc 2 1, 3) := by decide +kernel
theorem dX5_begin_30 : decode cX5_begin 30 = .ok (.goto (-23), 3) := by decide +kernel
theorem dX5_begin_33 : decode cX5_begin 33 = .ok (.aload_n 0, 1) := by decide +kernel
theorem dX5_begin_34 : decode cX5_begin 34 = .ok (.sipush 500, 3) := by decide +kernel
theorem dX5_begin_37 : decode cX5_begin 37 = .ok (.putfield 51, 3) := by decide +kernel
theorem dX5_begin_40 : decode cX5_begin 40 = .ok (.aload_n 0, 1) := by decide +kernel
theorem dX5_begin_41 : decode cX5_begin 41 = .ok (.iconst 0, 1) := by decide +kernel
theorem dX5_begin_42 : decode cX5_begin 42 = .ok (.putfield 54, 3) := by decide +kernel
theorem dX5_begin_45 : decode cX5_begin 45 = .ok (.aload_n 0, 1) := by decide +kernel
theorem dX5_begin_46 : decode cX5_begin 46 = .ok (.iconst 0, 1) := by decide +kernel
theorem dX5_begin_47 : decode cX5_begin 47 = .ok (.putfield 57, 3) := by decide +kernel
theorem dX5_begin_50 : decode cX5_begin 50 = .ok (.aload_n 0, 1) := by decide +kernel
theorem dX5_begin_51 : decode cX5_begin 51 = .ok (.iconst 1, 1) := by decide +kernel
theorem dX5_begin_52 : decode cX5_begin 52 = .ok (.putfield 60, 3) := by decide +kernel
theorem dX5_begin_55 : decode cX5_begin 55 = .ok (.aload_n 0, 1) := by decide +kernel
theorem dX5_begin_56 : decode cX5_begin 56 = .ok (.ldc 63, 2) := by decide +kernel
theorem dX5_begin_58 : decode cX5_begin 58 = .ok (.putfield 64, 3) := by decide +kernel
theorem dX5_begin_61 : decode cX5_begin 61 = .ok (.aload_n 0, 1) := by decide +kernel
theorem dX5_begin_62 : decode cX5_begin 62 = .ok (.iconst 4, 1) := by decide +kernel
theorem dX5_begin_63 : decode cX5_begin 63 = .ok (.putfield 67, 3) := by decide +kernel
theorem dX5_begin_66 : decode cX5_begin 66 = .ok (.aload_n 0, 1) := by decide +kernel
theorem dX5_begin_67 : decode cX5_begin 67 = .ok (.iconst 0, 1) := by decide +kernel
theorem dX5_begin_68 : decode cX5_begin 68 = .ok (.putfield 70, 3) := by decide +kernel
theorem dX5_begin_71 : decode cX5_begin 71 = .ok (.aload_n 0, 1) := by decide +kernel
theorem dX5_begin_72 : decode cX5_begin 72 = .ok (.bipush 10, 2) := by decide +kernel
theorem dX5_begin_74 : decode cX5_begin 74 = .ok (.putfield 73, 3) := by decide +kernel
theorem dX5_begin_77 : decode cX5_begin 77 = .ok (.aload_n 0, 1) := by decide +kernel
theorem dX5_begin_78 : decode cX5_begin 78 = .ok (.iconst 2, 1) := by decide +kernel
theorem dX5_begin_79 : decode cX5_begin 79 = .ok (.putfield 76, 3) := by decide +kernel
theorem dX5_begin_82 : decode cX5_begin 82 = .ok (.aload_n 0, 1) := by decide +kernel
theorem dX5_begin_83 : decode cX5_begin 83 = .ok (.iconst 0, 1) := by decide +kernel
theorem dX5_begin_84 : decode cX5_begin 84 = .ok (.putfield 79, 3) := by decide +kernel
theorem dX5_begin_87 : decode cX5_begin 87 = .ok (.aload_n 0, 1) := by decide +kernel
theorem dX5_begin_88 : decode cX5_begin 88 = .ok (.iconst 0, 1) := by decide +kernel
theorem dX5_begin_89 : decode cX5_begin 89 = .ok (.putfield 83, 3) := by decide +kernel
theorem dX5_begin_92 : decode cX5_begin 92 = .ok (.aload_n 0, 1) := by decide +kernel
theorem dX5_begin_93 : decode cX5_begin 93 = .ok (.iconst 0, 1) := by decide +kernel
theorem dX5_begin_94 : decode cX5_begin 94 = .ok (.putfield 86, 3) := by decide +kernel
theorem dX5_begin_97 : decode cX5_begin 97 = .ok (.aload_n 0, 1) := by decide +kernel
theorem dX5_begin_98 : decode cX5_begin 98 = .ok (.iconst 0, 1) := by decide +kernel
theorem dX5_begin_99 : decode cX5_begin 99 = .ok (.putfield 89, 3) := by decide +kernel
theorem dX5_begin_102 : decode cX5_begin 102 = .ok (.aload_n 0, 1) := by decide +kernel
theorem dX5_begin_103 : decode cX5_begin 103 = .ok (.iconst 0, 1) := by decide +kernel
theorem dX5_begin_104 : decode cX5_begin 104 = .ok (.putfield 92, 3) := by decide +kernel
theorem dX5_begin_107 : decode cX5_begin 107 = .ok (.aload_n 0, 1) := by decide +kernel
theorem dX5_begin_108 : decode cX5_begin 108 = .ok (.iconst 0, 1) := by decide +kernel
theorem dX5_begin_109 : decode cX5_begin 109 = .ok (.putfield 95, 3) := by decide +kernel
theorem dX5_begin_112 : decode cX5_begin 112 = .ok (.aload_n 0, 1) := by decide +kernel
theorem dX5_begin_113 : decode cX5_begin 113 = .ok (.iconst 0, 1) := by decide +kernel
theorem dX5_begin_114 : decode cX5_begin 114 = .ok (.putfield 98, 3) := by decide +kernel
theorem dX5_begin_117 : decode cX5_begin 117 = .ok (.aload_n 0, 1) := by decide +kernel
theorem dX5_begin_118 : decode cX5_begin 118 = .ok (.iconst 0, 1) := by decide +kernel
theorem dX5_begin_119 : decode cX5_begin 119 = .ok (.putfield 101, 3) := by decide +kernel
theorem dX5_begin_122 : decode cX5_begin 122 = .ok (.aload_n 0, 1) := by decide +kernel
theorem dX5_begin_123 : decode cX5_begin 123 = .ok (.iconst (-1), 1) := by decide +kernel
theorem dX5_begin_124 : decode cX5_begin 124 = .ok (.putfield 104, 3) := by decide +kernel
theorem dX5_begin_127 : decode cX5_begin 127 = .ok (.iconst 0, 1) := by decide +kernel
theorem dX5_begin_128 : decode cX5_begin 128 = .ok (.istore_n 2, 1) := by decide +kernel
theorem dX5_begin_129 : decode cX5_begin 129 = .ok (.iload_n 2, 1) := by decide +kernel
theorem dX5_begin_130 : decode cX5_begin 130 = .ok (.bipush 6, 2) := by decide +kernel
theorem dX5_begin_132 : decode cX5_begin 132 = .ok (.if_icmp .ge 26, 3) := by decide +kernel
theorem dX5_begin_135 : decode cX5_begin 135 = .ok (.aload_n 0, 1) := by decide +kernel
theorem dX5_begin_136 : decode cX5_begin 136 = .ok (.getfield 40, 3) := by decide +kernel
theorem dX5_begin_139 : decode cX5_begin 139 = .ok (.iload_n 2, 1) := by decide +kernel
theorem dX5_begin_140 : decode cX5_begin 140 = .ok (.iload_n 2, 1) := by decide +kernel
theorem dX5_begin_141 : decode cX5_begin 141 = .ok (.ifCond .ne 9, 3) := by decide +kernel
theorem dX5_begin_144 : decode cX5_begin 144 = .ok (.sipush 1000, 3) := by decide +kernel
theorem dX5_begin_147 : decode cX5_begin 147 = .ok (.goto 4, 3) := by decide +kernel
theorem dX5_begin_150 : decode cX5_begin 150 = .ok (.iconst 0, 1) := by decide +kernel
theorem dX5_begin_151 : decode cX5_begin 151 = .ok (.iastore, 1) := by decide +kernel
theorem dX5_begin_152 : decode cX5_begin 152 = .ok (.iinc 2 1, 3) := by decide +kernel
theorem dX5_begin_155 : decode cX5_begin 155 = .ok (.goto (-26), 3) := by decide +kernel
theorem dX5_begin_158 : decode cX5_begin 158 = .ok (.aload_n 0, 1) := by decide +kernel
theorem dX5_begin_159 : decode cX5_begin 159 = .ok (.iconst 0, 1) := by decide +kernel
theorem dX5_begin_160 : decode cX5_begin 160 = .ok (.putfield 107, 3) := by decide +kernel
theorem dX5_begin_163 : decode cX5_begin 163 = .ok (.aload_n 0, 1) := by decide +kernel
theorem dX5_begin_164 : decode cX5_begin 164 = .ok (.iconst 0, 1) := by decide +kernel
theorem dX5_begin_165 : decode cX5_begin 165 = .ok (.putfield 110, 3) := by decide +kernel
theorem dX5_begin_168 : decode cX5_begin 168 = .ok (.return_, 1) := by decide +kernel
theorem dX5_reset_0 : decode cX5_reset 0 = .ok (.iload_n 1, 1) := by decide +kernel
theorem dX5_reset_1 : decode cX5_reset 1 = .ok (.iconst 4, 1) := by decide +kernel
theorem dX5_reset_2 : decode cX5_reset 2 = .ok (.bipush 48, 2) := by decide +kernel
theorem dX5_reset_4 : decode cX5_reset 4 = .ok (.invokestatic 113, 3) := by decide +kernel
theorem dX5_reset_7 : decode cX5_reset 7 = .ok (.ifCond .ne 6, 3) := by decide +kernel
theorem dX5_reset_10 : decode cX5_reset 10 = .ok (.ldc 117, 2) := by decide +kernel
theorem dX5_reset_12 : decode cX5_reset 12 = .ok (.ireturn, 1) := by decide +kernel
theorem dX5_reset_13 : decode cX5_reset 13 = .ok (.aload_n 0, 1) := by decide +kernel
theorem dX5_reset_14 : decode cX5_reset 14 = .ok (.getfield 47, 3) := by decide +kernel
theorem dX5_reset_17 : decode cX5_reset 17 = .ok (.istore_n 2, 1) := by decide +kernel
theorem dX5_reset_18 : decode cX5_reset 18 = .ok (.aload_n 0, 1) := by decide +kernel
theorem dX5_reset_19 : decode cX5_reset 19 = .ok (.iload_n 1, 1) := by decide +kernel
theorem dX5_reset_20 : decode cX5_reset 20 = .ok (.invokevirtual 43, 3) := by decide +kernel
theorem dX5_reset_23 : decode cX5_reset 23 = .ok (.iload_n 2, 1) := by decide +kernel
theorem dX5_reset_24 : decode cX5_reset 24 = .ok (.ireturn, 1) := by decide +kernel
theorem dX5_noSample_0 : decode cX5_noSample 0 = .ok (.iload_n 1, 1) := by decide +kernel
theorem dX5_noSample_1 : decode cX5_noSample 1 = .ok (.iconst 0, 1) := by decide +kernel
theorem dX5_noSample_2 : decode cX5_noSample 2 = .ok (.aload_n 0, 1) := by decide +kernel
theorem dX5_noSample_3 : decode cX5_noSample 3 = .ok (.getfield 47, 3) := by decide +kernel
theorem dX5_noSample_6 : decode cX5_noSample 6 = .ok (.iconst 1, 1) := by decide +kernel
theorem dX5_noSample_7 : decode cX5_noSample 7 = .ok (.isub, 1) := by decide +kernel
theorem dX5_noSample_8 : decode cX5_noSample 8 = .ok (.invokestatic 113, 3) := by decide +kernel
theorem dX5_noSample_11 : decode cX5_noSample 11 = .ok (.ifCond .ne 7, 3) := by decide +kernel
theorem dX5_noSample_14 : decode cX5_noSample 14 = .ok (.iconst 1, 1) := by decide +kernel
theorem dX5_noSample_15 : decode cX5_noSample 15 = .ok (.goto 4, 3) := by decide +kernel
theorem dX5_noSample_18 : decode cX5_noSample 18 = .ok (.iconst 0, 1) := by decide +kernel
theorem dX5_noSample_19 : decode cX5_noSample 19 = .ok (.ireturn, 1) := by decide +kernel
theorem dX5_setReference_0 : decode cX5_setReference 0 = .ok (.aload_n 0, 1) := by decide +kernel
theorem dX5_setReference_1 : decode cX5_setReference 1 = .ok (.iload_n 1, 1) := by decide +kernel
theorem dX5_setReference_2 : decode cX5_setReference 2 = .ok (.invokevirtual 118, 3) := by decide +kernel
theorem dX5_setReference_5 : decode cX5_setReference 5 = .ok (.ifCond .ne 14, 3) := by decide +kernel
theorem dX5_setReference_8 : decode cX5_setReference 8 = .ok (.iload_n 2, 1) := by decide +kernel
theorem dX5_setReference_9 : decode cX5_setReference 9 = .ok (.ldc 122, 2) := by decide +kernel
theorem dX5_setReference_11 : decode cX5_setReference 11 = .ok (.ldc 63, 2) := by decide +kernel
theorem dX5_setReference_13 : decode cX5_setReference 13 = .ok (.invokestatic 113, 3) := by decide +kernel
theorem dX5_setReference_16 : decode cX5_setReference 16 = .ok (.ifCond .ne 6, 3) := by decide +kernel
theorem dX5_setReference_19 : decode cX5_setReference 19 = .ok (.ldc 117, 2) := by decide +kernel
theorem dX5_setReference_21 : decode cX5_setReference 21 = .ok (.ireturn, 1) := by decide +kernel
theorem dX5_setReference_22 : decode cX5_setReference 22 = .ok (.aload_n 0, 1) := by decide +kernel
theorem dX5_setReference_23 : decode cX5_setReference 23 = .ok (.getfield 7, 3) := by decide +kernel
theorem dX5_setReference_26 : decode cX5_setReference 26 = .ok (.iload_n 1, 1) := by decide +kernel
theorem dX5_setReference_27 : decode cX5_setReference 27 = .ok (.iaload, 1) := by decide +kernel
theorem dX5_setReference_28 : decode cX5_setReference 28 = .ok (.istore_n 3, 1) := by decide +kernel
theorem dX5_setReference_29 : decode cX5_setReference 29 = .ok (.aload_n 0, 1) := by decide +kernel
theorem dX5_setReference_30 : decode cX5_setReference 30 = .ok (.getfield 7, 3) := by decide +kernel
theorem dX5_setReference_33 : decode cX5_setReference 33 = .ok (.iload_n 1, 1) := by decide +kernel
theorem dX5_setReference_34 : decode cX5_setReference 34 = .ok (.iload_n 2, 1) := by decide +kernel
theorem dX5_setReference_35 : decode cX5_setReference 35 = .ok (.iastore, 1) := by decide +kernel
theorem dX5_setReference_36 : decode cX5_setReference 36 = .ok (.iload_n 3, 1) := by decide +kernel
theorem dX5_setReference_37 : decode cX5_setReference 37 = .ok (.ireturn, 1) := by decide +kernel
theorem dX5_setGain_0 : decode cX5_setGain 0 = .ok (.iload_n 1, 1) := by decide +kernel
theorem dX5_setGain_1 : decode cX5_setGain 1 = .ok (.iconst 0, 1) := by decide +kernel
theorem dX5_setGain_2 : decode cX5_setGain 2 = .ok (.sipush 2000, 3) := by decide +kernel
theorem dX5_setGain_5 : decode cX5_setGain 5 = .ok (.invokestatic 113, 3) := by decide +kernel
theorem dX5_setGain_8 : decode cX5_setGain 8 = .ok (.ifCond .eq 13, 3) := by decide +kernel
theorem dX5_setGain_11 : decode cX5_setGain 11 = .ok (.iload_n 2, 1) := by decide +kernel
theorem dX5_setGain_12 : decode cX5_setGain 12 = .ok (.iconst 0, 1) := by decide +kernel
theorem dX5_setGain_13 : decode cX5_setGain 13 = .ok (.bipush 8, 2) := by decide +kernel
theorem dX5_setGain_15 : decode cX5_setGain 15 = .ok (.invokestatic 113, 3) := by decide +kernel
theorem dX5_setGain_18 : decode cX5_setGain 18 = .ok (.ifCond .ne 6, 3) := by decide +kernel
theorem dX5_setGain_21 : decode cX5_setGain 21 = .ok (.ldc 117, 2) := by decide +kernel
theorem dX5_setGain_23 : decode cX5_setGain 23 = .ok (.ireturn, 1) := by decide +kernel
theorem dX5_setGain_24 : decode cX5_setGain 24 = .ok (.iload_n 1, 1) := by decide +kernel
theorem dX5_setGain_25 : decode cX5_setGain 25 = .ok (.aload_n 0, 1) := by decide +kernel
theorem dX5_setGain_26 : decode cX5_setGain 26 = .ok (.getfield 51, 3) := by decide +kernel
theorem dX5_setGain_29 : decode cX5_setGain 29 = .ok (.if_icmp .ne 11, 3) := by decide +kernel
theorem dX5_setGain_32 : decode cX5_setGain 32 = .ok (.iload_n 2, 1) := by decide +kernel
theorem dX5_setGain_33 : decode cX5_setGain 33 = .ok (.aload_n 0, 1) := by decide +kernel
theorem dX5_setGain_34 : decode cX5_setGain 34 = .ok (.getfield 54, 3) := by decide +kernel
theorem dX5_setGain_37 : decode cX5_setGain 37 = .ok (.if_icmp .eq 7, 3) := by decide +kernel
theorem dX5_setGain_40 : decode cX5_setGain 40 = .ok (.iconst 1, 1) := by decide +kernel
theorem dX5_setGain_41 : decode cX5_setGain 41 = .ok (.goto 4, 3) := by decide +kernel
theorem dX5_setGain_44 : decode cX5_setGain 44 = .ok (.iconst 0, 1) := by decide +kernel
theorem dX5_setGain_45 : decode cX5_setGain 45 = .ok (.istore_n 3, 1) := by decide +kernel
theorem dX5_setGain_46 : decode cX5_setGain 46 = .ok (.aload_n 0, 1) := by decide +kernel
theorem dX5_setGain_47 : decode cX5_setGain 47 = .ok (.iload_n 1, 1) := by decide +kernel
theorem dX5_setGain_48 : decode cX5_setGain 48 = .ok (.putfield 51, 3) := by decide +kernel
theorem dX5_setGain_51 : decode cX5_setGain 51 = .ok (.aload_n 0, 1) := by decide +kernel
theorem dX5_setGain_52 : decode cX5_setGain 52 = .ok (.iload_n 2, 1) := by decide +kernel
theorem dX5_setGain_53 : decode cX5_setGain 53 = .ok (.putfield 54, 3) := by decide +kernel
theorem dX5_setGain_56 : decode cX5_setGain 56 = .ok (.iload_n 3, 1) := by decide +kernel
theorem dX5_setGain_57 : decode cX5_setGain 57 = .ok (.ireturn, 1) := by decide +kernel
theorem dX5_setSmoothing_0 : decode cX5_setSmoothing 0 = .ok (.iload_n 1, 1) := by decide +kernel
theorem dX5_setSmoothing_1 : decode cX5_setSmoothing 1 = .ok (.iconst 0, 1) := by decide +kernel
theorem dX5_setSmoothing_2 : decode cX5_setSmoothing 2 = .ok (.sipush 333, 3) := by decide +kernel
theorem dX5_setSmoothing_5 : decode cX5_setSmoothing 5 = .ok (.invokestatic 113, 3) := by decide +kernel
theorem dX5_setSmoothing_8 : decode cX5_setSmoothing 8 = .ok (.ifCond .eq 12, 3) := by decide +kernel
theorem dX5_setSmoothing_11 : decode cX5_setSmoothing 11 = .ok (.iload_n 2, 1) := by decide +kernel
theorem dX5_setSmoothing_12 : decode cX5_setSmoothing 12 = .ok (.iconst 0, 1) := by decide +kernel
theorem dX5_setSmoothing_13 : decode cX5_setSmoothing 13 = .ok (.iconst 4, 1) := by decide +kernel
theorem dX5_setSmoothing_14 : decode cX5_setSmoothing 14 = .ok (.invokestatic 113, 3) := by decide +kernel
theorem dX5_setSmoothing_17 : decode cX5_setSmoothing 17 = .ok (.ifCond .ne 6, 3) := by decide +kernel
theorem dX5_setSmoothing_20 : decode cX5_setSmoothing 20 = .ok (.ldc 117, 2) := by decide +kernel
theorem dX5_setSmoothing_22 : decode cX5_setSmoothing 22 = .ok (.ireturn, 1) := by decide +kernel
theorem dX5_setSmoothing_23 : decode cX5_setSmoothing 23 = .ok (.iload_n 1, 1) := by decide +kernel
theorem dX5_setSmoothing_24 : decode cX5_setSmoothing 24 = .ok (.aload_n 0, 1) := by decide +kernel
theorem dX5_setSmoothing_25 : decode cX5_setSmoothing 25 = .ok (.getfield 57, 3) := by decide +kernel
theorem dX5_setSmoothing_28 : decode cX5_setSmoothing 28 = .ok (.if_icmp .ne 11, 3) := by decide +kernel
theorem dX5_setSmoothing_31 : decode cX5_setSmoothing 31 = .ok (.iload_n 2, 1) := by decide +kernel
theorem dX5_setSmoothing_32 : decode cX5_setSmoothing 32 = .ok (.aload_n 0, 1) := by decide +kernel
theorem dX5_setSmoothing_33 : decode cX5_setSmoothing 33 = .ok (.getfield 60, 3) := by decide +kernel
theorem dX5_setSmoothing_36 : decode cX5_setSmoothing 36 = .ok (.if_icmp .eq 7, 3) := by decide +kernel
theorem dX5_setSmoothing_39 : decode cX5_setSmoothing 39 = .ok (.iconst 1, 1) := by decide +kernel
theorem dX5_setSmoothing_40 : decode cX5_setSmoothing 40 = .ok (.goto 4, 3) := by decide +kernel
theorem dX5_setSmoothing_43 : decode cX5_setSmoothing 43 = .ok (.iconst 0, 1) := by decide +kernel
theorem dX5_setSmoothing_44 : decode cX5_setSmoothing 44 = .ok (.istore_n 3, 1) := by decide +kernel
theorem dX5_setSmoothing_45 : decode cX5_setSmoothing 45 = .ok (.aload_n 0, 1) := by decide +kernel
theorem dX5_setSmoothing_46 : decode cX5_setSmoothing 46 = .ok (.iload_n 1, 1) := by decide +kernel
theorem dX5_setSmoothing_47 : decode cX5_setSmoothing 47 = .ok (.putfield 57, 3) := by decide +kernel
theorem dX5_setSmoothing_50 : decode cX5_setSmoothing 50 = .ok (.aload_n 0, 1) := by decide +kernel
theorem dX5_setSmoothing_51 : decode cX5_setSmoothing 51 = .ok (.iload_n 2, 1) := by decide +kernel
theorem dX5_setSmoothing_52 : decode cX5_setSmoothing 52 = .ok (.putfield 60, 3) := by decide +kernel
theorem dX5_setSmoothing_55 : decode cX5_setSmoothing 55 = .ok (.iload_n 3, 1) := by decide +kernel
theorem dX5_setSmoothing_56 : decode cX5_setSmoothing 56 = .ok (.ireturn, 1) := by decide +kernel
theorem dX5_setLimits_0 : decode cX5_setLimits 0 = .ok (.iload_n 1, 1) := by decide +kernel
theorem dX5_setLimits_1 : decode cX5_setLimits 1 = .ok (.iconst 1, 1) := by decide +kernel
theorem dX5_setLimits_2 : decode cX5_setLimits 2 = .ok (.ldc 63, 2) := by decide +kernel
theorem dX5_setLimits_4 : decode cX5_setLimits 4 = .ok (.invokestatic 113, 3) := by decide +kernel
theorem dX5_setLimits_7 : decode cX5_setLimits 7 = .ok (.ifCond .eq 13, 3) := by decide +kernel
theorem dX5_setLimits_10 : decode cX5_setLimits 10 = .ok (.iload_n 2, 1) := by decide +kernel
theorem dX5_setLimits_11 : decode cX5_setLimits 11 = .ok (.iconst 1, 1) := by decide +kernel
theorem dX5_setLimits_12 : decode cX5_setLimits 12 = .ok (.bipush 10, 2) := by decide +kernel
theorem dX5_setLimits_14 : decode cX5_setLimits 14 = .ok (.invokestatic 113, 3) := by decide +kernel
theorem dX5_setLimits_17 : decode cX5_setLimits 17 = .ok (.ifCond .ne 6, 3) := by decide +kernel
theorem dX5_setLimits_20 : decode cX5_setLimits 20 = .ok (.ldc 117, 2) := by decide +kernel
theorem dX5_setLimits_22 : decode cX5_setLimits 22 = .ok (.ireturn, 1) := by decide +kernel
theorem dX5_setLimits_23 : decode cX5_setLimits 23 = .ok (.iload_n 1, 1) := by decide +kernel
theorem dX5_setLimits_24 : decode cX5_setLimits 24 = .ok (.aload_n 0, 1) := by decide +kernel
theorem dX5_setLimits_25 : decode cX5_setLimits 25 = .ok (.getfield 64, 3) := by decide +kernel
theorem dX5_setLimits_28 : decode cX5_setLimits 28 = .ok (.if_icmp .ne 11, 3) := by decide +kernel
theorem dX5_setLimits_31 : decode cX5_setLimits 31 = .ok (.iload_n 2, 1) := by decide +kernel
theorem dX5_setLimits_32 : decode cX5_setLimits 32 = .ok (.aload_n 0, 1) := by decide +kernel
theorem dX5_setLimits_33 : decode cX5_setLimits 33 = .ok (.getfield 67, 3) := by decide +kernel
theorem dX5_setLimits_36 : decode cX5_setLimits 36 = .ok (.if_icmp .eq 7, 3) := by decide +kernel
theorem dX5_setLimits_39 : decode cX5_setLimits 39 = .ok (.iconst 1, 1) := by decide +kernel
theorem dX5_setLimits_40 : decode cX5_setLimits 40 = .ok (.goto 4, 3) := by decide +kernel
theorem dX5_setLimits_43 : decode cX5_setLimits 43 = .ok (.iconst 0, 1) := by decide +kernel
theorem dX5_setLimits_44 : decode cX5_setLimits 44 = .ok (.istore_n 3, 1) := by decide +kernel
theorem dX5_setLimits_45 : decode cX5_setLimits 45 = .ok (.aload_n 0, 1) := by decide +kernel
theorem dX5_setLimits_46 : decode cX5_setLimits 46 = .ok (.iload_n 1, 1) := by decide +kernel
theorem dX5_setLimits_47 : decode cX5_setLimits 47 = .ok (.putfield 64, 3) := by decide +kernel
theorem dX5_setLimits_50 : decode cX5_setLimits 50 = .ok (.aload_n 0, 1) := by decide +kernel
theorem dX5_setLimits_51 : decode cX5_setLimits 51 = .ok (.iload_n 2, 1) := by decide +kernel
theorem dX5_setLimits_52 : decode cX5_setLimits 52 = .ok (.putfield 67, 3) := by decide +kernel
theorem dX5_setLimits_55 : decode cX5_setLimits 55 = .ok (.iload_n 3, 1) := by decide +kernel
theorem dX5_setLimits_56 : decode cX5_setLimits 56 = .ok (.ireturn, 1) := by decide +kernel
theorem dX5_setGreatestShift_0 : decode cX5_setGreatestShift 0 = .ok (.iload_n 1, 1) := by decide +kernel
theorem dX5_setGreatestShift_1 : decode cX5_setGreatestShift 1 = .ok (.iconst 0, 1) := by decide +kernel
theorem dX5_setGreatestShift_2 : decode cX5_setGreatestShift 2 = .ok (.iconst 5, 1) := by decide +kernel
theorem dX5_setGreatestShift_3 : decode cX5_setGreatestShift 3 = .ok (.invokestatic 113, 3) := by decide +kernel
theorem dX5_setGreatestShift_6 : decode cX5_setGreatestShift 6 = .ok (.ifCond .ne 6, 3) := by decide +kernel
theorem dX5_setGreatestShift_9 : decode cX5_setGreatestShift 9 = .ok (.ldc 117, 2) := by decide +kernel
theorem dX5_setGreatestShift_11 : decode cX5_setGreatestShift 11 = .ok (.ireturn, 1) := by decide +kernel
theorem dX5_setGreatestShift_12 : decode cX5_setGreatestShift 12 = .ok (.aload_n 0, 1) := by decide +kernel
theorem dX5_setGreatestShift_13 : decode cX5_setGreatestShift 13 = .ok (.getfield 70, 3) := by decide +kernel
theorem dX5_setGreatestShift_16 : decode cX5_setGreatestShift 16 = .ok (.istore_n 2, 1) := by decide +kernel
theorem dX5_setGreatestShift_17 : decode cX5_setGreatestShift 17 = .ok (.aload_n 0, 1) := by decide +kernel
theorem dX5_setGreatestShift_18 : decode cX5_setGreatestShift 18 = .ok (.iload_n 1, 1) := by decide +kernel
theorem dX5_setGreatestShift_19 : decode cX5_setGreatestShift 19 = .ok (.putfield 70, 3) := by decide +kernel
theorem dX5_setGreatestShift_22 : decode cX5_setGreatestShift 22 = .ok (.iload_n 2, 1) := by decide +kernel
theorem dX5_setGreatestShift_23 : decode cX5_setGreatestShift 23 = .ok (.ireturn, 1) := by decide +kernel
theorem dX5_setTolerance_0 : decode cX5_setTolerance 0 = .ok (.iload_n 1, 1) := by decide +kernel
theorem dX5_setTolerance_1 : decode cX5_setTolerance 1 = .ok (.iconst 0, 1) := by decide +kernel
theorem dX5_setTolerance_2 : decode cX5_setTolerance 2 = .ok (.ldc 63, 2) := by decide +kernel
theorem dX5_setTolerance_4 : decode cX5_setTolerance 4 = .ok (.invokestatic 113, 3) := by decide +kernel
theorem dX5_setTolerance_7 : decode cX5_setTolerance 7 = .ok (.ifCond .eq 12, 3) := by decide +kernel
theorem dX5_setTolerance_10 : decode cX5_setTolerance 10 = .ok (.iload_n 2, 1) := by decide +kernel
theorem dX5_setTolerance_11 : decode cX5_setTolerance 11 = .ok (.iconst 1, 1) := by decide +kernel
theorem dX5_setTolerance_12 : decode cX5_setTolerance 12 = .ok (.iconst 5, 1) := by decide +kernel
theorem dX5_setTolerance_13 : decode cX5_setTolerance 13 = .ok (.invokestatic 113, 3) := by decide +kernel
theorem dX5_setTolerance_16 : decode cX5_setTolerance 16 = .ok (.ifCond .ne 6, 3) := by decide +kernel
theorem dX5_setTolerance_19 : decode cX5_setTolerance 19 = .ok (.ldc 117, 2) := by decide +kernel
theorem dX5_setTolerance_21 : decode cX5_setTolerance 21 = .ok (.ireturn, 1) := by decide +kernel
theorem dX5_setTolerance_22 : decode cX5_setTolerance 22 = .ok (.iload_n 1, 1) := by decide +kernel
theorem dX5_setTolerance_23 : decode cX5_setTolerance 23 = .ok (.aload_n 0, 1) := by decide +kernel
theorem dX5_setTolerance_24 : decode cX5_setTolerance 24 = .ok (.getfield 73, 3) := by decide +kernel
theorem dX5_setTolerance_27 : decode cX5_setTolerance 27 = .ok (.if_icmp .ne 11, 3) := by decide +kernel
theorem dX5_setTolerance_30 : decode cX5_setTolerance 30 = .ok (.iload_n 2, 1) := by decide +kernel
theorem dX5_setTolerance_31 : decode cX5_setTolerance 31 = .ok (.aload_n 0, 1) := by decide +kernel
theorem dX5_setTolerance_32 : decode cX5_setTolerance 32 = .ok (.getfield 76, 3) := by decide +kernel
theorem dX5_setTolerance_35 : decode cX5_setTolerance 35 = .ok (.if_icmp .eq 7, 3) := by decide +kernel
theorem dX5_setTolerance_38 : decode cX5_setTolerance 38 = .ok (.iconst 1, 1) := by decide +kernel
theorem dX5_setTolerance_39 : decode cX5_setTolerance 39 = .ok (.goto 4, 3) := by decide +kernel
theorem dX5_setTolerance_42 : decode cX5_setTolerance 42 = .ok (.iconst 0, 1) := by decide +kernel
theorem dX5_setTolerance_43 : decode cX5_setTolerance 43 = .ok (.istore_n 3, 1) := by decide +kernel
theorem dX5_setTolerance_44 : decode cX5_setTolerance 44 = .ok (.aload_n 0, 1) := by decide +kernel
theorem dX5_setTolerance_45 : decode cX5_setTolerance 45 = .ok (.iload_n 1, 1) := by decide +kernel
theorem dX5_setTolerance_46 : decode cX5_setTolerance 46 = .ok (.putfield 73, 3) := by decide +kernel
theorem dX5_setTolerance_49 : decode cX5_setTolerance 49 = .ok (.aload_n 0, 1) := by decide +kernel
theorem dX5_setTolerance_50 : decode cX5_setTolerance 50 = .ok (.iload_n 2, 1) := by decide +kernel
theorem dX5_setTolerance_51 : decode cX5_setTolerance 51 = .ok (.putfield 76, 3) := by decide +kernel
theorem dX5_setTolerance_54 : decode cX5_setTolerance 54 = .ok (.iload_n 3, 1) := by decide +kernel
theorem dX5_setTolerance_55 : decode cX5_setTolerance 55 = .ok (.ireturn, 1) := by decide +kernel
theorem dX5_setGuard_0 : decode cX5_setGuard 0 = .ok (.iload_n 1, 1) := by decide +kernel
theorem dX5_setGuard_1 : decode cX5_setGuard 1 = .ok (.aload_n 0, 1) := by decide +kernel
theorem dX5_setGuard_2 : decode cX5_setGuard 2 = .ok (.getfield 79, 3) := by decide +kernel
theorem dX5_setGuard_5 : decode cX5_setGuard 5 = .ok (.if_icmp .eq 7, 3) := by decide +kernel
theorem dX5_setGuard_8 : decode cX5_setGuard 8 = .ok (.iconst 1, 1) := by decide +kernel
theorem dX5_setGuard_9 : decode cX5_setGuard 9 = .ok (.goto 4, 3) := by decide +kernel
theorem dX5_setGuard_12 : decode cX5_setGuard 12 = .ok (.iconst 0, 1) := by decide +kernel
theorem dX5_setGuard_13 : decode cX5_setGuard 13 = .ok (.istore_n 2, 1) := by decide +kernel
theorem dX5_setGuard_14 : decode cX5_setGuard 14 = .ok (.aload_n 0, 1) := by decide +kernel
theorem dX5_setGuard_15 : decode cX5_setGuard 15 = .ok (.iload_n 1, 1) := by decide +kernel
theorem dX5_setGuard_16 : decode cX5_setGuard 16 = .ok (.putfield 79, 3) := by decide +kernel
theorem dX5_setGuard_19 : decode cX5_setGuard 19 = .ok (.iload_n 2, 1) := by decide +kernel
theorem dX5_setGuard_20 : decode cX5_setGuard 20 = .ok (.ireturn, 1) := by decide +kernel
theorem dX5_setting_0 : decode cX5_setting 0 = .ok (.iload_n 1, 1) := by decide +kernel
theorem dX5_setting_1 : decode cX5_setting 1 = .ok (.tableswitch 122 0 10 #[59, 64, 69, 74, 79, 84, 89, 94, 99, 104, 109], 59) := by decide +kernel
theorem dX5_setting_60 : decode cX5_setting 60 = .ok (.aload_n 0, 1) := by decide +kernel
theorem dX5_setting_61 : decode cX5_setting 61 = .ok (.getfield 47, 3) := by decide +kernel
theorem dX5_setting_64 : decode cX5_setting 64 = .ok (.ireturn, 1) := by decide +kernel
theorem dX5_setting_65 : decode cX5_setting 65 = .ok (.aload_n 0, 1) := by decide +kernel
theorem dX5_setting_66 : decode cX5_setting 66 = .ok (.getfield 51, 3) := by decide +kernel
theorem dX5_setting_69 : decode cX5_setting 69 = .ok (.ireturn, 1) := by decide +kernel
theorem dX5_setting_70 : decode cX5_setting 70 = .ok (.aload_n 0, 1) := by decide +kernel
theorem dX5_setting_71 : decode cX5_setting 71 = .ok (.getfield 54, 3) := by decide +kernel
theorem dX5_setting_74 : decode cX5_setting 74 = .ok (.ireturn, 1) := by decide +kernel
theorem dX5_setting_75 : decode cX5_setting 75 = .ok (.aload_n 0, 1) := by decide +kernel
theorem dX5_setting_76 : decode cX5_setting 76 = .ok (.getfield 57, 3) := by decide +kernel
theorem dX5_setting_79 : decode cX5_setting 79 = .ok (.ireturn, 1) := by decide +kernel
theorem dX5_setting_80 : decode cX5_setting 80 = .ok (.aload_n 0, 1) := by decide +kernel
theorem dX5_setting_81 : decode cX5_setting 81 = .ok (.getfield 60, 3) := by decide +kernel
theorem dX5_setting_84 : decode cX5_setting 84 = .ok (.ireturn, 1) := by decide +kernel
theorem dX5_setting_85 : decode cX5_setting 85 = .ok (.aload_n 0, 1) := by decide +kernel
theorem dX5_setting_86 : decode cX5_setting 86 = .ok (.getfield 64, 3) := by decide +kernel
theorem dX5_setting_89 : decode cX5_setting 89 = .ok (.ireturn, 1) := by decide +kernel
theorem dX5_setting_90 : decode cX5_setting 90 = .ok (.aload_n 0, 1) := by decide +kernel
theorem dX5_setting_91 : decode cX5_setting 91 = .ok (.getfield 67, 3) := by decide +kernel
theorem dX5_setting_94 : decode cX5_setting 94 = .ok (.ireturn, 1) := by decide +kernel
theorem dX5_setting_95 : decode cX5_setting 95 = .ok (.aload_n 0, 1) := by decide +kernel
theorem dX5_setting_96 : decode cX5_setting 96 = .ok (.getfield 70, 3) := by decide +kernel
theorem dX5_setting_99 : decode cX5_setting 99 = .ok (.ireturn, 1) := by decide +kernel
theorem dX5_setting_100 : decode cX5_setting 100 = .ok (.aload_n 0, 1) := by decide +kernel
theorem dX5_setting_101 : decode cX5_setting 101 = .ok (.getfield 73, 3) := by decide +kernel
theorem dX5_setting_104 : decode cX5_setting 104 = .ok (.ireturn, 1) := by decide +kernel
theorem dX5_setting_105 : decode cX5_setting 105 = .ok (.aload_n 0, 1) := by decide +kernel
theorem dX5_setting_106 : decode cX5_setting 106 = .ok (.getfield 76, 3) := by decide +kernel
theorem dX5_setting_109 : decode cX5_setting 109 = .ok (.ireturn, 1) := by decide +kernel
theorem dX5_setting_110 : decode cX5_setting 110 = .ok (.aload_n 0, 1) := by decide +kernel
theorem dX5_setting_111 : decode cX5_setting 111 = .ok (.getfield 79, 3) := by decide +kernel
theorem dX5_setting_114 : decode cX5_setting 114 = .ok (.ifCond .eq 7, 3) := by decide +kernel
theorem dX5_setting_117 : decode cX5_setting 117 = .ok (.iconst 1, 1) := by decide +kernel
theorem dX5_setting_118 : decode cX5_setting 118 = .ok (.goto 4, 3) := by decide +kernel
theorem dX5_setting_121 : decode cX5_setting 121 = .ok (.iconst 0, 1) := by decide +kernel
theorem dX5_setting_122 : decode cX5_setting 122 = .ok (.ireturn, 1) := by decide +kernel
theorem dX5_setting_123 : decode cX5_setting 123 = .ok (.ldc 117, 2) := by decide +kernel
theorem dX5_setting_125 : decode cX5_setting 125 = .ok (.ireturn, 1) := by decide +kernel
theorem dX5_correct_0 : decode cX5_correct 0 = .ok (.iconst 0, 1) := by decide +kernel
theorem dX5_correct_1 : decode cX5_correct 1 = .ok (.istore_n 3, 1) := by decide +kernel
theorem dX5_correct_2 : decode cX5_correct 2 = .ok (.iload_n 3, 1) := by decide +kernel
theorem dX5_correct_3 : decode cX5_correct 3 = .ok (.aload_n 0, 1) := by decide +kernel
theorem dX5_correct_4 : decode cX5_correct 4 = .ok (.getfield 54, 3) := by decide +kernel
theorem dX5_correct_7 : decode cX5_correct 7 = .ok (.iadd, 1) := by decide +kernel
theorem dX5_correct_8 : decode cX5_correct 8 = .ok (.iload_n 1, 1) := by decide +kernel
theorem dX5_correct_9 : decode cX5_correct 9 = .ok (.if_icmp .ge 88, 3) := by decide +kernel
theorem dX5_correct_12 : decode cX5_correct 12 = .ok (.iload_n 1, 1) := by decide +kernel
theorem dX5_correct_13 : decode cX5_correct 13 = .ok (.iload_n 3, 1) := by decide +kernel
theorem dX5_correct_14 : decode cX5_correct 14 = .ok (.isub, 1) := by decide +kernel
theorem dX5_correct_15 : decode cX5_correct 15 = .ok (.aload_n 0, 1) := by decide +kernel
theorem dX5_correct_16 : decode cX5_correct 16 = .ok (.getfield 54, 3) := by decide +kernel
theorem dX5_correct_19 : decode cX5_correct 19 = .ok (.isub, 1) := by decide +kernel
theorem dX5_correct_20 : decode cX5_correct 20 = .ok (.istore 4, 2) := by decide +kernel
theorem dX5_correct_22 : decode cX5_correct 22 = .ok (.iload_n 2, 1) := by decide +kernel
theorem dX5_correct_23 : decode cX5_correct 23 = .ok (.ifCond .eq 18, 3) := by decide +kernel
theorem dX5_correct_26 : decode cX5_correct 26 = .ok (.iload 4, 2) := by decide +kernel
theorem dX5_correct_28 : decode cX5_correct 28 = .ok (.aload_n 0, 1) := by decide +kernel
theorem dX5_correct_29 : decode cX5_correct 29 = .ok (.getfield 67, 3) := by decide +kernel
theorem dX5_correct_32 : decode cX5_correct 32 = .ok (.if_icmp .ge 9, 3) := by decide +kernel
theorem dX5_correct_35 : decode cX5_correct 35 = .ok (.iload 4, 2) := by decide +kernel
theorem dX5_correct_37 : decode cX5_correct 37 = .ok (.i2l, 1) := by decide +kernel
theorem dX5_correct_38 : decode cX5_correct 38 = .ok (.goto 8, 3) := by decide +kernel
theorem dX5_correct_41 : decode cX5_correct 41 = .ok (.aload_n 0, 1) := by decide +kernel
theorem dX5_correct_42 : decode cX5_correct 42 = .ok (.getfield 67, 3) := by decide +kernel
theorem dX5_correct_45 : decode cX5_correct 45 = .ok (.i2l, 1) := by decide +kernel
theorem dX5_correct_46 : decode cX5_correct 46 = .ok (.lstore 5, 2) := by decide +kernel
theorem dX5_correct_48 : decode cX5_correct 48 = .ok (.aload_n 0, 1) := by decide +kernel
theorem dX5_correct_49 : decode cX5_correct 49 = .ok (.getfield 13, 3) := by decide +kernel
theorem dX5_correct_52 : decode cX5_correct 52 = .ok (.iload_n 3, 1) := by decide +kernel
theorem dX5_correct_53 : decode cX5_correct 53 = .ok (.dup2, 1) := by decide +kernel
theorem dX5_correct_54 : decode cX5_correct 54 = .ok (.iaload, 1) := by decide +kernel
theorem dX5_correct_55 : decode cX5_correct 55 = .ok (.aload_n 0, 1) := by decide +kernel
theorem dX5_correct_56 : decode cX5_correct 56 = .ok (.getfield 51, 3) := by decide +kernel
theorem dX5_correct_59 : decode cX5_correct 59 = .ok (.i2l, 1) := by decide +kernel
theorem dX5_correct_60 : decode cX5_correct 60 = .ok (.aload_n 0, 1) := by decide +kernel
theorem dX5_correct_61 : decode cX5_correct 61 = .ok (.getfield 19, 3) := by decide +kernel
theorem dX5_correct_64 : decode cX5_correct 64 = .ok (.iload_n 3, 1) := by decide +kernel
theorem dX5_correct_65 : decode cX5_correct 65 = .ok (.aload_n 0, 1) := by decide +kernel
theorem dX5_correct_66 : decode cX5_correct 66 = .ok (.getfield 54, 3) := by decide +kernel
theorem dX5_correct_69 : decode cX5_correct 69 = .ok (.iadd, 1) := by decide +kernel
theorem dX5_correct_70 : decode cX5_correct 70 = .ok (.iaload, 1) := by decide +kernel
theorem dX5_correct_71 : decode cX5_correct 71 = .ok (.i2l, 1) := by decide +kernel
theorem dX5_correct_72 : decode cX5_correct 72 = .ok (.lmul, 1) := by decide +kernel
theorem dX5_correct_73 : decode cX5_correct 73 = .ok (.lload 5, 2) := by decide +kernel
theorem dX5_correct_75 : decode cX5_correct 75 = .ok (.lmul, 1) := by decide +kernel
theorem dX5_correct_76 : decode cX5_correct 76 = .ok (.ldc2_w 123, 3) := by decide +kernel
theorem dX5_correct_79 : decode cX5_correct 79 = .ok (.aload_n 0, 1) := by decide +kernel
theorem dX5_correct_80 : decode cX5_correct 80 = .ok (.getfield 67, 3) := by decide +kernel
theorem dX5_correct_83 : decode cX5_correct 83 = .ok (.i2l, 1) := by decide +kernel
theorem dX5_correct_84 : decode cX5_correct 84 = .ok (.lmul, 1) := by decide +kernel
theorem dX5_correct_85 : decode cX5_correct 85 = .ok (.invokestatic 125, 3) := by decide +kernel
theorem dX5_correct_88 : decode cX5_correct 88 = .ok (.l2i, 1) := by decide +kernel
theorem dX5_correct_89 : decode cX5_correct 89 = .ok (.iadd, 1) := by decide +kernel
theorem dX5_correct_90 : decode cX5_correct 90 = .ok (.iastore, 1) := by decide +kernel
theorem dX5_correct_91 : decode cX5_correct 91 = .ok (.iinc 3 1, 3) := by decide +kernel
theorem dX5_correct_94 : decode cX5_correct 94 = .ok (.goto (-92), 3) := by decide +kernel
theorem dX5_correct_97 : decode cX5_correct 97 = .ok (.iconst 0, 1) := by decide +kernel
theorem dX5_correct_98 : decode cX5_correct 98 = .ok (.istore_n 3, 1) := by decide +kernel
theorem dX5_correct_99 : decode cX5_correct 99 = .ok (.iload_n 3, 1) := by decide +kernel
theorem dX5_correct_100 : decode cX5_correct 100 = .ok (.aload_n 0, 1) := by decide +kernel
theorem dX5_correct_101 : decode cX5_correct 101 = .ok (.getfield 60, 3) := by decide +kernel
theorem dX5_correct_104 : decode cX5_correct 104 = .ok (.if_icmp .ge 13, 3) := by decide +kernel
theorem dX5_correct_107 : decode cX5_correct 107 = .ok (.aload_n 0, 1) := by decide +kernel
theorem dX5_correct_108 : decode cX5_correct 108 = .ok (.invokevirtual 129, 3) := by decide +kernel
theorem dX5_correct_111 : decode cX5_correct 111 = .ok (.iinc 3 1, 3) := by decide +kernel
theorem dX5_correct_114 : decode cX5_correct 114 = .ok (.goto (-15), 3) := by decide +kernel
theorem dX5_correct_117 : decode cX5_correct 117 = .ok (.iconst 0, 1) := by decide +kernel
theorem dX5_correct_118 : decode cX5_correct 118 = .ok (.istore_n 3, 1) := by decide +kernel
theorem dX5_correct_119 : decode cX5_correct 119 = .ok (.iload_n 3, 1) := by decide +kernel
theorem dX5_correct_120 : decode cX5_correct 120 = .ok (.aload_n 0, 1) := by decide +kernel
theorem dX5_correct_121 : decode cX5_correct 121 = .ok (.getfield 47, 3) := by decide +kernel
theorem dX5_correct_124 : decode cX5_correct 124 = .ok (.if_icmp .ge 29, 3) := by decide +kernel
theorem dX5_correct_127 : decode cX5_correct 127 = .ok (.aload_n 0, 1) := by decide +kernel
theorem dX5_correct_128 : decode cX5_correct 128 = .ok (.getfield 13, 3) := by decide +kernel
theorem dX5_correct_131 : decode cX5_correct 131 = .ok (.iload_n 3, 1) := by decide +kernel
theorem dX5_correct_132 : decode cX5_correct 132 = .ok (.aload_n 0, 1) := by decide +kernel
theorem dX5_correct_133 : decode cX5_correct 133 = .ok (.getfield 13, 3) := by decide +kernel
theorem dX5_correct_136 : decode cX5_correct 136 = .ok (.iload_n 3, 1) := by decide +kernel
theorem dX5_correct_137 : decode cX5_correct 137 = .ok (.iaload, 1) := by decide +kernel
theorem dX5_correct_138 : decode cX5_correct 138 = .ok (.i2l, 1) := by decide +kernel
theorem dX5_correct_139 : decode cX5_correct 139 = .ok (.aload_n 0, 1) := by decide +kernel
theorem dX5_correct_140 : decode cX5_correct 140 = .ok (.getfield 64, 3) := by decide +kernel
theorem dX5_correct_143 : decode cX5_correct 143 = .ok (.invokestatic 132, 3) := by decide +kernel
theorem dX5_correct_146 : decode cX5_correct 146 = .ok (.iastore, 1) := by decide +kernel
theorem dX5_correct_147 : decode cX5_correct 147 = .ok (.iinc 3 1, 3) := by decide +kernel
theorem dX5_correct_150 : decode cX5_correct 150 = .ok (.goto (-31), 3) := by decide +kernel
theorem dX5_correct_153 : decode cX5_correct 153 = .ok (.return_, 1) := by decide +kernel
theorem dX5_smooth_0 : decode cX5_smooth 0 = .ok (.iconst 0, 1) := by decide +kernel
theorem dX5_smooth_1 : decode cX5_smooth 1 = .ok (.istore_n 1, 1) := by decide +kernel
theorem dX5_smooth_2 : decode cX5_smooth 2 = .ok (.iload_n 1, 1) := by decide +kernel
theorem dX5_smooth_3 : decode cX5_smooth 3 = .ok (.aload_n 0, 1) := by decide +kernel
theorem dX5_smooth_4 : decode cX5_smooth 4 = .ok (.getfield 47, 3) := by decide +kernel
theorem dX5_smooth_7 : decode cX5_smooth 7 = .ok (.if_icmp .ge 101, 3) := by decide +kernel
theorem dX5_smooth_10 : decode cX5_smooth 10 = .ok (.aload_n 0, 1) := by decide +kernel
theorem dX5_smooth_11 : decode cX5_smooth 11 = .ok (.getfield 13, 3) := by decide +kernel
theorem dX5_smooth_14 : decode cX5_smooth 14 = .ok (.iload_n 1, 1) := by decide +kernel
theorem dX5_smooth_15 : decode cX5_smooth 15 = .ok (.ifCond .ne 7, 3) := by decide +kernel
theorem dX5_smooth_18 : decode cX5_smooth 18 = .ok (.iconst 0, 1) := by decide +kernel
theorem dX5_smooth_19 : decode cX5_smooth 19 = .ok (.goto 6, 3) := by decide +kernel
theorem dX5_smooth_22 : decode cX5_smooth 22 = .ok (.iload_n 1, 1) := by decide +kernel
theorem dX5_smooth_23 : decode cX5_smooth 23 = .ok (.iconst 1, 1) := by decide +kernel
theorem dX5_smooth_24 : decode cX5_smooth 24 = .ok (.isub, 1) := by decide +kernel
theorem dX5_smooth_25 : decode cX5_smooth 25 = .ok (.iaload, 1) := by decide +kernel
theorem dX5_smooth_26 : decode cX5_smooth 26 = .ok (.i2l, 1) := by decide +kernel
theorem dX5_smooth_27 : decode cX5_smooth 27 = .ok (.lstore_n 2, 1) := by decide +kernel
theorem dX5_smooth_28 : decode cX5_smooth 28 = .ok (.aload_n 0, 1) := by decide +kernel
theorem dX5_smooth_29 : decode cX5_smooth 29 = .ok (.getfield 13, 3) := by decide +kernel
theorem dX5_smooth_32 : decode cX5_smooth 32 = .ok (.iload_n 1, 1) := by decide +kernel
theorem dX5_smooth_33 : decode cX5_smooth 33 = .ok (.aload_n 0, 1) := by decide +kernel
theorem dX5_smooth_34 : decode cX5_smooth 34 = .ok (.getfield 47, 3) := by decide +kernel
theorem dX5_smooth_37 : decode cX5_smooth 37 = .ok (.iconst 1, 1) := by decide +kernel
theorem dX5_smooth_38 : decode cX5_smooth 38 = .ok (.isub, 1) := by decide +kernel
theorem dX5_smooth_39 : decode cX5_smooth 39 = .ok (.if_icmp .ne 7, 3) := by decide +kernel
theorem dX5_smooth_42 : decode cX5_smooth 42 = .ok (.iload_n 1, 1) := by decide +kernel
theorem dX5_smooth_43 : decode cX5_smooth 43 = .ok (.goto 6, 3) := by decide +kernel
theorem dX5_smooth_46 : decode cX5_smooth 46 = .ok (.iload_n 1, 1) := by decide +kernel
theorem dX5_smooth_47 : decode cX5_smooth 47 = .ok (.iconst 1, 1) := by decide +kernel
theorem dX5_smooth_48 : decode cX5_smooth 48 = .ok (.iadd, 1) := by decide +kernel
theorem dX5_smooth_49 : decode cX5_smooth 49 = .ok (.iaload, 1) := by decide +kernel
theorem dX5_smooth_50 : decode cX5_smooth 50 = .ok (.i2l, 1) := by decide +kernel
theorem dX5_smooth_51 : decode cX5_smooth 51 = .ok (.lstore 4, 2) := by decide +kernel
theorem dX5_smooth_53 : decode cX5_smooth 53 = .ok (.aload_n 0, 1) := by decide +kernel
theorem dX5_smooth_54 : decode cX5_smooth 54 = .ok (.getfield 22, 3) := by decide +kernel
theorem dX5_smooth_57 : decode cX5_smooth 57 = .ok (.iload_n 1, 1) := by decide +kernel
theorem dX5_smooth_58 : decode cX5_smooth 58 = .ok (.aload_n 0, 1) := by decide +kernel
theorem dX5_smooth_59 : decode cX5_smooth 59 = .ok (.getfield 57, 3) := by decide +kernel
theorem dX5_smooth_62 : decode cX5_smooth 62 = .ok (.i2l, 1) := by decide +kernel
theorem dX5_smooth_63 : decode cX5_smooth 63 = .ok (.lload_n 2, 1) := by decide +kernel
theorem dX5_smooth_64 : decode cX5_smooth 64 = .ok (.lmul, 1) := by decide +kernel
theorem dX5_smooth_65 : decode cX5_smooth 65 = .ok (.sipush 1000, 3) := by decide +kernel
theorem dX5_smooth_68 : decode cX5_smooth 68 = .ok (.iconst 2, 1) := by decide +kernel
theorem dX5_smooth_69 : decode cX5_smooth 69 = .ok (.aload_n 0, 1) := by decide +kernel
theorem dX5_smooth_70 : decode cX5_smooth 70 = .ok (.getfield 57, 3) := by decide +kernel
theorem dX5_smooth_73 : decode cX5_smooth 73 = .ok (.imul, 1) := by decide +kernel
theorem dX5_smooth_74 : decode cX5_smooth 74 = .ok (.isub, 1) := by decide +kernel
theorem dX5_smooth_75 : decode cX5_smooth 75 = .ok (.i2l, 1) := by decide +kernel
theorem dX5_smooth_76 : decode cX5_smooth 76 = .ok (.aload_n 0, 1) := by decide +kernel
theorem dX5_smooth_77 : decode cX5_smooth 77 = .ok (.getfield 13, 3) := by decide +kernel
theorem dX5_smooth_80 : decode cX5_smooth 80 = .ok (.iload_n 1, 1) := by decide +kernel
theorem dX5_smooth_81 : decode cX5_smooth 81 = .ok (.iaload, 1) := by decide +kernel
theorem dX5_smooth_82 : decode cX5_smooth 82 = .ok (.i2l, 1) := by decide +kernel
theorem dX5_smooth_83 : decode cX5_smooth 83 = .ok (.lmul, 1) := by decide +kernel
theorem dX5_smooth_84 : decode cX5_smooth 84 = .ok (.ladd, 1) := by decide +kernel
theorem dX5_smooth_85 : decode cX5_smooth 85 = .ok (.aload_n 0, 1) := by decide +kernel
theorem dX5_smooth_86 : decode cX5_smooth 86 = .ok (.getfield 57, 3) := by decide +kernel
theorem dX5_smooth_89 : decode cX5_smooth 89 = .ok (.i2l, 1) := by decide +kernel
theorem dX5_smooth_90 : decode cX5_smooth 90 = .ok (.lload 4, 2) := by decide +kernel
theorem dX5_smooth_92 : decode cX5_smooth 92 = .ok (.lmul, 1) := by decide +kernel
theorem dX5_smooth_93 : decode cX5_smooth 93 = .ok (.ladd, 1) := by decide +kernel
theorem dX5_smooth_94 : decode cX5_smooth 94 = .ok (.ldc2_w 123, 3) := by decide +kernel
theorem dX5_smooth_97 : decode cX5_smooth 97 = .ok (.invokestatic 125, 3) := by decide +kernel
theorem dX5_smooth_100 : decode cX5_smooth 100 = .ok (.l2i, 1) := by decide +kernel
theorem dX5_smooth_101 : decode cX5_smooth 101 = .ok (.iastore, 1) := by decide +kernel
theorem dX5_smooth_102 : decode cX5_smooth 102 = .ok (.iinc 1 1, 3) := by decide +kernel
theorem dX5_smooth_105 : decode cX5_smooth 105 = .ok (.goto (-103), 3) := by decide +kernel
theorem dX5_smooth_108 : decode cX5_smooth 108 = .ok (.iconst 0, 1) := by decide +kernel
theorem dX5_smooth_109 : decode cX5_smooth 109 = .ok (.istore_n 1, 1) := by decide +kernel
theorem dX5_smooth_110 : decode cX5_smooth 110 = .ok (.iload_n 1, 1) := by decide +kernel
theorem dX5_smooth_111 : decode cX5_smooth 111 = .ok (.aload_n 0, 1) := by decide +kernel
theorem dX5_smooth_112 : decode cX5_smooth 112 = .ok (.getfield 47, 3) := by decide +kernel
theorem dX5_smooth_115 : decode cX5_smooth 115 = .ok (.if_icmp .ge 21, 3) := by decide +kernel
theorem dX5_smooth_118 : decode cX5_smooth 118 = .ok (.aload_n 0, 1) := by decide +kernel
theorem dX5_smooth_119 : decode cX5_smooth 119 = .ok (.getfield 13, 3) := by decide +kernel
theorem dX5_smooth_122 : decode cX5_smooth 122 = .ok (.iload_n 1, 1) := by decide +kernel
theorem dX5_smooth_123 : decode cX5_smooth 123 = .ok (.aload_n 0, 1) := by decide +kernel
theorem dX5_smooth_124 : decode cX5_smooth 124 = .ok (.getfield 22, 3) := by decide +kernel
theorem dX5_smooth_127 : decode cX5_smooth 127 = .ok (.iload_n 1, 1) := by decide +kernel
theorem dX5_smooth_128 : decode cX5_smooth 128 = .ok (.iaload, 1) := by decide +kernel
theorem dX5_smooth_129 : decode cX5_smooth 129 = .ok (.iastore, 1) := by decide +kernel
theorem dX5_smooth_130 : decode cX5_smooth 130 = .ok (.iinc 1 1, 3) := by decide +kernel
theorem dX5_smooth_133 : decode cX5_smooth 133 = .ok (.goto (-23), 3) := by decide +kernel
theorem dX5_smooth_136 : decode cX5_smooth 136 = .ok (.return_, 1) := by decide +kernel
theorem dX5_rawAt_0 : decode cX5_rawAt 0 = .ok (.aload_n 0, 1) := by decide +kernel
theorem dX5_rawAt_1 : decode cX5_rawAt 1 = .ok (.getfield 16, 3) := by decide +kernel
theorem dX5_rawAt_4 : decode cX5_rawAt 4 = .ok (.iload_n 1, 1) := by decide +kernel
theorem dX5_rawAt_5 : decode cX5_rawAt 5 = .ok (.ifCond .ge 7, 3) := by decide +kernel
theorem dX5_rawAt_8 : decode cX5_rawAt 8 = .ok (.iconst 0, 1) := by decide +kernel
theorem dX5_rawAt_9 : decode cX5_rawAt 9 = .ok (.goto 21, 3) := by decide +kernel
theorem dX5_rawAt_12 : decode cX5_rawAt 12 = .ok (.iload_n 1, 1) := by decide +kernel
theorem dX5_rawAt_13 : decode cX5_rawAt 13 = .ok (.aload_n 0, 1) := by decide +kernel
theorem dX5_rawAt_14 : decode cX5_rawAt 14 = .ok (.getfield 47, 3) := by decide +kernel
theorem dX5_rawAt_17 : decode cX5_rawAt 17 = .ok (.if_icmp .lt 12, 3) := by decide +kernel
theorem dX5_rawAt_20 : decode cX5_rawAt 20 = .ok (.aload_n 0, 1) := by decide +kernel
theorem dX5_rawAt_21 : decode cX5_rawAt 21 = .ok (.getfield 47, 3) := by decide +kernel
theorem dX5_rawAt_24 : decode cX5_rawAt 24 = .ok (.iconst 1, 1) := by decide +kernel
theorem dX5_rawAt_25 : decode cX5_rawAt 25 = .ok (.isub, 1) := by decide +kernel
theorem dX5_rawAt_26 : decode cX5_rawAt 26 = .ok (.goto 4, 3) := by decide +kernel
theorem dX5_rawAt_29 : decode cX5_rawAt 29 = .ok (.iload_n 1, 1) := by decide +kernel
theorem dX5_rawAt_30 : decode cX5_rawAt 30 = .ok (.iaload, 1) := by decide +kernel
theorem dX5_rawAt_31 : decode cX5_rawAt 31 = .ok (.ireturn, 1) := by decide +kernel
theorem dX5_unlike_0 : decode cX5_unlike 0 = .ok (.lconst 0, 1) := by decide +kernel
theorem dX5_unlike_1 : decode cX5_unlike 1 = .ok (.lstore_n 2, 1) := by decide +kernel
theorem dX5_unlike_2 : decode cX5_unlike 2 = .ok (.iconst 0, 1) := by decide +kernel
theorem dX5_unlike_3 : decode cX5_unlike 3 = .ok (.istore 4, 2) := by decide +kernel
theorem dX5_unlike_5 : decode cX5_unlike 5 = .ok (.iload 4, 2) := by decide +kernel
theorem dX5_unlike_7 : decode cX5_unlike 7 = .ok (.aload_n 0, 1) := by decide +kernel
theorem dX5_unlike_8 : decode cX5_unlike 8 = .ok (.getfield 47, 3) := by decide +kernel
theorem dX5_unlike_11 : decode cX5_unlike 11 = .ok (.if_icmp .ge 32, 3) := by decide +kernel
theorem dX5_unlike_14 : decode cX5_unlike 14 = .ok (.lload_n 2, 1) := by decide +kernel
theorem dX5_unlike_15 : decode cX5_unlike 15 = .ok (.aload_n 0, 1) := by decide +kernel
theorem dX5_unlike_16 : decode cX5_unlike 16 = .ok (.iload 4, 2) := by decide +kernel
theorem dX5_unlike_18 : decode cX5_unlike 18 = .ok (.iload_n 1, 1) := by decide +kernel
theorem dX5_unlike_19 : decode cX5_unlike 19 = .ok (.iadd, 1) := by decide +kernel
theorem dX5_unlike_20 : decode cX5_unlike 20 = .ok (.invokevirtual 136, 3) := by decide +kernel
theorem dX5_unlike_23 : decode cX5_unlike 23 = .ok (.aload_n 0, 1) := by decide +kernel
theorem dX5_unlike_24 : decode cX5_unlike 24 = .ok (.getfield 34, 3) := by decide +kernel
theorem dX5_unlike_27 : decode cX5_unlike 27 = .ok (.iload 4, 2) := by decide +kernel
theorem dX5_unlike_29 : decode cX5_unlike 29 = .ok (.iaload, 1) := by decide +kernel
theorem dX5_unlike_30 : decode cX5_unlike 30 = .ok (.isub, 1) := by decide +kernel
theorem dX5_unlike_31 : decode cX5_unlike 31 = .ok (.invokestatic 140, 3) := by decide +kernel
theorem dX5_unlike_34 : decode cX5_unlike 34 = .ok (.i2l, 1) := by decide +kernel
theorem dX5_unlike_35 : decode cX5_unlike 35 = .ok (.ladd, 1) := by decide +kernel
theorem dX5_unlike_36 : decode cX5_unlike 36 = .ok (.lstore_n 2, 1) := by decide +kernel
theorem dX5_unlike_37 : decode cX5_unlike 37 = .ok (.iinc 4 1, 3) := by decide +kernel
theorem dX5_unlike_40 : decode cX5_unlike 40 = .ok (.goto (-35), 3) := by decide +kernel
theorem dX5_unlike_43 : decode cX5_unlike 43 = .ok (.lload_n 2, 1) := by decide +kernel
theorem dX5_unlike_44 : decode cX5_unlike 44 = .ok (.lreturn, 1) := by decide +kernel
theorem dX5_findShift_0 : decode cX5_findShift 0 = .ok (.iconst 0, 1) := by decide +kernel
theorem dX5_findShift_1 : decode cX5_findShift 1 = .ok (.istore_n 1, 1) := by decide +kernel
theorem dX5_findShift_2 : decode cX5_findShift 2 = .ok (.iconst 1, 1) := by decide +kernel
theorem dX5_findShift_3 : decode cX5_findShift 3 = .ok (.istore_n 2, 1) := by decide +kernel
theorem dX5_findShift_4 : decode cX5_findShift 4 = .ok (.iload_n 2, 1) := by decide +kernel
theorem dX5_findShift_5 : decode cX5_findShift 5 = .ok (.aload_n 0, 1) := by decide +kernel
theorem dX5_findShift_6 : decode cX5_findShift 6 = .ok (.getfield 70, 3) := by decide +kernel
theorem dX5_findShift_9 : decode cX5_findShift 9 = .ok (.if_icmp .gt 58, 3) := by decide +kernel
theorem dX5_findShift_12 : decode cX5_findShift 12 = .ok (.aload_n 0, 1) := by decide +kernel
theorem dX5_findShift_13 : decode cX5_findShift 13 = .ok (.getfield 92, 3) := by decide +kernel
theorem dX5_findShift_16 : decode cX5_findShift 16 = .ok (.ifCond .le 51, 3) := by decide +kernel
theorem dX5_findShift_19 : decode cX5_findShift 19 = .ok (.aload_n 0, 1) := by decide +kernel
theorem dX5_findShift_20 : decode cX5_findShift 20 = .ok (.iload_n 2, 1) := by decide +kernel
theorem dX5_findShift_21 : decode cX5_findShift 21 = .ok (.ineg, 1) := by decide +kernel
theorem dX5_findShift_22 : decode cX5_findShift 22 = .ok (.invokevirtual 143, 3) := by decide +kernel
theorem dX5_findShift_25 : decode cX5_findShift 25 = .ok (.aload_n 0, 1) := by decide +kernel
theorem dX5_findShift_26 : decode cX5_findShift 26 = .ok (.iload_n 1, 1) := by decide +kernel
theorem dX5_findShift_27 : decode cX5_findShift 27 = .ok (.invokevirtual 143, 3) := by decide +kernel
theorem dX5_findShift_30 : decode cX5_findShift 30 = .ok (.lcmp, 1) := by decide +kernel
theorem dX5_findShift_31 : decode cX5_findShift 31 = .ok (.ifCond .ge 8, 3) := by decide +kernel
theorem dX5_findShift_34 : decode cX5_findShift 34 = .ok (.iload_n 2, 1) := by decide +kernel
theorem dX5_findShift_35 : decode cX5_findShift 35 = .ok (.ineg, 1) := by decide +kernel
theorem dX5_findShift_36 : decode cX5_findShift 36 = .ok (.goto 4, 3) := by decide +kernel
theorem dX5_findShift_39 : decode cX5_findShift 39 = .ok (.iload_n 1, 1) := by decide +kernel
theorem dX5_findShift_40 : decode cX5_findShift 40 = .ok (.istore_n 1, 1) := by decide +kernel
theorem dX5_findShift_41 : decode cX5_findShift 41 = .ok (.aload_n 0, 1) := by decide +kernel
theorem dX5_findShift_42 : decode cX5_findShift 42 = .ok (.iload_n 2, 1) := by decide +kernel
theorem dX5_findShift_43 : decode cX5_findShift 43 = .ok (.invokevirtual 143, 3) := by decide +kernel
theorem dX5_findShift_46 : decode cX5_findShift 46 = .ok (.aload_n 0, 1) := by decide +kernel
theorem dX5_findShift_47 : decode cX5_findShift 47 = .ok (.iload_n 1, 1) := by decide +kernel
theorem dX5_findShift_48 : decode cX5_findShift 48 = .ok (.invokevirtual 143, 3) := by decide +kernel
theorem dX5_findShift_51 : decode cX5_findShift 51 = .ok (.lcmp, 1) := by decide +kernel
theorem dX5_findShift_52 : decode cX5_findShift 52 = .ok (.ifCond .ge 7, 3) := by decide +kernel
theorem dX5_findShift_55 : decode cX5_findShift 55 = .ok (.iload_n 2, 1) := by decide +kernel
theorem dX5_findShift_56 : decode cX5_findShift 56 = .ok (.goto 4, 3) := by decide +kernel
theorem dX5_findShift_59 : decode cX5_findShift 59 = .ok (.iload_n 1, 1) := by decide +kernel
theorem dX5_findShift_60 : decode cX5_findShift 60 = .ok (.istore_n 1, 1) := by decide +kernel
theorem dX5_findShift_61 : decode cX5_findShift 61 = .ok (.iinc 2 1, 3) := by decide +kernel
theorem dX5_findShift_64 : decode cX5_findShift 64 = .ok (.goto (-60), 3) := by decide +kernel
theorem dX5_findShift_67 : decode cX5_findShift 67 = .ok (.iload_n 1, 1) := by decide +kernel
theorem dX5_findShift_68 : decode cX5_findShift 68 = .ok (.ireturn, 1) := by decide +kernel
theorem dX5_makeRoom_0 : decode cX5_makeRoom 0 = .ok (.iconst 4, 1) := by decide +kernel
theorem dX5_makeRoom_1 : decode cX5_makeRoom 1 = .ok (.istore_n 1, 1) := by decide +kernel
theorem dX5_makeRoom_2 : decode cX5_makeRoom 2 = .ok (.iload_n 1, 1) := by decide +kernel
theorem dX5_makeRoom_3 : decode cX5_makeRoom 3 = .ok (.ifCond .le 75, 3) := by decide +kernel
theorem dX5_makeRoom_6 : decode cX5_makeRoom 6 = .ok (.iconst 0, 1) := by decide +kernel
theorem dX5_makeRoom_7 : decode cX5_makeRoom 7 = .ok (.istore_n 2, 1) := by decide +kernel
theorem dX5_makeRoom_8 : decode cX5_makeRoom 8 = .ok (.iload_n 2, 1) := by decide +kernel
theorem dX5_makeRoom_9 : decode cX5_makeRoom 9 = .ok (.bipush 48, 2) := by decide +kernel
theorem dX5_makeRoom_11 : decode cX5_makeRoom 11 = .ok (.if_icmp .ge 33, 3) := by decide +kernel
theorem dX5_makeRoom_14 : decode cX5_makeRoom 14 = .ok (.aload_n 0, 1) := by decide +kernel
theorem dX5_makeRoom_15 : decode cX5_makeRoom 15 = .ok (.getfield 25, 3) := by decide +kernel
theorem dX5_makeRoom_18 : decode cX5_makeRoom 18 = .ok (.bipush 48, 2) := by decide +kernel
theorem dX5_makeRoom_20 : decode cX5_makeRoom 20 = .ok (.iload_n 1, 1) := by decide +kernel
theorem dX5_makeRoom_21 : decode cX5_makeRoom 21 = .ok (.imul, 1) := by decide +kernel
theorem dX5_makeRoom_22 : decode cX5_makeRoom 22 = .ok (.iload_n 2, 1) := by decide +kernel
theorem dX5_makeRoom_23 : decode cX5_makeRoom 23 = .ok (.iadd, 1) := by decide +kernel
theorem dX5_makeRoom_24 : decode cX5_makeRoom 24 = .ok (.aload_n 0, 1) := by decide +kernel
theorem dX5_makeRoom_25 : decode cX5_makeRoom 25 = .ok (.getfield 25, 3) := by decide +kernel
theorem dX5_makeRoom_28 : decode cX5_makeRoom 28 = .ok (.bipush 48, 2) := by decide +kernel
theorem dX5_makeRoom_30 : decode cX5_makeRoom 30 = .ok (.iload_n 1, 1) := by decide +kernel
theorem dX5_makeRoom_31 : decode cX5_makeRoom 31 = .ok (.iconst 1, 1) := by decide +kernel
theorem dX5_makeRoom_32 : decode cX5_makeRoom 32 = .ok (.isub, 1) := by decide +kernel
theorem dX5_makeRoom_33 : decode cX5_makeRoom 33 = .ok (.imul, 1) := by decide +kernel
theorem dX5_makeRoom_34 : decode cX5_makeRoom 34 = .ok (.iload_n 2, 1) := by decide +kernel
theorem dX5_makeRoom_35 : decode cX5_makeRoom 35 = .ok (.iadd, 1) := by decide +kernel
theorem dX5_makeRoom_36 : decode cX5_makeRoom 36 = .ok (.iaload, 1) := by decide +kernel
theorem dX5_makeRoom_37 : decode cX5_makeRoom 37 = .ok (.iastore, 1) := by decide +kernel
theorem dX5_makeRoom_38 : decode cX5_makeRoom 38 = .ok (.iinc 2 1, 3) := by decide +kernel
theorem dX5_makeRoom_41 : decode cX5_makeRoom 41 = .ok (.goto (-33), 3) := by decide +kernel
theorem dX5_makeRoom_44 : decode cX5_makeRoom 44 = .ok (.aload_n 0, 1) := by decide +kernel
theorem dX5_makeRoom_45 : decode cX5_makeRoom 45 = .ok (.getfield 28, 3) := by decide +kernel
theorem dX5_makeRoom_48 : decode cX5_makeRoom 48 = .ok (.iload_n 1, 1) := by decide +kernel
theorem dX5_makeRoom_49 : decode cX5_makeRoom 49 = .ok (.aload_n 0, 1) := by decide +kernel
theorem dX5_makeRoom_50 : decode cX5_makeRoom 50 = .ok (.getfield 28, 3) := by decide +kernel
theorem dX5_makeRoom_53 : decode cX5_makeRoom 53 = .ok (.iload_n 1, 1) := by decide +kernel
theorem dX5_makeRoom_54 : decode cX5_makeRoom 54 = .ok (.iconst 1, 1) := by decide +kernel
theorem dX5_makeRoom_55 : decode cX5_makeRoom 55 = .ok (.isub, 1) := by decide +kernel
theorem dX5_makeRoom_56 : decode cX5_makeRoom 56 = .ok (.iaload, 1) := by decide +kernel
theorem dX5_makeRoom_57 : decode cX5_makeRoom 57 = .ok (.iastore, 1) := by decide +kernel
theorem dX5_makeRoom_58 : decode cX5_makeRoom 58 = .ok (.aload_n 0, 1) := by decide +kernel
theorem dX5_makeRoom_59 : decode cX5_makeRoom 59 = .ok (.getfield 31, 3) := by decide +kernel
theorem dX5_makeRoom_62 : decode cX5_makeRoom 62 = .ok (.iload_n 1, 1) := by decide +kernel
theorem dX5_makeRoom_63 : decode cX5_makeRoom 63 = .ok (.aload_n 0, 1) := by decide +kernel
theorem dX5_makeRoom_64 : decode cX5_makeRoom 64 = .ok (.getfield 31, 3) := by decide +kernel
theorem dX5_makeRoom_67 : decode cX5_makeRoom 67 = .ok (.iload_n 1, 1) := by decide +kernel
theorem dX5_makeRoom_68 : decode cX5_makeRoom 68 = .ok (.iconst 1, 1) := by decide +kernel
theorem dX5_makeRoom_69 : decode cX5_makeRoom 69 = .ok (.isub, 1) := by decide +kernel
theorem dX5_makeRoom_70 : decode cX5_makeRoom 70 = .ok (.iaload, 1) := by decide +kernel
theorem dX5_makeRoom_71 : decode cX5_makeRoom 71 = .ok (.iastore, 1) := by decide +kernel
theorem dX5_makeRoom_72 : decode cX5_makeRoom 72 = .ok (.iinc 1 (-1), 3) := by decide +kernel
theorem dX5_makeRoom_75 : decode cX5_makeRoom 75 = .ok (.goto (-73), 3) := by decide +kernel
theorem dX5_makeRoom_78 : decode cX5_makeRoom 78 = .ok (.return_, 1) := by decide +kernel
theorem dX5_finish_0 : decode cX5_finish 0 = .ok (.aload_n 0, 1) := by decide +kernel
theorem dX5_finish_1 : decode cX5_finish 1 = .ok (.invokevirtual 147, 3) := by decide +kernel
theorem dX5_finish_4 : decode cX5_finish 4 = .ok (.istore_n 1, 1) := by decide +kernel
theorem dX5_finish_5 : decode cX5_finish 5 = .ok (.aload_n 0, 1) := by decide +kernel
theorem dX5_finish_6 : decode cX5_finish 6 = .ok (.invokevirtual 151, 3) := by decide +kernel
theorem dX5_finish_9 : decode cX5_finish 9 = .ok (.iconst 0, 1) := by decide +kernel
theorem dX5_finish_10 : decode cX5_finish 10 = .ok (.istore_n 2, 1) := by decide +kernel
theorem dX5_finish_11 : decode cX5_finish 11 = .ok (.iconst 0, 1) := by decide +kernel
theorem dX5_finish_12 : decode cX5_finish 12 = .ok (.istore_n 3, 1) := by decide +kernel
theorem dX5_finish_13 : decode cX5_finish 13 = .ok (.iload_n 3, 1) := by decide +kernel
theorem dX5_finish_14 : decode cX5_finish 14 = .ok (.aload_n 0, 1) := by decide +kernel
theorem dX5_finish_15 : decode cX5_finish 15 = .ok (.getfield 47, 3) := by decide +kernel
theorem dX5_finish_18 : decode cX5_finish 18 = .ok (.if_icmp .ge 65, 3) := by decide +kernel
theorem dX5_finish_21 : decode cX5_finish 21 = .ok (.aload_n 0, 1) := by decide +kernel
theorem dX5_finish_22 : decode cX5_finish 22 = .ok (.getfield 34, 3) := by decide +kernel
theorem dX5_finish_25 : decode cX5_finish 25 = .ok (.iload_n 3, 1) := by decide +kernel
theorem dX5_finish_26 : decode cX5_finish 26 = .ok (.aload_n 0, 1) := by decide +kernel
theorem dX5_finish_27 : decode cX5_finish 27 = .ok (.iload_n 3, 1) := by decide +kernel
theorem dX5_finish_28 : decode cX5_finish 28 = .ok (.iload_n 1, 1) := by decide +kernel
theorem dX5_finish_29 : decode cX5_finish 29 = .ok (.iadd, 1) := by decide +kernel
theorem dX5_finish_30 : decode cX5_finish 30 = .ok (.invokevirtual 136, 3) := by decide +kernel
theorem dX5_finish_33 : decode cX5_finish 33 = .ok (.iastore, 1) := by decide +kernel
theorem dX5_finish_34 : decode cX5_finish 34 = .ok (.aload_n 0, 1) := by decide +kernel
theorem dX5_finish_35 : decode cX5_finish 35 = .ok (.getfield 19, 3) := by decide +kernel
theorem dX5_finish_38 : decode cX5_finish 38 = .ok (.iload_n 3, 1) := by decide +kernel
theorem dX5_finish_39 : decode cX5_finish 39 = .ok (.aload_n 0, 1) := by decide +kernel
theorem dX5_finish_40 : decode cX5_finish 40 = .ok (.getfield 7, 3) := by decide +kernel
theorem dX5_finish_43 : decode cX5_finish 43 = .ok (.iload_n 3, 1) := by decide +kernel
theorem dX5_finish_44 : decode cX5_finish 44 = .ok (.iaload, 1) := by decide +kernel
theorem dX5_finish_45 : decode cX5_finish 45 = .ok (.aload_n 0, 1) := by decide +kernel
theorem dX5_finish_46 : decode cX5_finish 46 = .ok (.getfield 34, 3) := by decide +kernel
theorem dX5_finish_49 : decode cX5_finish 49 = .ok (.iload_n 3, 1) := by decide +kernel
theorem dX5_finish_50 : decode cX5_finish 50 = .ok (.iaload, 1) := by decide +kernel
theorem dX5_finish_51 : decode cX5_finish 51 = .ok (.isub, 1) := by decide +kernel
theorem dX5_finish_52 : decode cX5_finish 52 = .ok (.iastore, 1) := by decide +kernel
theorem dX5_finish_53 : decode cX5_finish 53 = .ok (.aload_n 0, 1) := by decide +kernel
theorem dX5_finish_54 : decode cX5_finish 54 = .ok (.getfield 25, 3) := by decide +kernel
theorem dX5_finish_57 : decode cX5_finish 57 = .ok (.iload_n 3, 1) := by decide +kernel
theorem dX5_finish_58 : decode cX5_finish 58 = .ok (.aload_n 0, 1) := by decide +kernel
theorem dX5_finish_59 : decode cX5_finish 59 = .ok (.getfield 19, 3) := by decide +kernel
theorem dX5_finish_62 : decode cX5_finish 62 = .ok (.iload_n 3, 1) := by decide +kernel
theorem dX5_finish_63 : decode cX5_finish 63 = .ok (.iaload, 1) := by decide +kernel
theorem dX5_finish_64 : decode cX5_finish 64 = .ok (.iastore, 1) := by decide +kernel
theorem dX5_finish_65 : decode cX5_finish 65 = .ok (.iload_n 2, 1) := by decide +kernel
theorem dX5_finish_66 : decode cX5_finish 66 = .ok (.aload_n 0, 1) := by decide +kernel
theorem dX5_finish_67 : decode cX5_finish 67 = .ok (.getfield 19, 3) := by decide +kernel
theorem dX5_finish_70 : decode cX5_finish 70 = .ok (.iload_n 3, 1) := by decide +kernel
theorem dX5_finish_71 : decode cX5_finish 71 = .ok (.iaload, 1) := by decide +kernel
theorem dX5_finish_72 : decode cX5_finish 72 = .ok (.invokestatic 140, 3) := by decide +kernel
theorem dX5_finish_75 : decode cX5_finish 75 = .ok (.iadd, 1) := by decide +kernel
theorem dX5_finish_76 : decode cX5_finish 76 = .ok (.istore_n 2, 1) := by decide +kernel
theorem dX5_finish_77 : decode cX5_finish 77 = .ok (.iinc 3 1, 3) := by decide +kernel
theorem dX5_finish_80 : decode cX5_finish 80 = .ok (.goto (-67), 3) := by decide +kernel
theorem dX5_finish_83 : decode cX5_finish 83 = .ok (.aload_n 0, 1) := by decide +kernel
theorem dX5_finish_84 : decode cX5_finish 84 = .ok (.getfield 28, 3) := by decide +kernel
theorem dX5_finish_87 : decode cX5_finish 87 = .ok (.iconst 0, 1) := by decide +kernel
theorem dX5_finish_88 : decode cX5_finish 88 = .ok (.iload_n 2, 1) := by decide +kernel
theorem dX5_finish_89 : decode cX5_finish 89 = .ok (.iastore, 1) := by decide +kernel
theorem dX5_finish_90 : decode cX5_finish 90 = .ok (.aload_n 0, 1) := by decide +kernel
theorem dX5_finish_91 : decode cX5_finish 91 = .ok (.getfield 31, 3) := by decide +kernel
theorem dX5_finish_94 : decode cX5_finish 94 = .ok (.iconst 0, 1) := by decide +kernel
theorem dX5_finish_95 : decode cX5_finish 95 = .ok (.iload_n 1, 1) := by decide +kernel
theorem dX5_finish_96 : decode cX5_finish 96 = .ok (.iastore, 1) := by decide +kernel
theorem dX5_finish_97 : decode cX5_finish 97 = .ok (.aload_n 0, 1) := by decide +kernel
theorem dX5_finish_98 : decode cX5_finish 98 = .ok (.dup, 1) := by decide +kernel
theorem dX5_finish_99 : decode cX5_finish 99 = .ok (.getfield 92, 3) := by decide +kernel
theorem dX5_finish_102 : decode cX5_finish 102 = .ok (.iconst 1, 1) := by decide +kernel
theorem dX5_finish_103 : decode cX5_finish 103 = .ok (.iadd, 1) := by decide +kernel
theorem dX5_finish_104 : decode cX5_finish 104 = .ok (.putfield 92, 3) := by decide +kernel
theorem dX5_finish_107 : decode cX5_finish 107 = .ok (.aload_n 0, 1) := by decide +kernel
theorem dX5_finish_108 : decode cX5_finish 108 = .ok (.iload_n 2, 1) := by decide +kernel
theorem dX5_finish_109 : decode cX5_finish 109 = .ok (.invokevirtual 154, 3) := by decide +kernel
theorem dX5_finish_112 : decode cX5_finish 112 = .ok (.aload_n 0, 1) := by decide +kernel
theorem dX5_finish_113 : decode cX5_finish 113 = .ok (.getfield 79, 3) := by decide +kernel
theorem dX5_finish_116 : decode cX5_finish 116 = .ok (.ifCond .eq 67, 3) := by decide +kernel
theorem dX5_finish_119 : decode cX5_finish 119 = .ok (.aload_n 0, 1) := by decide +kernel
theorem dX5_finish_120 : decode cX5_finish 120 = .ok (.getfield 101, 3) := by decide +kernel
theorem dX5_finish_123 : decode cX5_finish 123 = .ok (.iconst 2, 1) := by decide +kernel
theorem dX5_finish_124 : decode cX5_finish 124 = .ok (.if_icmp .lt 59, 3) := by decide +kernel
theorem dX5_finish_127 : decode cX5_finish 127 = .ok (.iconst 0, 1) := by decide +kernel
theorem dX5_finish_128 : decode cX5_finish 128 = .ok (.istore_n 3, 1) := by decide +kernel
theorem dX5_finish_129 : decode cX5_finish 129 = .ok (.iload_n 3, 1) := by decide +kernel
theorem dX5_finish_130 : decode cX5_finish 130 = .ok (.aload_n 0, 1) := by decide +kernel
theorem dX5_finish_131 : decode cX5_finish 131 = .ok (.getfield 47, 3) := by decide +kernel
theorem dX5_finish_134 : decode cX5_finish 134 = .ok (.if_icmp .ge 21, 3) := by decide +kernel
theorem dX5_finish_137 : decode cX5_finish 137 = .ok (.aload_n 0, 1) := by decide +kernel
theorem dX5_finish_138 : decode cX5_finish 138 = .ok (.getfield 13, 3) := by decide +kernel
theorem dX5_finish_141 : decode cX5_finish 141 = .ok (.iload_n 3, 1) := by decide +kernel
theorem dX5_finish_142 : decode cX5_finish 142 = .ok (.aload_n 0, 1) := by decide +kernel
theorem dX5_finish_143 : decode cX5_finish 143 = .ok (.getfield 37, 3) := by decide +kernel
theorem dX5_finish_146 : decode cX5_finish 146 = .ok (.iload_n 3, 1) := by decide +kernel
theorem dX5_finish_147 : decode cX5_finish 147 = .ok (.iaload, 1) := by decide +kernel
theorem dX5_finish_148 : decode cX5_finish 148 = .ok (.iastore, 1) := by decide +kernel
theorem dX5_finish_149 : decode cX5_finish 149 = .ok (.iinc 3 1, 3) := by decide +kernel
theorem dX5_finish_152 : decode cX5_finish 152 = .ok (.goto (-23), 3) := by decide +kernel
theorem dX5_finish_155 : decode cX5_finish 155 = .ok (.aload_n 0, 1) := by decide +kernel
theorem dX5_finish_156 : decode cX5_finish 156 = .ok (.dup, 1) := by decide +kernel
theorem dX5_finish_157 : decode cX5_finish 157 = .ok (.getfield 51, 3) := by decide +kernel
theorem dX5_finish_160 : decode cX5_finish 160 = .ok (.iconst 2, 1) := by decide +kernel
theorem dX5_finish_161 : decode cX5_finish 161 = .ok (.idiv, 1) := by decide +kernel
theorem dX5_finish_162 : decode cX5_finish 162 = .ok (.putfield 51, 3) := by decide +kernel
theorem dX5_finish_165 : decode cX5_finish 165 = .ok (.aload_n 0, 1) := by decide +kernel
theorem dX5_finish_166 : decode cX5_finish 166 = .ok (.iconst 0, 1) := by decide +kernel
theorem dX5_finish_167 : decode cX5_finish 167 = .ok (.putfield 101, 3) := by decide +kernel
theorem dX5_finish_170 : decode cX5_finish 170 = .ok (.aload_n 0, 1) := by decide +kernel
theorem dX5_finish_171 : decode cX5_finish 171 = .ok (.dup, 1) := by decide +kernel
theorem dX5_finish_172 : decode cX5_finish 172 = .ok (.getfield 98, 3) := by decide +kernel
theorem dX5_finish_175 : decode cX5_finish 175 = .ok (.iconst 1, 1) := by decide +kernel
theorem dX5_finish_176 : decode cX5_finish 176 = .ok (.iadd, 1) := by decide +kernel
theorem dX5_finish_177 : decode cX5_finish 177 = .ok (.putfield 98, 3) := by decide +kernel
theorem dX5_finish_180 : decode cX5_finish 180 = .ok (.goto 12, 3) := by decide +kernel
theorem dX5_finish_183 : decode cX5_finish 183 = .ok (.aload_n 0, 1) := by decide +kernel
theorem dX5_finish_184 : decode cX5_finish 184 = .ok (.aload_n 0, 1) := by decide +kernel
theorem dX5_finish_185 : decode cX5_finish 185 = .ok (.getfield 47, 3) := by decide +kernel
theorem dX5_finish_188 : decode cX5_finish 188 = .ok (.iconst 0, 1) := by decide +kernel
theorem dX5_finish_189 : decode cX5_finish 189 = .ok (.invokevirtual 157, 3) := by decide +kernel
theorem dX5_finish_192 : decode cX5_finish 192 = .ok (.return_, 1) := by decide +kernel
theorem dX5_rate_0 : decode cX5_rate 0 = .ok (.aload_n 0, 1) := by decide +kernel
theorem dX5_rate_1 : decode cX5_rate 1 = .ok (.getfield 104, 3) := by decide +kernel
theorem dX5_rate_4 : decode cX5_rate 4 = .ok (.ifCond .lt 11, 3) := by decide +kernel
theorem dX5_rate_7 : decode cX5_rate 7 = .ok (.iload_n 1, 1) := by decide +kernel
theorem dX5_rate_8 : decode cX5_rate 8 = .ok (.aload_n 0, 1) := by decide +kernel
theorem dX5_rate_9 : decode cX5_rate 9 = .ok (.getfield 161, 3) := by decide +kernel
theorem dX5_rate_12 : decode cX5_rate 12 = .ok (.if_icmp .ge 54, 3) := by decide +kernel
theorem dX5_rate_15 : decode cX5_rate 15 = .ok (.aload_n 0, 1) := by decide +kernel
theorem dX5_rate_16 : decode cX5_rate 16 = .ok (.aload_n 0, 1) := by decide +kernel
theorem dX5_rate_17 : decode cX5_rate 17 = .ok (.getfield 89, 3) := by decide +kernel
theorem dX5_rate_20 : decode cX5_rate 20 = .ok (.iconst 1, 1) := by decide +kernel
theorem dX5_rate_21 : decode cX5_rate 21 = .ok (.isub, 1) := by decide +kernel
theorem dX5_rate_22 : decode cX5_rate 22 = .ok (.putfield 104, 3) := by decide +kernel
theorem dX5_rate_25 : decode cX5_rate 25 = .ok (.aload_n 0, 1) := by decide +kernel
theorem dX5_rate_26 : decode cX5_rate 26 = .ok (.iload_n 1, 1) := by decide +kernel
theorem dX5_rate_27 : decode cX5_rate 27 = .ok (.putfield 161, 3) := by decide +kernel
theorem dX5_rate_30 : decode cX5_rate 30 = .ok (.iconst 0, 1) := by decide +kernel
theorem dX5_rate_31 : decode cX5_rate 31 = .ok (.istore_n 2, 1) := by decide +kernel
theorem dX5_rate_32 : decode cX5_rate 32 = .ok (.iload_n 2, 1) := by decide +kernel
theorem dX5_rate_33 : decode cX5_rate 33 = .ok (.aload_n 0, 1) := by decide +kernel
theorem dX5_rate_34 : decode cX5_rate 34 = .ok (.getfield 47, 3) := by decide +kernel
theorem dX5_rate_37 : decode cX5_rate 37 = .ok (.if_icmp .ge 21, 3) := by decide +kernel
theorem dX5_rate_40 : decode cX5_rate 40 = .ok (.aload_n 0, 1) := by decide +kernel
theorem dX5_rate_41 : decode cX5_rate 41 = .ok (.getfield 37, 3) := by decide +kernel
theorem dX5_rate_44 : decode cX5_rate 44 = .ok (.iload_n 2, 1) := by decide +kernel
theorem dX5_rate_45 : decode cX5_rate 45 = .ok (.aload_n 0, 1) := by decide +kernel
theorem dX5_rate_46 : decode cX5_rate 46 = .ok (.getfield 13, 3) := by decide +kernel
theorem dX5_rate_49 : decode cX5_rate 49 = .ok (.iload_n 2, 1) := by decide +kernel
theorem dX5_rate_50 : decode cX5_rate 50 = .ok (.iaload, 1) := by decide +kernel
theorem dX5_rate_51 : decode cX5_rate 51 = .ok (.iastore, 1) := by decide +kernel
theorem dX5_rate_52 : decode cX5_rate 52 = .ok (.iinc 2 1, 3) := by decide +kernel
theorem dX5_rate_55 : decode cX5_rate 55 = .ok (.goto (-23), 3) := by decide +kernel
theorem dX5_rate_58 : decode cX5_rate 58 = .ok (.aload_n 0, 1) := by decide +kernel
theorem dX5_rate_59 : decode cX5_rate 59 = .ok (.iconst 0, 1) := by decide +kernel
theorem dX5_rate_60 : decode cX5_rate 60 = .ok (.putfield 101, 3) := by decide +kernel
theorem dX5_rate_63 : decode cX5_rate 63 = .ok (.goto 25, 3) := by decide +kernel
theorem dX5_rate_66 : decode cX5_rate 66 = .ok (.aload_n 0, 1) := by decide +kernel
theorem dX5_rate_67 : decode cX5_rate 67 = .ok (.iload_n 1, 1) := by decide +kernel
theorem dX5_rate_68 : decode cX5_rate 68 = .ok (.aload_n 0, 1) := by decide +kernel
theorem dX5_rate_69 : decode cX5_rate 69 = .ok (.getfield 161, 3) := by decide +kernel
theorem dX5_rate_72 : decode cX5_rate 72 = .ok (.if_icmp .le 12, 3) := by decide +kernel
theorem dX5_rate_75 : decode cX5_rate 75 = .ok (.aload_n 0, 1) := by decide +kernel
theorem dX5_rate_76 : decode cX5_rate 76 = .ok (.getfield 101, 3) := by decide +kernel
theorem dX5_rate_79 : decode cX5_rate 79 = .ok (.iconst 1, 1) := by decide +kernel
theorem dX5_rate_80 : decode cX5_rate 80 = .ok (.iadd, 1) := by decide +kernel
theorem dX5_rate_81 : decode cX5_rate 81 = .ok (.goto 4, 3) := by decide +kernel
theorem dX5_rate_84 : decode cX5_rate 84 = .ok (.iconst 0, 1) := by decide +kernel
theorem dX5_rate_85 : decode cX5_rate 85 = .ok (.putfield 101, 3) := by decide +kernel
theorem dX5_rate_88 : decode cX5_rate 88 = .ok (.return_, 1) := by decide +kernel
theorem dX5_startTrial_0 : decode cX5_startTrial 0 = .ok (.aload_n 0, 1) := by decide +kernel
theorem dX5_startTrial_1 : decode cX5_startTrial 1 = .ok (.getfield 83, 3) := by decide +kernel
theorem dX5_startTrial_4 : decode cX5_startTrial 4 = .ok (.ifCond .eq 6, 3) := by decide +kernel
theorem dX5_startTrial_7 : decode cX5_startTrial 7 = .ok (.ldc 164, 2) := by decide +kernel
theorem dX5_startTrial_9 : decode cX5_startTrial 9 = .ok (.ireturn, 1) := by decide +kernel
theorem dX5_startTrial_10 : decode cX5_startTrial 10 = .ok (.aload_n 0, 1) := by decide +kernel
theorem dX5_startTrial_11 : decode cX5_startTrial 11 = .ok (.iconst 1, 1) := by decide +kernel
theorem dX5_startTrial_12 : decode cX5_startTrial 12 = .ok (.putfield 83, 3) := by decide +kernel
theorem dX5_startTrial_15 : decode cX5_startTrial 15 = .ok (.aload_n 0, 1) := by decide +kernel
theorem dX5_startTrial_16 : decode cX5_startTrial 16 = .ok (.iconst 0, 1) := by decide +kernel
theorem dX5_startTrial_17 : decode cX5_startTrial 17 = .ok (.putfield 86, 3) := by decide +kernel
theorem dX5_startTrial_20 : decode cX5_startTrial 20 = .ok (.aload_n 0, 1) := by decide +kernel
theorem dX5_startTrial_21 : decode cX5_startTrial 21 = .ok (.dup, 1) := by decide +kernel
theorem dX5_startTrial_22 : decode cX5_startTrial 22 = .ok (.getfield 89, 3) := by decide +kernel
theorem dX5_startTrial_25 : decode cX5_startTrial 25 = .ok (.iconst 1, 1) := by decide +kernel
theorem dX5_startTrial_26 : decode cX5_startTrial 26 = .ok (.iadd, 1) := by decide +kernel
theorem dX5_startTrial_27 : decode cX5_startTrial 27 = .ok (.putfield 89, 3) := by decide +kernel
theorem dX5_startTrial_30 : decode cX5_startTrial 30 = .ok (.aload_n 0, 1) := by decide +kernel
theorem dX5_startTrial_31 : decode cX5_startTrial 31 = .ok (.getfield 89, 3) := by decide +kernel
theorem dX5_startTrial_34 : decode cX5_startTrial 34 = .ok (.iconst 1, 1) := by decide +kernel
theorem dX5_startTrial_35 : decode cX5_startTrial 35 = .ok (.isub, 1) := by decide +kernel
theorem dX5_startTrial_36 : decode cX5_startTrial 36 = .ok (.ireturn, 1) := by decide +kernel
theorem dX5_record_0 : decode cX5_record 0 = .ok (.aload_n 0, 1) := by decide +kernel
theorem dX5_record_1 : decode cX5_record 1 = .ok (.getfield 83, 3) := by decide +kernel
theorem dX5_record_4 : decode cX5_record 4 = .ok (.ifCond .ne 6, 3) := by decide +kernel
theorem dX5_record_7 : decode cX5_record 7 = .ok (.ldc 165, 2) := by decide +kernel
theorem dX5_record_9 : decode cX5_record 9 = .ok (.ireturn, 1) := by decide +kernel
theorem dX5_record_10 : decode cX5_record 10 = .ok (.iload_n 1, 1) := by decide +kernel
theorem dX5_record_11 : decode cX5_record 11 = .ok (.ldc 122, 2) := by decide +kernel
theorem dX5_record_13 : decode cX5_record 13 = .ok (.ldc 63, 2) := by decide +kernel
theorem dX5_record_15 : decode cX5_record 15 = .ok (.invokestatic 113, 3) := by decide +kernel
theorem dX5_record_18 : decode cX5_record 18 = .ok (.ifCond .ne 6, 3) := by decide +kernel
theorem dX5_record_21 : decode cX5_record 21 = .ok (.ldc 117, 2) := by decide +kernel
theorem dX5_record_23 : decode cX5_record 23 = .ok (.ireturn, 1) := by decide +kernel
theorem dX5_record_24 : decode cX5_record 24 = .ok (.aload_n 0, 1) := by decide +kernel
theorem dX5_record_25 : decode cX5_record 25 = .ok (.getfield 16, 3) := by decide +kernel
theorem dX5_record_28 : decode cX5_record 28 = .ok (.aload_n 0, 1) := by decide +kernel
theorem dX5_record_29 : decode cX5_record 29 = .ok (.getfield 86, 3) := by decide +kernel
theorem dX5_record_32 : decode cX5_record 32 = .ok (.iload_n 1, 1) := by decide +kernel
theorem dX5_record_33 : decode cX5_record 33 = .ok (.iastore, 1) := by decide +kernel
theorem dX5_record_34 : decode cX5_record 34 = .ok (.aload_n 0, 1) := by decide +kernel
theorem dX5_record_35 : decode cX5_record 35 = .ok (.dup, 1) := by decide +kernel
theorem dX5_record_36 : decode cX5_record 36 = .ok (.getfield 86, 3) := by decide +kernel
theorem dX5_record_39 : decode cX5_record 39 = .ok (.iconst 1, 1) := by decide +kernel
theorem dX5_record_40 : decode cX5_record 40 = .ok (.iadd, 1) := by decide +kernel
theorem dX5_record_41 : decode cX5_record 41 = .ok (.putfield 86, 3) := by decide +kernel
theorem dX5_record_44 : decode cX5_record 44 = .ok (.aload_n 0, 1) := by decide +kernel
theorem dX5_record_45 : decode cX5_record 45 = .ok (.getfield 86, 3) := by decide +kernel
theorem dX5_record_48 : decode cX5_record 48 = .ok (.aload_n 0, 1) := by decide +kernel
theorem dX5_record_49 : decode cX5_record 49 = .ok (.getfield 47, 3) := by decide +kernel
theorem dX5_record_52 : decode cX5_record 52 = .ok (.if_icmp .ge 13, 3) := by decide +kernel
theorem dX5_record_55 : decode cX5_record 55 = .ok (.aload_n 0, 1) := by decide +kernel
theorem dX5_record_56 : decode cX5_record 56 = .ok (.getfield 13, 3) := by decide +kernel
theorem dX5_record_59 : decode cX5_record 59 = .ok (.aload_n 0, 1) := by decide +kernel
theorem dX5_record_60 : decode cX5_record 60 = .ok (.getfield 86, 3) := by decide +kernel
theorem dX5_record_63 : decode cX5_record 63 = .ok (.iaload, 1) := by decide +kernel
theorem dX5_record_64 : decode cX5_record 64 = .ok (.ireturn, 1) := by decide +kernel
theorem dX5_record_65 : decode cX5_record 65 = .ok (.aload_n 0, 1) := by decide +kernel
theorem dX5_record_66 : decode cX5_record 66 = .ok (.iconst 0, 1) := by decide +kernel
theorem dX5_record_67 : decode cX5_record 67 = .ok (.putfield 83, 3) := by decide +kernel
theorem dX5_record_70 : decode cX5_record 70 = .ok (.aload_n 0, 1) := by decide +kernel
theorem dX5_record_71 : decode cX5_record 71 = .ok (.invokevirtual 166, 3) := by decide +kernel
theorem dX5_record_74 : decode cX5_record 74 = .ok (.ldc 169, 2) := by decide +kernel
theorem dX5_record_76 : decode cX5_record 76 = .ok (.ireturn, 1) := by decide +kernel
theorem dX5_abort_0 : decode cX5_abort 0 = .ok (.aload_n 0, 1) := by decide +kernel
theorem dX5_abort_1 : decode cX5_abort 1 = .ok (.getfield 83, 3) := by decide +kernel
theorem dX5_abort_4 : decode cX5_abort 4 = .ok (.ifCond .ne 6, 3) := by decide +kernel
theorem dX5_abort_7 : decode cX5_abort 7 = .ok (.ldc 165, 2) := by decide +kernel
theorem dX5_abort_9 : decode cX5_abort 9 = .ok (.ireturn, 1) := by decide +kernel
theorem dX5_abort_10 : decode cX5_abort 10 = .ok (.aload_n 0, 1) := by decide +kernel
theorem dX5_abort_11 : decode cX5_abort 11 = .ok (.iconst 0, 1) := by decide +kernel
theorem dX5_abort_12 : decode cX5_abort 12 = .ok (.putfield 83, 3) := by decide +kernel
theorem dX5_abort_15 : decode cX5_abort 15 = .ok (.aload_n 0, 1) := by decide +kernel
theorem dX5_abort_16 : decode cX5_abort 16 = .ok (.dup, 1) := by decide +kernel
theorem dX5_abort_17 : decode cX5_abort 17 = .ok (.getfield 95, 3) := by decide +kernel
theorem dX5_abort_20 : decode cX5_abort 20 = .ok (.iconst 1, 1) := by decide +kernel
theorem dX5_abort_21 : decode cX5_abort 21 = .ok (.iadd, 1) := by decide +kernel
theorem dX5_abort_22 : decode cX5_abort 22 = .ok (.putfield 95, 3) := by decide +kernel
theorem dX5_abort_25 : decode cX5_abort 25 = .ok (.iconst 0, 1) := by decide +kernel
theorem dX5_abort_26 : decode cX5_abort 26 = .ok (.istore_n 1, 1) := by decide +kernel
theorem dX5_abort_27 : decode cX5_abort 27 = .ok (.iload_n 1, 1) := by decide +kernel
theorem dX5_abort_28 : decode cX5_abort 28 = .ok (.aload_n 0, 1) := by decide +kernel
theorem dX5_abort_29 : decode cX5_abort 29 = .ok (.getfield 86, 3) := by decide +kernel
theorem dX5_abort_32 : decode cX5_abort 32 = .ok (.if_icmp .ge 28, 3) := by decide +kernel
theorem dX5_abort_35 : decode cX5_abort 35 = .ok (.aload_n 0, 1) := by decide +kernel
theorem dX5_abort_36 : decode cX5_abort 36 = .ok (.getfield 19, 3) := by decide +kernel
theorem dX5_abort_39 : decode cX5_abort 39 = .ok (.iload_n 1, 1) := by decide +kernel
theorem dX5_abort_40 : decode cX5_abort 40 = .ok (.aload_n 0, 1) := by decide +kernel
theorem dX5_abort_41 : decode cX5_abort 41 = .ok (.getfield 7, 3) := by decide +kernel
theorem dX5_abort_44 : decode cX5_abort 44 = .ok (.iload_n 1, 1) := by decide +kernel
theorem dX5_abort_45 : decode cX5_abort 45 = .ok (.iaload, 1) := by decide +kernel
theorem dX5_abort_46 : decode cX5_abort 46 = .ok (.aload_n 0, 1) := by decide +kernel
theorem dX5_abort_47 : decode cX5_abort 47 = .ok (.getfield 16, 3) := by decide +kernel
theorem dX5_abort_50 : decode cX5_abort 50 = .ok (.iload_n 1, 1) := by decide +kernel
theorem dX5_abort_51 : decode cX5_abort 51 = .ok (.iaload, 1) := by decide +kernel
theorem dX5_abort_52 : decode cX5_abort 52 = .ok (.isub, 1) := by decide +kernel
theorem dX5_abort_53 : decode cX5_abort 53 = .ok (.iastore, 1) := by decide +kernel
theorem dX5_abort_54 : decode cX5_abort 54 = .ok (.iinc 1 1, 3) := by decide +kernel
theorem dX5_abort_57 : decode cX5_abort 57 = .ok (.goto (-30), 3) := by decide +kernel
theorem dX5_abort_60 : decode cX5_abort 60 = .ok (.aload_n 0, 1) := by decide +kernel
theorem dX5_abort_61 : decode cX5_abort 61 = .ok (.getfield 86, 3) := by decide +kernel
theorem dX5_abort_64 : decode cX5_abort 64 = .ok (.ifCond .le 12, 3) := by decide +kernel
theorem dX5_abort_67 : decode cX5_abort 67 = .ok (.aload_n 0, 1) := by decide +kernel
theorem dX5_abort_68 : decode cX5_abort 68 = .ok (.aload_n 0, 1) := by decide +kernel
theorem dX5_abort_69 : decode cX5_abort 69 = .ok (.getfield 86, 3) := by decide +kernel
theorem dX5_abort_72 : decode cX5_abort 72 = .ok (.iconst 1, 1) := by decide +kernel
theorem dX5_abort_73 : decode cX5_abort 73 = .ok (.invokevirtual 157, 3) := by decide +kernel
theorem dX5_abort_76 : decode cX5_abort 76 = .ok (.aload_n 0, 1) := by decide +kernel
theorem dX5_abort_77 : decode cX5_abort 77 = .ok (.getfield 86, 3) := by decide +kernel
theorem dX5_abort_80 : decode cX5_abort 80 = .ok (.ireturn, 1) := by decide +kernel
theorem dX5_position_0 : decode cX5_position 0 = .ok (.aload_n 0, 1) := by decide +kernel
theorem dX5_position_1 : decode cX5_position 1 = .ok (.getfield 83, 3) := by decide +kernel
theorem dX5_position_4 : decode cX5_position 4 = .ok (.ifCond .eq 10, 3) := by decide +kernel
theorem dX5_position_7 : decode cX5_position 7 = .ok (.aload_n 0, 1) := by decide +kernel
theorem dX5_position_8 : decode cX5_position 8 = .ok (.getfield 86, 3) := by decide +kernel
theorem dX5_position_11 : decode cX5_position 11 = .ok (.goto 5, 3) := by decide +kernel
theorem dX5_position_14 : decode cX5_position 14 = .ok (.ldc 165, 2) := by decide +kernel
theorem dX5_position_16 : decode cX5_position 16 = .ok (.ireturn, 1) := by decide +kernel
theorem dX5_input_0 : decode cX5_input 0 = .ok (.aload_n 0, 1) := by decide +kernel
theorem dX5_input_1 : decode cX5_input 1 = .ok (.iload_n 1, 1) := by decide +kernel
theorem dX5_input_2 : decode cX5_input 2 = .ok (.invokevirtual 118, 3) := by decide +kernel
theorem dX5_input_5 : decode cX5_input 5 = .ok (.ifCond .eq 8, 3) := by decide +kernel
theorem dX5_input_8 : decode cX5_input 8 = .ok (.ldc 117, 2) := by decide +kernel
theorem dX5_input_10 : decode cX5_input 10 = .ok (.goto 9, 3) := by decide +kernel
theorem dX5_input_13 : decode cX5_input 13 = .ok (.aload_n 0, 1) := by decide +kernel
theorem dX5_input_14 : decode cX5_input 14 = .ok (.getfield 13, 3) := by decide +kernel
theorem dX5_input_17 : decode cX5_input 17 = .ok (.iload_n 1, 1) := by decide +kernel
theorem dX5_input_18 : decode cX5_input 18 = .ok (.iaload, 1) := by decide +kernel
theorem dX5_input_19 : decode cX5_input 19 = .ok (.ireturn, 1) := by decide +kernel
theorem dX5_setInput_0 : decode cX5_setInput 0 = .ok (.aload_n 0, 1) := by decide +kernel
theorem dX5_setInput_1 : decode cX5_setInput 1 = .ok (.getfield 83, 3) := by decide +kernel
theorem dX5_setInput_4 : decode cX5_setInput 4 = .ok (.ifCond .eq 6, 3) := by decide +kernel
theorem dX5_setInput_7 : decode cX5_setInput 7 = .ok (.ldc 164, 2) := by decide +kernel
theorem dX5_setInput_9 : decode cX5_setInput 9 = .ok (.ireturn, 1) := by decide +kernel
theorem dX5_setInput_10 : decode cX5_setInput 10 = .ok (.aload_n 0, 1) := by decide +kernel
theorem dX5_setInput_11 : decode cX5_setInput 11 = .ok (.iload_n 1, 1) := by decide +kernel
theorem dX5_setInput_12 : decode cX5_setInput 12 = .ok (.invokevirtual 118, 3) := by decide +kernel
theorem dX5_setInput_15 : decode cX5_setInput 15 = .ok (.ifCond .ne 14, 3) := by decide +kernel
theorem dX5_setInput_18 : decode cX5_setInput 18 = .ok (.iload_n 2, 1) := by decide +kernel
theorem dX5_setInput_19 : decode cX5_setInput 19 = .ok (.ldc 122, 2) := by decide +kernel
theorem dX5_setInput_21 : decode cX5_setInput 21 = .ok (.ldc 63, 2) := by decide +kernel
theorem dX5_setInput_23 : decode cX5_setInput 23 = .ok (.invokestatic 113, 3) := by decide +kernel
theorem dX5_setInput_26 : decode cX5_setInput 26 = .ok (.ifCond .ne 6, 3) := by decide +kernel
theorem dX5_setInput_29 : decode cX5_setInput 29 = .ok (.ldc 117, 2) := by decide +kernel
theorem dX5_setInput_31 : decode cX5_setInput 31 = .ok (.ireturn, 1) := by decide +kernel
theorem dX5_setInput_32 : decode cX5_setInput 32 = .ok (.aload_n 0, 1) := by decide +kernel
theorem dX5_setInput_33 : decode cX5_setInput 33 = .ok (.getfield 13, 3) := by decide +kernel
theorem dX5_setInput_36 : decode cX5_setInput 36 = .ok (.iload_n 1, 1) := by decide +kernel
theorem dX5_setInput_37 : decode cX5_setInput 37 = .ok (.iaload, 1) := by decide +kernel
theorem dX5_setInput_38 : decode cX5_setInput 38 = .ok (.istore_n 3, 1) := by decide +kernel
theorem dX5_setInput_39 : decode cX5_setInput 39 = .ok (.aload_n 0, 1) := by decide +kernel
theorem dX5_setInput_40 : decode cX5_setInput 40 = .ok (.getfield 13, 3) := by decide +kernel
theorem dX5_setInput_43 : decode cX5_setInput 43 = .ok (.iload_n 1, 1) := by decide +kernel
theorem dX5_setInput_44 : decode cX5_setInput 44 = .ok (.iload_n 2, 1) := by decide +kernel
theorem dX5_setInput_45 : decode cX5_setInput 45 = .ok (.iastore, 1) := by decide +kernel
theorem dX5_setInput_46 : decode cX5_setInput 46 = .ok (.iload_n 3, 1) := by decide +kernel
theorem dX5_setInput_47 : decode cX5_setInput 47 = .ok (.ireturn, 1) := by decide +kernel
theorem dX5_reference_0 : decode cX5_reference 0 = .ok (.aload_n 0, 1) := by decide +kernel
theorem dX5_reference_1 : decode cX5_reference 1 = .ok (.iload_n 1, 1) := by decide +kernel
theorem dX5_reference_2 : decode cX5_reference 2 = .ok (.invokevirtual 118, 3) := by decide +kernel
theorem dX5_reference_5 : decode cX5_reference 5 = .ok (.ifCond .eq 8, 3) := by decide +kernel
theorem dX5_reference_8 : decode cX5_reference 8 = .ok (.ldc 117, 2) := by decide +kernel
theorem dX5_reference_10 : decode cX5_reference 10 = .ok (.goto 9, 3) := by decide +kernel
theorem dX5_reference_13 : decode cX5_reference 13 = .ok (.aload_n 0, 1) := by decide +kernel
theorem dX5_reference_14 : decode cX5_reference 14 = .ok (.getfield 7, 3) := by decide +kernel
theorem dX5_reference_17 : decode cX5_reference 17 = .ok (.iload_n 1, 1) := by decide +kernel
theorem dX5_reference_18 : decode cX5_reference 18 = .ok (.iaload, 1) := by decide +kernel
theorem dX5_reference_19 : decode cX5_reference 19 = .ok (.ireturn, 1) := by decide +kernel
theorem dX5_count_0 : decode cX5_count 0 = .ok (.iload_n 1, 1) := by decide +kernel
theorem dX5_count_1 : decode cX5_count 1 = .ok (.tableswitch 60 0 4 #[35, 40, 45, 50, 55], 35) := by decide +kernel
theorem dX5_count_36 : decode cX5_count 36 = .ok (.aload_n 0, 1) := by decide +kernel
theorem dX5_count_37 : decode cX5_count 37 = .ok (.getfield 89, 3) := by decide +kernel
theorem dX5_count_40 : decode cX5_count 40 = .ok (.ireturn, 1) := by decide +kernel
theorem dX5_count_41 : decode cX5_count 41 = .ok (.aload_n 0, 1) := by decide +kernel
theorem dX5_count_42 : decode cX5_count 42 = .ok (.getfield 92, 3) := by decide +kernel
theorem dX5_count_45 : decode cX5_count 45 = .ok (.ireturn, 1) := by decide +kernel
theorem dX5_count_46 : decode cX5_count 46 = .ok (.aload_n 0, 1) := by decide +kernel
theorem dX5_count_47 : decode cX5_count 47 = .ok (.getfield 95, 3) := by decide +kernel
theorem dX5_count_50 : decode cX5_count 50 = .ok (.ireturn, 1) := by decide +kernel
theorem dX5_count_51 : decode cX5_count 51 = .ok (.aload_n 0, 1) := by decide +kernel
theorem dX5_count_52 : decode cX5_count 52 = .ok (.getfield 98, 3) := by decide +kernel
theorem dX5_count_55 : decode cX5_count 55 = .ok (.ireturn, 1) := by decide +kernel
theorem dX5_count_56 : decode cX5_count 56 = .ok (.aload_n 0, 1) := by decide +kernel
theorem dX5_count_57 : decode cX5_count 57 = .ok (.getfield 101, 3) := by decide +kernel
theorem dX5_count_60 : decode cX5_count 60 = .ok (.ireturn, 1) := by decide +kernel
theorem dX5_count_61 : decode cX5_count 61 = .ok (.ldc 117, 2) := by decide +kernel
theorem dX5_count_63 : decode cX5_count 63 = .ok (.ireturn, 1) := by decide +kernel
theorem dX5_isAge_0 : decode cX5_isAge 0 = .ok (.iload_n 0, 1) := by decide +kernel
theorem dX5_isAge_1 : decode cX5_isAge 1 = .ok (.iconst 0, 1) := by decide +kernel
theorem dX5_isAge_2 : decode cX5_isAge 2 = .ok (.iconst 4, 1) := by decide +kernel
theorem dX5_isAge_3 : decode cX5_isAge 3 = .ok (.invokestatic 113, 3) := by decide +kernel
theorem dX5_isAge_6 : decode cX5_isAge 6 = .ok (.ireturn, 1) := by decide +kernel
theorem dX5_error_0 : decode cX5_error 0 = .ok (.aload_n 0, 1) := by decide +kernel
theorem dX5_error_1 : decode cX5_error 1 = .ok (.iload_n 1, 1) := by decide +kernel
theorem dX5_error_2 : decode cX5_error 2 = .ok (.invokevirtual 118, 3) := by decide +kernel
theorem dX5_error_5 : decode cX5_error 5 = .ok (.ifCond .ne 10, 3) := by decide +kernel
theorem dX5_error_8 : decode cX5_error 8 = .ok (.iload_n 2, 1) := by decide +kernel
theorem dX5_error_9 : decode cX5_error 9 = .ok (.invokestatic 170, 3) := by decide +kernel
theorem dX5_error_12 : decode cX5_error 12 = .ok (.ifCond .ne 6, 3) := by decide +kernel
theorem dX5_error_15 : decode cX5_error 15 = .ok (.ldc 117, 2) := by decide +kernel
theorem dX5_error_17 : decode cX5_error 17 = .ok (.ireturn, 1) := by decide +kernel
theorem dX5_error_18 : decode cX5_error 18 = .ok (.iload_n 2, 1) := by decide +kernel
theorem dX5_error_19 : decode cX5_error 19 = .ok (.aload_n 0, 1) := by decide +kernel
theorem dX5_error_20 : decode cX5_error 20 = .ok (.getfield 92, 3) := by decide +kernel
theorem dX5_error_23 : decode cX5_error 23 = .ok (.if_icmp .ge 17, 3) := by decide +kernel
theorem dX5_error_26 : decode cX5_error 26 = .ok (.aload_n 0, 1) := by decide +kernel
theorem dX5_error_27 : decode cX5_error 27 = .ok (.getfield 25, 3) := by decide +kernel
theorem dX5_error_30 : decode cX5_error 30 = .ok (.bipush 48, 2) := by decide +kernel
theorem dX5_error_32 : decode cX5_error 32 = .ok (.iload_n 2, 1) := by decide +kernel
theorem dX5_error_33 : decode cX5_error 33 = .ok (.imul, 1) := by decide +kernel
theorem dX5_error_34 : decode cX5_error 34 = .ok (.iload_n 1, 1) := by decide +kernel
theorem dX5_error_35 : decode cX5_error 35 = .ok (.iadd, 1) := by decide +kernel
theorem dX5_error_36 : decode cX5_error 36 = .ok (.iaload, 1) := by decide +kernel
theorem dX5_error_37 : decode cX5_error 37 = .ok (.goto 5, 3) := by decide +kernel
theorem dX5_error_40 : decode cX5_error 40 = .ok (.ldc 169, 2) := by decide +kernel
theorem dX5_error_42 : decode cX5_error 42 = .ok (.ireturn, 1) := by decide +kernel
theorem dX5_norm_0 : decode cX5_norm 0 = .ok (.iload_n 1, 1) := by decide +kernel
theorem dX5_norm_1 : decode cX5_norm 1 = .ok (.invokestatic 170, 3) := by decide +kernel
theorem dX5_norm_4 : decode cX5_norm 4 = .ok (.ifCond .ne 8, 3) := by decide +kernel
theorem dX5_norm_7 : decode cX5_norm 7 = .ok (.ldc 117, 2) := by decide +kernel
theorem dX5_norm_9 : decode cX5_norm 9 = .ok (.goto 22, 3) := by decide +kernel
theorem dX5_norm_12 : decode cX5_norm 12 = .ok (.iload_n 1, 1) := by decide +kernel
theorem dX5_norm_13 : decode cX5_norm 13 = .ok (.aload_n 0, 1) := by decide +kernel
theorem dX5_norm_14 : decode cX5_norm 14 = .ok (.getfield 92, 3) := by decide +kernel
theorem dX5_norm_17 : decode cX5_norm 17 = .ok (.if_icmp .ge 12, 3) := by decide +kernel
theorem dX5_norm_20 : decode cX5_norm 20 = .ok (.aload_n 0, 1) := by decide +kernel
theorem dX5_norm_21 : decode cX5_norm 21 = .ok (.getfield 28, 3) := by decide +kernel
theorem dX5_norm_24 : decode cX5_norm 24 = .ok (.iload_n 1, 1) := by decide +kernel
theorem dX5_norm_25 : decode cX5_norm 25 = .ok (.iaload, 1) := by decide +kernel
theorem dX5_norm_26 : decode cX5_norm 26 = .ok (.goto 5, 3) := by decide +kernel
theorem dX5_norm_29 : decode cX5_norm 29 = .ok (.ldc 169, 2) := by decide +kernel
theorem dX5_norm_31 : decode cX5_norm 31 = .ok (.ireturn, 1) := by decide +kernel
theorem dX5_shift_0 : decode cX5_shift 0 = .ok (.iload_n 1, 1) := by decide +kernel
theorem dX5_shift_1 : decode cX5_shift 1 = .ok (.invokestatic 170, 3) := by decide +kernel
theorem dX5_shift_4 : decode cX5_shift 4 = .ok (.ifCond .ne 8, 3) := by decide +kernel
theorem dX5_shift_7 : decode cX5_shift 7 = .ok (.ldc 117, 2) := by decide +kernel
theorem dX5_shift_9 : decode cX5_shift 9 = .ok (.goto 22, 3) := by decide +kernel
theorem dX5_shift_12 : decode cX5_shift 12 = .ok (.iload_n 1, 1) := by decide +kernel
theorem dX5_shift_13 : decode cX5_shift 13 = .ok (.aload_n 0, 1) := by decide +kernel
theorem dX5_shift_14 : decode cX5_shift 14 = .ok (.getfield 92, 3) := by decide +kernel
theorem dX5_shift_17 : decode cX5_shift 17 = .ok (.if_icmp .ge 12, 3) := by decide +kernel
theorem dX5_shift_20 : decode cX5_shift 20 = .ok (.aload_n 0, 1) := by decide +kernel
theorem dX5_shift_21 : decode cX5_shift 21 = .ok (.getfield 31, 3) := by decide +kernel
theorem dX5_shift_24 : decode cX5_shift 24 = .ok (.iload_n 1, 1) := by decide +kernel
theorem dX5_shift_25 : decode cX5_shift 25 = .ok (.iaload, 1) := by decide +kernel
theorem dX5_shift_26 : decode cX5_shift 26 = .ok (.goto 5, 3) := by decide +kernel
theorem dX5_shift_29 : decode cX5_shift 29 = .ok (.ldc 169, 2) := by decide +kernel
theorem dX5_shift_31 : decode cX5_shift 31 = .ok (.ireturn, 1) := by decide +kernel
theorem dX5_worstSample_0 : decode cX5_worstSample 0 = .ok (.iload_n 1, 1) := by decide +kernel
theorem dX5_worstSample_1 : decode cX5_worstSample 1 = .ok (.invokestatic 170, 3) := by decide +kernel
theorem dX5_worstSample_4 : decode cX5_worstSample 4 = .ok (.ifCond .ne 6, 3) := by decide +kernel
theorem dX5_worstSample_7 : decode cX5_worstSample 7 = .ok (.ldc 117, 2) := by decide +kernel
theorem dX5_worstSample_9 : decode cX5_worstSample 9 = .ok (.ireturn, 1) := by decide +kernel
theorem dX5_worstSample_10 : decode cX5_worstSample 10 = .ok (.iload_n 1, 1) := by decide +kernel
theorem dX5_worstSample_11 : decode cX5_worstSample 11 = .ok (.aload_n 0, 1) := by decide +kernel
theorem dX5_worstSample_12 : decode cX5_worstSample 12 = .ok (.getfield 92, 3) := by decide +kernel
theorem dX5_worstSample_15 : decode cX5_worstSample 15 = .ok (.if_icmp .lt 6, 3) := by decide +kernel
theorem dX5_worstSample_18 : decode cX5_worstSample 18 = .ok (.ldc 169, 2) := by decide +kernel
theorem dX5_worstSample_20 : decode cX5_worstSample 20 = .ok (.ireturn, 1) := by decide +kernel
theorem dX5_worstSample_21 : decode cX5_worstSample 21 = .ok (.iconst 0, 1) := by decide +kernel
theorem dX5_worstSample_22 : decode cX5_worstSample 22 = .ok (.istore_n 2, 1) := by decide +kernel
theorem dX5_worstSample_23 : decode cX5_worstSample 23 = .ok (.iconst 1, 1) := by decide +kernel
theorem dX5_worstSample_24 : decode cX5_worstSample 24 = .ok (.istore_n 3, 1) := by decide +kernel
theorem dX5_worstSample_25 : decode cX5_worstSample 25 = .ok (.iload_n 3, 1) := by decide +kernel
theorem dX5_worstSample_26 : decode cX5_worstSample 26 = .ok (.aload_n 0, 1) := by decide +kernel
theorem dX5_worstSample_27 : decode cX5_worstSample 27 = .ok (.getfield 47, 3) := by decide +kernel
theorem dX5_worstSample_30 : decode cX5_worstSample 30 = .ok (.if_icmp .ge 46, 3) := by decide +kernel
theorem dX5_worstSample_33 : decode cX5_worstSample 33 = .ok (.aload_n 0, 1) := by decide +kernel
theorem dX5_worstSample_34 : decode cX5_worstSample 34 = .ok (.getfield 25, 3) := by decide +kernel
theorem dX5_worstSample_37 : decode cX5_worstSample 37 = .ok (.bipush 48, 2) := by decide +kernel
theorem dX5_worstSample_39 : decode cX5_worstSample 39 = .ok (.iload_n 1, 1) := by decide +kernel
theorem dX5_worstSample_40 : decode cX5_worstSample 40 = .ok (.imul, 1) := by decide +kernel
theorem dX5_worstSample_41 : decode cX5_worstSample 41 = .ok (.iload_n 3, 1) := by decide +kernel
theorem dX5_worstSample_42 : decode cX5_worstSample 42 = .ok (.iadd, 1) := by decide +kernel
theorem dX5_worstSample_43 : decode cX5_worstSample 43 = .ok (.iaload, 1) := by decide +kernel
theorem dX5_worstSample_44 : decode cX5_worstSample 44 = .ok (.invokestatic 140, 3) := by decide +kernel
theorem dX5_worstSample_47 : decode cX5_worstSample 47 = .ok (.aload_n 0, 1) := by decide +kernel
theorem dX5_worstSample_48 : decode cX5_worstSample 48 = .ok (.getfield 25, 3) := by decide +kernel
theorem dX5_worstSample_51 : decode cX5_worstSample 51 = .ok (.bipush 48, 2) := by decide +kernel
theorem dX5_worstSample_53 : decode cX5_worstSample 53 = .ok (.iload_n 1, 1) := by decide +kernel
theorem dX5_worstSample_54 : decode cX5_worstSample 54 = .ok (.imul, 1) := by decide +kernel
theorem dX5_worstSample_55 : decode cX5_worstSample 55 = .ok (.iload_n 2, 1) := by decide +kernel
theorem dX5_worstSample_56 : decode cX5_worstSample 56 = .ok (.iadd, 1) := by decide +kernel
theorem dX5_worstSample_57 : decode cX5_worstSample 57 = .ok (.iaload, 1) := by decide +kernel
theorem dX5_worstSample_58 : decode cX5_worstSample 58 = .ok (.invokestatic 140, 3) := by decide +kernel
theorem dX5_worstSample_61 : decode cX5_worstSample 61 = .ok (.if_icmp .le 7, 3) := by decide +kernel
theorem dX5_worstSample_64 : decode cX5_worstSample 64 = .ok (.iload_n 3, 1) := by decide +kernel
theorem dX5_worstSample_65 : decode cX5_worstSample 65 = .ok (.goto 4, 3) := by decide +kernel
theorem dX5_worstSample_68 : decode cX5_worstSample 68 = .ok (.iload_n 2, 1) := by decide +kernel
theorem dX5_worstSample_69 : decode cX5_worstSample 69 = .ok (.istore_n 2, 1) := by decide +kernel
theorem dX5_worstSample_70 : decode cX5_worstSample 70 = .ok (.iinc 3 1, 3) := by decide +kernel
theorem dX5_worstSample_73 : decode cX5_worstSample 73 = .ok (.goto (-48), 3) := by decide +kernel
theorem dX5_worstSample_76 : decode cX5_worstSample 76 = .ok (.iload_n 2, 1) := by decide +kernel
theorem dX5_worstSample_77 : decode cX5_worstSample 77 = .ok (.ireturn, 1) := by decide +kernel
theorem dX5_energy_0 : decode cX5_energy 0 = .ok (.iload_n 1, 1) := by decide +kernel
theorem dX5_energy_1 : decode cX5_energy 1 = .ok (.invokestatic 170, 3) := by decide +kernel
theorem dX5_energy_4 : decode cX5_energy 4 = .ok (.ifCond .eq 11, 3) := by decide +kernel
theorem dX5_energy_7 : decode cX5_energy 7 = .ok (.iload_n 1, 1) := by decide +kernel
theorem dX5_energy_8 : decode cX5_energy 8 = .ok (.aload_n 0, 1) := by decide +kernel
theorem dX5_energy_9 : decode cX5_energy 9 = .ok (.getfield 92, 3) := by decide +kernel
theorem dX5_energy_12 : decode cX5_energy 12 = .ok (.if_icmp .lt 20, 3) := by decide +kernel
theorem dX5_energy_15 : decode cX5_energy 15 = .ok (.iload_n 1, 1) := by decide +kernel
theorem dX5_energy_16 : decode cX5_energy 16 = .ok (.invokestatic 170, 3) := by decide +kernel
theorem dX5_energy_19 : decode cX5_energy 19 = .ok (.ifCond .eq 9, 3) := by decide +kernel
theorem dX5_energy_22 : decode cX5_energy 22 = .ok (.ldc2_w 173, 3) := by decide +kernel
theorem dX5_energy_25 : decode cX5_energy 25 = .ok (.goto 6, 3) := by decide +kernel
theorem dX5_energy_28 : decode cX5_energy 28 = .ok (.ldc2_w 175, 3) := by decide +kernel
theorem dX5_energy_31 : decode cX5_energy 31 = .ok (.lreturn, 1) := by decide +kernel
theorem dX5_energy_32 : decode cX5_energy 32 = .ok (.lconst 0, 1) := by decide +kernel
theorem dX5_energy_33 : decode cX5_energy 33 = .ok (.lstore_n 2, 1) := by decide +kernel
theorem dX5_energy_34 : decode cX5_energy 34 = .ok (.iconst 0, 1) := by decide +kernel
theorem dX5_energy_35 : decode cX5_energy 35 = .ok (.istore 4, 2) := by decide +kernel
theorem dX5_energy_37 : decode cX5_energy 37 = .ok (.iload 4, 2) := by decide +kernel
theorem dX5_energy_39 : decode cX5_energy 39 = .ok (.aload_n 0, 1) := by decide +kernel
theorem dX5_energy_40 : decode cX5_energy 40 = .ok (.getfield 47, 3) := by decide +kernel
theorem dX5_energy_43 : decode cX5_energy 43 = .ok (.if_icmp .ge 32, 3) := by decide +kernel
theorem dX5_energy_46 : decode cX5_energy 46 = .ok (.aload_n 0, 1) := by decide +kernel
theorem dX5_energy_47 : decode cX5_energy 47 = .ok (.getfield 25, 3) := by decide +kernel
theorem dX5_energy_50 : decode cX5_energy 50 = .ok (.bipush 48, 2) := by decide +kernel
theorem dX5_energy_52 : decode cX5_energy 52 = .ok (.iload_n 1, 1) := by decide +kernel
theorem dX5_energy_53 : decode cX5_energy 53 = .ok (.imul, 1) := by decide +kernel
theorem dX5_energy_54 : decode cX5_energy 54 = .ok (.iload 4, 2) := by decide +kernel
theorem dX5_energy_56 : decode cX5_energy 56 = .ok (.iadd, 1) := by decide +kernel
theorem dX5_energy_57 : decode cX5_energy 57 = .ok (.iaload, 1) := by decide +kernel
theorem dX5_energy_58 : decode cX5_energy 58 = .ok (.i2l, 1) := by decide +kernel
theorem dX5_energy_59 : decode cX5_energy 59 = .ok (.lstore 5, 2) := by decide +kernel
theorem dX5_energy_61 : decode cX5_energy 61 = .ok (.lload_n 2, 1) := by decide +kernel
theorem dX5_energy_62 : decode cX5_energy 62 = .ok (.lload 5, 2) := by decide +kernel
theorem dX5_energy_64 : decode cX5_energy 64 = .ok (.lload 5, 2) := by decide +kernel
theorem dX5_energy_66 : decode cX5_energy 66 = .ok (.lmul, 1) := by decide +kernel
theorem dX5_energy_67 : decode cX5_energy 67 = .ok (.ladd, 1) := by decide +kernel
theorem dX5_energy_68 : decode cX5_energy 68 = .ok (.lstore_n 2, 1) := by decide +kernel
theorem dX5_energy_69 : decode cX5_energy 69 = .ok (.iinc 4 1, 3) := by decide +kernel
theorem dX5_energy_72 : decode cX5_energy 72 = .ok (.goto (-35), 3) := by decide +kernel
theorem dX5_energy_75 : decode cX5_energy 75 = .ok (.lload_n 2, 1) := by decide +kernel
theorem dX5_energy_76 : decode cX5_energy 76 = .ok (.lreturn, 1) := by decide +kernel
theorem dX5_best_0 : decode cX5_best 0 = .ok (.iload_n 1, 1) := by decide +kernel
theorem dX5_best_1 : decode cX5_best 1 = .ok (.iconst 0, 1) := by decide +kernel
theorem dX5_best_2 : decode cX5_best 2 = .ok (.iconst 1, 1) := by decide +kernel
theorem dX5_best_3 : decode cX5_best 3 = .ok (.invokestatic 113, 3) := by decide +kernel
theorem dX5_best_6 : decode cX5_best 6 = .ok (.ifCond .ne 6, 3) := by decide +kernel
theorem dX5_best_9 : decode cX5_best 9 = .ok (.ldc 117, 2) := by decide +kernel
theorem dX5_best_11 : decode cX5_best 11 = .ok (.ireturn, 1) := by decide +kernel
theorem dX5_best_12 : decode cX5_best 12 = .ok (.aload_n 0, 1) := by decide +kernel
theorem dX5_best_13 : decode cX5_best 13 = .ok (.getfield 104, 3) := by decide +kernel
theorem dX5_best_16 : decode cX5_best 16 = .ok (.ifCond .ge 8, 3) := by decide +kernel
theorem dX5_best_19 : decode cX5_best 19 = .ok (.ldc 169, 2) := by decide +kernel
theorem dX5_best_21 : decode cX5_best 21 = .ok (.goto 18, 3) := by decide +kernel
theorem dX5_best_24 : decode cX5_best 24 = .ok (.iload_n 1, 1) := by decide +kernel
theorem dX5_best_25 : decode cX5_best 25 = .ok (.ifCond .ne 10, 3) := by decide +kernel
theorem dX5_best_28 : decode cX5_best 28 = .ok (.aload_n 0, 1) := by decide +kernel
theorem dX5_best_29 : decode cX5_best 29 = .ok (.getfield 161, 3) := by decide +kernel
theorem dX5_best_32 : decode cX5_best 32 = .ok (.goto 7, 3) := by decide +kernel
theorem dX5_best_35 : decode cX5_best 35 = .ok (.aload_n 0, 1) := by decide +kernel
theorem dX5_best_36 : decode cX5_best 36 = .ok (.getfield 104, 3) := by decide +kernel
theorem dX5_best_39 : decode cX5_best 39 = .ok (.ireturn, 1) := by decide +kernel
theorem dX5_bestInput_0 : decode cX5_bestInput 0 = .ok (.aload_n 0, 1) := by decide +kernel
theorem dX5_bestInput_1 : decode cX5_bestInput 1 = .ok (.iload_n 1, 1) := by decide +kernel
theorem dX5_bestInput_2 : decode cX5_bestInput 2 = .ok (.invokevirtual 118, 3) := by decide +kernel
theorem dX5_bestInput_5 : decode cX5_bestInput 5 = .ok (.ifCond .eq 8, 3) := by decide +kernel
theorem dX5_bestInput_8 : decode cX5_bestInput 8 = .ok (.ldc 117, 2) := by decide +kernel
theorem dX5_bestInput_10 : decode cX5_bestInput 10 = .ok (.goto 21, 3) := by decide +kernel
theorem dX5_bestInput_13 : decode cX5_bestInput 13 = .ok (.aload_n 0, 1) := by decide +kernel
theorem dX5_bestInput_14 : decode cX5_bestInput 14 = .ok (.getfield 104, 3) := by decide +kernel
theorem dX5_bestInput_17 : decode cX5_bestInput 17 = .ok (.ifCond .ge 8, 3) := by decide +kernel
theorem dX5_bestInput_20 : decode cX5_bestInput 20 = .ok (.ldc 169, 2) := by decide +kernel
theorem dX5_bestInput_22 : decode cX5_bestInput 22 = .ok (.goto 9, 3) := by decide +kernel
theorem dX5_bestInput_25 : decode cX5_bestInput 25 = .ok (.aload_n 0, 1) := by decide +kernel
theorem dX5_bestInput_26 : decode cX5_bestInput 26 = .ok (.getfield 37, 3) := by decide +kernel
theorem dX5_bestInput_29 : decode cX5_bestInput 29 = .ok (.iload_n 1, 1) := by decide +kernel
theorem dX5_bestInput_30 : decode cX5_bestInput 30 = .ok (.iaload, 1) := by decide +kernel
theorem dX5_bestInput_31 : decode cX5_bestInput 31 = .ok (.ireturn, 1) := by decide +kernel
theorem dX5_isSteady_0 : decode cX5_isSteady 0 = .ok (.aload_n 0, 1) := by decide +kernel
theorem dX5_isSteady_1 : decode cX5_isSteady 1 = .ok (.getfield 92, 3) := by decide +kernel
theorem dX5_isSteady_4 : decode cX5_isSteady 4 = .ok (.aload_n 0, 1) := by decide +kernel
theorem dX5_isSteady_5 : decode cX5_isSteady 5 = .ok (.getfield 76, 3) := by decide +kernel
theorem dX5_isSteady_8 : decode cX5_isSteady 8 = .ok (.if_icmp .lt 7, 3) := by decide +kernel
theorem dX5_isSteady_11 : decode cX5_isSteady 11 = .ok (.iconst 1, 1) := by decide +kernel
theorem dX5_isSteady_12 : decode cX5_isSteady 12 = .ok (.goto 4, 3) := by decide +kernel
theorem dX5_isSteady_15 : decode cX5_isSteady 15 = .ok (.iconst 0, 1) := by decide +kernel
theorem dX5_isSteady_16 : decode cX5_isSteady 16 = .ok (.istore_n 2, 1) := by decide +kernel
theorem dX5_isSteady_17 : decode cX5_isSteady 17 = .ok (.iconst 0, 1) := by decide +kernel
theorem dX5_isSteady_18 : decode cX5_isSteady 18 = .ok (.istore_n 3, 1) := by decide +kernel
theorem dX5_isSteady_19 : decode cX5_isSteady 19 = .ok (.iload_n 3, 1) := by decide +kernel
theorem dX5_isSteady_20 : decode cX5_isSteady 20 = .ok (.aload_n 0, 1) := by decide +kernel
theorem dX5_isSteady_21 : decode cX5_isSteady 21 = .ok (.getfield 76, 3) := by decide +kernel
theorem dX5_isSteady_24 : decode cX5_isSteady 24 = .ok (.if_icmp .ge 40, 3) := by decide +kernel
theorem dX5_isSteady_27 : decode cX5_isSteady 27 = .ok (.iload_n 2, 1) := by decide +kernel
theorem dX5_isSteady_28 : decode cX5_isSteady 28 = .ok (.ifCond .eq 36, 3) := by decide +kernel
theorem dX5_isSteady_31 : decode cX5_isSteady 31 = .ok (.aload_n 0, 1) := by decide +kernel
theorem dX5_isSteady_32 : decode cX5_isSteady 32 = .ok (.getfield 25, 3) := by decide +kernel
theorem dX5_isSteady_35 : decode cX5_isSteady 35 = .ok (.bipush 48, 2) := by decide +kernel
theorem dX5_isSteady_37 : decode cX5_isSteady 37 = .ok (.iload_n 3, 1) := by decide +kernel
theorem dX5_isSteady_38 : decode cX5_isSteady 38 = .ok (.imul, 1) := by decide +kernel
theorem dX5_isSteady_39 : decode cX5_isSteady 39 = .ok (.iload_n 1, 1) := by decide +kernel
theorem dX5_isSteady_40 : decode cX5_isSteady 40 = .ok (.iadd, 1) := by decide +kernel
theorem dX5_isSteady_41 : decode cX5_isSteady 41 = .ok (.iaload, 1) := by decide +kernel
theorem dX5_isSteady_42 : decode cX5_isSteady 42 = .ok (.invokestatic 140, 3) := by decide +kernel
theorem dX5_isSteady_45 : decode cX5_isSteady 45 = .ok (.aload_n 0, 1) := by decide +kernel
theorem dX5_isSteady_46 : decode cX5_isSteady 46 = .ok (.getfield 73, 3) := by decide +kernel
theorem dX5_isSteady_49 : decode cX5_isSteady 49 = .ok (.if_icmp .gt 7, 3) := by decide +kernel
theorem dX5_isSteady_52 : decode cX5_isSteady 52 = .ok (.iconst 1, 1) := by decide +kernel
theorem dX5_isSteady_53 : decode cX5_isSteady 53 = .ok (.goto 4, 3) := by decide +kernel
theorem dX5_isSteady_56 : decode cX5_isSteady 56 = .ok (.iconst 0, 1) := by decide +kernel
theorem dX5_isSteady_57 : decode cX5_isSteady 57 = .ok (.istore_n 2, 1) := by decide +kernel
theorem dX5_isSteady_58 : decode cX5_isSteady 58 = .ok (.iinc 3 1, 3) := by decide +kernel
theorem dX5_isSteady_61 : decode cX5_isSteady 61 = .ok (.goto (-42), 3) := by decide +kernel
theorem dX5_isSteady_64 : decode cX5_isSteady 64 = .ok (.iload_n 2, 1) := by decide +kernel
theorem dX5_isSteady_65 : decode cX5_isSteady 65 = .ok (.ireturn, 1) := by decide +kernel
theorem dX5_state_0 : decode cX5_state 0 = .ok (.aload_n 0, 1) := by decide +kernel
theorem dX5_state_1 : decode cX5_state 1 = .ok (.iload_n 1, 1) := by decide +kernel
theorem dX5_state_2 : decode cX5_state 2 = .ok (.invokevirtual 118, 3) := by decide +kernel
theorem dX5_state_5 : decode cX5_state 5 = .ok (.ifCond .eq 6, 3) := by decide +kernel
theorem dX5_state_8 : decode cX5_state 8 = .ok (.ldc 117, 2) := by decide +kernel
theorem dX5_state_10 : decode cX5_state 10 = .ok (.ireturn, 1) := by decide +kernel
theorem dX5_state_11 : decode cX5_state 11 = .ok (.aload_n 0, 1) := by decide +kernel
theorem dX5_state_12 : decode cX5_state 12 = .ok (.getfield 92, 3) := by decide +kernel
theorem dX5_state_15 : decode cX5_state 15 = .ok (.ifCond .ne 5, 3) := by decide +kernel
theorem dX5_state_18 : decode cX5_state 18 = .ok (.iconst 0, 1) := by decide +kernel
theorem dX5_state_19 : decode cX5_state 19 = .ok (.ireturn, 1) := by decide +kernel
theorem dX5_state_20 : decode cX5_state 20 = .ok (.aload_n 0, 1) := by decide +kernel
theorem dX5_state_21 : decode cX5_state 21 = .ok (.iload_n 1, 1) := by decide +kernel
theorem dX5_state_22 : decode cX5_state 22 = .ok (.invokevirtual 177, 3) := by decide +kernel
theorem dX5_state_25 : decode cX5_state 25 = .ok (.ifCond .eq 7, 3) := by decide +kernel
theorem dX5_state_28 : decode cX5_state 28 = .ok (.iconst 1, 1) := by decide +kernel
theorem dX5_state_29 : decode cX5_state 29 = .ok (.goto 40, 3) := by decide +kernel
theorem dX5_state_32 : decode cX5_state 32 = .ok (.aload_n 0, 1) := by decide +kernel
theorem dX5_state_33 : decode cX5_state 33 = .ok (.getfield 92, 3) := by decide +kernel
theorem dX5_state_36 : decode cX5_state 36 = .ok (.iconst 1, 1) := by decide +kernel
theorem dX5_state_37 : decode cX5_state 37 = .ok (.if_icmp .le 31, 3) := by decide +kernel
theorem dX5_state_40 : decode cX5_state 40 = .ok (.aload_n 0, 1) := by decide +kernel
theorem dX5_state_41 : decode cX5_state 41 = .ok (.getfield 25, 3) := by decide +kernel
theorem dX5_state_44 : decode cX5_state 44 = .ok (.iload_n 1, 1) := by decide +kernel
theorem dX5_state_45 : decode cX5_state 45 = .ok (.iaload, 1) := by decide +kernel
theorem dX5_state_46 : decode cX5_state 46 = .ok (.invokestatic 140, 3) := by decide +kernel
theorem dX5_state_49 : decode cX5_state 49 = .ok (.aload_n 0, 1) := by decide +kernel
theorem dX5_state_50 : decode cX5_state 50 = .ok (.getfield 25, 3) := by decide +kernel
theorem dX5_state_53 : decode cX5_state 53 = .ok (.bipush 48, 2) := by decide +kernel
theorem dX5_state_55 : decode cX5_state 55 = .ok (.iload_n 1, 1) := by decide +kernel
theorem dX5_state_56 : decode cX5_state 56 = .ok (.iadd, 1) := by decide +kernel
theorem dX5_state_57 : decode cX5_state 57 = .ok (.iaload, 1) := by decide +kernel
theorem dX5_state_58 : decode cX5_state 58 = .ok (.invokestatic 140, 3) := by decide +kernel
theorem dX5_state_61 : decode cX5_state 61 = .ok (.if_icmp .le 7, 3) := by decide +kernel
theorem dX5_state_64 : decode cX5_state 64 = .ok (.iconst 2, 1) := by decide +kernel
theorem dX5_state_65 : decode cX5_state 65 = .ok (.goto 4, 3) := by decide +kernel
theorem dX5_state_68 : decode cX5_state 68 = .ok (.iconst 3, 1) := by decide +kernel
theorem dX5_state_69 : decode cX5_state 69 = .ok (.ireturn, 1) := by decide +kernel
theorem dX5_convergedCount_0 : decode cX5_convergedCount 0 = .ok (.iconst 0, 1) := by decide +kernel
theorem dX5_convergedCount_1 : decode cX5_convergedCount 1 = .ok (.istore_n 1, 1) := by decide +kernel
theorem dX5_convergedCount_2 : decode cX5_convergedCount 2 = .ok (.iconst 0, 1) := by decide +kernel
theorem dX5_convergedCount_3 : decode cX5_convergedCount 3 = .ok (.istore_n 2, 1) := by decide +kernel
theorem dX5_convergedCount_4 : decode cX5_convergedCount 4 = .ok (.iload_n 2, 1) := by decide +kernel
theorem dX5_convergedCount_5 : decode cX5_convergedCount 5 = .ok (.aload_n 0, 1) := by decide +kernel
theorem dX5_convergedCount_6 : decode cX5_convergedCount 6 = .ok (.getfield 47, 3) := by decide +kernel
theorem dX5_convergedCount_9 : decode cX5_convergedCount 9 = .ok (.if_icmp .ge 25, 3) := by decide +kernel
theorem dX5_convergedCount_12 : decode cX5_convergedCount 12 = .ok (.iload_n 1, 1) := by decide +kernel
theorem dX5_convergedCount_13 : decode cX5_convergedCount 13 = .ok (.aload_n 0, 1) := by decide +kernel
theorem dX5_convergedCount_14 : decode cX5_convergedCount 14 = .ok (.iload_n 2, 1) := by decide +kernel
theorem dX5_convergedCount_15 : decode cX5_convergedCount 15 = .ok (.invokevirtual 177, 3) := by decide +kernel
theorem dX5_convergedCount_18 : decode cX5_convergedCount 18 = .ok (.ifCond .eq 7, 3) := by decide +kernel
theorem dX5_convergedCount_21 : decode cX5_convergedCount 21 = .ok (.iconst 1, 1) := by decide +kernel
theorem dX5_convergedCount_22 : decode cX5_convergedCount 22 = .ok (.goto 4, 3) := by decide +kernel
theorem dX5_convergedCount_25 : decode cX5_convergedCount 25 = .ok (.iconst 0, 1) := by decide +kernel
theorem dX5_convergedCount_26 : decode cX5_convergedCount 26 = .ok (.iadd, 1) := by decide +kernel
theorem dX5_convergedCount_27 : decode cX5_convergedCount 27 = .ok (.istore_n 1, 1) := by decide +kernel
theorem dX5_convergedCount_28 : decode cX5_convergedCount 28 = .ok (.iinc 2 1, 3) := by decide +kernel
theorem dX5_convergedCount_31 : decode cX5_convergedCount 31 = .ok (.goto (-27), 3) := by decide +kernel
theorem dX5_convergedCount_34 : decode cX5_convergedCount 34 = .ok (.iload_n 1, 1) := by decide +kernel
theorem dX5_convergedCount_35 : decode cX5_convergedCount 35 = .ok (.ireturn, 1) := by decide +kernel
theorem dX5_setPlant_0 : decode cX5_setPlant 0 = .ok (.iload_n 1, 1) := by decide +kernel
theorem dX5_setPlant_1 : decode cX5_setPlant 1 = .ok (.iconst 0, 1) := by decide +kernel
theorem dX5_setPlant_2 : decode cX5_setPlant 2 = .ok (.iconst 5, 1) := by decide +kernel
theorem dX5_setPlant_3 : decode cX5_setPlant 3 = .ok (.invokestatic 113, 3) := by decide +kernel
theorem dX5_setPlant_6 : decode cX5_setPlant 6 = .ok (.ifCond .eq 16, 3) := by decide +kernel
theorem dX5_setPlant_9 : decode cX5_setPlant 9 = .ok (.iload_n 2, 1) := by decide +kernel
theorem dX5_setPlant_10 : decode cX5_setPlant 10 = .ok (.sipush (-3000), 3) := by decide +kernel
theorem dX5_setPlant_13 : decode cX5_setPlant 13 = .ok (.sipush 3000, 3) := by decide +kernel
theorem dX5_setPlant_16 : decode cX5_setPlant 16 = .ok (.invokestatic 113, 3) := by decide +kernel
theorem dX5_setPlant_19 : decode cX5_setPlant 19 = .ok (.ifCond .ne 6, 3) := by decide +kernel
theorem dX5_setPlant_22 : decode cX5_setPlant 22 = .ok (.ldc 117, 2) := by decide +kernel
theorem dX5_setPlant_24 : decode cX5_setPlant 24 = .ok (.ireturn, 1) := by decide +kernel
theorem dX5_setPlant_25 : decode cX5_setPlant 25 = .ok (.aload_n 0, 1) := by decide +kernel
theorem dX5_setPlant_26 : decode cX5_setPlant 26 = .ok (.getfield 40, 3) := by decide +kernel
theorem dX5_setPlant_29 : decode cX5_setPlant 29 = .ok (.iload_n 1, 1) := by decide +kernel
theorem dX5_setPlant_30 : decode cX5_setPlant 30 = .ok (.iaload, 1) := by decide +kernel
theorem dX5_setPlant_31 : decode cX5_setPlant 31 = .ok (.istore_n 3, 1) := by decide +kernel
theorem dX5_setPlant_32 : decode cX5_setPlant 32 = .ok (.aload_n 0, 1) := by decide +kernel
theorem dX5_setPlant_33 : decode cX5_setPlant 33 = .ok (.getfield 40, 3) := by decide +kernel
theorem dX5_setPlant_36 : decode cX5_setPlant 36 = .ok (.iload_n 1, 1) := by decide +kernel
theorem dX5_setPlant_37 : decode cX5_setPlant 37 = .ok (.iload_n 2, 1) := by decide +kernel
theorem dX5_setPlant_38 : decode cX5_setPlant 38 = .ok (.iastore, 1) := by decide +kernel
theorem dX5_setPlant_39 : decode cX5_setPlant 39 = .ok (.iload_n 3, 1) := by decide +kernel
theorem dX5_setPlant_40 : decode cX5_setPlant 40 = .ok (.ireturn, 1) := by decide +kernel
theorem dX5_setDisturbance_0 : decode cX5_setDisturbance 0 = .ok (.iload_n 1, 1) := by decide +kernel
theorem dX5_setDisturbance_1 : decode cX5_setDisturbance 1 = .ok (.iconst 0, 1) := by decide +kernel
theorem dX5_setDisturbance_2 : decode cX5_setDisturbance 2 = .ok (.sipush 1000, 3) := by decide +kernel
theorem dX5_setDisturbance_5 : decode cX5_setDisturbance 5 = .ok (.invokestatic 113, 3) := by decide +kernel
theorem dX5_setDisturbance_8 : decode cX5_setDisturbance 8 = .ok (.ifCond .ne 6, 3) := by decide +kernel
theorem dX5_setDisturbance_11 : decode cX5_setDisturbance 11 = .ok (.ldc 117, 2) := by decide +kernel
theorem dX5_setDisturbance_13 : decode cX5_setDisturbance 13 = .ok (.ireturn, 1) := by decide +kernel
theorem dX5_setDisturbance_14 : decode cX5_setDisturbance 14 = .ok (.aload_n 0, 1) := by decide +kernel
theorem dX5_setDisturbance_15 : decode cX5_setDisturbance 15 = .ok (.getfield 107, 3) := by decide +kernel
theorem dX5_setDisturbance_18 : decode cX5_setDisturbance 18 = .ok (.istore_n 3, 1) := by decide +kernel
theorem dX5_setDisturbance_19 : decode cX5_setDisturbance 19 = .ok (.aload_n 0, 1) := by decide +kernel
theorem dX5_setDisturbance_20 : decode cX5_setDisturbance 20 = .ok (.iload_n 1, 1) := by decide +kernel
theorem dX5_setDisturbance_21 : decode cX5_setDisturbance 21 = .ok (.putfield 107, 3) := by decide +kernel
theorem dX5_setDisturbance_24 : decode cX5_setDisturbance 24 = .ok (.aload_n 0, 1) := by decide +kernel
theorem dX5_setDisturbance_25 : decode cX5_setDisturbance 25 = .ok (.iload_n 2, 1) := by decide +kernel
theorem dX5_setDisturbance_26 : decode cX5_setDisturbance 26 = .ok (.putfield 110, 3) := by decide +kernel
theorem dX5_setDisturbance_29 : decode cX5_setDisturbance 29 = .ok (.iload_n 3, 1) := by decide +kernel
theorem dX5_setDisturbance_30 : decode cX5_setDisturbance 30 = .ok (.ireturn, 1) := by decide +kernel
theorem dX5_outputOf_0 : decode cX5_outputOf 0 = .ok (.lconst 0, 1) := by decide +kernel
theorem dX5_outputOf_1 : decode cX5_outputOf 1 = .ok (.lstore_n 2, 1) := by decide +kernel
theorem dX5_outputOf_2 : decode cX5_outputOf 2 = .ok (.iconst 0, 1) := by decide +kernel
theorem dX5_outputOf_3 : decode cX5_outputOf 3 = .ok (.istore 4, 2) := by decide +kernel
theorem dX5_outputOf_5 : decode cX5_outputOf 5 = .ok (.iload 4, 2) := by decide +kernel
theorem dX5_outputOf_7 : decode cX5_outputOf 7 = .ok (.bipush 6, 2) := by decide +kernel
theorem dX5_outputOf_9 : decode cX5_outputOf 9 = .ok (.if_icmp .ge 37, 3) := by decide +kernel
theorem dX5_outputOf_12 : decode cX5_outputOf 12 = .ok (.iload 4, 2) := by decide +kernel
theorem dX5_outputOf_14 : decode cX5_outputOf 14 = .ok (.iload_n 1, 1) := by decide +kernel
theorem dX5_outputOf_15 : decode cX5_outputOf 15 = .ok (.if_icmp .gt 31, 3) := by decide +kernel
theorem dX5_outputOf_18 : decode cX5_outputOf 18 = .ok (.lload_n 2, 1) := by decide +kernel
theorem dX5_outputOf_19 : decode cX5_outputOf 19 = .ok (.aload_n 0, 1) := by decide +kernel
theorem dX5_outputOf_20 : decode cX5_outputOf 20 = .ok (.getfield 40, 3) := by decide +kernel
theorem dX5_outputOf_23 : decode cX5_outputOf 23 = .ok (.iload 4, 2) := by decide +kernel
theorem dX5_outputOf_25 : decode cX5_outputOf 25 = .ok (.iaload, 1) := by decide +kernel
theorem dX5_outputOf_26 : decode cX5_outputOf 26 = .ok (.i2l, 1) := by decide +kernel
theorem dX5_outputOf_27 : decode cX5_outputOf 27 = .ok (.aload_n 0, 1) := by decide +kernel
theorem dX5_outputOf_28 : decode cX5_outputOf 28 = .ok (.getfield 13, 3) := by decide +kernel
theorem dX5_outputOf_31 : decode cX5_outputOf 31 = .ok (.iload_n 1, 1) := by decide +kernel
theorem dX5_outputOf_32 : decode cX5_outputOf 32 = .ok (.iload 4, 2) := by decide +kernel
theorem dX5_outputOf_34 : decode cX5_outputOf 34 = .ok (.isub, 1) := by decide +kernel
theorem dX5_outputOf_35 : decode cX5_outputOf 35 = .ok (.iaload, 1) := by decide +kernel
theorem dX5_outputOf_36 : decode cX5_outputOf 36 = .ok (.i2l, 1) := by decide +kernel
theorem dX5_outputOf_37 : decode cX5_outputOf 37 = .ok (.lmul, 1) := by decide +kernel
theorem dX5_outputOf_38 : decode cX5_outputOf 38 = .ok (.ladd, 1) := by decide +kernel
theorem dX5_outputOf_39 : decode cX5_outputOf 39 = .ok (.lstore_n 2, 1) := by decide +kernel
theorem dX5_outputOf_40 : decode cX5_outputOf 40 = .ok (.iinc 4 1, 3) := by decide +kernel
theorem dX5_outputOf_43 : decode cX5_outputOf 43 = .ok (.goto (-38), 3) := by decide +kernel
theorem dX5_outputOf_46 : decode cX5_outputOf 46 = .ok (.lload_n 2, 1) := by decide +kernel
theorem dX5_outputOf_47 : decode cX5_outputOf 47 = .ok (.ldc2_w 123, 3) := by decide +kernel
theorem dX5_outputOf_50 : decode cX5_outputOf 50 = .ok (.invokestatic 125, 3) := by decide +kernel
theorem dX5_outputOf_53 : decode cX5_outputOf 53 = .ok (.lstore 4, 2) := by decide +kernel
theorem dX5_outputOf_55 : decode cX5_outputOf 55 = .ok (.aload_n 0, 1) := by decide +kernel
theorem dX5_outputOf_56 : decode cX5_outputOf 56 = .ok (.getfield 107, 3) := by decide +kernel
theorem dX5_outputOf_59 : decode cX5_outputOf 59 = .ok (.ifCond .le 45, 3) := by decide +kernel
theorem dX5_outputOf_62 : decode cX5_outputOf 62 = .ok (.aload_n 0, 1) := by decide +kernel
theorem dX5_outputOf_63 : decode cX5_outputOf 63 = .ok (.aload_n 0, 1) := by decide +kernel
theorem dX5_outputOf_64 : decode cX5_outputOf 64 = .ok (.getfield 110, 3) := by decide +kernel
theorem dX5_outputOf_67 : decode cX5_outputOf 67 = .ok (.ldc 180, 2) := by decide +kernel
theorem dX5_outputOf_69 : decode cX5_outputOf 69 = .ok (.imul, 1) := by decide +kernel
theorem dX5_outputOf_70 : decode cX5_outputOf 70 = .ok (.sipush 12345, 3) := by decide +kernel
theorem dX5_outputOf_73 : decode cX5_outputOf 73 = .ok (.iadd, 1) := by decide +kernel
theorem dX5_outputOf_74 : decode cX5_outputOf 74 = .ok (.putfield 110, 3) := by decide +kernel
theorem dX5_outputOf_77 : decode cX5_outputOf 77 = .ok (.lload 4, 2) := by decide +kernel
theorem dX5_outputOf_79 : decode cX5_outputOf 79 = .ok (.aload_n 0, 1) := by decide +kernel
theorem dX5_outputOf_80 : decode cX5_outputOf 80 = .ok (.getfield 110, 3) := by decide +kernel
theorem dX5_outputOf_83 : decode cX5_outputOf 83 = .ok (.bipush 16, 2) := by decide +kernel
theorem dX5_outputOf_85 : decode cX5_outputOf 85 = .ok (.iushr, 1) := by decide +kernel
theorem dX5_outputOf_86 : decode cX5_outputOf 86 = .ok (.iconst 2, 1) := by decide +kernel
theorem dX5_outputOf_87 : decode cX5_outputOf 87 = .ok (.aload_n 0, 1) := by decide +kernel
theorem dX5_outputOf_88 : decode cX5_outputOf 88 = .ok (.getfield 107, 3) := by decide +kernel
theorem dX5_outputOf_91 : decode cX5_outputOf 91 = .ok (.imul, 1) := by decide +kernel
theorem dX5_outputOf_92 : decode cX5_outputOf 92 = .ok (.iconst 1, 1) := by decide +kernel
theorem dX5_outputOf_93 : decode cX5_outputOf 93 = .ok (.iadd, 1) := by decide +kernel
theorem dX5_outputOf_94 : decode cX5_outputOf 94 = .ok (.irem, 1) := by decide +kernel
theorem dX5_outputOf_95 : decode cX5_outputOf 95 = .ok (.aload_n 0, 1) := by decide +kernel
theorem dX5_outputOf_96 : decode cX5_outputOf 96 = .ok (.getfield 107, 3) := by decide +kernel
theorem dX5_outputOf_99 : decode cX5_outputOf 99 = .ok (.isub, 1) := by decide +kernel
theorem dX5_outputOf_100 : decode cX5_outputOf 100 = .ok (.i2l, 1) := by decide +kernel
theorem dX5_outputOf_101 : decode cX5_outputOf 101 = .ok (.ladd, 1) := by decide +kernel
theorem dX5_outputOf_102 : decode cX5_outputOf 102 = .ok (.lstore 4, 2) := by decide +kernel
theorem dX5_outputOf_104 : decode cX5_outputOf 104 = .ok (.lload 4, 2) := by decide +kernel
theorem dX5_outputOf_106 : decode cX5_outputOf 106 = .ok (.ldc 63, 2) := by decide +kernel
theorem dX5_outputOf_108 : decode cX5_outputOf 108 = .ok (.invokestatic 132, 3) := by decide +kernel
theorem dX5_outputOf_111 : decode cX5_outputOf 111 = .ok (.ireturn, 1) := by decide +kernel
theorem dX5_simulate_0 : decode cX5_simulate 0 = .ok (.iload_n 1, 1) := by decide +kernel
theorem dX5_simulate_1 : decode cX5_simulate 1 = .ok (.iconst 1, 1) := by decide +kernel
theorem dX5_simulate_2 : decode cX5_simulate 2 = .ok (.bipush 20, 2) := by decide +kernel
theorem dX5_simulate_4 : decode cX5_simulate 4 = .ok (.invokestatic 113, 3) := by decide +kernel
theorem dX5_simulate_7 : decode cX5_simulate 7 = .ok (.ifCond .ne 6, 3) := by decide +kernel
theorem dX5_simulate_10 : decode cX5_simulate 10 = .ok (.ldc 117, 2) := by decide +kernel
theorem dX5_simulate_12 : decode cX5_simulate 12 = .ok (.ireturn, 1) := by decide +kernel
theorem dX5_simulate_13 : decode cX5_simulate 13 = .ok (.aload_n 0, 1) := by decide +kernel
theorem dX5_simulate_14 : decode cX5_simulate 14 = .ok (.getfield 83, 3) := by decide +kernel
theorem dX5_simulate_17 : decode cX5_simulate 17 = .ok (.ifCond .eq 6, 3) := by decide +kernel
theorem dX5_simulate_20 : decode cX5_simulate 20 = .ok (.ldc 164, 2) := by decide +kernel
theorem dX5_simulate_22 : decode cX5_simulate 22 = .ok (.ireturn, 1) := by decide +kernel
theorem dX5_simulate_23 : decode cX5_simulate 23 = .ok (.iconst 0, 1) := by decide +kernel
theorem dX5_simulate_24 : decode cX5_simulate 24 = .ok (.istore_n 2, 1) := by decide +kernel
theorem dX5_simulate_25 : decode cX5_simulate 25 = .ok (.iload_n 2, 1) := by decide +kernel
theorem dX5_simulate_26 : decode cX5_simulate 26 = .ok (.iload_n 1, 1) := by decide +kernel
theorem dX5_simulate_27 : decode cX5_simulate 27 = .ok (.if_icmp .ge 37, 3) := by decide +kernel
theorem dX5_simulate_30 : decode cX5_simulate 30 = .ok (.aload_n 0, 1) := by decide +kernel
theorem dX5_simulate_31 : decode cX5_simulate 31 = .ok (.invokevirtual 181, 3) := by decide +kernel
theorem dX5_simulate_34 : decode cX5_simulate 34 = .ok (.pop, 1) := by decide +kernel
theorem dX5_simulate_35 : decode cX5_simulate 35 = .ok (.aload_n 0, 1) := by decide +kernel
theorem dX5_simulate_36 : decode cX5_simulate 36 = .ok (.getfield 83, 3) := by decide +kernel
theorem dX5_simulate_39 : decode cX5_simulate 39 = .ok (.ifCond .eq 19, 3) := by decide +kernel
theorem dX5_simulate_42 : decode cX5_simulate 42 = .ok (.aload_n 0, 1) := by decide +kernel
theorem dX5_simulate_43 : decode cX5_simulate 43 = .ok (.aload_n 0, 1) := by decide +kernel
theorem dX5_simulate_44 : decode cX5_simulate 44 = .ok (.aload_n 0, 1) := by decide +kernel
theorem dX5_simulate_45 : decode cX5_simulate 45 = .ok (.getfield 86, 3) := by decide +kernel
theorem dX5_simulate_48 : decode cX5_simulate 48 = .ok (.invokevirtual 184, 3) := by decide +kernel
theorem dX5_simulate_51 : decode cX5_simulate 51 = .ok (.invokevirtual 187, 3) := by decide +kernel
theorem dX5_simulate_54 : decode cX5_simulate 54 = .ok (.pop, 1) := by decide +kernel
theorem dX5_simulate_55 : decode cX5_simulate 55 = .ok (.goto (-20), 3) := by decide +kernel
theorem dX5_simulate_58 : decode cX5_simulate 58 = .ok (.iinc 2 1, 3) := by decide +kernel
theorem dX5_simulate_61 : decode cX5_simulate 61 = .ok (.goto (-36), 3) := by decide +kernel
theorem dX5_simulate_64 : decode cX5_simulate 64 = .ok (.aload_n 0, 1) := by decide +kernel
theorem dX5_simulate_65 : decode cX5_simulate 65 = .ok (.getfield 28, 3) := by decide +kernel
theorem dX5_simulate_68 : decode cX5_simulate 68 = .ok (.iconst 0, 1) := by decide +kernel
theorem dX5_simulate_69 : decode cX5_simulate 69 = .ok (.iaload, 1) := by decide +kernel
theorem dX5_simulate_70 : decode cX5_simulate 70 = .ok (.ireturn, 1) := by decide +kernel
theorem dX5_suits_0 : decode cX5_suits 0 = .ok (.lconst 0, 1) := by decide +kernel
theorem dX5_suits_1 : decode cX5_suits 1 = .ok (.lstore_n 1, 1) := by decide +kernel
theorem dX5_suits_2 : decode cX5_suits 2 = .ok (.iconst 0, 1) := by decide +kernel
theorem dX5_suits_3 : decode cX5_suits 3 = .ok (.istore_n 3, 1) := by decide +kernel
theorem dX5_suits_4 : decode cX5_suits 4 = .ok (.iload_n 3, 1) := by decide +kernel
theorem dX5_suits_5 : decode cX5_suits 5 = .ok (.bipush 6, 2) := by decide +kernel
theorem dX5_suits_7 : decode cX5_suits 7 = .ok (.if_icmp .ge 39, 3) := by decide +kernel
theorem dX5_suits_10 : decode cX5_suits 10 = .ok (.lload_n 1, 1) := by decide +kernel
theorem dX5_suits_11 : decode cX5_suits 11 = .ok (.iload_n 3, 1) := by decide +kernel
theorem dX5_suits_12 : decode cX5_suits 12 = .ok (.aload_n 0, 1) := by decide +kernel
theorem dX5_suits_13 : decode cX5_suits 13 = .ok (.getfield 54, 3) := by decide +kernel
theorem dX5_suits_16 : decode cX5_suits 16 = .ok (.if_icmp .ne 7, 3) := by decide +kernel
theorem dX5_suits_19 : decode cX5_suits 19 = .ok (.lconst 0, 1) := by decide +kernel
theorem dX5_suits_20 : decode cX5_suits 20 = .ok (.goto 18, 3) := by decide +kernel
theorem dX5_suits_23 : decode cX5_suits 23 = .ok (.aload_n 0, 1) := by decide +kernel
theorem dX5_suits_24 : decode cX5_suits 24 = .ok (.getfield 51, 3) := by decide +kernel
theorem dX5_suits_27 : decode cX5_suits 27 = .ok (.aload_n 0, 1) := by decide +kernel
theorem dX5_suits_28 : decode cX5_suits 28 = .ok (.getfield 40, 3) := by decide +kernel
theorem dX5_suits_31 : decode cX5_suits 31 = .ok (.iload_n 3, 1) := by decide +kernel
theorem dX5_suits_32 : decode cX5_suits 32 = .ok (.iaload, 1) := by decide +kernel
theorem dX5_suits_33 : decode cX5_suits 33 = .ok (.imul, 1) := by decide +kernel
theorem dX5_suits_34 : decode cX5_suits 34 = .ok (.invokestatic 140, 3) := by decide +kernel
theorem dX5_suits_37 : decode cX5_suits 37 = .ok (.i2l, 1) := by decide +kernel
theorem dX5_suits_38 : decode cX5_suits 38 = .ok (.ladd, 1) := by decide +kernel
theorem dX5_suits_39 : decode cX5_suits 39 = .ok (.lstore_n 1, 1) := by decide +kernel
theorem dX5_suits_40 : decode cX5_suits 40 = .ok (.iinc 3 1, 3) := by decide +kernel
theorem dX5_suits_43 : decode cX5_suits 43 = .ok (.goto (-39), 3) := by decide +kernel
theorem dX5_suits_46 : decode cX5_suits 46 = .ok (.ldc 63, 2) := by decide +kernel
theorem dX5_suits_48 : decode cX5_suits 48 = .ok (.aload_n 0, 1) := by decide +kernel
theorem dX5_suits_49 : decode cX5_suits 49 = .ok (.getfield 54, 3) := by decide +kernel
theorem dX5_suits_52 : decode cX5_suits 52 = .ok (.bipush 6, 2) := by decide +kernel
theorem dX5_suits_54 : decode cX5_suits 54 = .ok (.if_icmp .ge 20, 3) := by decide +kernel
theorem dX5_suits_57 : decode cX5_suits 57 = .ok (.aload_n 0, 1) := by decide +kernel
theorem dX5_suits_58 : decode cX5_suits 58 = .ok (.getfield 51, 3) := by decide +kernel
theorem dX5_suits_61 : decode cX5_suits 61 = .ok (.aload_n 0, 1) := by decide +kernel
theorem dX5_suits_62 : decode cX5_suits 62 = .ok (.getfield 40, 3) := by decide +kernel
theorem dX5_suits_65 : decode cX5_suits 65 = .ok (.aload_n 0, 1) := by decide +kernel
theorem dX5_suits_66 : decode cX5_suits 66 = .ok (.getfield 54, 3) := by decide +kernel
theorem dX5_suits_69 : decode cX5_suits 69 = .ok (.iaload, 1) := by decide +kernel
theorem dX5_suits_70 : decode cX5_suits 70 = .ok (.imul, 1) := by decide +kernel
theorem dX5_suits_71 : decode cX5_suits 71 = .ok (.goto 4, 3) := by decide +kernel
theorem dX5_suits_74 : decode cX5_suits 74 = .ok (.iconst 0, 1) := by decide +kernel
theorem dX5_suits_75 : decode cX5_suits 75 = .ok (.isub, 1) := by decide +kernel
theorem dX5_suits_76 : decode cX5_suits 76 = .ok (.istore_n 3, 1) := by decide +kernel
theorem dX5_suits_77 : decode cX5_suits 77 = .ok (.lload_n 1, 1) := by decide +kernel
theorem dX5_suits_78 : decode cX5_suits 78 = .ok (.iload_n 3, 1) := by decide +kernel
theorem dX5_suits_79 : decode cX5_suits 79 = .ok (.invokestatic 140, 3) := by decide +kernel
theorem dX5_suits_82 : decode cX5_suits 82 = .ok (.i2l, 1) := by decide +kernel
theorem dX5_suits_83 : decode cX5_suits 83 = .ok (.ladd, 1) := by decide +kernel
theorem dX5_suits_84 : decode cX5_suits 84 = .ok (.ldc2_w 190, 3) := by decide +kernel
theorem dX5_suits_87 : decode cX5_suits 87 = .ok (.lcmp, 1) := by decide +kernel
theorem dX5_suits_88 : decode cX5_suits 88 = .ok (.ifCond .gt 7, 3) := by decide +kernel
theorem dX5_suits_91 : decode cX5_suits 91 = .ok (.iconst 1, 1) := by decide +kernel
theorem dX5_suits_92 : decode cX5_suits 92 = .ok (.goto 4, 3) := by decide +kernel
theorem dX5_suits_95 : decode cX5_suits 95 = .ok (.iconst 0, 1) := by decide +kernel
theorem dX5_suits_96 : decode cX5_suits 96 = .ok (.ireturn, 1) := by decide +kernel
end
section
theorem dL_law_0 : decode cL_law 0 = .ok (.new 7, 3) := by decide +kernel
theorem dL_law_3 : decode cL_law 3 = .ok (.dup, 1) := by decide +kernel
theorem dL_law_4 : decode cL_law 4 = .ok (.invokespecial 9, 3) := by decide +kernel
theorem dL_law_7 : decode cL_law 7 = .ok (.astore_n 1, 1) := by decide +kernel
theorem dL_law_8 : decode cL_law 8 = .ok (.new 10, 3) := by decide +kernel
theorem dL_law_11 : decode cL_law 11 = .ok (.dup, 1) := by decide +kernel
theorem dL_law_12 : decode cL_law 12 = .ok (.invokespecial 12, 3) := by decide +kernel
theorem dL_law_15 : decode cL_law 15 = .ok (.astore_n 2, 1) := by decide +kernel
theorem dL_law_16 : decode cL_law 16 = .ok (.iconst 0, 1) := by decide +kernel
theorem dL_law_17 : decode cL_law 17 = .ok (.istore_n 3, 1) := by decide +kernel
theorem dL_law_18 : decode cL_law 18 = .ok (.iload_n 3, 1) := by decide +kernel
theorem dL_law_19 : decode cL_law 19 = .ok (.aload_n 0, 1) := by decide +kernel
theorem dL_law_20 : decode cL_law 20 = .ok (.arraylength, 1) := by decide +kernel
theorem dL_law_21 : decode cL_law 21 = .ok (.iconst 3, 1) := by decide +kernel
theorem dL_law_22 : decode cL_law 22 = .ok (.isub, 1) := by decide +kernel
theorem dL_law_23 : decode cL_law 23 = .ok (.if_icmp .gt 898, 3) := by decide +kernel
theorem dL_law_26 : decode cL_law 26 = .ok (.aload_n 0, 1) := by decide +kernel
theorem dL_law_27 : decode cL_law 27 = .ok (.iload_n 3, 1) := by decide +kernel
theorem dL_law_28 : decode cL_law 28 = .ok (.iaload, 1) := by decide +kernel
theorem dL_law_29 : decode cL_law 29 = .ok (.bipush 31, 2) := by decide +kernel
theorem dL_law_31 : decode cL_law 31 = .ok (.iand, 1) := by decide +kernel
theorem dL_law_32 : decode cL_law 32 = .ok (.tableswitch 883 0 29 #[136, 159, 192, 225, 258, 291, 314, 347, 386, 409, 422, 445, 458, 471, 494, 527, 550, 573, 606, 629, 652, 675, 699, 722, 745, 768, 781, 814, 847, 870], 136) := by decide +kernel
theorem dL_law_168 : decode cL_law 168 = .ok (.aload_n 1, 1) := by decide +kernel
theorem dL_law_169 : decode cL_law 169 = .ok (.aload_n 0, 1) := by decide +kernel
theorem dL_law_170 : decode cL_law 170 = .ok (.iload_n 3, 1) := by decide +kernel
theorem dL_law_171 : decode cL_law 171 = .ok (.iconst 1, 1) := by decide +kernel
theorem dL_law_172 : decode cL_law 172 = .ok (.iadd, 1) := by decide +kernel
theorem dL_law_173 : decode cL_law 173 = .ok (.iaload, 1) := by decide +kernel
theorem dL_law_174 : decode cL_law 174 = .ok (.invokevirtual 13, 3) := by decide +kernel
theorem dL_law_177 : decode cL_law 177 = .ok (.aload_n 2, 1) := by decide +kernel
theorem dL_law_178 : decode cL_law 178 = .ok (.aload_n 0, 1) := by decide +kernel
theorem dL_law_179 : decode cL_law 179 = .ok (.iload_n 3, 1) := by decide +kernel
theorem dL_law_180 : decode cL_law 180 = .ok (.iconst 1, 1) := by decide +kernel
theorem dL_law_181 : decode cL_law 181 = .ok (.iadd, 1) := by decide +kernel
theorem dL_law_182 : decode cL_law 182 = .ok (.iaload, 1) := by decide +kernel
theorem dL_law_183 : decode cL_law 183 = .ok (.invokevirtual 17, 3) := by decide +kernel
theorem dL_law_186 : decode cL_law 186 = .ok (.if_icmp .eq 729, 3) := by decide +kernel
theorem dL_law_189 : decode cL_law 189 = .ok (.iconst 0, 1) := by decide +kernel
theorem dL_law_190 : decode cL_law 190 = .ok (.ireturn, 1) := by decide +kernel
theorem dL_law_191 : decode cL_law 191 = .ok (.aload_n 1, 1) := by decide +kernel
theorem dL_law_192 : decode cL_law 192 = .ok (.aload_n 0, 1) := by decide +kernel
theorem dL_law_193 : decode cL_law 193 = .ok (.iload_n 3, 1) := by decide +kernel
theorem dL_law_194 : decode cL_law 194 = .ok (.iconst 1, 1) := by decide +kernel
theorem dL_law_195 : decode cL_law 195 = .ok (.iadd, 1) := by decide +kernel
theorem dL_law_196 : decode cL_law 196 = .ok (.iaload, 1) := by decide +kernel
theorem dL_law_197 : decode cL_law 197 = .ok (.aload_n 0, 1) := by decide +kernel
theorem dL_law_198 : decode cL_law 198 = .ok (.iload_n 3, 1) := by decide +kernel
theorem dL_law_199 : decode cL_law 199 = .ok (.iconst 2, 1) := by decide +kernel
theorem dL_law_200 : decode cL_law 200 = .ok (.iadd, 1) := by decide +kernel
theorem dL_law_201 : decode cL_law 201 = .ok (.iaload, 1) := by decide +kernel
theorem dL_law_202 : decode cL_law 202 = .ok (.invokevirtual 18, 3) := by decide +kernel
theorem dL_law_205 : decode cL_law 205 = .ok (.aload_n 2, 1) := by decide +kernel
theorem dL_law_206 : decode cL_law 206 = .ok (.aload_n 0, 1) := by decide +kernel
theorem dL_law_207 : decode cL_law 207 = .ok (.iload_n 3, 1) := by decide +kernel
theorem dL_law_208 : decode cL_law 208 = .ok (.iconst 1, 1) := by decide +kernel
theorem dL_law_209 : decode cL_law 209 = .ok (.iadd, 1) := by decide +kernel
theorem dL_law_210 : decode cL_law 210 = .ok (.iaload, 1) := by decide +kernel
theorem dL_law_211 : decode cL_law 211 = .ok (.aload_n 0, 1) := by decide +kernel
theorem dL_law_212 : decode cL_law 212 = .ok (.iload_n 3, 1) := by decide +kernel
theorem dL_law_213 : decode cL_law 213 = .ok (.iconst 2, 1) := by decide +kernel
theorem dL_law_214 : decode cL_law 214 = .ok (.iadd, 1) := by decide +kernel
theorem dL_law_215 : decode cL_law 215 = .ok (.iaload, 1) := by decide +kernel
theorem dL_law_216 : decode cL_law 216 = .ok (.invokevirtual 22, 3) := by decide +kernel
theorem dL_law_219 : decode cL_law 219 = .ok (.if_icmp .eq 696, 3) := by decide +kernel
theorem dL_law_222 : decode cL_law 222 = .ok (.iconst 0, 1) := by decide +kernel
theorem dL_law_223 : decode cL_law 223 = .ok (.ireturn, 1) := by decide +kernel
theorem dL_law_224 : decode cL_law 224 = .ok (.aload_n 1, 1) := by decide +kernel
theorem dL_law_225 : decode cL_law 225 = .ok (.aload_n 0, 1) := by decide +kernel
theorem dL_law_226 : decode cL_law 226 = .ok (.iload_n 3, 1) := by decide +kernel
theorem dL_law_227 : decode cL_law 227 = .ok (.iconst 1, 1) := by decide +kernel
theorem dL_law_228 : decode cL_law 228 = .ok (.iadd, 1) := by decide +kernel
theorem dL_law_229 : decode cL_law 229 = .ok (.iaload, 1) := by decide +kernel
theorem dL_law_230 : decode cL_law 230 = .ok (.aload_n 0, 1) := by decide +kernel
theorem dL_law_231 : decode cL_law 231 = .ok (.iload_n 3, 1) := by decide +kernel
theorem dL_law_232 : decode cL_law 232 = .ok (.iconst 2, 1) := by decide +kernel
theorem dL_law_233 : decode cL_law 233 = .ok (.iadd, 1) := by decide +kernel
theorem dL_law_234 : decode cL_law 234 = .ok (.iaload, 1) := by decide +kernel
theorem dL_law_235 : decode cL_law 235 = .ok (.invokevirtual 23, 3) := by decide +kernel
theorem dL_law_238 : decode cL_law 238 = .ok (.aload_n 2, 1) := by decide +kernel
theorem dL_law_239 : decode cL_law 239 = .ok (.aload_n 0, 1) := by decide +kernel
theorem dL_law_240 : decode cL_law 240 = .ok (.iload_n 3, 1) := by decide +kernel
theorem dL_law_241 : decode cL_law 241 = .ok (.iconst 1, 1) := by decide +kernel
theorem dL_law_242 : decode cL_law 242 = .ok (.iadd, 1) := by decide +kernel
theorem dL_law_243 : decode cL_law 243 = .ok (.iaload, 1) := by decide +kernel
theorem dL_law_244 : decode cL_law 244 = .ok (.aload_n 0, 1) := by decide +kernel
theorem dL_law_245 : decode cL_law 245 = .ok (.iload_n 3, 1) := by decide +kernel
theorem dL_law_246 : decode cL_law 246 = .ok (.iconst 2, 1) := by decide +kernel
theorem dL_law_247 : decode cL_law 247 = .ok (.iadd, 1) := by decide +kernel
theorem dL_law_248 : decode cL_law 248 = .ok (.iaload, 1) := by decide +kernel
theorem dL_law_249 : decode cL_law 249 = .ok (.invokevirtual 26, 3) := by decide +kernel
theorem dL_law_252 : decode cL_law 252 = .ok (.if_icmp .eq 663, 3) := by decide +kernel
theorem dL_law_255 : decode cL_law 255 = .ok (.iconst 0, 1) := by decide +kernel
theorem dL_law_256 : decode cL_law 256 = .ok (.ireturn, 1) := by decide +kernel
theorem dL_law_257 : decode cL_law 257 = .ok (.aload_n 1, 1) := by decide +kernel
theorem dL_law_258 : decode cL_law 258 = .ok (.aload_n 0, 1) := by decide +kernel
theorem dL_law_259 : decode cL_law 259 = .ok (.iload_n 3, 1) := by decide +kernel
theorem dL_law_260 : decode cL_law 260 = .ok (.iconst 1, 1) := by decide +kernel
theorem dL_law_261 : decode cL_law 261 = .ok (.iadd, 1) := by decide +kernel
theorem dL_law_262 : decode cL_law 262 = .ok (.iaload, 1) := by decide +kernel
theorem dL_law_263 : decode cL_law 263 = .ok (.aload_n 0, 1) := by decide +kernel
theorem dL_law_264 : decode cL_law 264 = .ok (.iload_n 3, 1) := by decide +kernel
theorem dL_law_265 : decode cL_law 265 = .ok (.iconst 2, 1) := by decide +kernel
theorem dL_law_266 : decode cL_law 266 = .ok (.iadd, 1) := by decide +kernel
theorem dL_law_267 : decode cL_law 267 = .ok (.iaload, 1) := by decide +kernel
theorem dL_law_268 : decode cL_law 268 = .ok (.invokevirtual 27, 3) := by decide +kernel
theorem dL_law_271 : decode cL_law 271 = .ok (.aload_n 2, 1) := by decide +kernel
theorem dL_law_272 : decode cL_law 272 = .ok (.aload_n 0, 1) := by decide +kernel
theorem dL_law_273 : decode cL_law 273 = .ok (.iload_n 3, 1) := by decide +kernel
theorem dL_law_274 : decode cL_law 274 = .ok (.iconst 1, 1) := by decide +kernel
theorem dL_law_275 : decode cL_law 275 = .ok (.iadd, 1) := by decide +kernel
theorem dL_law_276 : decode cL_law 276 = .ok (.iaload, 1) := by decide +kernel
theorem dL_law_277 : decode cL_law 277 = .ok (.aload_n 0, 1) := by decide +kernel
theorem dL_law_278 : decode cL_law 278 = .ok (.iload_n 3, 1) := by decide +kernel
theorem dL_law_279 : decode cL_law 279 = .ok (.iconst 2, 1) := by decide +kernel
theorem dL_law_280 : decode cL_law 280 = .ok (.iadd, 1) := by decide +kernel
theorem dL_law_281 : decode cL_law 281 = .ok (.iaload, 1) := by decide +kernel
theorem dL_law_282 : decode cL_law 282 = .ok (.invokevirtual 30, 3) := by decide +kernel
theorem dL_law_285 : decode cL_law 285 = .ok (.if_icmp .eq 630, 3) := by decide +kernel
theorem dL_law_288 : decode cL_law 288 = .ok (.iconst 0, 1) := by decide +kernel
theorem dL_law_289 : decode cL_law 289 = .ok (.ireturn, 1) := by decide +kernel
theorem dL_law_290 : decode cL_law 290 = .ok (.aload_n 1, 1) := by decide +kernel
theorem dL_law_291 : decode cL_law 291 = .ok (.aload_n 0, 1) := by decide +kernel
theorem dL_law_292 : decode cL_law 292 = .ok (.iload_n 3, 1) := by decide +kernel
theorem dL_law_293 : decode cL_law 293 = .ok (.iconst 1, 1) := by decide +kernel
theorem dL_law_294 : decode cL_law 294 = .ok (.iadd, 1) := by decide +kernel
theorem dL_law_295 : decode cL_law 295 = .ok (.iaload, 1) := by decide +kernel
theorem dL_law_296 : decode cL_law 296 = .ok (.aload_n 0, 1) := by decide +kernel
theorem dL_law_297 : decode cL_law 297 = .ok (.iload_n 3, 1) := by decide +kernel
theorem dL_law_298 : decode cL_law 298 = .ok (.iconst 2, 1) := by decide +kernel
theorem dL_law_299 : decode cL_law 299 = .ok (.iadd, 1) := by decide +kernel
theorem dL_law_300 : decode cL_law 300 = .ok (.iaload, 1) := by decide +kernel
theorem dL_law_301 : decode cL_law 301 = .ok (.invokevirtual 31, 3) := by decide +kernel
theorem dL_law_304 : decode cL_law 304 = .ok (.aload_n 2, 1) := by decide +kernel
theorem dL_law_305 : decode cL_law 305 = .ok (.aload_n 0, 1) := by decide +kernel
theorem dL_law_306 : decode cL_law 306 = .ok (.iload_n 3, 1) := by decide +kernel
theorem dL_law_307 : decode cL_law 307 = .ok (.iconst 1, 1) := by decide +kernel
theorem dL_law_308 : decode cL_law 308 = .ok (.iadd, 1) := by decide +kernel
theorem dL_law_309 : decode cL_law 309 = .ok (.iaload, 1) := by decide +kernel
theorem dL_law_310 : decode cL_law 310 = .ok (.aload_n 0, 1) := by decide +kernel
theorem dL_law_311 : decode cL_law 311 = .ok (.iload_n 3, 1) := by decide +kernel
theorem dL_law_312 : decode cL_law 312 = .ok (.iconst 2, 1) := by decide +kernel
theorem dL_law_313 : decode cL_law 313 = .ok (.iadd, 1) := by decide +kernel
theorem dL_law_314 : decode cL_law 314 = .ok (.iaload, 1) := by decide +kernel
theorem dL_law_315 : decode cL_law 315 = .ok (.invokevirtual 34, 3) := by decide +kernel
theorem dL_law_318 : decode cL_law 318 = .ok (.if_icmp .eq 597, 3) := by decide +kernel
theorem dL_law_321 : decode cL_law 321 = .ok (.iconst 0, 1) := by decide +kernel
theorem dL_law_322 : decode cL_law 322 = .ok (.ireturn, 1) := by decide +kernel
theorem dL_law_323 : decode cL_law 323 = .ok (.aload_n 1, 1) := by decide +kernel
theorem dL_law_324 : decode cL_law 324 = .ok (.aload_n 0, 1) := by decide +kernel
theorem dL_law_325 : decode cL_law 325 = .ok (.iload_n 3, 1) := by decide +kernel
theorem dL_law_326 : decode cL_law 326 = .ok (.iconst 1, 1) := by decide +kernel
theorem dL_law_327 : decode cL_law 327 = .ok (.iadd, 1) := by decide +kernel
theorem dL_law_328 : decode cL_law 328 = .ok (.iaload, 1) := by decide +kernel
theorem dL_law_329 : decode cL_law 329 = .ok (.invokevirtual 35, 3) := by decide +kernel
theorem dL_law_332 : decode cL_law 332 = .ok (.aload_n 2, 1) := by decide +kernel
theorem dL_law_333 : decode cL_law 333 = .ok (.aload_n 0, 1) := by decide +kernel
theorem dL_law_334 : decode cL_law 334 = .ok (.iload_n 3, 1) := by decide +kernel
theorem dL_law_335 : decode cL_law 335 = .ok (.iconst 1, 1) := by decide +kernel
theorem dL_law_336 : decode cL_law 336 = .ok (.iadd, 1) := by decide +kernel
theorem dL_law_337 : decode cL_law 337 = .ok (.iaload, 1) := by decide +kernel
theorem dL_law_338 : decode cL_law 338 = .ok (.invokevirtual 38, 3) := by decide +kernel
theorem dL_law_341 : decode cL_law 341 = .ok (.if_icmp .eq 574, 3) := by decide +kernel
theorem dL_law_344 : decode cL_law 344 = .ok (.iconst 0, 1) := by decide +kernel
theorem dL_law_345 : decode cL_law 345 = .ok (.ireturn, 1) := by decide +kernel
theorem dL_law_346 : decode cL_law 346 = .ok (.aload_n 1, 1) := by decide +kernel
theorem dL_law_347 : decode cL_law 347 = .ok (.aload_n 0, 1) := by decide +kernel
theorem dL_law_348 : decode cL_law 348 = .ok (.iload_n 3, 1) := by decide +kernel
theorem dL_law_349 : decode cL_law 349 = .ok (.iconst 1, 1) := by decide +kernel
theorem dL_law_350 : decode cL_law 350 = .ok (.iadd, 1) := by decide +kernel
theorem dL_law_351 : decode cL_law 351 = .ok (.iaload, 1) := by decide +kernel
theorem dL_law_352 : decode cL_law 352 = .ok (.aload_n 0, 1) := by decide +kernel
theorem dL_law_353 : decode cL_law 353 = .ok (.iload_n 3, 1) := by decide +kernel
theorem dL_law_354 : decode cL_law 354 = .ok (.iconst 2, 1) := by decide +kernel
theorem dL_law_355 : decode cL_law 355 = .ok (.iadd, 1) := by decide +kernel
theorem dL_law_356 : decode cL_law 356 = .ok (.iaload, 1) := by decide +kernel
theorem dL_law_357 : decode cL_law 357 = .ok (.invokevirtual 39, 3) := by decide +kernel
theorem dL_law_360 : decode cL_law 360 = .ok (.aload_n 2, 1) := by decide +kernel
theorem dL_law_361 : decode cL_law 361 = .ok (.aload_n 0, 1) := by decide +kernel
theorem dL_law_362 : decode cL_law 362 = .ok (.iload_n 3, 1) := by decide +kernel
theorem dL_law_363 : decode cL_law 363 = .ok (.iconst 1, 1) := by decide +kernel
theorem dL_law_364 : decode cL_law 364 = .ok (.iadd, 1) := by decide +kernel
theorem dL_law_365 : decode cL_law 365 = .ok (.iaload, 1) := by decide +kernel
theorem dL_law_366 : decode cL_law 366 = .ok (.aload_n 0, 1) := by decide +kernel
theorem dL_law_367 : decode cL_law 367 = .ok (.iload_n 3, 1) := by decide +kernel
theorem dL_law_368 : decode cL_law 368 = .ok (.iconst 2, 1) := by decide +kernel
theorem dL_law_369 : decode cL_law 369 = .ok (.iadd, 1) := by decide +kernel
theorem dL_law_370 : decode cL_law 370 = .ok (.iaload, 1) := by decide +kernel
theorem dL_law_371 : decode cL_law 371 = .ok (.invokevirtual 42, 3) := by decide +kernel
theorem dL_law_374 : decode cL_law 374 = .ok (.if_icmp .eq 541, 3) := by decide +kernel
theorem dL_law_377 : decode cL_law 377 = .ok (.iconst 0, 1) := by decide +kernel
theorem dL_law_378 : decode cL_law 378 = .ok (.ireturn, 1) := by decide +kernel
theorem dL_law_379 : decode cL_law 379 = .ok (.aload_n 1, 1) := by decide +kernel
theorem dL_law_380 : decode cL_law 380 = .ok (.aload_n 0, 1) := by decide +kernel
theorem dL_law_381 : decode cL_law 381 = .ok (.iload_n 3, 1) := by decide +kernel
theorem dL_law_382 : decode cL_law 382 = .ok (.iconst 1, 1) := by decide +kernel
theorem dL_law_383 : decode cL_law 383 = .ok (.iadd, 1) := by decide +kernel
theorem dL_law_384 : decode cL_law 384 = .ok (.iaload, 1) := by decide +kernel
theorem dL_law_385 : decode cL_law 385 = .ok (.ifCond .eq 7, 3) := by decide +kernel
theorem dL_law_388 : decode cL_law 388 = .ok (.iconst 1, 1) := by decide +kernel
theorem dL_law_389 : decode cL_law 389 = .ok (.goto 4, 3) := by decide +kernel
theorem dL_law_392 : decode cL_law 392 = .ok (.iconst 0, 1) := by decide +kernel
theorem dL_law_393 : decode cL_law 393 = .ok (.invokevirtual 43, 3) := by decide +kernel
theorem dL_law_396 : decode cL_law 396 = .ok (.aload_n 2, 1) := by decide +kernel
theorem dL_law_397 : decode cL_law 397 = .ok (.aload_n 0, 1) := by decide +kernel
theorem dL_law_398 : decode cL_law 398 = .ok (.iload_n 3, 1) := by decide +kernel
theorem dL_law_399 : decode cL_law 399 = .ok (.iconst 1, 1) := by decide +kernel
theorem dL_law_400 : decode cL_law 400 = .ok (.iadd, 1) := by decide +kernel
theorem dL_law_401 : decode cL_law 401 = .ok (.iaload, 1) := by decide +kernel
theorem dL_law_402 : decode cL_law 402 = .ok (.ifCond .eq 7, 3) := by decide +kernel
theorem dL_law_405 : decode cL_law 405 = .ok (.iconst 1, 1) := by decide +kernel
theorem dL_law_406 : decode cL_law 406 = .ok (.goto 4, 3) := by decide +kernel
theorem dL_law_409 : decode cL_law 409 = .ok (.iconst 0, 1) := by decide +kernel
theorem dL_law_410 : decode cL_law 410 = .ok (.invokevirtual 47, 3) := by decide +kernel
theorem dL_law_413 : decode cL_law 413 = .ok (.if_icmp .eq 502, 3) := by decide +kernel
theorem dL_law_416 : decode cL_law 416 = .ok (.iconst 0, 1) := by decide +kernel
theorem dL_law_417 : decode cL_law 417 = .ok (.ireturn, 1) := by decide +kernel
theorem dL_law_418 : decode cL_law 418 = .ok (.aload_n 1, 1) := by decide +kernel
theorem dL_law_419 : decode cL_law 419 = .ok (.aload_n 0, 1) := by decide +kernel
theorem dL_law_420 : decode cL_law 420 = .ok (.iload_n 3, 1) := by decide +kernel
theorem dL_law_421 : decode cL_law 421 = .ok (.iconst 1, 1) := by decide +kernel
theorem dL_law_422 : decode cL_law 422 = .ok (.iadd, 1) := by decide +kernel
theorem dL_law_423 : decode cL_law 423 = .ok (.iaload, 1) := by decide +kernel
theorem dL_law_424 : decode cL_law 424 = .ok (.invokevirtual 48, 3) := by decide +kernel
theorem dL_law_427 : decode cL_law 427 = .ok (.aload_n 2, 1) := by decide +kernel
theorem dL_law_428 : decode cL_law 428 = .ok (.aload_n 0, 1) := by decide +kernel
theorem dL_law_429 : decode cL_law 429 = .ok (.iload_n 3, 1) := by decide +kernel
theorem dL_law_430 : decode cL_law 430 = .ok (.iconst 1, 1) := by decide +kernel
theorem dL_law_431 : decode cL_law 431 = .ok (.iadd, 1) := by decide +kernel
theorem dL_law_432 : decode cL_law 432 = .ok (.iaload, 1) := by decide +kernel
theorem dL_law_433 : decode cL_law 433 = .ok (.invokevirtual 51, 3) := by decide +kernel
theorem dL_law_436 : decode cL_law 436 = .ok (.if_icmp .eq 479, 3) := by decide +kernel
theorem dL_law_439 : decode cL_law 439 = .ok (.iconst 0, 1) := by decide +kernel
theorem dL_law_440 : decode cL_law 440 = .ok (.ireturn, 1) := by decide +kernel
theorem dL_law_441 : decode cL_law 441 = .ok (.aload_n 1, 1) := by decide +kernel
theorem dL_law_442 : decode cL_law 442 = .ok (.invokevirtual 52, 3) := by decide +kernel
theorem dL_law_445 : decode cL_law 445 = .ok (.aload_n 2, 1) := by decide +kernel
theorem dL_law_446 : decode cL_law 446 = .ok (.invokevirtual 56, 3) := by decide +kernel
theorem dL_law_449 : decode cL_law 449 = .ok (.if_icmp .eq 466, 3) := by decide +kernel
theorem dL_law_452 : decode cL_law 452 = .ok (.iconst 0, 1) := by decide +kernel
theorem dL_law_453 : decode cL_law 453 = .ok (.ireturn, 1) := by decide +kernel
theorem dL_law_454 : decode cL_law 454 = .ok (.aload_n 1, 1) := by decide +kernel
theorem dL_law_455 : decode cL_law 455 = .ok (.aload_n 0, 1) := by decide +kernel
theorem dL_law_456 : decode cL_law 456 = .ok (.iload_n 3, 1) := by decide +kernel
theorem dL_law_457 : decode cL_law 457 = .ok (.iconst 1, 1) := by decide +kernel
theorem dL_law_458 : decode cL_law 458 = .ok (.iadd, 1) := by decide +kernel
theorem dL_law_459 : decode cL_law 459 = .ok (.iaload, 1) := by decide +kernel
theorem dL_law_460 : decode cL_law 460 = .ok (.invokevirtual 57, 3) := by decide +kernel
theorem dL_law_463 : decode cL_law 463 = .ok (.aload_n 2, 1) := by decide +kernel
theorem dL_law_464 : decode cL_law 464 = .ok (.aload_n 0, 1) := by decide +kernel
theorem dL_law_465 : decode cL_law 465 = .ok (.iload_n 3, 1) := by decide +kernel
theorem dL_law_466 : decode cL_law 466 = .ok (.iconst 1, 1) := by decide +kernel
theorem dL_law_467 : decode cL_law 467 = .ok (.iadd, 1) := by decide +kernel
theorem dL_law_468 : decode cL_law 468 = .ok (.iaload, 1) := by decide +kernel
theorem dL_law_469 : decode cL_law 469 = .ok (.invokevirtual 60, 3) := by decide +kernel
theorem dL_law_472 : decode cL_law 472 = .ok (.if_icmp .eq 443, 3) := by decide +kernel
theorem dL_law_475 : decode cL_law 475 = .ok (.iconst 0, 1) := by decide +kernel
theorem dL_law_476 : decode cL_law 476 = .ok (.ireturn, 1) := by decide +kernel
theorem dL_law_477 : decode cL_law 477 = .ok (.aload_n 1, 1) := by decide +kernel
theorem dL_law_478 : decode cL_law 478 = .ok (.invokevirtual 61, 3) := by decide +kernel
theorem dL_law_481 : decode cL_law 481 = .ok (.aload_n 2, 1) := by decide +kernel
theorem dL_law_482 : decode cL_law 482 = .ok (.invokevirtual 64, 3) := by decide +kernel
theorem dL_law_485 : decode cL_law 485 = .ok (.if_icmp .eq 430, 3) := by decide +kernel
theorem dL_law_488 : decode cL_law 488 = .ok (.iconst 0, 1) := by decide +kernel
theorem dL_law_489 : decode cL_law 489 = .ok (.ireturn, 1) := by decide +kernel
theorem dL_law_490 : decode cL_law 490 = .ok (.aload_n 1, 1) := by decide +kernel
theorem dL_law_491 : decode cL_law 491 = .ok (.invokevirtual 65, 3) := by decide +kernel
theorem dL_law_494 : decode cL_law 494 = .ok (.aload_n 2, 1) := by decide +kernel
theorem dL_law_495 : decode cL_law 495 = .ok (.invokevirtual 68, 3) := by decide +kernel
theorem dL_law_498 : decode cL_law 498 = .ok (.if_icmp .eq 417, 3) := by decide +kernel
theorem dL_law_501 : decode cL_law 501 = .ok (.iconst 0, 1) := by decide +kernel
theorem dL_law_502 : decode cL_law 502 = .ok (.ireturn, 1) := by decide +kernel
theorem dL_law_503 : decode cL_law 503 = .ok (.aload_n 1, 1) := by decide +kernel
theorem dL_law_504 : decode cL_law 504 = .ok (.aload_n 0, 1) := by decide +kernel
theorem dL_law_505 : decode cL_law 505 = .ok (.iload_n 3, 1) := by decide +kernel
theorem dL_law_506 : decode cL_law 506 = .ok (.iconst 1, 1) := by decide +kernel
theorem dL_law_507 : decode cL_law 507 = .ok (.iadd, 1) := by decide +kernel
theorem dL_law_508 : decode cL_law 508 = .ok (.iaload, 1) := by decide +kernel
theorem dL_law_509 : decode cL_law 509 = .ok (.invokevirtual 69, 3) := by decide +kernel
theorem dL_law_512 : decode cL_law 512 = .ok (.aload_n 2, 1) := by decide +kernel
theorem dL_law_513 : decode cL_law 513 = .ok (.aload_n 0, 1) := by decide +kernel
theorem dL_law_514 : decode cL_law 514 = .ok (.iload_n 3, 1) := by decide +kernel
theorem dL_law_515 : decode cL_law 515 = .ok (.iconst 1, 1) := by decide +kernel
theorem dL_law_516 : decode cL_law 516 = .ok (.iadd, 1) := by decide +kernel
theorem dL_law_517 : decode cL_law 517 = .ok (.iaload, 1) := by decide +kernel
theorem dL_law_518 : decode cL_law 518 = .ok (.invokevirtual 72, 3) := by decide +kernel
theorem dL_law_521 : decode cL_law 521 = .ok (.if_icmp .eq 394, 3) := by decide +kernel
theorem dL_law_524 : decode cL_law 524 = .ok (.iconst 0, 1) := by decide +kernel
theorem dL_law_525 : decode cL_law 525 = .ok (.ireturn, 1) := by decide +kernel
theorem dL_law_526 : decode cL_law 526 = .ok (.aload_n 1, 1) := by decide +kernel
theorem dL_law_527 : decode cL_law 527 = .ok (.aload_n 0, 1) := by decide +kernel
theorem dL_law_528 : decode cL_law 528 = .ok (.iload_n 3, 1) := by decide +kernel
theorem dL_law_529 : decode cL_law 529 = .ok (.iconst 1, 1) := by decide +kernel
theorem dL_law_530 : decode cL_law 530 = .ok (.iadd, 1) := by decide +kernel
theorem dL_law_531 : decode cL_law 531 = .ok (.iaload, 1) := by decide +kernel
theorem dL_law_532 : decode cL_law 532 = .ok (.aload_n 0, 1) := by decide +kernel
theorem dL_law_533 : decode cL_law 533 = .ok (.iload_n 3, 1) := by decide +kernel
theorem dL_law_534 : decode cL_law 534 = .ok (.iconst 2, 1) := by decide +kernel
theorem dL_law_535 : decode cL_law 535 = .ok (.iadd, 1) := by decide +kernel
theorem dL_law_536 : decode cL_law 536 = .ok (.iaload, 1) := by decide +kernel
theorem dL_law_537 : decode cL_law 537 = .ok (.invokevirtual 73, 3) := by decide +kernel
theorem dL_law_540 : decode cL_law 540 = .ok (.aload_n 2, 1) := by decide +kernel
theorem dL_law_541 : decode cL_law 541 = .ok (.aload_n 0, 1) := by decide +kernel
theorem dL_law_542 : decode cL_law 542 = .ok (.iload_n 3, 1) := by decide +kernel
theorem dL_law_543 : decode cL_law 543 = .ok (.iconst 1, 1) := by decide +kernel
theorem dL_law_544 : decode cL_law 544 = .ok (.iadd, 1) := by decide +kernel
theorem dL_law_545 : decode cL_law 545 = .ok (.iaload, 1) := by decide +kernel
theorem dL_law_546 : decode cL_law 546 = .ok (.aload_n 0, 1) := by decide +kernel
theorem dL_law_547 : decode cL_law 547 = .ok (.iload_n 3, 1) := by decide +kernel
theorem dL_law_548 : decode cL_law 548 = .ok (.iconst 2, 1) := by decide +kernel
theorem dL_law_549 : decode cL_law 549 = .ok (.iadd, 1) := by decide +kernel
theorem dL_law_550 : decode cL_law 550 = .ok (.iaload, 1) := by decide +kernel
theorem dL_law_551 : decode cL_law 551 = .ok (.invokevirtual 76, 3) := by decide +kernel
theorem dL_law_554 : decode cL_law 554 = .ok (.if_icmp .eq 361, 3) := by decide +kernel
theorem dL_law_557 : decode cL_law 557 = .ok (.iconst 0, 1) := by decide +kernel
theorem dL_law_558 : decode cL_law 558 = .ok (.ireturn, 1) := by decide +kernel
theorem dL_law_559 : decode cL_law 559 = .ok (.aload_n 1, 1) := by decide +kernel
theorem dL_law_560 : decode cL_law 560 = .ok (.aload_n 0, 1) := by decide +kernel
theorem dL_law_561 : decode cL_law 561 = .ok (.iload_n 3, 1) := by decide +kernel
theorem dL_law_562 : decode cL_law 562 = .ok (.iconst 1, 1) := by decide +kernel
theorem dL_law_563 : decode cL_law 563 = .ok (.iadd, 1) := by decide +kernel
theorem dL_law_564 : decode cL_law 564 = .ok (.iaload, 1) := by decide +kernel
theorem dL_law_565 : decode cL_law 565 = .ok (.invokevirtual 77, 3) := by decide +kernel
theorem dL_law_568 : decode cL_law 568 = .ok (.aload_n 2, 1) := by decide +kernel
theorem dL_law_569 : decode cL_law 569 = .ok (.aload_n 0, 1) := by decide +kernel
theorem dL_law_570 : decode cL_law 570 = .ok (.iload_n 3, 1) := by decide +kernel
theorem dL_law_571 : decode cL_law 571 = .ok (.iconst 1, 1) := by decide +kernel
theorem dL_law_572 : decode cL_law 572 = .ok (.iadd, 1) := by decide +kernel
theorem dL_law_573 : decode cL_law 573 = .ok (.iaload, 1) := by decide +kernel
theorem dL_law_574 : decode cL_law 574 = .ok (.invokevirtual 80, 3) := by decide +kernel
theorem dL_law_577 : decode cL_law 577 = .ok (.if_icmp .eq 338, 3) := by decide +kernel
theorem dL_law_580 : decode cL_law 580 = .ok (.iconst 0, 1) := by decide +kernel
theorem dL_law_581 : decode cL_law 581 = .ok (.ireturn, 1) := by decide +kernel
theorem dL_law_582 : decode cL_law 582 = .ok (.aload_n 1, 1) := by decide +kernel
theorem dL_law_583 : decode cL_law 583 = .ok (.aload_n 0, 1) := by decide +kernel
theorem dL_law_584 : decode cL_law 584 = .ok (.iload_n 3, 1) := by decide +kernel
theorem dL_law_585 : decode cL_law 585 = .ok (.iconst 1, 1) := by decide +kernel
theorem dL_law_586 : decode cL_law 586 = .ok (.iadd, 1) := by decide +kernel
theorem dL_law_587 : decode cL_law 587 = .ok (.iaload, 1) := by decide +kernel
theorem dL_law_588 : decode cL_law 588 = .ok (.invokevirtual 81, 3) := by decide +kernel
theorem dL_law_591 : decode cL_law 591 = .ok (.aload_n 2, 1) := by decide +kernel
theorem dL_law_592 : decode cL_law 592 = .ok (.aload_n 0, 1) := by decide +kernel
theorem dL_law_593 : decode cL_law 593 = .ok (.iload_n 3, 1) := by decide +kernel
theorem dL_law_594 : decode cL_law 594 = .ok (.iconst 1, 1) := by decide +kernel
theorem dL_law_595 : decode cL_law 595 = .ok (.iadd, 1) := by decide +kernel
theorem dL_law_596 : decode cL_law 596 = .ok (.iaload, 1) := by decide +kernel
theorem dL_law_597 : decode cL_law 597 = .ok (.invokevirtual 84, 3) := by decide +kernel
theorem dL_law_600 : decode cL_law 600 = .ok (.if_icmp .eq 315, 3) := by decide +kernel
theorem dL_law_603 : decode cL_law 603 = .ok (.iconst 0, 1) := by decide +kernel
theorem dL_law_604 : decode cL_law 604 = .ok (.ireturn, 1) := by decide +kernel
theorem dL_law_605 : decode cL_law 605 = .ok (.aload_n 1, 1) := by decide +kernel
theorem dL_law_606 : decode cL_law 606 = .ok (.aload_n 0, 1) := by decide +kernel
theorem dL_law_607 : decode cL_law 607 = .ok (.iload_n 3, 1) := by decide +kernel
theorem dL_law_608 : decode cL_law 608 = .ok (.iconst 1, 1) := by decide +kernel
theorem dL_law_609 : decode cL_law 609 = .ok (.iadd, 1) := by decide +kernel
theorem dL_law_610 : decode cL_law 610 = .ok (.iaload, 1) := by decide +kernel
theorem dL_law_611 : decode cL_law 611 = .ok (.aload_n 0, 1) := by decide +kernel
theorem dL_law_612 : decode cL_law 612 = .ok (.iload_n 3, 1) := by decide +kernel
theorem dL_law_613 : decode cL_law 613 = .ok (.iconst 2, 1) := by decide +kernel
theorem dL_law_614 : decode cL_law 614 = .ok (.iadd, 1) := by decide +kernel
theorem dL_law_615 : decode cL_law 615 = .ok (.iaload, 1) := by decide +kernel
theorem dL_law_616 : decode cL_law 616 = .ok (.invokevirtual 85, 3) := by decide +kernel
theorem dL_law_619 : decode cL_law 619 = .ok (.aload_n 2, 1) := by decide +kernel
theorem dL_law_620 : decode cL_law 620 = .ok (.aload_n 0, 1) := by decide +kernel
theorem dL_law_621 : decode cL_law 621 = .ok (.iload_n 3, 1) := by decide +kernel
theorem dL_law_622 : decode cL_law 622 = .ok (.iconst 1, 1) := by decide +kernel
theorem dL_law_623 : decode cL_law 623 = .ok (.iadd, 1) := by decide +kernel
theorem dL_law_624 : decode cL_law 624 = .ok (.iaload, 1) := by decide +kernel
theorem dL_law_625 : decode cL_law 625 = .ok (.aload_n 0, 1) := by decide +kernel
theorem dL_law_626 : decode cL_law 626 = .ok (.iload_n 3, 1) := by decide +kernel
theorem dL_law_627 : decode cL_law 627 = .ok (.iconst 2, 1) := by decide +kernel
theorem dL_law_628 : decode cL_law 628 = .ok (.iadd, 1) := by decide +kernel
theorem dL_law_629 : decode cL_law 629 = .ok (.iaload, 1) := by decide +kernel
theorem dL_law_630 : decode cL_law 630 = .ok (.invokevirtual 88, 3) := by decide +kernel
theorem dL_law_633 : decode cL_law 633 = .ok (.if_icmp .eq 282, 3) := by decide +kernel
theorem dL_law_636 : decode cL_law 636 = .ok (.iconst 0, 1) := by decide +kernel
theorem dL_law_637 : decode cL_law 637 = .ok (.ireturn, 1) := by decide +kernel
theorem dL_law_638 : decode cL_law 638 = .ok (.aload_n 1, 1) := by decide +kernel
theorem dL_law_639 : decode cL_law 639 = .ok (.aload_n 0, 1) := by decide +kernel
theorem dL_law_640 : decode cL_law 640 = .ok (.iload_n 3, 1) := by decide +kernel
theorem dL_law_641 : decode cL_law 641 = .ok (.iconst 1, 1) := by decide +kernel
theorem dL_law_642 : decode cL_law 642 = .ok (.iadd, 1) := by decide +kernel
theorem dL_law_643 : decode cL_law 643 = .ok (.iaload, 1) := by decide +kernel
theorem dL_law_644 : decode cL_law 644 = .ok (.invokevirtual 89, 3) := by decide +kernel
theorem dL_law_647 : decode cL_law 647 = .ok (.aload_n 2, 1) := by decide +kernel
theorem dL_law_648 : decode cL_law 648 = .ok (.aload_n 0, 1) := by decide +kernel
theorem dL_law_649 : decode cL_law 649 = .ok (.iload_n 3, 1) := by decide +kernel
theorem dL_law_650 : decode cL_law 650 = .ok (.iconst 1, 1) := by decide +kernel
theorem dL_law_651 : decode cL_law 651 = .ok (.iadd, 1) := by decide +kernel
theorem dL_law_652 : decode cL_law 652 = .ok (.iaload, 1) := by decide +kernel
theorem dL_law_653 : decode cL_law 653 = .ok (.invokevirtual 92, 3) := by decide +kernel
theorem dL_law_656 : decode cL_law 656 = .ok (.if_icmp .eq 259, 3) := by decide +kernel
theorem dL_law_659 : decode cL_law 659 = .ok (.iconst 0, 1) := by decide +kernel
theorem dL_law_660 : decode cL_law 660 = .ok (.ireturn, 1) := by decide +kernel
theorem dL_law_661 : decode cL_law 661 = .ok (.aload_n 1, 1) := by decide +kernel
theorem dL_law_662 : decode cL_law 662 = .ok (.aload_n 0, 1) := by decide +kernel
theorem dL_law_663 : decode cL_law 663 = .ok (.iload_n 3, 1) := by decide +kernel
theorem dL_law_664 : decode cL_law 664 = .ok (.iconst 1, 1) := by decide +kernel
theorem dL_law_665 : decode cL_law 665 = .ok (.iadd, 1) := by decide +kernel
theorem dL_law_666 : decode cL_law 666 = .ok (.iaload, 1) := by decide +kernel
theorem dL_law_667 : decode cL_law 667 = .ok (.invokevirtual 93, 3) := by decide +kernel
theorem dL_law_670 : decode cL_law 670 = .ok (.aload_n 2, 1) := by decide +kernel
theorem dL_law_671 : decode cL_law 671 = .ok (.aload_n 0, 1) := by decide +kernel
theorem dL_law_672 : decode cL_law 672 = .ok (.iload_n 3, 1) := by decide +kernel
theorem dL_law_673 : decode cL_law 673 = .ok (.iconst 1, 1) := by decide +kernel
theorem dL_law_674 : decode cL_law 674 = .ok (.iadd, 1) := by decide +kernel
theorem dL_law_675 : decode cL_law 675 = .ok (.iaload, 1) := by decide +kernel
theorem dL_law_676 : decode cL_law 676 = .ok (.invokevirtual 96, 3) := by decide +kernel
theorem dL_law_679 : decode cL_law 679 = .ok (.if_icmp .eq 236, 3) := by decide +kernel
theorem dL_law_682 : decode cL_law 682 = .ok (.iconst 0, 1) := by decide +kernel
theorem dL_law_683 : decode cL_law 683 = .ok (.ireturn, 1) := by decide +kernel
theorem dL_law_684 : decode cL_law 684 = .ok (.aload_n 1, 1) := by decide +kernel
theorem dL_law_685 : decode cL_law 685 = .ok (.aload_n 0, 1) := by decide +kernel
theorem dL_law_686 : decode cL_law 686 = .ok (.iload_n 3, 1) := by decide +kernel
theorem dL_law_687 : decode cL_law 687 = .ok (.iconst 1, 1) := by decide +kernel
theorem dL_law_688 : decode cL_law 688 = .ok (.iadd, 1) := by decide +kernel
theorem dL_law_689 : decode cL_law 689 = .ok (.iaload, 1) := by decide +kernel
theorem dL_law_690 : decode cL_law 690 = .ok (.invokevirtual 97, 3) := by decide +kernel
theorem dL_law_693 : decode cL_law 693 = .ok (.aload_n 2, 1) := by decide +kernel
theorem dL_law_694 : decode cL_law 694 = .ok (.aload_n 0, 1) := by decide +kernel
theorem dL_law_695 : decode cL_law 695 = .ok (.iload_n 3, 1) := by decide +kernel
theorem dL_law_696 : decode cL_law 696 = .ok (.iconst 1, 1) := by decide +kernel
theorem dL_law_697 : decode cL_law 697 = .ok (.iadd, 1) := by decide +kernel
theorem dL_law_698 : decode cL_law 698 = .ok (.iaload, 1) := by decide +kernel
theorem dL_law_699 : decode cL_law 699 = .ok (.invokevirtual 100, 3) := by decide +kernel
theorem dL_law_702 : decode cL_law 702 = .ok (.if_icmp .eq 213, 3) := by decide +kernel
theorem dL_law_705 : decode cL_law 705 = .ok (.iconst 0, 1) := by decide +kernel
theorem dL_law_706 : decode cL_law 706 = .ok (.ireturn, 1) := by decide +kernel
theorem dL_law_707 : decode cL_law 707 = .ok (.aload_n 1, 1) := by decide +kernel
theorem dL_law_708 : decode cL_law 708 = .ok (.aload_n 0, 1) := by decide +kernel
theorem dL_law_709 : decode cL_law 709 = .ok (.iload_n 3, 1) := by decide +kernel
theorem dL_law_710 : decode cL_law 710 = .ok (.iconst 1, 1) := by decide +kernel
theorem dL_law_711 : decode cL_law 711 = .ok (.iadd, 1) := by decide +kernel
theorem dL_law_712 : decode cL_law 712 = .ok (.iaload, 1) := by decide +kernel
theorem dL_law_713 : decode cL_law 713 = .ok (.invokevirtual 101, 3) := by decide +kernel
theorem dL_law_716 : decode cL_law 716 = .ok (.aload_n 2, 1) := by decide +kernel
theorem dL_law_717 : decode cL_law 717 = .ok (.aload_n 0, 1) := by decide +kernel
theorem dL_law_718 : decode cL_law 718 = .ok (.iload_n 3, 1) := by decide +kernel
theorem dL_law_719 : decode cL_law 719 = .ok (.iconst 1, 1) := by decide +kernel
theorem dL_law_720 : decode cL_law 720 = .ok (.iadd, 1) := by decide +kernel
theorem dL_law_721 : decode cL_law 721 = .ok (.iaload, 1) := by decide +kernel
theorem dL_law_722 : decode cL_law 722 = .ok (.invokevirtual 105, 3) := by decide +kernel
theorem dL_law_725 : decode cL_law 725 = .ok (.lcmp, 1) := by decide +kernel
theorem dL_law_726 : decode cL_law 726 = .ok (.ifCond .eq 189, 3) := by decide +kernel
theorem dL_law_729 : decode cL_law 729 = .ok (.iconst 0, 1) := by decide +kernel
theorem dL_law_730 : decode cL_law 730 = .ok (.ireturn, 1) := by decide +kernel
theorem dL_law_731 : decode cL_law 731 = .ok (.aload_n 1, 1) := by decide +kernel
theorem dL_law_732 : decode cL_law 732 = .ok (.aload_n 0, 1) := by decide +kernel
theorem dL_law_733 : decode cL_law 733 = .ok (.iload_n 3, 1) := by decide +kernel
theorem dL_law_734 : decode cL_law 734 = .ok (.iconst 1, 1) := by decide +kernel
theorem dL_law_735 : decode cL_law 735 = .ok (.iadd, 1) := by decide +kernel
theorem dL_law_736 : decode cL_law 736 = .ok (.iaload, 1) := by decide +kernel
theorem dL_law_737 : decode cL_law 737 = .ok (.invokevirtual 106, 3) := by decide +kernel
theorem dL_law_740 : decode cL_law 740 = .ok (.aload_n 2, 1) := by decide +kernel
theorem dL_law_741 : decode cL_law 741 = .ok (.aload_n 0, 1) := by decide +kernel
theorem dL_law_742 : decode cL_law 742 = .ok (.iload_n 3, 1) := by decide +kernel
theorem dL_law_743 : decode cL_law 743 = .ok (.iconst 1, 1) := by decide +kernel
theorem dL_law_744 : decode cL_law 744 = .ok (.iadd, 1) := by decide +kernel
theorem dL_law_745 : decode cL_law 745 = .ok (.iaload, 1) := by decide +kernel
theorem dL_law_746 : decode cL_law 746 = .ok (.invokevirtual 109, 3) := by decide +kernel
theorem dL_law_749 : decode cL_law 749 = .ok (.if_icmp .eq 166, 3) := by decide +kernel
theorem dL_law_752 : decode cL_law 752 = .ok (.iconst 0, 1) := by decide +kernel
theorem dL_law_753 : decode cL_law 753 = .ok (.ireturn, 1) := by decide +kernel
theorem dL_law_754 : decode cL_law 754 = .ok (.aload_n 1, 1) := by decide +kernel
theorem dL_law_755 : decode cL_law 755 = .ok (.aload_n 0, 1) := by decide +kernel
theorem dL_law_756 : decode cL_law 756 = .ok (.iload_n 3, 1) := by decide +kernel
theorem dL_law_757 : decode cL_law 757 = .ok (.iconst 1, 1) := by decide +kernel
theorem dL_law_758 : decode cL_law 758 = .ok (.iadd, 1) := by decide +kernel
theorem dL_law_759 : decode cL_law 759 = .ok (.iaload, 1) := by decide +kernel
theorem dL_law_760 : decode cL_law 760 = .ok (.invokevirtual 110, 3) := by decide +kernel
theorem dL_law_763 : decode cL_law 763 = .ok (.aload_n 2, 1) := by decide +kernel
theorem dL_law_764 : decode cL_law 764 = .ok (.aload_n 0, 1) := by decide +kernel
theorem dL_law_765 : decode cL_law 765 = .ok (.iload_n 3, 1) := by decide +kernel
theorem dL_law_766 : decode cL_law 766 = .ok (.iconst 1, 1) := by decide +kernel
theorem dL_law_767 : decode cL_law 767 = .ok (.iadd, 1) := by decide +kernel
theorem dL_law_768 : decode cL_law 768 = .ok (.iaload, 1) := by decide +kernel
theorem dL_law_769 : decode cL_law 769 = .ok (.invokevirtual 113, 3) := by decide +kernel
theorem dL_law_772 : decode cL_law 772 = .ok (.if_icmp .eq 143, 3) := by decide +kernel
theorem dL_law_775 : decode cL_law 775 = .ok (.iconst 0, 1) := by decide +kernel
theorem dL_law_776 : decode cL_law 776 = .ok (.ireturn, 1) := by decide +kernel
theorem dL_law_777 : decode cL_law 777 = .ok (.aload_n 1, 1) := by decide +kernel
theorem dL_law_778 : decode cL_law 778 = .ok (.aload_n 0, 1) := by decide +kernel
theorem dL_law_779 : decode cL_law 779 = .ok (.iload_n 3, 1) := by decide +kernel
theorem dL_law_780 : decode cL_law 780 = .ok (.iconst 1, 1) := by decide +kernel
theorem dL_law_781 : decode cL_law 781 = .ok (.iadd, 1) := by decide +kernel
theorem dL_law_782 : decode cL_law 782 = .ok (.iaload, 1) := by decide +kernel
theorem dL_law_783 : decode cL_law 783 = .ok (.invokevirtual 114, 3) := by decide +kernel
theorem dL_law_786 : decode cL_law 786 = .ok (.aload_n 2, 1) := by decide +kernel
theorem dL_law_787 : decode cL_law 787 = .ok (.aload_n 0, 1) := by decide +kernel
theorem dL_law_788 : decode cL_law 788 = .ok (.iload_n 3, 1) := by decide +kernel
theorem dL_law_789 : decode cL_law 789 = .ok (.iconst 1, 1) := by decide +kernel
theorem dL_law_790 : decode cL_law 790 = .ok (.iadd, 1) := by decide +kernel
theorem dL_law_791 : decode cL_law 791 = .ok (.iaload, 1) := by decide +kernel
theorem dL_law_792 : decode cL_law 792 = .ok (.invokevirtual 117, 3) := by decide +kernel
theorem dL_law_795 : decode cL_law 795 = .ok (.if_icmp .eq 120, 3) := by decide +kernel
theorem dL_law_798 : decode cL_law 798 = .ok (.iconst 0, 1) := by decide +kernel
theorem dL_law_799 : decode cL_law 799 = .ok (.ireturn, 1) := by decide +kernel
theorem dL_law_800 : decode cL_law 800 = .ok (.aload_n 1, 1) := by decide +kernel
theorem dL_law_801 : decode cL_law 801 = .ok (.invokevirtual 118, 3) := by decide +kernel
theorem dL_law_804 : decode cL_law 804 = .ok (.aload_n 2, 1) := by decide +kernel
theorem dL_law_805 : decode cL_law 805 = .ok (.invokevirtual 121, 3) := by decide +kernel
theorem dL_law_808 : decode cL_law 808 = .ok (.if_icmp .eq 107, 3) := by decide +kernel
theorem dL_law_811 : decode cL_law 811 = .ok (.iconst 0, 1) := by decide +kernel
theorem dL_law_812 : decode cL_law 812 = .ok (.ireturn, 1) := by decide +kernel
theorem dL_law_813 : decode cL_law 813 = .ok (.aload_n 1, 1) := by decide +kernel
theorem dL_law_814 : decode cL_law 814 = .ok (.aload_n 0, 1) := by decide +kernel
theorem dL_law_815 : decode cL_law 815 = .ok (.iload_n 3, 1) := by decide +kernel
theorem dL_law_816 : decode cL_law 816 = .ok (.iconst 1, 1) := by decide +kernel
theorem dL_law_817 : decode cL_law 817 = .ok (.iadd, 1) := by decide +kernel
theorem dL_law_818 : decode cL_law 818 = .ok (.iaload, 1) := by decide +kernel
theorem dL_law_819 : decode cL_law 819 = .ok (.aload_n 0, 1) := by decide +kernel
theorem dL_law_820 : decode cL_law 820 = .ok (.iload_n 3, 1) := by decide +kernel
theorem dL_law_821 : decode cL_law 821 = .ok (.iconst 2, 1) := by decide +kernel
theorem dL_law_822 : decode cL_law 822 = .ok (.iadd, 1) := by decide +kernel
theorem dL_law_823 : decode cL_law 823 = .ok (.iaload, 1) := by decide +kernel
theorem dL_law_824 : decode cL_law 824 = .ok (.invokevirtual 122, 3) := by decide +kernel
theorem dL_law_827 : decode cL_law 827 = .ok (.aload_n 2, 1) := by decide +kernel
theorem dL_law_828 : decode cL_law 828 = .ok (.aload_n 0, 1) := by decide +kernel
theorem dL_law_829 : decode cL_law 829 = .ok (.iload_n 3, 1) := by decide +kernel
theorem dL_law_830 : decode cL_law 830 = .ok (.iconst 1, 1) := by decide +kernel
theorem dL_law_831 : decode cL_law 831 = .ok (.iadd, 1) := by decide +kernel
theorem dL_law_832 : decode cL_law 832 = .ok (.iaload, 1) := by decide +kernel
theorem dL_law_833 : decode cL_law 833 = .ok (.aload_n 0, 1) := by decide +kernel
theorem dL_law_834 : decode cL_law 834 = .ok (.iload_n 3, 1) := by decide +kernel
theorem dL_law_835 : decode cL_law 835 = .ok (.iconst 2, 1) := by decide +kernel
theorem dL_law_836 : decode cL_law 836 = .ok (.iadd, 1) := by decide +kernel
theorem dL_law_837 : decode cL_law 837 = .ok (.iaload, 1) := by decide +kernel
theorem dL_law_838 : decode cL_law 838 = .ok (.invokevirtual 125, 3) := by decide +kernel
theorem dL_law_841 : decode cL_law 841 = .ok (.if_icmp .eq 74, 3) := by decide +kernel
theorem dL_law_844 : decode cL_law 844 = .ok (.iconst 0, 1) := by decide +kernel
theorem dL_law_845 : decode cL_law 845 = .ok (.ireturn, 1) := by decide +kernel
theorem dL_law_846 : decode cL_law 846 = .ok (.aload_n 1, 1) := by decide +kernel
theorem dL_law_847 : decode cL_law 847 = .ok (.aload_n 0, 1) := by decide +kernel
theorem dL_law_848 : decode cL_law 848 = .ok (.iload_n 3, 1) := by decide +kernel
theorem dL_law_849 : decode cL_law 849 = .ok (.iconst 1, 1) := by decide +kernel
theorem dL_law_850 : decode cL_law 850 = .ok (.iadd, 1) := by decide +kernel
theorem dL_law_851 : decode cL_law 851 = .ok (.iaload, 1) := by decide +kernel
theorem dL_law_852 : decode cL_law 852 = .ok (.aload_n 0, 1) := by decide +kernel
theorem dL_law_853 : decode cL_law 853 = .ok (.iload_n 3, 1) := by decide +kernel
theorem dL_law_854 : decode cL_law 854 = .ok (.iconst 2, 1) := by decide +kernel
theorem dL_law_855 : decode cL_law 855 = .ok (.iadd, 1) := by decide +kernel
theorem dL_law_856 : decode cL_law 856 = .ok (.iaload, 1) := by decide +kernel
theorem dL_law_857 : decode cL_law 857 = .ok (.invokevirtual 126, 3) := by decide +kernel
theorem dL_law_860 : decode cL_law 860 = .ok (.aload_n 2, 1) := by decide +kernel
theorem dL_law_861 : decode cL_law 861 = .ok (.aload_n 0, 1) := by decide +kernel
theorem dL_law_862 : decode cL_law 862 = .ok (.iload_n 3, 1) := by decide +kernel
theorem dL_law_863 : decode cL_law 863 = .ok (.iconst 1, 1) := by decide +kernel
theorem dL_law_864 : decode cL_law 864 = .ok (.iadd, 1) := by decide +kernel
theorem dL_law_865 : decode cL_law 865 = .ok (.iaload, 1) := by decide +kernel
theorem dL_law_866 : decode cL_law 866 = .ok (.aload_n 0, 1) := by decide +kernel
theorem dL_law_867 : decode cL_law 867 = .ok (.iload_n 3, 1) := by decide +kernel
theorem dL_law_868 : decode cL_law 868 = .ok (.iconst 2, 1) := by decide +kernel
theorem dL_law_869 : decode cL_law 869 = .ok (.iadd, 1) := by decide +kernel
theorem dL_law_870 : decode cL_law 870 = .ok (.iaload, 1) := by decide +kernel
theorem dL_law_871 : decode cL_law 871 = .ok (.invokevirtual 129, 3) := by decide +kernel
theorem dL_law_874 : decode cL_law 874 = .ok (.if_icmp .eq 41, 3) := by decide +kernel
theorem dL_law_877 : decode cL_law 877 = .ok (.iconst 0, 1) := by decide +kernel
theorem dL_law_878 : decode cL_law 878 = .ok (.ireturn, 1) := by decide +kernel
theorem dL_law_879 : decode cL_law 879 = .ok (.aload_n 1, 1) := by decide +kernel
theorem dL_law_880 : decode cL_law 880 = .ok (.aload_n 0, 1) := by decide +kernel
theorem dL_law_881 : decode cL_law 881 = .ok (.iload_n 3, 1) := by decide +kernel
theorem dL_law_882 : decode cL_law 882 = .ok (.iconst 1, 1) := by decide +kernel
theorem dL_law_883 : decode cL_law 883 = .ok (.iadd, 1) := by decide +kernel
theorem dL_law_884 : decode cL_law 884 = .ok (.iaload, 1) := by decide +kernel
theorem dL_law_885 : decode cL_law 885 = .ok (.invokevirtual 130, 3) := by decide +kernel
theorem dL_law_888 : decode cL_law 888 = .ok (.aload_n 2, 1) := by decide +kernel
theorem dL_law_889 : decode cL_law 889 = .ok (.aload_n 0, 1) := by decide +kernel
theorem dL_law_890 : decode cL_law 890 = .ok (.iload_n 3, 1) := by decide +kernel
theorem dL_law_891 : decode cL_law 891 = .ok (.iconst 1, 1) := by decide +kernel
theorem dL_law_892 : decode cL_law 892 = .ok (.iadd, 1) := by decide +kernel
theorem dL_law_893 : decode cL_law 893 = .ok (.iaload, 1) := by decide +kernel
theorem dL_law_894 : decode cL_law 894 = .ok (.invokevirtual 133, 3) := by decide +kernel
theorem dL_law_897 : decode cL_law 897 = .ok (.if_icmp .eq 18, 3) := by decide +kernel
theorem dL_law_900 : decode cL_law 900 = .ok (.iconst 0, 1) := by decide +kernel
theorem dL_law_901 : decode cL_law 901 = .ok (.ireturn, 1) := by decide +kernel
theorem dL_law_902 : decode cL_law 902 = .ok (.aload_n 1, 1) := by decide +kernel
theorem dL_law_903 : decode cL_law 903 = .ok (.invokevirtual 134, 3) := by decide +kernel
theorem dL_law_906 : decode cL_law 906 = .ok (.aload_n 2, 1) := by decide +kernel
theorem dL_law_907 : decode cL_law 907 = .ok (.invokevirtual 137, 3) := by decide +kernel
theorem dL_law_910 : decode cL_law 910 = .ok (.if_icmp .eq 5, 3) := by decide +kernel
theorem dL_law_913 : decode cL_law 913 = .ok (.iconst 0, 1) := by decide +kernel
theorem dL_law_914 : decode cL_law 914 = .ok (.ireturn, 1) := by decide +kernel
theorem dL_law_915 : decode cL_law 915 = .ok (.iinc 3 3, 3) := by decide +kernel
theorem dL_law_918 : decode cL_law 918 = .ok (.goto (-900), 3) := by decide +kernel
theorem dL_law_921 : decode cL_law 921 = .ok (.iconst 1, 1) := by decide +kernel
theorem dL_law_922 : decode cL_law 922 = .ok (.ireturn, 1) := by decide +kernel
end
section
/-! the words of a method: its code, and all the words of the law -/
def wM (y : MethodName) (b : ByteArray) (n : Nat) (r : Option FieldType) : List Cond := .code y b n r :: wsL_law
set_option maxRecDepth 100000 in
theorem lawGood : ∀ w ∈ wsL_law, (w.onTables && w.keeps) = true ∨ ∃ ty, w = .arrayClass ty := fun w h => good_of_word (List.all_eq_true.mp (show wsL_law.all goodWord = true by decide +kernel) w h)
theorem goodM {y : MethodName} {b : ByteArray} {n : Nat} {r : Option FieldType} (h : Cond.code y b n r ∈ wsL_law) : GoodIn wsL_law (wM y b n r) := fun w hw => by
  rcases List.mem_cons.mp hw with rfl | h2
  · exact ⟨h, lawGood _ h⟩
  · exact ⟨h2, lawGood _ h2⟩
theorem goodV {own C : String} {idx : Nat} {y : MethodName} {b : ByteArray} {n : Nat} {r : Option FieldType} (h1 : Cond.methodLink own idx y ∈ wsL_law) (h2 : Cond.instanceMethod y ∈ wsL_law) (h3 : Cond.selects C y y ∈ wsL_law) (h4 : Cond.initialized C ∈ wsL_law) (h : Cond.code y b n r ∈ wsL_law) : GoodIn wsL_law (wsV own idx C y (wM y b n r)) := fun w hw => by
  unfold wsV at hw
  rcases List.mem_append.mp hw with hw | hw
  · simp only [List.mem_cons, List.not_mem_nil, or_false] at hw
    rcases hw with rfl | rfl | rfl | rfl
    · exact ⟨h1, lawGood _ h1⟩
    · exact ⟨h2, lawGood _ h2⟩
    · exact ⟨h3, lawGood _ h3⟩
    · exact ⟨h4, lawGood _ h4⟩
  · exact goodM h w hw
theorem goodS {own : String} {idx : Nat} {y : MethodName} {b : ByteArray} {n : Nat} {r : Option FieldType} (h1 : Cond.methodLink own idx y ∈ wsL_law) (h2 : Cond.static y ∈ wsL_law) (h4 : Cond.initialized y.cls ∈ wsL_law) (h : Cond.code y b n r ∈ wsL_law) : GoodIn wsL_law (va_wsS own idx y (wM y b n r)) := fun w hw => by
  unfold va_wsS at hw
  rcases List.mem_append.mp hw with hw | hw
  · simp only [List.mem_cons, List.not_mem_nil, or_false] at hw
    rcases hw with rfl | rfl | rfl
    · exact ⟨h1, lawGood _ h1⟩
    · exact ⟨h2, lawGood _ h2⟩
    · exact ⟨h4, lawGood _ h4⟩
  · exact goodM h w hw
abbrev kT (cI cO : ClassId) : List (ClassId × FieldType) := [(cI, .int), (cO, .array .int)]
/-- the world of a frame: the tables, the cells, apart, nothing else changed since H0, what is new is free -/
def Wd (D : va_G) (tys : List (ClassId × FieldType)) (A : Nat → Prop) (H0 : Heap) (s : State) (ws : va_W) (H : Heap) (locs : List Loc) : Prop := va_K D vwCl tys s ∧ va_P D vwCl ws H ∧ va_D A ws ∧ va_S A H0 H locs ∧ ∀ q : Nat, H0.size ≤ q → A q
def mP (D : va_G) (tys : List (ClassId × FieldType)) (ws : va_W) (sz : Nat) (av : List Value) : Array Value → State → Prop := va_Pc av (fun U => U.heap.size = sz ∧ va_P D vwCl ws U.heap ∧ va_K D vwCl tys U ∧ va_D (fun _ => True) ws)
theorem mP_blind {D : va_G} {tys : List (ClassId × FieldType)} {ws : va_W} {sz : Nat} {av : List Value} : FrameBlind (mP D tys ws sz av) := fun a U g mk q => ⟨q.1, q.2.1, q.2.2.1, va_K.moved (u := U) (U := U.calling g mk a) (Vm.Alike.refl U.vm) q.2.2.2.1, q.2.2.2.2⟩
def mB (D : va_G) (tys : List (ClassId × FieldType)) (ws0 : va_W) (sz : Nat) (ws' : va_W) (t : State) : Prop := va_P D vwCl ws' t.heap ∧ va_K D vwCl tys t ∧ va_D (va_A ws0 sz) ws'
def mQi (D : va_G) (tys : List (ClassId × FieldType)) (ws0 : va_W) (sz : Nat) (ws' : va_W) (r : Int32) : Array Value → State → Outcome → State → Prop := va_Qi (S := Unit) (fun x _ => x = r) (fun _ t => mB D tys ws0 sz ws' t) (va_A ws0 sz)
def mQl (D : va_G) (tys : List (ClassId × FieldType)) (ws0 : va_W) (sz : Nat) (ws' : va_W) (r : Int64) : Array Value → State → Outcome → State → Prop := va_Ql (S := Unit) (fun x _ => x = r) (fun _ t => mB D tys ws0 sz ws' t) (va_A ws0 sz)
def mQv (D : va_G) (tys : List (ClassId × FieldType)) (ws0 : va_W) (sz : Nat) (ws' : va_W) : Array Value → State → Outcome → State → Prop := va_Qv (S := Unit) (fun _ => True) (fun _ t => mB D tys ws0 sz ws' t) (va_A ws0 sz)
def mQr (D : va_G) (tys : List (ClassId × FieldType)) (ws0 : va_W) (sz : Nat) (ws' : va_W) (r : Nat) : Array Value → State → Outcome → State → Prop := va_Qr (S := Unit) (fun _ => True) (fun _ a t => a = r ∧ mB D tys ws0 sz ws' t) (va_A ws0 sz)
def Mi (l : Launch) (y : MethodName) (b : ByteArray) (n : Nat) (ret : Option FieldType) (rm : Room) (D : va_G) (tys : List (ClassId × FieldType)) (ws : va_W) (av : List Value) (ws' : va_W) (r : Int32) : Prop := ∀ sz, Met l y (wM y b n ret) rm (mP D tys ws sz av) (mQi D tys ws sz ws' r) 0 0 (va_A ws sz)
def Ml (l : Launch) (y : MethodName) (b : ByteArray) (n : Nat) (ret : Option FieldType) (rm : Room) (D : va_G) (tys : List (ClassId × FieldType)) (ws : va_W) (av : List Value) (ws' : va_W) (r : Int64) : Prop := ∀ sz, Met l y (wM y b n ret) rm (mP D tys ws sz av) (mQl D tys ws sz ws' r) 0 0 (va_A ws sz)
def Mv (l : Launch) (y : MethodName) (b : ByteArray) (n : Nat) (ret : Option FieldType) (rm : Room) (D : va_G) (tys : List (ClassId × FieldType)) (ws : va_W) (av : List Value) (ws' : va_W) : Prop := ∀ sz, Met l y (wM y b n ret) rm (mP D tys ws sz av) (mQv D tys ws sz ws') 0 0 (va_A ws sz)
def Mr (l : Launch) (y : MethodName) (b : ByteArray) (n : Nat) (ret : Option FieldType) (rm : Room) (D : va_G) (tys : List (ClassId × FieldType)) (ws : va_W) (av : List Value) (ws' : va_W) (r : Nat) : Prop := ∀ sz, Met l y (wM y b n ret) rm (mP D tys ws sz av) (mQr D tys ws sz ws' r) 0 0 (va_A ws sz)
/-- a method's entry -/
theorem ent {l : Launch} {y : MethodName} {b : ByteArray} {n : Nat} {ret : Option FieldType} {rm : Room} {D : va_G} {tys : List (ClassId × FieldType)} {ws0 : va_W} {av : List Value} {sz : Nat} {Qc : Array Value → State → Outcome → State → Prop} {mc ms : Nat} (hy : plainFor y = true) (hn : (lg_sl av).length ≤ n)
    (body : ∀ (p : Program) (e : Env) (s : State) (m : MethodId) (below : List Frame) (meth : Method) (c : Code) (ls : Array Slot), CallFix p m c b n s av.toArray wsL_law y.cls → meth.sig.returnType = ret → meth.locks = false → meth.name = y.name → Wd D tys (va_A ws0 sz) s.heap s ws0 s.heap [] → s.heap.size = sz → lv_has ls n (lv_args 0 av) →
      W p l e rm s m av.toArray below meth c s.heap [] 0 0 (MQ below Qc av.toArray s mc ms (va_A ws0 sz)) (F0 m 0 ls [])) : Met l y (wM y b n ret) rm (mP D tys ws0 sz av) Qc mc ms (va_A ws0 sz) := by
  refine va_MetF (cc := b) (maxL := n) (ret := ret) hy rfl ?_
  intro p e s m args below meth c s₁ B hml hv
  obtain ⟨rfl, hsz, hP, hK, hD0⟩ := hv
  have hts := atoms_spec (ws := wM y b n ret) B.pre
  rw [lg_entry_eq]
  refine body p e s m below meth c _ ⟨B.exec, B.bytes, hml, findClass_of_methodNamed B.named, fun w h => hts w (List.mem_cons_of_mem _ h)⟩ B.returns B.notSynchronized (name_of_methodNamed B.named B.method).1 ⟨hK, hP, hD0.self, va_S.rf, fun q h => Or.inr (by rw [← hsz]; exact h)⟩ hsz (lv_entry av hn)
section BASE
variable {p : Program} {l : Launch} {e : Env} {R : Room} {s : State} {m : MethodId} {args : Array Value} {below : List Frame} {meth : Method} {c : Code} {H : Heap} {locs : List Loc} {cells slots : Nat} {Q : State → Prop}
variable {cc : ByteArray} {nL : Nat} {own : String} {pc : Nat} {ls : Array Slot} {rest : List Value} {D : va_G} {tys : List (ClassId × FieldType)} {cI cO : ClassId} {A : Nat → Prop} {H0 : Heap} {ws ws' : va_W} {a : Nat}
theorem x_eqi {x y : Int32} (h : x = y) (k : W p l e R s m args below meth c H locs cells slots Q (F0 m pc ls (.int y :: rest))) : W p l e R s m args below meth c H locs cells slots Q (F0 m pc ls (.int x :: rest)) := h ▸ k
theorem x_eql {x y : Int64} (h : x = y) (k : W p l e R s m args below meth c H locs cells slots Q (F0 m pc ls (.long y :: rest))) : W p l e R s m args below meth c H locs cells slots Q (F0 m pc ls (.long x :: rest)) := h ▸ k
theorem x_eqi2 {x y : Int32} {v : Value} (h : x = y) (k : W p l e R s m args below meth c H locs cells slots Q (F0 m pc ls (v :: .int y :: rest))) : W p l e R s m args below meth c H locs cells slots Q (F0 m pc ls (v :: .int x :: rest)) := h ▸ k
theorem Wd.to (h : Wd D tys A H0 s ws H locs) (e : ws = ws') : Wd D tys A H0 s ws' H locs := e ▸ h
theorem wd_own (w : Wd D tys A H0 s ws H locs) : ∀ q : Nat, va_A ws H.size q → A q := fun q h => h.elim (fun ⟨k, e, hk⟩ => w.2.2.1.2 k (q, e) hk) (fun h => w.2.2.2.2 q (Nat.le_trans w.2.2.2.1.1 h))
theorem x_iald (S : CallFix p m c cc nL s args wsL_law own) (w : Wd D tys A H0 s ws H locs) (q0 t0 : Nat) {n : Nat} {g : Nat → Int32} {x v : Int32} (j : Nat) (hj : j < n) (hx : x = nI j) (hn : n < 2 ^ 31) (he : ws[q0]? = some (a, .inl (cI, n, .inl g))) (ht : tys[t0]? = some (cI, .int)) (hv : g j = v) (hd : decode cc pc = .ok (.iaload, 1))
    (kk : W p l e R s m args below meth c H locs cells slots Q (F0 m (pc + 1) ls (.int v :: rest))) : W p l e R s m args below meth c H locs cells slots Q (F0 m pc ls (.int x :: .ref a :: rest)) := by
  subst hx
  subst hv
  have hc : (nI j).toNatClampNeg = j := nI_clamp (Nat.lt_trans hj hn)
  refine va_iald S.1 S.2.1 w.1 w.2.1 q0 t0 he ht (vp_in_nI hj hn) hd ?_
  rw [hc]
  exact kk
theorem x_iast (S : CallFix p m c cc nL s args wsL_law own) (w : Wd D tys A H0 s ws H locs) (q0 t0 : Nat) {n : Nat} {g : Nat → Int32} {x v : Int32} (j : Nat) (hj : j < n) (hx : x = nI j) (hn : n < 2 ^ 31) (he : ws[q0]? = some (a, .inl (cI, n, .inl g))) (ht : tys[t0]? = some (cI, .int)) (hw : ws.set q0 (a, .inl (cI, n, .inl (upd g j v))) = ws') (hd : decode cc pc = .ok (.iastore, 1))
    (kk : ∀ (H1 : Heap) (locs1 : List Loc), Wd D tys A H0 s ws' H1 locs1 → W p l e R s m args below meth c H1 locs1 cells slots Q (F0 m (pc + 1) ls rest)) : W p l e R s m args below meth c H locs cells slots Q (F0 m pc ls (.int v :: .int x :: .ref a :: rest)) := by
  subst hx
  have hc : (nI j).toNatClampNeg = j := nI_clamp (Nat.lt_trans hj hn)
  refine va_iast S.1 S.2.1 w.1 w.2.1 w.2.2.1 w.2.2.2.1 q0 t0 he ht (vp_in_nI hj hn) hd (fun H1 locs1 hP hD hS => ?_)
  rw [hc, hw] at hP hD
  exact kk H1 locs1 ⟨w.1, hP, hD, hS, w.2.2.2.2⟩
theorem x_aald (S : CallFix p m c cc nL s args wsL_law own) (w : Wd D tys A H0 s ws H locs) (q0 t0 : Nat) {n v : Nat} {g : Nat → Option Nat} {x : Int32} (j : Nat) (hj : j < n) (hx : x = nI j) (hn : n < 2 ^ 31) (he : ws[q0]? = some (a, .inl (cO, n, .inr (.inr (.inr (.inr g)))))) (ht : tys[t0]? = some (cO, .array .int)) (hv : g j = some v) (hd : decode cc pc = .ok (.aaload, 1))
    (kk : W p l e R s m args below meth c H locs cells slots Q (F0 m (pc + 1) ls (.ref v :: rest))) : W p l e R s m args below meth c H locs cells slots Q (F0 m pc ls (.int x :: .ref a :: rest)) := by
  subst hx
  have hc : (nI j).toNatClampNeg = j := nI_clamp (Nat.lt_trans hj hn)
  have hin : vp_in (nI j) n := vp_in_nI hj hn
  have e1 : va_rf (g j) = .ref v := by rw [hv]; rfl
  rw [← e1] at kk
  exact W.aald (v := va_rf (g j)) (ty := .array .int) S.1 S.2.1 (w.2.1 q0 _ he) ((w.1.2 t0 _ ht).1 n (fun j => va_rf (g j))) rfl (fun q => by cases q) (by show ¬ (nI j < 0 ∨ (arrV _ _ _).slots.size ≤ _); rw [arrV_size]; exact hin) (by show (arrV _ _ _).slots[_]? = _; rw [hc, arrV_read _ _ hj]) rfl rfl hd kk
theorem x_alen (S : CallFix p m c cc nL s args wsL_law own) (w : Wd D tys A H0 s ws H locs) (q0 t0 : Nat) {n : Nat} {g : Nat → Int32} (he : ws[q0]? = some (a, .inl (cI, n, .inl g))) (ht : tys[t0]? = some (cI, .int)) (hd : decode cc pc = .ok (.arraylength, 1))
    (kk : W p l e R s m args below meth c H locs cells slots Q (F0 m (pc + 1) ls (.int (nI n) :: rest))) : W p l e R s m args below meth c H locs cells slots Q (F0 m pc ls (.ref a :: rest)) :=
  va_alen S.1 S.2.1 w.1 w.2.1 q0 t0 he ht rfl hd kk
theorem x_copy (S : CallFix p m c cc nL s args wsL_law own) (w : Wd D tys A H0 s ws H locs) {index : Nat} (hlink : Cond.methodLink own index arraycopyName ∈ wsL_law) (hls : ls.size = nL) (q0 q1 t0 : Nat) {a0 : Nat} {n0 n1 : Nat} {f g : Nat → Int32} (ha0 : ws[q0]? = some (a0, .inl (cI, n0, .inl f))) (ha1 : ws[q1]? = some (a, .inl (cI, n1, .inl g))) (ht0 : tys[t0]? = some (cI, .int))
    {x : Int32} (n : Nat) (hx : x = nI n) (h4 : n ≤ n0) (h5 : n ≤ n1) (hn0 : n0 < 2 ^ 31) (hframes : 1 ≤ R.frames) (hlocals : (rest.map fun v => v.category).sum + (nativeFrameWords "java/lang/System" "arraycopy" 5 + 11) ≤ R.locals) (hw : ws.set q1 (a, .inl (cI, n1, .inl (va_cpy f g 0 0 n))) = ws') (hdg : decode cc pc = .ok (.invokestatic index, 3))
    (kk : ∀ (H1 : Heap) (locs1 : List Loc), Wd D tys A H0 s ws' H1 locs1 → W p l e R s m args below meth c H1 locs1 cells slots Q (F0 m (pc + 3) ls rest)) : W p l e R s m args below meth c H locs cells slots Q (F0 m pc ls (.int x :: .int 0 :: .ref a :: .int 0 :: .ref a0 :: rest)) := by
  subst hx
  have hc : (nI n).toNatClampNeg = n := nI_clamp (Nat.lt_of_le_of_lt h4 hn0)
  have h0 : (0 : Int32).toNatClampNeg = 0 := rfl
  have hm : ∀ w, w ∈ wsL_law → w.before args s = true := S.2.2.2.2
  refine va_copyi S.1 S.2.1 (S.2.2.1.trans hls.symm) S.2.2.2.1 (hm _ hlink) (hm _ (by decide +kernel)) (hm _ (by decide +kernel)) (hm _ (by decide +kernel)) w.1 w.2.1 w.2.2.1 w.2.2.2.1 q0 q1 t0 t0 ha0 ha1 ht0 ht0 rfl (by decide) (by decide) (nI_pos (Nat.lt_of_le_of_lt h4 hn0)) (by rw [hc, h0]; omega) (by rw [hc, h0]; omega) (fun i hi => rfl) hframes hlocals hdg (fun H1 locs1 hP hD hS => ?_)
  rw [hc, h0, hw] at hP hD
  exact kk H1 locs1 ⟨w.1, hP, hD, hS, w.2.2.2.2⟩
theorem x_mmax (S : CallFix p m c cc nL s args wsL_law own) {index : Nat} (hlink : Cond.methodLink own index Lib.Math.max.name ∈ wsL_law) (hls : ls.size = nL) (hframes : 1 ≤ R.frames) (hlocals : (rest.map fun v => v.category).sum + 13 ≤ R.locals) (hc : cells ≤ R.cells) (hs : slots ≤ R.slots) {x y v : Int32} (hv : (if x < y then y else x) = v) (hdg : decode cc pc = .ok (.invokestatic index, 3))
    (kk : W p l e R s m args below meth c H locs cells slots Q (F0 m (pc + 3) ls (.int v :: rest))) : W p l e R s m args below meth c H locs cells slots Q (F0 m pc ls (.int y :: .int x :: rest)) := by
  subst hv
  have hm : ∀ w, w ∈ wsL_law → w.before args s = true := S.2.2.2.2
  exact va_mmax S.1 S.2.1 (S.2.2.1.trans hls.symm) S.2.2.2.1 (hm _ hlink) (hm _ (by decide +kernel)) (hm _ (by decide +kernel)) (hm _ (by decide +kernel)) hframes hlocals hc hs hdg kk
theorem x_mmin (S : CallFix p m c cc nL s args wsL_law own) {index : Nat} (hlink : Cond.methodLink own index Lib.Math.min.name ∈ wsL_law) (hls : ls.size = nL) (hframes : 1 ≤ R.frames) (hlocals : (rest.map fun v => v.category).sum + 13 ≤ R.locals) (hc : cells ≤ R.cells) (hs : slots ≤ R.slots) {x y v : Int32} (hv : (if y < x then y else x) = v) (hdg : decode cc pc = .ok (.invokestatic index, 3))
    (kk : W p l e R s m args below meth c H locs cells slots Q (F0 m (pc + 3) ls (.int v :: rest))) : W p l e R s m args below meth c H locs cells slots Q (F0 m pc ls (.int y :: .int x :: rest)) := by
  subst hv
  have hm : ∀ w, w ∈ wsL_law → w.before args s = true := S.2.2.2.2
  exact va_mmin S.1 S.2.1 (S.2.2.1.trans hls.symm) S.2.2.2.1 (hm _ hlink) (hm _ (by decide +kernel)) (hm _ (by decide +kernel)) (hm _ (by decide +kernel)) hframes hlocals hc hs hdg kk
/-- the size of an int, as a class of ours may write it -/
def iabs (x : Int32) : Int32 := if x < 0 then -x else x
theorem iabs_eq (x : Int32) : (if 0 ≤ x then x else 0 - x) = iabs x := by
  unfold iabs
  by_cases h : x < 0
  · rw [if_pos h, if_neg (Int32.not_le.mpr h), Int32.zero_sub]
  · rw [if_neg h, if_pos (Int32.not_lt.mp h)]
theorem x_mabs (S : CallFix p m c cc nL s args wsL_law own) {index : Nat} (hlink : Cond.methodLink own index Lib.Math.abs.name ∈ wsL_law) (hls : ls.size = nL) (hframes : 1 ≤ R.frames) (hlocals : (rest.map fun v => v.category).sum + 13 ≤ R.locals) (hc : cells ≤ R.cells) (hs : slots ≤ R.slots) {x : Int32} (hdg : decode cc pc = .ok (.invokestatic index, 3))
    (kk : W p l e R s m args below meth c H locs cells slots Q (F0 m (pc + 3) ls (.int (iabs x) :: rest))) : W p l e R s m args below meth c H locs cells slots Q (F0 m pc ls (.int x :: rest)) := by
  have hm : ∀ w, w ∈ wsL_law → w.before args s = true := S.2.2.2.2
  rw [← iabs_eq] at kk
  exact va_mabs S.1 S.2.1 (S.2.2.1.trans hls.symm) S.2.2.2.1 (hm _ hlink) (hm _ (by decide +kernel)) (hm _ (by decide +kernel)) (hm _ (by decide +kernel)) hframes hlocals hc hs hdg kk
theorem x_ldc (S : CallFix p m c cc nL s args wsL_law own) {index : Nat} {v : Int32} (hk : Cond.constant own index v ∈ wsL_law) (hdg : decode cc pc = .ok (.ldc index, 2)) (k : W p l e R s m args below meth c H locs cells slots Q (F0 m (pc + 2) ls (.int v :: rest))) : W p l e R s m args below meth c H locs cells slots Q (F0 m pc ls rest) := lv_ldc S.1 S.2.1 S.2.2.2.1 (S.2.2.2.2 _ hk) hdg k
theorem x_ldcw (S : CallFix p m c cc nL s args wsL_law own) {index : Nat} {v : Int32} (hk : Cond.constant own index v ∈ wsL_law) (hdg : decode cc pc = .ok (.ldc_w index, 3)) (k : W p l e R s m args below meth c H locs cells slots Q (F0 m (pc + 3) ls (.int v :: rest))) : W p l e R s m args below meth c H locs cells slots Q (F0 m pc ls rest) := lv_ldcw S.1 S.2.1 S.2.2.2.1 (S.2.2.2.2 _ hk) hdg k
theorem x_ldc2 (S : CallFix p m c cc nL s args wsL_law own) {index : Nat} {v : Int64} (hk : Cond.constantLong own index v ∈ wsL_law) (hdg : decode cc pc = .ok (.ldc2_w index, 3)) (k : W p l e R s m args below meth c H locs cells slots Q (F0 m (pc + 3) ls (.long v :: rest))) : W p l e R s m args below meth c H locs cells slots Q (F0 m pc ls rest) := lv_ldc2 S.1 S.2.1 S.2.2.2.1 (S.2.2.2.2 _ hk) hdg k

theorem x_get0 (S : CallFix p m c cc nL s args wsL_law own) (w : Wd D tys A H0 s ws H locs) (q0 : Nat) {fs : List Value} (he : ws[q0]? = some (a, .inr (0, fs))) (k : Nat) (hk : k < 4) {index : Nat} (hl : Cond.fieldLink own index (TX0 k).1 (TX0 k).2.1 (TX0 k).2.2.1 ∈ wsL_law) {v : Value} (hv : fs[k]? = some v) (hd : decode cc pc = .ok (.getfield index, 3))
    (kk : W p l e R s m args below meth c H locs cells slots Q (F0 m (pc + 3) ls (v :: rest))) : W p l e R s m args below meth c H locs cells slots Q (F0 m pc ls (.ref a :: rest)) :=
  va_get (D := D) (ci := 0) (C := RX0) (T := TX0) (N := 4) S.1 S.2.1 S.2.2.2.2 inlX0 S.2.2.2.1 w.1 w.2.1 q0 he rfl k hk (S.2.2.2.2 _ hl) (fun _ h9 => h9) hv hd kk
theorem x_put0 (S : CallFix p m c cc nL s args wsL_law own) (w : Wd D tys A H0 s ws H locs) (q0 : Nat) {fs : List Value} (he : ws[q0]? = some (a, .inr (0, fs))) (k : Nat) (hk : k < 4) {index : Nat} (hl : Cond.fieldLink own index (TX0 k).1 (TX0 k).2.1 (TX0 k).2.2.1 ∈ wsL_law) (hfin : (TX0 k).2.2.2 = false) {v : Value} (hn : narrow (tyX0 k) v = v) (hfit : fits (tyX0 k) v = true) (hlen : k < fs.length) (hw : ws.set q0 (a, .inr (0, fs.set k v)) = ws') (hd : decode cc pc = .ok (.putfield index, 3))
    (kk : ∀ (H1 : Heap) (locs1 : List Loc), Wd D tys A H0 s ws' H1 locs1 → W p l e R s m args below meth c H1 locs1 cells slots Q (F0 m (pc + 3) ls rest)) : W p l e R s m args below meth c H locs cells slots Q (F0 m pc ls (v :: .ref a :: rest)) := by
  subst hw
  exact va_put (D := D) (ci := 0) (C := RX0) (T := TX0) (N := 4) S.1 S.2.1 S.2.2.2.2 inlX0 tyX0 tyX0_ok nmX0 S.2.2.2.1 w.1 w.2.1 w.2.2.1 w.2.2.2.1 q0 he rfl k hk (S.2.2.2.2 _ hl) (fun _ h9 => h9) hfin (tyX0_ok k hk) hn hfit hlen hd (fun H1 locs1 hP hD hS => kk H1 locs1 ⟨w.1, hP, hD, hS, w.2.2.2.2⟩)
theorem x_putF0 (S : CallFix p m c cc nL s args wsL_law own) (hin : meth.name = "<init>") (w : Wd D tys A H0 s ws H locs) (q0 : Nat) {fs : List Value} (he : ws[q0]? = some (a, .inr (0, fs))) (k : Nat) (hk : k < 4) {index : Nat} (hl : Cond.fieldLink own index (TX0 k).1 (TX0 k).2.1 (TX0 k).2.2.1 ∈ wsL_law) (hfin : (TX0 k).2.2.2 = true) (hdecl : (TX0 k).1 = own) {v : Value} (hn : narrow (tyX0 k) v = v) (hfit : fits (tyX0 k) v = true) (hlen : k < fs.length) (hw : ws.set q0 (a, .inr (0, fs.set k v)) = ws') (hd : decode cc pc = .ok (.putfield index, 3))
    (kk : ∀ (H1 : Heap) (locs1 : List Loc), Wd D tys A H0 s ws' H1 locs1 → W p l e R s m args below meth c H1 locs1 cells slots Q (F0 m (pc + 3) ls rest)) : W p l e R s m args below meth c H locs cells slots Q (F0 m pc ls (v :: .ref a :: rest)) := by
  subst hw
  exact va_putF (D := D) (ci := 0) (C := RX0) (T := TX0) (N := 4) S.1 S.2.1 S.2.2.2.2 inlX0 tyX0 tyX0_ok nmX0 S.2.2.2.1 w.1 w.2.1 w.2.2.1 w.2.2.2.1 q0 he rfl k hk (S.2.2.2.2 _ hl) (fun _ h9 => h9) hfin hin hdecl (tyX0_ok k hk) hn hfit hlen hd (fun H1 locs1 hP hD hS => kk H1 locs1 ⟨w.1, hP, hD, hS, w.2.2.2.2⟩)
theorem x_get1 (S : CallFix p m c cc nL s args wsL_law own) (w : Wd D tys A H0 s ws H locs) (q0 : Nat) {fs : List Value} (he : ws[q0]? = some (a, .inr (1, fs))) (k : Nat) (hk : k < 4) {index : Nat} (hl : Cond.fieldLink own index (TX1 k).1 (TX1 k).2.1 (TX1 k).2.2.1 ∈ wsL_law) {v : Value} (hv : fs[k]? = some v) (hd : decode cc pc = .ok (.getfield index, 3))
    (kk : W p l e R s m args below meth c H locs cells slots Q (F0 m (pc + 3) ls (v :: rest))) : W p l e R s m args below meth c H locs cells slots Q (F0 m pc ls (.ref a :: rest)) :=
  va_get (D := D) (ci := 1) (C := RX1) (T := TX1) (N := 4) S.1 S.2.1 S.2.2.2.2 inlX1 S.2.2.2.1 w.1 w.2.1 q0 he rfl k hk (S.2.2.2.2 _ hl) (fun _ h9 => h9) hv hd kk
theorem x_put1 (S : CallFix p m c cc nL s args wsL_law own) (w : Wd D tys A H0 s ws H locs) (q0 : Nat) {fs : List Value} (he : ws[q0]? = some (a, .inr (1, fs))) (k : Nat) (hk : k < 4) {index : Nat} (hl : Cond.fieldLink own index (TX1 k).1 (TX1 k).2.1 (TX1 k).2.2.1 ∈ wsL_law) (hfin : (TX1 k).2.2.2 = false) {v : Value} (hn : narrow (tyX1 k) v = v) (hfit : fits (tyX1 k) v = true) (hlen : k < fs.length) (hw : ws.set q0 (a, .inr (1, fs.set k v)) = ws') (hd : decode cc pc = .ok (.putfield index, 3))
    (kk : ∀ (H1 : Heap) (locs1 : List Loc), Wd D tys A H0 s ws' H1 locs1 → W p l e R s m args below meth c H1 locs1 cells slots Q (F0 m (pc + 3) ls rest)) : W p l e R s m args below meth c H locs cells slots Q (F0 m pc ls (v :: .ref a :: rest)) := by
  subst hw
  exact va_put (D := D) (ci := 1) (C := RX1) (T := TX1) (N := 4) S.1 S.2.1 S.2.2.2.2 inlX1 tyX1 tyX1_ok nmX1 S.2.2.2.1 w.1 w.2.1 w.2.2.1 w.2.2.2.1 q0 he rfl k hk (S.2.2.2.2 _ hl) (fun _ h9 => h9) hfin (tyX1_ok k hk) hn hfit hlen hd (fun H1 locs1 hP hD hS => kk H1 locs1 ⟨w.1, hP, hD, hS, w.2.2.2.2⟩)
theorem x_putF1 (S : CallFix p m c cc nL s args wsL_law own) (hin : meth.name = "<init>") (w : Wd D tys A H0 s ws H locs) (q0 : Nat) {fs : List Value} (he : ws[q0]? = some (a, .inr (1, fs))) (k : Nat) (hk : k < 4) {index : Nat} (hl : Cond.fieldLink own index (TX1 k).1 (TX1 k).2.1 (TX1 k).2.2.1 ∈ wsL_law) (hfin : (TX1 k).2.2.2 = true) (hdecl : (TX1 k).1 = own) {v : Value} (hn : narrow (tyX1 k) v = v) (hfit : fits (tyX1 k) v = true) (hlen : k < fs.length) (hw : ws.set q0 (a, .inr (1, fs.set k v)) = ws') (hd : decode cc pc = .ok (.putfield index, 3))
    (kk : ∀ (H1 : Heap) (locs1 : List Loc), Wd D tys A H0 s ws' H1 locs1 → W p l e R s m args below meth c H1 locs1 cells slots Q (F0 m (pc + 3) ls rest)) : W p l e R s m args below meth c H locs cells slots Q (F0 m pc ls (v :: .ref a :: rest)) := by
  subst hw
  exact va_putF (D := D) (ci := 1) (C := RX1) (T := TX1) (N := 4) S.1 S.2.1 S.2.2.2.2 inlX1 tyX1 tyX1_ok nmX1 S.2.2.2.1 w.1 w.2.1 w.2.2.1 w.2.2.2.1 q0 he rfl k hk (S.2.2.2.2 _ hl) (fun _ h9 => h9) hfin hin hdecl (tyX1_ok k hk) hn hfit hlen hd (fun H1 locs1 hP hD hS => kk H1 locs1 ⟨w.1, hP, hD, hS, w.2.2.2.2⟩)
theorem x_get2 (S : CallFix p m c cc nL s args wsL_law own) (w : Wd D tys A H0 s ws H locs) (q0 : Nat) {fs : List Value} (he : ws[q0]? = some (a, .inr (2, fs))) (k : Nat) (hk : k < 3) {index : Nat} (hl : Cond.fieldLink own index (TX2 k).1 (TX2 k).2.1 (TX2 k).2.2.1 ∈ wsL_law) {v : Value} (hv : fs[k]? = some v) (hd : decode cc pc = .ok (.getfield index, 3))
    (kk : W p l e R s m args below meth c H locs cells slots Q (F0 m (pc + 3) ls (v :: rest))) : W p l e R s m args below meth c H locs cells slots Q (F0 m pc ls (.ref a :: rest)) :=
  va_get (D := D) (ci := 2) (C := RX2) (T := TX2) (N := 3) S.1 S.2.1 S.2.2.2.2 inlX2 S.2.2.2.1 w.1 w.2.1 q0 he rfl k hk (S.2.2.2.2 _ hl) (fun _ h9 => h9) hv hd kk
theorem x_put2 (S : CallFix p m c cc nL s args wsL_law own) (w : Wd D tys A H0 s ws H locs) (q0 : Nat) {fs : List Value} (he : ws[q0]? = some (a, .inr (2, fs))) (k : Nat) (hk : k < 3) {index : Nat} (hl : Cond.fieldLink own index (TX2 k).1 (TX2 k).2.1 (TX2 k).2.2.1 ∈ wsL_law) (hfin : (TX2 k).2.2.2 = false) {v : Value} (hn : narrow (tyX2 k) v = v) (hfit : fits (tyX2 k) v = true) (hlen : k < fs.length) (hw : ws.set q0 (a, .inr (2, fs.set k v)) = ws') (hd : decode cc pc = .ok (.putfield index, 3))
    (kk : ∀ (H1 : Heap) (locs1 : List Loc), Wd D tys A H0 s ws' H1 locs1 → W p l e R s m args below meth c H1 locs1 cells slots Q (F0 m (pc + 3) ls rest)) : W p l e R s m args below meth c H locs cells slots Q (F0 m pc ls (v :: .ref a :: rest)) := by
  subst hw
  exact va_put (D := D) (ci := 2) (C := RX2) (T := TX2) (N := 3) S.1 S.2.1 S.2.2.2.2 inlX2 tyX2 tyX2_ok nmX2 S.2.2.2.1 w.1 w.2.1 w.2.2.1 w.2.2.2.1 q0 he rfl k hk (S.2.2.2.2 _ hl) (fun _ h9 => h9) hfin (tyX2_ok k hk) hn hfit hlen hd (fun H1 locs1 hP hD hS => kk H1 locs1 ⟨w.1, hP, hD, hS, w.2.2.2.2⟩)
theorem x_putF2 (S : CallFix p m c cc nL s args wsL_law own) (hin : meth.name = "<init>") (w : Wd D tys A H0 s ws H locs) (q0 : Nat) {fs : List Value} (he : ws[q0]? = some (a, .inr (2, fs))) (k : Nat) (hk : k < 3) {index : Nat} (hl : Cond.fieldLink own index (TX2 k).1 (TX2 k).2.1 (TX2 k).2.2.1 ∈ wsL_law) (hfin : (TX2 k).2.2.2 = true) (hdecl : (TX2 k).1 = own) {v : Value} (hn : narrow (tyX2 k) v = v) (hfit : fits (tyX2 k) v = true) (hlen : k < fs.length) (hw : ws.set q0 (a, .inr (2, fs.set k v)) = ws') (hd : decode cc pc = .ok (.putfield index, 3))
    (kk : ∀ (H1 : Heap) (locs1 : List Loc), Wd D tys A H0 s ws' H1 locs1 → W p l e R s m args below meth c H1 locs1 cells slots Q (F0 m (pc + 3) ls rest)) : W p l e R s m args below meth c H locs cells slots Q (F0 m pc ls (v :: .ref a :: rest)) := by
  subst hw
  exact va_putF (D := D) (ci := 2) (C := RX2) (T := TX2) (N := 3) S.1 S.2.1 S.2.2.2.2 inlX2 tyX2 tyX2_ok nmX2 S.2.2.2.1 w.1 w.2.1 w.2.2.1 w.2.2.2.1 q0 he rfl k hk (S.2.2.2.2 _ hl) (fun _ h9 => h9) hfin hin hdecl (tyX2_ok k hk) hn hfit hlen hd (fun H1 locs1 hP hD hS => kk H1 locs1 ⟨w.1, hP, hD, hS, w.2.2.2.2⟩)
theorem x_get3 (S : CallFix p m c cc nL s args wsL_law own) (w : Wd D tys A H0 s ws H locs) (q0 : Nat) {fs : List Value} (he : ws[q0]? = some (a, .inr (3, fs))) (k : Nat) (hk : k < 11) {index : Nat} (hl : Cond.fieldLink own index (TX3 k).1 (TX3 k).2.1 (TX3 k).2.2.1 ∈ wsL_law) {v : Value} (hv : fs[k]? = some v) (hd : decode cc pc = .ok (.getfield index, 3))
    (kk : W p l e R s m args below meth c H locs cells slots Q (F0 m (pc + 3) ls (v :: rest))) : W p l e R s m args below meth c H locs cells slots Q (F0 m pc ls (.ref a :: rest)) :=
  va_get (D := D) (ci := 3) (C := RX3) (T := TX3) (N := 11) S.1 S.2.1 S.2.2.2.2 inlX3 S.2.2.2.1 w.1 w.2.1 q0 he rfl k hk (S.2.2.2.2 _ hl) (fun _ h9 => h9) hv hd kk
theorem x_put3 (S : CallFix p m c cc nL s args wsL_law own) (w : Wd D tys A H0 s ws H locs) (q0 : Nat) {fs : List Value} (he : ws[q0]? = some (a, .inr (3, fs))) (k : Nat) (hk : k < 11) {index : Nat} (hl : Cond.fieldLink own index (TX3 k).1 (TX3 k).2.1 (TX3 k).2.2.1 ∈ wsL_law) (hfin : (TX3 k).2.2.2 = false) {v : Value} (hn : narrow (tyX3 k) v = v) (hfit : fits (tyX3 k) v = true) (hlen : k < fs.length) (hw : ws.set q0 (a, .inr (3, fs.set k v)) = ws') (hd : decode cc pc = .ok (.putfield index, 3))
    (kk : ∀ (H1 : Heap) (locs1 : List Loc), Wd D tys A H0 s ws' H1 locs1 → W p l e R s m args below meth c H1 locs1 cells slots Q (F0 m (pc + 3) ls rest)) : W p l e R s m args below meth c H locs cells slots Q (F0 m pc ls (v :: .ref a :: rest)) := by
  subst hw
  exact va_put (D := D) (ci := 3) (C := RX3) (T := TX3) (N := 11) S.1 S.2.1 S.2.2.2.2 inlX3 tyX3 tyX3_ok nmX3 S.2.2.2.1 w.1 w.2.1 w.2.2.1 w.2.2.2.1 q0 he rfl k hk (S.2.2.2.2 _ hl) (fun _ h9 => h9) hfin (tyX3_ok k hk) hn hfit hlen hd (fun H1 locs1 hP hD hS => kk H1 locs1 ⟨w.1, hP, hD, hS, w.2.2.2.2⟩)
theorem x_putF3 (S : CallFix p m c cc nL s args wsL_law own) (hin : meth.name = "<init>") (w : Wd D tys A H0 s ws H locs) (q0 : Nat) {fs : List Value} (he : ws[q0]? = some (a, .inr (3, fs))) (k : Nat) (hk : k < 11) {index : Nat} (hl : Cond.fieldLink own index (TX3 k).1 (TX3 k).2.1 (TX3 k).2.2.1 ∈ wsL_law) (hfin : (TX3 k).2.2.2 = true) (hdecl : (TX3 k).1 = own) {v : Value} (hn : narrow (tyX3 k) v = v) (hfit : fits (tyX3 k) v = true) (hlen : k < fs.length) (hw : ws.set q0 (a, .inr (3, fs.set k v)) = ws') (hd : decode cc pc = .ok (.putfield index, 3))
    (kk : ∀ (H1 : Heap) (locs1 : List Loc), Wd D tys A H0 s ws' H1 locs1 → W p l e R s m args below meth c H1 locs1 cells slots Q (F0 m (pc + 3) ls rest)) : W p l e R s m args below meth c H locs cells slots Q (F0 m pc ls (v :: .ref a :: rest)) := by
  subst hw
  exact va_putF (D := D) (ci := 3) (C := RX3) (T := TX3) (N := 11) S.1 S.2.1 S.2.2.2.2 inlX3 tyX3 tyX3_ok nmX3 S.2.2.2.1 w.1 w.2.1 w.2.2.1 w.2.2.2.1 q0 he rfl k hk (S.2.2.2.2 _ hl) (fun _ h9 => h9) hfin hin hdecl (tyX3_ok k hk) hn hfit hlen hd (fun H1 locs1 hP hD hS => kk H1 locs1 ⟨w.1, hP, hD, hS, w.2.2.2.2⟩)
theorem x_get4 (S : CallFix p m c cc nL s args wsL_law own) (w : Wd D tys A H0 s ws H locs) (q0 : Nat) {fs : List Value} (he : ws[q0]? = some (a, .inr (4, fs))) (k : Nat) (hk : k < 16) {index : Nat} (hl : Cond.fieldLink own index (TX4 k).1 (TX4 k).2.1 (TX4 k).2.2.1 ∈ wsL_law) {v : Value} (hv : fs[k]? = some v) (hd : decode cc pc = .ok (.getfield index, 3))
    (kk : W p l e R s m args below meth c H locs cells slots Q (F0 m (pc + 3) ls (v :: rest))) : W p l e R s m args below meth c H locs cells slots Q (F0 m pc ls (.ref a :: rest)) :=
  va_get (D := D) (ci := 4) (C := RX4) (T := TX4) (N := 16) S.1 S.2.1 S.2.2.2.2 inlX4 S.2.2.2.1 w.1 w.2.1 q0 he rfl k hk (S.2.2.2.2 _ hl) (fun _ h9 => h9) hv hd kk
theorem x_put4 (S : CallFix p m c cc nL s args wsL_law own) (w : Wd D tys A H0 s ws H locs) (q0 : Nat) {fs : List Value} (he : ws[q0]? = some (a, .inr (4, fs))) (k : Nat) (hk : k < 16) {index : Nat} (hl : Cond.fieldLink own index (TX4 k).1 (TX4 k).2.1 (TX4 k).2.2.1 ∈ wsL_law) (hfin : (TX4 k).2.2.2 = false) {v : Value} (hn : narrow (tyX4 k) v = v) (hfit : fits (tyX4 k) v = true) (hlen : k < fs.length) (hw : ws.set q0 (a, .inr (4, fs.set k v)) = ws') (hd : decode cc pc = .ok (.putfield index, 3))
    (kk : ∀ (H1 : Heap) (locs1 : List Loc), Wd D tys A H0 s ws' H1 locs1 → W p l e R s m args below meth c H1 locs1 cells slots Q (F0 m (pc + 3) ls rest)) : W p l e R s m args below meth c H locs cells slots Q (F0 m pc ls (v :: .ref a :: rest)) := by
  subst hw
  exact va_put (D := D) (ci := 4) (C := RX4) (T := TX4) (N := 16) S.1 S.2.1 S.2.2.2.2 inlX4 tyX4 tyX4_ok nmX4 S.2.2.2.1 w.1 w.2.1 w.2.2.1 w.2.2.2.1 q0 he rfl k hk (S.2.2.2.2 _ hl) (fun _ h9 => h9) hfin (tyX4_ok k hk) hn hfit hlen hd (fun H1 locs1 hP hD hS => kk H1 locs1 ⟨w.1, hP, hD, hS, w.2.2.2.2⟩)
theorem x_putF4 (S : CallFix p m c cc nL s args wsL_law own) (hin : meth.name = "<init>") (w : Wd D tys A H0 s ws H locs) (q0 : Nat) {fs : List Value} (he : ws[q0]? = some (a, .inr (4, fs))) (k : Nat) (hk : k < 16) {index : Nat} (hl : Cond.fieldLink own index (TX4 k).1 (TX4 k).2.1 (TX4 k).2.2.1 ∈ wsL_law) (hfin : (TX4 k).2.2.2 = true) (hdecl : (TX4 k).1 = own) {v : Value} (hn : narrow (tyX4 k) v = v) (hfit : fits (tyX4 k) v = true) (hlen : k < fs.length) (hw : ws.set q0 (a, .inr (4, fs.set k v)) = ws') (hd : decode cc pc = .ok (.putfield index, 3))
    (kk : ∀ (H1 : Heap) (locs1 : List Loc), Wd D tys A H0 s ws' H1 locs1 → W p l e R s m args below meth c H1 locs1 cells slots Q (F0 m (pc + 3) ls rest)) : W p l e R s m args below meth c H locs cells slots Q (F0 m pc ls (v :: .ref a :: rest)) := by
  subst hw
  exact va_putF (D := D) (ci := 4) (C := RX4) (T := TX4) (N := 16) S.1 S.2.1 S.2.2.2.2 inlX4 tyX4 tyX4_ok nmX4 S.2.2.2.1 w.1 w.2.1 w.2.2.1 w.2.2.2.1 q0 he rfl k hk (S.2.2.2.2 _ hl) (fun _ h9 => h9) hfin hin hdecl (tyX4_ok k hk) hn hfit hlen hd (fun H1 locs1 hP hD hS => kk H1 locs1 ⟨w.1, hP, hD, hS, w.2.2.2.2⟩)
theorem x_get5 (S : CallFix p m c cc nL s args wsL_law own) (w : Wd D tys A H0 s ws H locs) (q0 : Nat) {fs : List Value} (he : ws[q0]? = some (a, .inr (5, fs))) (k : Nat) (hk : k < 33) {index : Nat} (hl : Cond.fieldLink own index (TX5 k).1 (TX5 k).2.1 (TX5 k).2.2.1 ∈ wsL_law) {v : Value} (hv : fs[k]? = some v) (hd : decode cc pc = .ok (.getfield index, 3))
    (kk : W p l e R s m args below meth c H locs cells slots Q (F0 m (pc + 3) ls (v :: rest))) : W p l e R s m args below meth c H locs cells slots Q (F0 m pc ls (.ref a :: rest)) :=
  va_get (D := D) (ci := 5) (C := RX5) (T := TX5) (N := 33) S.1 S.2.1 S.2.2.2.2 inlX5 S.2.2.2.1 w.1 w.2.1 q0 he rfl k hk (S.2.2.2.2 _ hl) (fun _ h9 => h9) hv hd kk
theorem x_put5 (S : CallFix p m c cc nL s args wsL_law own) (w : Wd D tys A H0 s ws H locs) (q0 : Nat) {fs : List Value} (he : ws[q0]? = some (a, .inr (5, fs))) (k : Nat) (hk : k < 33) {index : Nat} (hl : Cond.fieldLink own index (TX5 k).1 (TX5 k).2.1 (TX5 k).2.2.1 ∈ wsL_law) (hfin : (TX5 k).2.2.2 = false) {v : Value} (hn : narrow (tyX5 k) v = v) (hfit : fits (tyX5 k) v = true) (hlen : k < fs.length) (hw : ws.set q0 (a, .inr (5, fs.set k v)) = ws') (hd : decode cc pc = .ok (.putfield index, 3))
    (kk : ∀ (H1 : Heap) (locs1 : List Loc), Wd D tys A H0 s ws' H1 locs1 → W p l e R s m args below meth c H1 locs1 cells slots Q (F0 m (pc + 3) ls rest)) : W p l e R s m args below meth c H locs cells slots Q (F0 m pc ls (v :: .ref a :: rest)) := by
  subst hw
  exact va_put (D := D) (ci := 5) (C := RX5) (T := TX5) (N := 33) S.1 S.2.1 S.2.2.2.2 inlX5 tyX5 tyX5_ok nmX5 S.2.2.2.1 w.1 w.2.1 w.2.2.1 w.2.2.2.1 q0 he rfl k hk (S.2.2.2.2 _ hl) (fun _ h9 => h9) hfin (tyX5_ok k hk) hn hfit hlen hd (fun H1 locs1 hP hD hS => kk H1 locs1 ⟨w.1, hP, hD, hS, w.2.2.2.2⟩)
theorem x_putF5 (S : CallFix p m c cc nL s args wsL_law own) (hin : meth.name = "<init>") (w : Wd D tys A H0 s ws H locs) (q0 : Nat) {fs : List Value} (he : ws[q0]? = some (a, .inr (5, fs))) (k : Nat) (hk : k < 33) {index : Nat} (hl : Cond.fieldLink own index (TX5 k).1 (TX5 k).2.1 (TX5 k).2.2.1 ∈ wsL_law) (hfin : (TX5 k).2.2.2 = true) (hdecl : (TX5 k).1 = own) {v : Value} (hn : narrow (tyX5 k) v = v) (hfit : fits (tyX5 k) v = true) (hlen : k < fs.length) (hw : ws.set q0 (a, .inr (5, fs.set k v)) = ws') (hd : decode cc pc = .ok (.putfield index, 3))
    (kk : ∀ (H1 : Heap) (locs1 : List Loc), Wd D tys A H0 s ws' H1 locs1 → W p l e R s m args below meth c H1 locs1 cells slots Q (F0 m (pc + 3) ls rest)) : W p l e R s m args below meth c H locs cells slots Q (F0 m pc ls (v :: .ref a :: rest)) := by
  subst hw
  exact va_putF (D := D) (ci := 5) (C := RX5) (T := TX5) (N := 33) S.1 S.2.1 S.2.2.2.2 inlX5 tyX5 tyX5_ok nmX5 S.2.2.2.1 w.1 w.2.1 w.2.2.1 w.2.2.2.1 q0 he rfl k hk (S.2.2.2.2 _ hl) (fun _ h9 => h9) hfin hin hdecl (tyX5_ok k hk) hn hfit hlen hd (fun H1 locs1 hP hD hS => kk H1 locs1 ⟨w.1, hP, hD, hS, w.2.2.2.2⟩)
theorem x_reti {r v : Int32} {ws0 : va_W} {sz : Nat} (S : CallFix p m c cc nL s args wsL_law own) (w : Wd D tys (va_A ws0 sz) s.heap s ws H locs) (hr : meth.sig.returnType = some .int) (hlk : meth.locks = false) (hd : decode cc pc = .ok (.ireturn, 1)) (hv : v = r) (hw : ws = ws') : W p l e R s m args below meth c H locs cells slots (MQ below (mQi D tys ws0 sz ws' r) args s cells slots (va_A ws0 sz)) (F0 m pc ls [.int v]) := by
  obtain ⟨hK, hP, hD, hS, hA⟩ := w
  subst hv
  subst hw
  exact W.iret S.1 S.2.1 hr (fun t ht hW => ⟨⟨v, (), rfl, rfl, by rw [ht]; exact hP, va_K.moved hW.alike hK, hD⟩, hS.F ht⟩) hS.2.2 hd hlk
theorem x_retz {r v : Int32} {ws0 : va_W} {sz : Nat} (S : CallFix p m c cc nL s args wsL_law own) (w : Wd D tys (va_A ws0 sz) s.heap s ws H locs) (hr : meth.sig.returnType = some .boolean) (hlk : meth.locks = false) (hd : decode cc pc = .ok (.ireturn, 1)) (hb : v = 0 ∨ v = 1) (hv : v = r) (hw : ws = ws') : W p l e R s m args below meth c H locs cells slots (MQ below (mQi D tys ws0 sz ws' r) args s cells slots (va_A ws0 sz)) (F0 m pc ls [.int v]) := by
  obtain ⟨hK, hP, hD, hS, hA⟩ := w
  subst hv
  subst hw
  exact W.zret S.1 S.2.1 hr (by rcases hb with rfl | rfl <;> rfl) (fun t ht hW => ⟨⟨v, (), rfl, rfl, by rw [ht]; exact hP, va_K.moved hW.alike hK, hD⟩, hS.F ht⟩) hS.2.2 hd hlk
theorem x_retl {r v : Int64} {ws0 : va_W} {sz : Nat} (S : CallFix p m c cc nL s args wsL_law own) (w : Wd D tys (va_A ws0 sz) s.heap s ws H locs) (hr : meth.sig.returnType = some .long) (hlk : meth.locks = false) (hd : decode cc pc = .ok (.lreturn, 1)) (hv : v = r) (hw : ws = ws') : W p l e R s m args below meth c H locs cells slots (MQ below (mQl D tys ws0 sz ws' r) args s cells slots (va_A ws0 sz)) (F0 m pc ls [.long v]) := by
  obtain ⟨hK, hP, hD, hS, hA⟩ := w
  subst hv
  subst hw
  exact W.lret S.1 S.2.1 hr (fun t ht hW => ⟨⟨v, (), rfl, rfl, by rw [ht]; exact hP, va_K.moved hW.alike hK, hD⟩, hS.F ht⟩) hS.2.2 hd hlk
theorem x_retv {ws0 : va_W} {sz : Nat} (S : CallFix p m c cc nL s args wsL_law own) (w : Wd D tys (va_A ws0 sz) s.heap s ws H locs) (hr : meth.sig.returnType = none) (hlk : meth.locks = false) (hd : decode cc pc = .ok (.return_, 1)) (hw : ws = ws') : W p l e R s m args below meth c H locs cells slots (MQ below (mQv D tys ws0 sz ws') args s cells slots (va_A ws0 sz)) (F0 m pc ls []) := by
  obtain ⟨hK, hP, hD, hS, hA⟩ := w
  subst hw
  exact W.vret S.1 S.2.1 hr (fun t ht hW => ⟨⟨(), rfl, trivial, by rw [ht]; exact hP, va_K.moved hW.alike hK, hD⟩, hS.F ht⟩) hS.2.2 hd hlk
theorem x_reta {r v : Nat} {ws0 : va_W} {sz : Nat} (S : CallFix p m c cc nL s args wsL_law own) (w : Wd D tys (va_A ws0 sz) s.heap s ws H locs) (hr : meth.sig.returnType = some (.array .int)) (hlk : meth.locks = false) (hd : decode cc pc = .ok (.areturn, 1)) (hv : v = r) (hw : ws = ws') : W p l e R s m args below meth c H locs cells slots (MQ below (mQr D tys ws0 sz ws' r) args s cells slots (va_A ws0 sz)) (F0 m pc ls [.ref v]) := by
  obtain ⟨hK, hP, hD, hS, hA⟩ := w
  subst hv
  subst hw
  exact W.aret S.1 S.2.1 hr (Or.inr ⟨_, rfl⟩) (Or.inr ⟨_, rfl⟩) (fun t ht hW => ⟨⟨(), v, rfl, trivial, rfl, by rw [ht]; exact hP, va_K.moved hW.alike hK, hD⟩, hS.F ht⟩) hS.2.2 hd hlk
theorem x_Vi {y : MethodName} {b : ByteArray} {n index k h : Nat} {ret : Option FieldType} {rm : Room} {C : String} {As st : List Value} {r : Int32} (S : CallFix p m c cc nL s args wsL_law own) (w : Wd D tys A H0 s ws H locs) (hG : GoodIn wsL_law (wsV own index C y (wM y b n ret))) (hd : y.cls = C ∧ y.cls ≠ "java/lang/invoke/MethodHandle" ∧ y.cls ≠ "java/lang/invoke/VarHandle" ∧ (parseMethodDescriptor y.desc).map (fun d => d.parameters.length) = some k)
    (hM : Mi l y b n ret rm D tys ws (.ref h :: As) ws' r) (hk : As.length = k) (q0 ci : Nat) {qc : vw_C} {fs : List Value} (hc : vwCl[ci]? = some qc) (hq : qc.1 = C) (he : ws[q0]? = some (h, .inr (ci, fs))) (hR : rm.frames + 1 ≤ R.frames ∧ 8 + (n + 11) + rm.locals ≤ R.locals) (hrm : rm.cells = 0 ∧ rm.slots = 0) (hls : ls.size = nL) (hst : st = As.reverse ++ .ref h :: rest) (hrest : (rest.map fun v => v.category).sum ≤ 8) (hcl : cells ≤ R.cells ∧ slots ≤ R.slots) (hdg : decode cc pc = .ok (.invokevirtual index, 3))
    (kk : ∀ (H1 : Heap) (locs1 : List Loc), Wd D tys A H0 s ws' H1 locs1 → W p l e R s m args below meth c H1 locs1 cells slots Q (F0 m (pc + 3) ls (.int r :: rest))) : W p l e R s m args below meth c H locs cells slots Q (F0 m pc ls st) := by
  subst hst
  have hF := wd_own w
  obtain ⟨hK, hP, hD, hS, hA⟩ := w
  subst hq
  refine va_calli (va_runV (As := As) (rest := rest) S (hM H.size) (cwV k S.2.2.2.2 hG rfl hrm.1 hrm.2 hd hR) ⟨mP_blind, va_recv hK hP hc he, fun U hU hW => ⟨rfl, by rw [hU], by rw [hU]; exact hP, va_K.moved hW.alike hK, hD.weaken (fun _ _ _ _ => trivial)⟩⟩ rfl hk hls rfl (lv_room hrest) hdg ⟨hcl.1, hcl.2⟩) hS (fun q _ h => hF q h) hF (fun r' u t H1 locs1 ht hvm hw hB hz1 hk1 hS => ?_)
  obtain ⟨hP1, hK1, hD1⟩ := hB
  subst hw
  exact kk H1 locs1 ⟨hK, by rw [← ht]; exact hP1, hD1.weaken (fun k q _ h => hF q.1 h), hS, hA⟩
theorem x_Si {y : MethodName} {b : ByteArray} {n index k : Nat} {ret : Option FieldType} {rm : Room} {As st : List Value} {r : Int32} (S : CallFix p m c cc nL s args wsL_law own) (w : Wd D tys A H0 s ws H locs) (hG : GoodIn wsL_law (va_wsS own index y (wM y b n ret))) (hd : y.cls ≠ "java/lang/invoke/MethodHandle" ∧ y.cls ≠ "java/lang/invoke/VarHandle" ∧ (parseMethodDescriptor y.desc).map (fun d => d.parameters.length) = some k)
    (hM : Mi l y b n ret rm D tys ws As ws' r) (hk : As.length = k) (hR : rm.frames + 1 ≤ R.frames ∧ 8 + (n + 11) + rm.locals ≤ R.locals) (hrm : rm.cells = 0 ∧ rm.slots = 0) (hls : ls.size = nL) (hst : st = As.reverse ++ rest) (hrest : (rest.map fun v => v.category).sum ≤ 8) (hcl : cells ≤ R.cells ∧ slots ≤ R.slots) (hdg : decode cc pc = .ok (.invokestatic index, 3))
    (kk : ∀ (H1 : Heap) (locs1 : List Loc), Wd D tys A H0 s ws' H1 locs1 → W p l e R s m args below meth c H1 locs1 cells slots Q (F0 m (pc + 3) ls (.int r :: rest))) : W p l e R s m args below meth c H locs cells slots Q (F0 m pc ls st) := by
  subst hst
  have hF := wd_own w
  obtain ⟨hK, hP, hD, hS, hA⟩ := w
  have ok : ∀ w ∈ va_wsS own index y (wM y b n ret), w.before args s = true := fun w h => S.2.2.2.2 w (hG w h).1
  refine va_calli (va_runS (As := As) (rest := rest) S (hM H.size) ⟨callB_of k S.2.2.2.2 (fun w h => hG w (List.mem_append_right _ h)) rfl hrm.1 hrm.2 (ok _ (by simp [va_wsS])) (ok _ (by simp [va_wsS])) hd hR, ok _ (by simp [va_wsS])⟩ ⟨mP_blind, fun U hU hW => ⟨rfl, by rw [hU], by rw [hU]; exact hP, va_K.moved hW.alike hK, hD.weaken (fun _ _ _ _ => trivial)⟩⟩ rfl hk hls rfl (lv_room hrest) hdg ⟨hcl.1, hcl.2⟩) hS (fun q _ h => hF q h) hF (fun r' u t H1 locs1 ht hvm hw hB hz1 hk1 hS => ?_)
  obtain ⟨hP1, hK1, hD1⟩ := hB
  subst hw
  exact kk H1 locs1 ⟨hK, by rw [← ht]; exact hP1, hD1.weaken (fun k q _ h => hF q.1 h), hS, hA⟩
theorem x_Vl {y : MethodName} {b : ByteArray} {n index k h : Nat} {ret : Option FieldType} {rm : Room} {C : String} {As st : List Value} {r : Int64} (S : CallFix p m c cc nL s args wsL_law own) (w : Wd D tys A H0 s ws H locs) (hG : GoodIn wsL_law (wsV own index C y (wM y b n ret))) (hd : y.cls = C ∧ y.cls ≠ "java/lang/invoke/MethodHandle" ∧ y.cls ≠ "java/lang/invoke/VarHandle" ∧ (parseMethodDescriptor y.desc).map (fun d => d.parameters.length) = some k)
    (hM : Ml l y b n ret rm D tys ws (.ref h :: As) ws' r) (hk : As.length = k) (q0 ci : Nat) {qc : vw_C} {fs : List Value} (hc : vwCl[ci]? = some qc) (hq : qc.1 = C) (he : ws[q0]? = some (h, .inr (ci, fs))) (hR : rm.frames + 1 ≤ R.frames ∧ 8 + (n + 11) + rm.locals ≤ R.locals) (hrm : rm.cells = 0 ∧ rm.slots = 0) (hls : ls.size = nL) (hst : st = As.reverse ++ .ref h :: rest) (hrest : (rest.map fun v => v.category).sum ≤ 8) (hcl : cells ≤ R.cells ∧ slots ≤ R.slots) (hdg : decode cc pc = .ok (.invokevirtual index, 3))
    (kk : ∀ (H1 : Heap) (locs1 : List Loc), Wd D tys A H0 s ws' H1 locs1 → W p l e R s m args below meth c H1 locs1 cells slots Q (F0 m (pc + 3) ls (.long r :: rest))) : W p l e R s m args below meth c H locs cells slots Q (F0 m pc ls st) := by
  subst hst
  have hF := wd_own w
  obtain ⟨hK, hP, hD, hS, hA⟩ := w
  subst hq
  refine va_calll (va_runV (As := As) (rest := rest) S (hM H.size) (cwV k S.2.2.2.2 hG rfl hrm.1 hrm.2 hd hR) ⟨mP_blind, va_recv hK hP hc he, fun U hU hW => ⟨rfl, by rw [hU], by rw [hU]; exact hP, va_K.moved hW.alike hK, hD.weaken (fun _ _ _ _ => trivial)⟩⟩ rfl hk hls rfl (lv_room hrest) hdg ⟨hcl.1, hcl.2⟩) hS (fun q _ h => hF q h) hF (fun r' u t H1 locs1 ht hvm hw hB hz1 hk1 hS => ?_)
  obtain ⟨hP1, hK1, hD1⟩ := hB
  subst hw
  exact kk H1 locs1 ⟨hK, by rw [← ht]; exact hP1, hD1.weaken (fun k q _ h => hF q.1 h), hS, hA⟩
theorem x_Sl {y : MethodName} {b : ByteArray} {n index k : Nat} {ret : Option FieldType} {rm : Room} {As st : List Value} {r : Int64} (S : CallFix p m c cc nL s args wsL_law own) (w : Wd D tys A H0 s ws H locs) (hG : GoodIn wsL_law (va_wsS own index y (wM y b n ret))) (hd : y.cls ≠ "java/lang/invoke/MethodHandle" ∧ y.cls ≠ "java/lang/invoke/VarHandle" ∧ (parseMethodDescriptor y.desc).map (fun d => d.parameters.length) = some k)
    (hM : Ml l y b n ret rm D tys ws As ws' r) (hk : As.length = k) (hR : rm.frames + 1 ≤ R.frames ∧ 8 + (n + 11) + rm.locals ≤ R.locals) (hrm : rm.cells = 0 ∧ rm.slots = 0) (hls : ls.size = nL) (hst : st = As.reverse ++ rest) (hrest : (rest.map fun v => v.category).sum ≤ 8) (hcl : cells ≤ R.cells ∧ slots ≤ R.slots) (hdg : decode cc pc = .ok (.invokestatic index, 3))
    (kk : ∀ (H1 : Heap) (locs1 : List Loc), Wd D tys A H0 s ws' H1 locs1 → W p l e R s m args below meth c H1 locs1 cells slots Q (F0 m (pc + 3) ls (.long r :: rest))) : W p l e R s m args below meth c H locs cells slots Q (F0 m pc ls st) := by
  subst hst
  have hF := wd_own w
  obtain ⟨hK, hP, hD, hS, hA⟩ := w
  have ok : ∀ w ∈ va_wsS own index y (wM y b n ret), w.before args s = true := fun w h => S.2.2.2.2 w (hG w h).1
  refine va_calll (va_runS (As := As) (rest := rest) S (hM H.size) ⟨callB_of k S.2.2.2.2 (fun w h => hG w (List.mem_append_right _ h)) rfl hrm.1 hrm.2 (ok _ (by simp [va_wsS])) (ok _ (by simp [va_wsS])) hd hR, ok _ (by simp [va_wsS])⟩ ⟨mP_blind, fun U hU hW => ⟨rfl, by rw [hU], by rw [hU]; exact hP, va_K.moved hW.alike hK, hD.weaken (fun _ _ _ _ => trivial)⟩⟩ rfl hk hls rfl (lv_room hrest) hdg ⟨hcl.1, hcl.2⟩) hS (fun q _ h => hF q h) hF (fun r' u t H1 locs1 ht hvm hw hB hz1 hk1 hS => ?_)
  obtain ⟨hP1, hK1, hD1⟩ := hB
  subst hw
  exact kk H1 locs1 ⟨hK, by rw [← ht]; exact hP1, hD1.weaken (fun k q _ h => hF q.1 h), hS, hA⟩
theorem x_Vv {y : MethodName} {b : ByteArray} {n index k h : Nat} {ret : Option FieldType} {rm : Room} {C : String} {As st : List Value}  (S : CallFix p m c cc nL s args wsL_law own) (w : Wd D tys A H0 s ws H locs) (hG : GoodIn wsL_law (wsV own index C y (wM y b n ret))) (hd : y.cls = C ∧ y.cls ≠ "java/lang/invoke/MethodHandle" ∧ y.cls ≠ "java/lang/invoke/VarHandle" ∧ (parseMethodDescriptor y.desc).map (fun d => d.parameters.length) = some k)
    (hM : Mv l y b n ret rm D tys ws (.ref h :: As) ws') (hk : As.length = k) (q0 ci : Nat) {qc : vw_C} {fs : List Value} (hc : vwCl[ci]? = some qc) (hq : qc.1 = C) (he : ws[q0]? = some (h, .inr (ci, fs))) (hR : rm.frames + 1 ≤ R.frames ∧ 8 + (n + 11) + rm.locals ≤ R.locals) (hrm : rm.cells = 0 ∧ rm.slots = 0) (hls : ls.size = nL) (hst : st = As.reverse ++ .ref h :: rest) (hrest : (rest.map fun v => v.category).sum ≤ 8) (hcl : cells ≤ R.cells ∧ slots ≤ R.slots) (hdg : decode cc pc = .ok (.invokevirtual index, 3))
    (kk : ∀ (H1 : Heap) (locs1 : List Loc), Wd D tys A H0 s ws' H1 locs1 → W p l e R s m args below meth c H1 locs1 cells slots Q (F0 m (pc + 3) ls rest)) : W p l e R s m args below meth c H locs cells slots Q (F0 m pc ls st) := by
  subst hst
  have hF := wd_own w
  obtain ⟨hK, hP, hD, hS, hA⟩ := w
  subst hq
  refine va_callv (va_runV (As := As) (rest := rest) S (hM H.size) (cwV k S.2.2.2.2 hG rfl hrm.1 hrm.2 hd hR) ⟨mP_blind, va_recv hK hP hc he, fun U hU hW => ⟨rfl, by rw [hU], by rw [hU]; exact hP, va_K.moved hW.alike hK, hD.weaken (fun _ _ _ _ => trivial)⟩⟩ rfl hk hls rfl (lv_room hrest) hdg ⟨hcl.1, hcl.2⟩) hS (fun q _ h => hF q h) hF (fun u t H1 locs1 ht hvm hw hB hz1 hk1 hS => ?_)
  obtain ⟨hP1, hK1, hD1⟩ := hB
  exact kk H1 locs1 ⟨hK, by rw [← ht]; exact hP1, hD1.weaken (fun k q _ h => hF q.1 h), hS, hA⟩
theorem x_Sv {y : MethodName} {b : ByteArray} {n index k : Nat} {ret : Option FieldType} {rm : Room} {As st : List Value}  (S : CallFix p m c cc nL s args wsL_law own) (w : Wd D tys A H0 s ws H locs) (hG : GoodIn wsL_law (va_wsS own index y (wM y b n ret))) (hd : y.cls ≠ "java/lang/invoke/MethodHandle" ∧ y.cls ≠ "java/lang/invoke/VarHandle" ∧ (parseMethodDescriptor y.desc).map (fun d => d.parameters.length) = some k)
    (hM : Mv l y b n ret rm D tys ws As ws') (hk : As.length = k) (hR : rm.frames + 1 ≤ R.frames ∧ 8 + (n + 11) + rm.locals ≤ R.locals) (hrm : rm.cells = 0 ∧ rm.slots = 0) (hls : ls.size = nL) (hst : st = As.reverse ++ rest) (hrest : (rest.map fun v => v.category).sum ≤ 8) (hcl : cells ≤ R.cells ∧ slots ≤ R.slots) (hdg : decode cc pc = .ok (.invokestatic index, 3))
    (kk : ∀ (H1 : Heap) (locs1 : List Loc), Wd D tys A H0 s ws' H1 locs1 → W p l e R s m args below meth c H1 locs1 cells slots Q (F0 m (pc + 3) ls rest)) : W p l e R s m args below meth c H locs cells slots Q (F0 m pc ls st) := by
  subst hst
  have hF := wd_own w
  obtain ⟨hK, hP, hD, hS, hA⟩ := w
  have ok : ∀ w ∈ va_wsS own index y (wM y b n ret), w.before args s = true := fun w h => S.2.2.2.2 w (hG w h).1
  refine va_callv (va_runS (As := As) (rest := rest) S (hM H.size) ⟨callB_of k S.2.2.2.2 (fun w h => hG w (List.mem_append_right _ h)) rfl hrm.1 hrm.2 (ok _ (by simp [va_wsS])) (ok _ (by simp [va_wsS])) hd hR, ok _ (by simp [va_wsS])⟩ ⟨mP_blind, fun U hU hW => ⟨rfl, by rw [hU], by rw [hU]; exact hP, va_K.moved hW.alike hK, hD.weaken (fun _ _ _ _ => trivial)⟩⟩ rfl hk hls rfl (lv_room hrest) hdg ⟨hcl.1, hcl.2⟩) hS (fun q _ h => hF q h) hF (fun u t H1 locs1 ht hvm hw hB hz1 hk1 hS => ?_)
  obtain ⟨hP1, hK1, hD1⟩ := hB
  exact kk H1 locs1 ⟨hK, by rw [← ht]; exact hP1, hD1.weaken (fun k q _ h => hF q.1 h), hS, hA⟩
theorem x_Vr {y : MethodName} {b : ByteArray} {n index k h : Nat} {ret : Option FieldType} {rm : Room} {C : String} {As st : List Value} {r : Nat} (S : CallFix p m c cc nL s args wsL_law own) (w : Wd D tys A H0 s ws H locs) (hG : GoodIn wsL_law (wsV own index C y (wM y b n ret))) (hd : y.cls = C ∧ y.cls ≠ "java/lang/invoke/MethodHandle" ∧ y.cls ≠ "java/lang/invoke/VarHandle" ∧ (parseMethodDescriptor y.desc).map (fun d => d.parameters.length) = some k)
    (hM : Mr l y b n ret rm D tys ws (.ref h :: As) ws' r) (hk : As.length = k) (q0 ci : Nat) {qc : vw_C} {fs : List Value} (hc : vwCl[ci]? = some qc) (hq : qc.1 = C) (he : ws[q0]? = some (h, .inr (ci, fs))) (hR : rm.frames + 1 ≤ R.frames ∧ 8 + (n + 11) + rm.locals ≤ R.locals) (hrm : rm.cells = 0 ∧ rm.slots = 0) (hls : ls.size = nL) (hst : st = As.reverse ++ .ref h :: rest) (hrest : (rest.map fun v => v.category).sum ≤ 8) (hcl : cells ≤ R.cells ∧ slots ≤ R.slots) (hdg : decode cc pc = .ok (.invokevirtual index, 3))
    (kk : ∀ (H1 : Heap) (locs1 : List Loc), Wd D tys A H0 s ws' H1 locs1 → W p l e R s m args below meth c H1 locs1 cells slots Q (F0 m (pc + 3) ls (.ref r :: rest))) : W p l e R s m args below meth c H locs cells slots Q (F0 m pc ls st) := by
  subst hst
  have hF := wd_own w
  obtain ⟨hK, hP, hD, hS, hA⟩ := w
  subst hq
  refine va_callr (va_runV (As := As) (rest := rest) S (hM H.size) (cwV k S.2.2.2.2 hG rfl hrm.1 hrm.2 hd hR) ⟨mP_blind, va_recv hK hP hc he, fun U hU hW => ⟨rfl, by rw [hU], by rw [hU]; exact hP, va_K.moved hW.alike hK, hD.weaken (fun _ _ _ _ => trivial)⟩⟩ rfl hk hls rfl (lv_room hrest) hdg ⟨hcl.1, hcl.2⟩) hS (fun q _ h => hF q h) hF (fun u r' t H1 locs1 ht hvm hw hB hz1 hk1 hS => ?_)
  obtain ⟨hw2, hP1, hK1, hD1⟩ := hB
  subst hw2
  exact kk H1 locs1 ⟨hK, by rw [← ht]; exact hP1, hD1.weaken (fun k q _ h => hF q.1 h), hS, hA⟩
theorem x_Sr {y : MethodName} {b : ByteArray} {n index k : Nat} {ret : Option FieldType} {rm : Room} {As st : List Value} {r : Nat} (S : CallFix p m c cc nL s args wsL_law own) (w : Wd D tys A H0 s ws H locs) (hG : GoodIn wsL_law (va_wsS own index y (wM y b n ret))) (hd : y.cls ≠ "java/lang/invoke/MethodHandle" ∧ y.cls ≠ "java/lang/invoke/VarHandle" ∧ (parseMethodDescriptor y.desc).map (fun d => d.parameters.length) = some k)
    (hM : Mr l y b n ret rm D tys ws As ws' r) (hk : As.length = k) (hR : rm.frames + 1 ≤ R.frames ∧ 8 + (n + 11) + rm.locals ≤ R.locals) (hrm : rm.cells = 0 ∧ rm.slots = 0) (hls : ls.size = nL) (hst : st = As.reverse ++ rest) (hrest : (rest.map fun v => v.category).sum ≤ 8) (hcl : cells ≤ R.cells ∧ slots ≤ R.slots) (hdg : decode cc pc = .ok (.invokestatic index, 3))
    (kk : ∀ (H1 : Heap) (locs1 : List Loc), Wd D tys A H0 s ws' H1 locs1 → W p l e R s m args below meth c H1 locs1 cells slots Q (F0 m (pc + 3) ls (.ref r :: rest))) : W p l e R s m args below meth c H locs cells slots Q (F0 m pc ls st) := by
  subst hst
  have hF := wd_own w
  obtain ⟨hK, hP, hD, hS, hA⟩ := w
  have ok : ∀ w ∈ va_wsS own index y (wM y b n ret), w.before args s = true := fun w h => S.2.2.2.2 w (hG w h).1
  refine va_callr (va_runS (As := As) (rest := rest) S (hM H.size) ⟨callB_of k S.2.2.2.2 (fun w h => hG w (List.mem_append_right _ h)) rfl hrm.1 hrm.2 (ok _ (by simp [va_wsS])) (ok _ (by simp [va_wsS])) hd hR, ok _ (by simp [va_wsS])⟩ ⟨mP_blind, fun U hU hW => ⟨rfl, by rw [hU], by rw [hU]; exact hP, va_K.moved hW.alike hK, hD.weaken (fun _ _ _ _ => trivial)⟩⟩ rfl hk hls rfl (lv_room hrest) hdg ⟨hcl.1, hcl.2⟩) hS (fun q _ h => hF q h) hF (fun u r' t H1 locs1 ht hvm hw hB hz1 hk1 hS => ?_)
  obtain ⟨hw2, hP1, hK1, hD1⟩ := hB
  subst hw2
  exact kk H1 locs1 ⟨hK, by rw [← ht]; exact hP1, hD1.weaken (fun k q _ h => hF q.1 h), hS, hA⟩
end BASE
end
section
def mF (a : Nat → Nat) (s : Nat → Int32) : List Value := [.int (s 0), .ref (a 1), .ref (a 2), .int (s 1), .int (s 2), .int (s 3), .int (s 4), .int (s 5), .int (s 6), .int (s 7), .int (s 8), .int (s 9), .int (s 10), .int (s 11), .int (s 12), .int (s 13), .int (s 19), .int (s 14), .int (s 15), .int (s 16), .ref (a 4), .ref (a 6), .ref (a 3), .ref (a 11), .ref (a 8), .ref (a 9), .ref (a 5), .int (s 22), .int (s 21), .ref (a 10), .ref (a 7), .int (s 17), .int (s 18)]
def xW (cI cO : ClassId) (a : Nat → Nat) (s : Nat → Int32) (f : Nat → Nat → Int32) (R : va_W) : va_W :=
  (a 0, .inr (4, [.ref (a 1), .ref (a 2), .ref (a 3), .ref (a 4), .ref (a 5), .ref (a 6), .ref (a 7), .ref (a 8), .ref (a 9), .ref (a 10), .int (s 11), .int (s 12), .int (s 13), .int (s 14), .int (s 15), .int (s 16)])) ::
  (a 1, .inr (3, [.int (s 0), .int (s 1), .int (s 2), .int (s 3), .int (s 4), .int (s 5), .int (s 6), .int (s 7), .int (s 8), .int (s 9), .int (s 10)])) ::
  (a 2, .inr (2, [.ref (a 11), .int (s 17), .int (s 18)])) ::
  (a 3, .inr (1, [.ref (a 15), .ref (a 12), .ref (a 13), .int (s 19)])) ::
  (a 4, .inr (0, [.ref (a 14), .int (s 20), .int (s 21), .int (s 22)])) ::
  (a 5, .inl (cI, 48, .inl (f 0))) ::
  (a 6, .inl (cI, 48, .inl (f 1))) ::
  (a 7, .inl (cI, 48, .inl (f 2))) ::
  (a 8, .inl (cI, 48, .inl (f 3))) ::
  (a 9, .inl (cI, 48, .inl (f 4))) ::
  (a 10, .inl (cI, 48, .inl (f 5))) ::
  (a 11, .inl (cI, 6, .inl (f 6))) ::
  (a 12, .inl (cI, 5, .inl (f 7))) ::
  (a 13, .inl (cI, 5, .inl (f 8))) ::
  (a 14, .inl (cI, 48, .inl (f 9))) ::
  (a 15, .inl (cO, 5, .inr (.inr (.inr (.inr (fun i => if i < 5 then some (a (16 + i)) else none)))))) ::
  (a 16, .inl (cI, 48, .inl (f 10))) ::
  (a 17, .inl (cI, 48, .inl (f 11))) ::
  (a 18, .inl (cI, 48, .inl (f 12))) ::
  (a 19, .inl (cI, 48, .inl (f 13))) ::
  (a 20, .inl (cI, 48, .inl (f 14))) :: R
theorem xc_0 {cI cO : ClassId} {a : Nat → Nat} {s : Nat → Int32} {f : Nat → Nat → Int32} {R : va_W} : (xW cI cO a s f R)[0]? = some (a 0, .inr (4, [.ref (a 1), .ref (a 2), .ref (a 3), .ref (a 4), .ref (a 5), .ref (a 6), .ref (a 7), .ref (a 8), .ref (a 9), .ref (a 10), .int (s 11), .int (s 12), .int (s 13), .int (s 14), .int (s 15), .int (s 16)])) := rfl
theorem xc_1 {cI cO : ClassId} {a : Nat → Nat} {s : Nat → Int32} {f : Nat → Nat → Int32} {R : va_W} : (xW cI cO a s f R)[1]? = some (a 1, .inr (3, [.int (s 0), .int (s 1), .int (s 2), .int (s 3), .int (s 4), .int (s 5), .int (s 6), .int (s 7), .int (s 8), .int (s 9), .int (s 10)])) := rfl
theorem xc_2 {cI cO : ClassId} {a : Nat → Nat} {s : Nat → Int32} {f : Nat → Nat → Int32} {R : va_W} : (xW cI cO a s f R)[2]? = some (a 2, .inr (2, [.ref (a 11), .int (s 17), .int (s 18)])) := rfl
theorem xc_3 {cI cO : ClassId} {a : Nat → Nat} {s : Nat → Int32} {f : Nat → Nat → Int32} {R : va_W} : (xW cI cO a s f R)[3]? = some (a 3, .inr (1, [.ref (a 15), .ref (a 12), .ref (a 13), .int (s 19)])) := rfl
theorem xc_4 {cI cO : ClassId} {a : Nat → Nat} {s : Nat → Int32} {f : Nat → Nat → Int32} {R : va_W} : (xW cI cO a s f R)[4]? = some (a 4, .inr (0, [.ref (a 14), .int (s 20), .int (s 21), .int (s 22)])) := rfl
theorem xc_5 {cI cO : ClassId} {a : Nat → Nat} {s : Nat → Int32} {f : Nat → Nat → Int32} {R : va_W} : (xW cI cO a s f R)[5]? = some (a 5, .inl (cI, 48, .inl (f 0))) := rfl
theorem xc_6 {cI cO : ClassId} {a : Nat → Nat} {s : Nat → Int32} {f : Nat → Nat → Int32} {R : va_W} : (xW cI cO a s f R)[6]? = some (a 6, .inl (cI, 48, .inl (f 1))) := rfl
theorem xc_7 {cI cO : ClassId} {a : Nat → Nat} {s : Nat → Int32} {f : Nat → Nat → Int32} {R : va_W} : (xW cI cO a s f R)[7]? = some (a 7, .inl (cI, 48, .inl (f 2))) := rfl
theorem xc_8 {cI cO : ClassId} {a : Nat → Nat} {s : Nat → Int32} {f : Nat → Nat → Int32} {R : va_W} : (xW cI cO a s f R)[8]? = some (a 8, .inl (cI, 48, .inl (f 3))) := rfl
theorem xc_9 {cI cO : ClassId} {a : Nat → Nat} {s : Nat → Int32} {f : Nat → Nat → Int32} {R : va_W} : (xW cI cO a s f R)[9]? = some (a 9, .inl (cI, 48, .inl (f 4))) := rfl
theorem xc_10 {cI cO : ClassId} {a : Nat → Nat} {s : Nat → Int32} {f : Nat → Nat → Int32} {R : va_W} : (xW cI cO a s f R)[10]? = some (a 10, .inl (cI, 48, .inl (f 5))) := rfl
theorem xc_11 {cI cO : ClassId} {a : Nat → Nat} {s : Nat → Int32} {f : Nat → Nat → Int32} {R : va_W} : (xW cI cO a s f R)[11]? = some (a 11, .inl (cI, 6, .inl (f 6))) := rfl
theorem xc_12 {cI cO : ClassId} {a : Nat → Nat} {s : Nat → Int32} {f : Nat → Nat → Int32} {R : va_W} : (xW cI cO a s f R)[12]? = some (a 12, .inl (cI, 5, .inl (f 7))) := rfl
theorem xc_13 {cI cO : ClassId} {a : Nat → Nat} {s : Nat → Int32} {f : Nat → Nat → Int32} {R : va_W} : (xW cI cO a s f R)[13]? = some (a 13, .inl (cI, 5, .inl (f 8))) := rfl
theorem xc_14 {cI cO : ClassId} {a : Nat → Nat} {s : Nat → Int32} {f : Nat → Nat → Int32} {R : va_W} : (xW cI cO a s f R)[14]? = some (a 14, .inl (cI, 48, .inl (f 9))) := rfl
theorem xc_15 {cI cO : ClassId} {a : Nat → Nat} {s : Nat → Int32} {f : Nat → Nat → Int32} {R : va_W} : (xW cI cO a s f R)[15]? = some (a 15, .inl (cO, 5, .inr (.inr (.inr (.inr (fun i => if i < 5 then some (a (16 + i)) else none)))))) := rfl
theorem xc_16 {cI cO : ClassId} {a : Nat → Nat} {s : Nat → Int32} {f : Nat → Nat → Int32} {R : va_W} : (xW cI cO a s f R)[16]? = some (a 16, .inl (cI, 48, .inl (f 10))) := rfl
theorem xc_17 {cI cO : ClassId} {a : Nat → Nat} {s : Nat → Int32} {f : Nat → Nat → Int32} {R : va_W} : (xW cI cO a s f R)[17]? = some (a 17, .inl (cI, 48, .inl (f 11))) := rfl
theorem xc_18 {cI cO : ClassId} {a : Nat → Nat} {s : Nat → Int32} {f : Nat → Nat → Int32} {R : va_W} : (xW cI cO a s f R)[18]? = some (a 18, .inl (cI, 48, .inl (f 12))) := rfl
theorem xc_19 {cI cO : ClassId} {a : Nat → Nat} {s : Nat → Int32} {f : Nat → Nat → Int32} {R : va_W} : (xW cI cO a s f R)[19]? = some (a 19, .inl (cI, 48, .inl (f 13))) := rfl
theorem xc_20 {cI cO : ClassId} {a : Nat → Nat} {s : Nat → Int32} {f : Nat → Nat → Int32} {R : va_W} : (xW cI cO a s f R)[20]? = some (a 20, .inl (cI, 48, .inl (f 14))) := rfl
theorem xs_0 {cI cO : ClassId} {a : Nat → Nat} {s : Nat → Int32} {f : Nat → Nat → Int32} {R : va_W} {g : Nat → Int32} : (xW cI cO a s f R).set 5 (a 5, .inl (cI, 48, .inl g)) = xW cI cO a s (va_up f 0 g) R := rfl
theorem xs_1 {cI cO : ClassId} {a : Nat → Nat} {s : Nat → Int32} {f : Nat → Nat → Int32} {R : va_W} {g : Nat → Int32} : (xW cI cO a s f R).set 6 (a 6, .inl (cI, 48, .inl g)) = xW cI cO a s (va_up f 1 g) R := rfl
theorem xs_2 {cI cO : ClassId} {a : Nat → Nat} {s : Nat → Int32} {f : Nat → Nat → Int32} {R : va_W} {g : Nat → Int32} : (xW cI cO a s f R).set 7 (a 7, .inl (cI, 48, .inl g)) = xW cI cO a s (va_up f 2 g) R := rfl
theorem xs_3 {cI cO : ClassId} {a : Nat → Nat} {s : Nat → Int32} {f : Nat → Nat → Int32} {R : va_W} {g : Nat → Int32} : (xW cI cO a s f R).set 8 (a 8, .inl (cI, 48, .inl g)) = xW cI cO a s (va_up f 3 g) R := rfl
theorem xs_4 {cI cO : ClassId} {a : Nat → Nat} {s : Nat → Int32} {f : Nat → Nat → Int32} {R : va_W} {g : Nat → Int32} : (xW cI cO a s f R).set 9 (a 9, .inl (cI, 48, .inl g)) = xW cI cO a s (va_up f 4 g) R := rfl
theorem xs_5 {cI cO : ClassId} {a : Nat → Nat} {s : Nat → Int32} {f : Nat → Nat → Int32} {R : va_W} {g : Nat → Int32} : (xW cI cO a s f R).set 10 (a 10, .inl (cI, 48, .inl g)) = xW cI cO a s (va_up f 5 g) R := rfl
theorem xs_6 {cI cO : ClassId} {a : Nat → Nat} {s : Nat → Int32} {f : Nat → Nat → Int32} {R : va_W} {g : Nat → Int32} : (xW cI cO a s f R).set 11 (a 11, .inl (cI, 6, .inl g)) = xW cI cO a s (va_up f 6 g) R := rfl
theorem xs_7 {cI cO : ClassId} {a : Nat → Nat} {s : Nat → Int32} {f : Nat → Nat → Int32} {R : va_W} {g : Nat → Int32} : (xW cI cO a s f R).set 12 (a 12, .inl (cI, 5, .inl g)) = xW cI cO a s (va_up f 7 g) R := rfl
theorem xs_8 {cI cO : ClassId} {a : Nat → Nat} {s : Nat → Int32} {f : Nat → Nat → Int32} {R : va_W} {g : Nat → Int32} : (xW cI cO a s f R).set 13 (a 13, .inl (cI, 5, .inl g)) = xW cI cO a s (va_up f 8 g) R := rfl
theorem xs_9 {cI cO : ClassId} {a : Nat → Nat} {s : Nat → Int32} {f : Nat → Nat → Int32} {R : va_W} {g : Nat → Int32} : (xW cI cO a s f R).set 14 (a 14, .inl (cI, 48, .inl g)) = xW cI cO a s (va_up f 9 g) R := rfl
theorem xs_10 {cI cO : ClassId} {a : Nat → Nat} {s : Nat → Int32} {f : Nat → Nat → Int32} {R : va_W} {g : Nat → Int32} : (xW cI cO a s f R).set 16 (a 16, .inl (cI, 48, .inl g)) = xW cI cO a s (va_up f 10 g) R := rfl
theorem xs_11 {cI cO : ClassId} {a : Nat → Nat} {s : Nat → Int32} {f : Nat → Nat → Int32} {R : va_W} {g : Nat → Int32} : (xW cI cO a s f R).set 17 (a 17, .inl (cI, 48, .inl g)) = xW cI cO a s (va_up f 11 g) R := rfl
theorem xs_12 {cI cO : ClassId} {a : Nat → Nat} {s : Nat → Int32} {f : Nat → Nat → Int32} {R : va_W} {g : Nat → Int32} : (xW cI cO a s f R).set 18 (a 18, .inl (cI, 48, .inl g)) = xW cI cO a s (va_up f 12 g) R := rfl
theorem xs_13 {cI cO : ClassId} {a : Nat → Nat} {s : Nat → Int32} {f : Nat → Nat → Int32} {R : va_W} {g : Nat → Int32} : (xW cI cO a s f R).set 19 (a 19, .inl (cI, 48, .inl g)) = xW cI cO a s (va_up f 13 g) R := rfl
theorem xs_14 {cI cO : ClassId} {a : Nat → Nat} {s : Nat → Int32} {f : Nat → Nat → Int32} {R : va_W} {g : Nat → Int32} : (xW cI cO a s f R).set 20 (a 20, .inl (cI, 48, .inl g)) = xW cI cO a s (va_up f 14 g) R := rfl
def mW (cI cO : ClassId) (a : Nat → Nat) (s : Nat → Int32) (f : Nat → Nat → Int32) (R : va_W) : va_W :=
  (a 0, .inr (5, mF a s)) ::
  (a 1, .inl (cI, 48, .inl (f 0))) ::
  (a 2, .inl (cI, 48, .inl (f 1))) ::
  (a 3, .inl (cI, 48, .inl (f 2))) ::
  (a 4, .inl (cI, 48, .inl (f 3))) ::
  (a 5, .inl (cI, 48, .inl (f 4))) ::
  (a 6, .inl (cI, 48, .inl (f 5))) ::
  (a 7, .inl (cI, 6, .inl (f 6))) ::
  (a 8, .inl (cI, 5, .inl (f 7))) ::
  (a 9, .inl (cI, 5, .inl (f 8))) ::
  (a 10, .inl (cI, 48, .inl (f 9))) ::
  (a 11, .inl (cI, 240, .inl (f 10))) :: R
theorem mc_0 {cI cO : ClassId} {a : Nat → Nat} {s : Nat → Int32} {f : Nat → Nat → Int32} {R : va_W} : (mW cI cO a s f R)[0]? = some (a 0, .inr (5, mF a s)) := rfl
theorem mc_1 {cI cO : ClassId} {a : Nat → Nat} {s : Nat → Int32} {f : Nat → Nat → Int32} {R : va_W} : (mW cI cO a s f R)[1]? = some (a 1, .inl (cI, 48, .inl (f 0))) := rfl
theorem mc_2 {cI cO : ClassId} {a : Nat → Nat} {s : Nat → Int32} {f : Nat → Nat → Int32} {R : va_W} : (mW cI cO a s f R)[2]? = some (a 2, .inl (cI, 48, .inl (f 1))) := rfl
theorem mc_3 {cI cO : ClassId} {a : Nat → Nat} {s : Nat → Int32} {f : Nat → Nat → Int32} {R : va_W} : (mW cI cO a s f R)[3]? = some (a 3, .inl (cI, 48, .inl (f 2))) := rfl
theorem mc_4 {cI cO : ClassId} {a : Nat → Nat} {s : Nat → Int32} {f : Nat → Nat → Int32} {R : va_W} : (mW cI cO a s f R)[4]? = some (a 4, .inl (cI, 48, .inl (f 3))) := rfl
theorem mc_5 {cI cO : ClassId} {a : Nat → Nat} {s : Nat → Int32} {f : Nat → Nat → Int32} {R : va_W} : (mW cI cO a s f R)[5]? = some (a 5, .inl (cI, 48, .inl (f 4))) := rfl
theorem mc_6 {cI cO : ClassId} {a : Nat → Nat} {s : Nat → Int32} {f : Nat → Nat → Int32} {R : va_W} : (mW cI cO a s f R)[6]? = some (a 6, .inl (cI, 48, .inl (f 5))) := rfl
theorem mc_7 {cI cO : ClassId} {a : Nat → Nat} {s : Nat → Int32} {f : Nat → Nat → Int32} {R : va_W} : (mW cI cO a s f R)[7]? = some (a 7, .inl (cI, 6, .inl (f 6))) := rfl
theorem mc_8 {cI cO : ClassId} {a : Nat → Nat} {s : Nat → Int32} {f : Nat → Nat → Int32} {R : va_W} : (mW cI cO a s f R)[8]? = some (a 8, .inl (cI, 5, .inl (f 7))) := rfl
theorem mc_9 {cI cO : ClassId} {a : Nat → Nat} {s : Nat → Int32} {f : Nat → Nat → Int32} {R : va_W} : (mW cI cO a s f R)[9]? = some (a 9, .inl (cI, 5, .inl (f 8))) := rfl
theorem mc_10 {cI cO : ClassId} {a : Nat → Nat} {s : Nat → Int32} {f : Nat → Nat → Int32} {R : va_W} : (mW cI cO a s f R)[10]? = some (a 10, .inl (cI, 48, .inl (f 9))) := rfl
theorem mc_11 {cI cO : ClassId} {a : Nat → Nat} {s : Nat → Int32} {f : Nat → Nat → Int32} {R : va_W} : (mW cI cO a s f R)[11]? = some (a 11, .inl (cI, 240, .inl (f 10))) := rfl
theorem ms_0 {cI cO : ClassId} {a : Nat → Nat} {s : Nat → Int32} {f : Nat → Nat → Int32} {R : va_W} {g : Nat → Int32} : (mW cI cO a s f R).set 1 (a 1, .inl (cI, 48, .inl g)) = mW cI cO a s (va_up f 0 g) R := rfl
theorem ms_1 {cI cO : ClassId} {a : Nat → Nat} {s : Nat → Int32} {f : Nat → Nat → Int32} {R : va_W} {g : Nat → Int32} : (mW cI cO a s f R).set 2 (a 2, .inl (cI, 48, .inl g)) = mW cI cO a s (va_up f 1 g) R := rfl
theorem ms_2 {cI cO : ClassId} {a : Nat → Nat} {s : Nat → Int32} {f : Nat → Nat → Int32} {R : va_W} {g : Nat → Int32} : (mW cI cO a s f R).set 3 (a 3, .inl (cI, 48, .inl g)) = mW cI cO a s (va_up f 2 g) R := rfl
theorem ms_3 {cI cO : ClassId} {a : Nat → Nat} {s : Nat → Int32} {f : Nat → Nat → Int32} {R : va_W} {g : Nat → Int32} : (mW cI cO a s f R).set 4 (a 4, .inl (cI, 48, .inl g)) = mW cI cO a s (va_up f 3 g) R := rfl
theorem ms_4 {cI cO : ClassId} {a : Nat → Nat} {s : Nat → Int32} {f : Nat → Nat → Int32} {R : va_W} {g : Nat → Int32} : (mW cI cO a s f R).set 5 (a 5, .inl (cI, 48, .inl g)) = mW cI cO a s (va_up f 4 g) R := rfl
theorem ms_5 {cI cO : ClassId} {a : Nat → Nat} {s : Nat → Int32} {f : Nat → Nat → Int32} {R : va_W} {g : Nat → Int32} : (mW cI cO a s f R).set 6 (a 6, .inl (cI, 48, .inl g)) = mW cI cO a s (va_up f 5 g) R := rfl
theorem ms_6 {cI cO : ClassId} {a : Nat → Nat} {s : Nat → Int32} {f : Nat → Nat → Int32} {R : va_W} {g : Nat → Int32} : (mW cI cO a s f R).set 7 (a 7, .inl (cI, 6, .inl g)) = mW cI cO a s (va_up f 6 g) R := rfl
theorem ms_7 {cI cO : ClassId} {a : Nat → Nat} {s : Nat → Int32} {f : Nat → Nat → Int32} {R : va_W} {g : Nat → Int32} : (mW cI cO a s f R).set 8 (a 8, .inl (cI, 5, .inl g)) = mW cI cO a s (va_up f 7 g) R := rfl
theorem ms_8 {cI cO : ClassId} {a : Nat → Nat} {s : Nat → Int32} {f : Nat → Nat → Int32} {R : va_W} {g : Nat → Int32} : (mW cI cO a s f R).set 9 (a 9, .inl (cI, 5, .inl g)) = mW cI cO a s (va_up f 8 g) R := rfl
theorem ms_9 {cI cO : ClassId} {a : Nat → Nat} {s : Nat → Int32} {f : Nat → Nat → Int32} {R : va_W} {g : Nat → Int32} : (mW cI cO a s f R).set 10 (a 10, .inl (cI, 48, .inl g)) = mW cI cO a s (va_up f 9 g) R := rfl
theorem ms_10 {cI cO : ClassId} {a : Nat → Nat} {s : Nat → Int32} {f : Nat → Nat → Int32} {R : va_W} {g : Nat → Int32} : (mW cI cO a s f R).set 11 (a 11, .inl (cI, 240, .inl g)) = mW cI cO a s (va_up f 10 g) R := rfl
theorem x_row {cI cO : ClassId} {a : Nat → Nat} {s : Nat → Int32} {f : Nat → Nat → Int32} {R : va_W} {j : Nat} (h : j < 5) : (xW cI cO a s f R)[16 + j]? = some (a (16 + j), .inl (cI, 48, .inl (f (10 + j)))) := by
  have h5 : j = 0 ∨ j = 1 ∨ j = 2 ∨ j = 3 ∨ j = 4 := by omega
  rcases h5 with rfl | rfl | rfl | rfl | rfl <;> rfl
theorem x_rowset {cI cO : ClassId} {a : Nat → Nat} {s : Nat → Int32} {f : Nat → Nat → Int32} {R : va_W} {g : Nat → Int32} {j : Nat} (h : j < 5) : (xW cI cO a s f R).set (16 + j) (a (16 + j), .inl (cI, 48, .inl g)) = xW cI cO a s (va_up f (10 + j) g) R := by
  have h5 : j = 0 ∨ j = 1 ∨ j = 2 ∨ j = 3 ∨ j = 4 := by omega
  rcases h5 with rfl | rfl | rfl | rfl | rfl <;> rfl
section WORLD
variable {p : Program} {l : Launch} {e : Env} {R : Room} {s : State} {m : MethodId} {args : Array Value} {below : List Frame} {meth : Method} {c : Code} {H : Heap} {locs : List Loc} {cells slots : Nat} {Q : State → Prop}
variable {cc : ByteArray} {nL : Nat} {own : String} {pc : Nat} {ls : Array Slot} {rest : List Value} {D : va_G} {tys : List (ClassId × FieldType)} {cI cO : ClassId} {A : Nat → Prop} {H0 : Heap} {Z : va_W} {a : Nat → Nat} {σ : Nat → Int32} {f : Nat → Nat → Int32} {index : Nat}
theorem xr_1 (S : CallFix p m c cc nL s args wsL_law own) (w : Wd D tys A H0 s (xW cI cO a σ f Z) H locs) (hl : Cond.fieldLink own index "RepeatLearner" "settings" "LRepeatLearner$Settings;" ∈ wsL_law) (hd : decode cc pc = .ok (.getfield index, 3)) (kk : W p l e R s m args below meth c H locs cells slots Q (F0 m (pc + 3) ls (.ref (a 1) :: rest))) : W p l e R s m args below meth c H locs cells slots Q (F0 m pc ls (.ref (a 0) :: rest)) :=
  x_get4 S w 0 (fs := [.ref (a 1), .ref (a 2), .ref (a 3), .ref (a 4), .ref (a 5), .ref (a 6), .ref (a 7), .ref (a 8), .ref (a 9), .ref (a 10), .int (σ 11), .int (σ 12), .int (σ 13), .int (σ 14), .int (σ 15), .int (σ 16)]) rfl 0 (by decide) hl rfl hd kk
theorem xr_2 (S : CallFix p m c cc nL s args wsL_law own) (w : Wd D tys A H0 s (xW cI cO a σ f Z) H locs) (hl : Cond.fieldLink own index "RepeatLearner" "plant" "LRepeatLearner$Plant;" ∈ wsL_law) (hd : decode cc pc = .ok (.getfield index, 3)) (kk : W p l e R s m args below meth c H locs cells slots Q (F0 m (pc + 3) ls (.ref (a 2) :: rest))) : W p l e R s m args below meth c H locs cells slots Q (F0 m pc ls (.ref (a 0) :: rest)) :=
  x_get4 S w 0 (fs := [.ref (a 1), .ref (a 2), .ref (a 3), .ref (a 4), .ref (a 5), .ref (a 6), .ref (a 7), .ref (a 8), .ref (a 9), .ref (a 10), .int (σ 11), .int (σ 12), .int (σ 13), .int (σ 14), .int (σ 15), .int (σ 16)]) rfl 1 (by decide) hl rfl hd kk
theorem xr_3 (S : CallFix p m c cc nL s args wsL_law own) (w : Wd D tys A H0 s (xW cI cO a σ f Z) H locs) (hl : Cond.fieldLink own index "RepeatLearner" "history" "LRepeatLearner$History;" ∈ wsL_law) (hd : decode cc pc = .ok (.getfield index, 3)) (kk : W p l e R s m args below meth c H locs cells slots Q (F0 m (pc + 3) ls (.ref (a 3) :: rest))) : W p l e R s m args below meth c H locs cells slots Q (F0 m pc ls (.ref (a 0) :: rest)) :=
  x_get4 S w 0 (fs := [.ref (a 1), .ref (a 2), .ref (a 3), .ref (a 4), .ref (a 5), .ref (a 6), .ref (a 7), .ref (a 8), .ref (a 9), .ref (a 10), .int (σ 11), .int (σ 12), .int (σ 13), .int (σ 14), .int (σ 15), .int (σ 16)]) rfl 2 (by decide) hl rfl hd kk
theorem xr_4 (S : CallFix p m c cc nL s args wsL_law own) (w : Wd D tys A H0 s (xW cI cO a σ f Z) H locs) (hl : Cond.fieldLink own index "RepeatLearner" "best" "LRepeatLearner$Best;" ∈ wsL_law) (hd : decode cc pc = .ok (.getfield index, 3)) (kk : W p l e R s m args below meth c H locs cells slots Q (F0 m (pc + 3) ls (.ref (a 4) :: rest))) : W p l e R s m args below meth c H locs cells slots Q (F0 m pc ls (.ref (a 0) :: rest)) :=
  x_get4 S w 0 (fs := [.ref (a 1), .ref (a 2), .ref (a 3), .ref (a 4), .ref (a 5), .ref (a 6), .ref (a 7), .ref (a 8), .ref (a 9), .ref (a 10), .int (σ 11), .int (σ 12), .int (σ 13), .int (σ 14), .int (σ 15), .int (σ 16)]) rfl 3 (by decide) hl rfl hd kk
theorem xr_5 (S : CallFix p m c cc nL s args wsL_law own) (w : Wd D tys A H0 s (xW cI cO a σ f Z) H locs) (hl : Cond.fieldLink own index "RepeatLearner" "references" "[I" ∈ wsL_law) (hd : decode cc pc = .ok (.getfield index, 3)) (kk : W p l e R s m args below meth c H locs cells slots Q (F0 m (pc + 3) ls (.ref (a 5) :: rest))) : W p l e R s m args below meth c H locs cells slots Q (F0 m pc ls (.ref (a 0) :: rest)) :=
  x_get4 S w 0 (fs := [.ref (a 1), .ref (a 2), .ref (a 3), .ref (a 4), .ref (a 5), .ref (a 6), .ref (a 7), .ref (a 8), .ref (a 9), .ref (a 10), .int (σ 11), .int (σ 12), .int (σ 13), .int (σ 14), .int (σ 15), .int (σ 16)]) rfl 4 (by decide) hl rfl hd kk
theorem xr_6 (S : CallFix p m c cc nL s args wsL_law own) (w : Wd D tys A H0 s (xW cI cO a σ f Z) H locs) (hl : Cond.fieldLink own index "RepeatLearner" "inputs" "[I" ∈ wsL_law) (hd : decode cc pc = .ok (.getfield index, 3)) (kk : W p l e R s m args below meth c H locs cells slots Q (F0 m (pc + 3) ls (.ref (a 6) :: rest))) : W p l e R s m args below meth c H locs cells slots Q (F0 m pc ls (.ref (a 0) :: rest)) :=
  x_get4 S w 0 (fs := [.ref (a 1), .ref (a 2), .ref (a 3), .ref (a 4), .ref (a 5), .ref (a 6), .ref (a 7), .ref (a 8), .ref (a 9), .ref (a 10), .int (σ 11), .int (σ 12), .int (σ 13), .int (σ 14), .int (σ 15), .int (σ 16)]) rfl 5 (by decide) hl rfl hd kk
theorem xr_7 (S : CallFix p m c cc nL s args wsL_law own) (w : Wd D tys A H0 s (xW cI cO a σ f Z) H locs) (hl : Cond.fieldLink own index "RepeatLearner" "smoothed" "[I" ∈ wsL_law) (hd : decode cc pc = .ok (.getfield index, 3)) (kk : W p l e R s m args below meth c H locs cells slots Q (F0 m (pc + 3) ls (.ref (a 7) :: rest))) : W p l e R s m args below meth c H locs cells slots Q (F0 m pc ls (.ref (a 0) :: rest)) :=
  x_get4 S w 0 (fs := [.ref (a 1), .ref (a 2), .ref (a 3), .ref (a 4), .ref (a 5), .ref (a 6), .ref (a 7), .ref (a 8), .ref (a 9), .ref (a 10), .int (σ 11), .int (σ 12), .int (σ 13), .int (σ 14), .int (σ 15), .int (σ 16)]) rfl 6 (by decide) hl rfl hd kk
theorem xr_8 (S : CallFix p m c cc nL s args wsL_law own) (w : Wd D tys A H0 s (xW cI cO a σ f Z) H locs) (hl : Cond.fieldLink own index "RepeatLearner" "raw" "[I" ∈ wsL_law) (hd : decode cc pc = .ok (.getfield index, 3)) (kk : W p l e R s m args below meth c H locs cells slots Q (F0 m (pc + 3) ls (.ref (a 8) :: rest))) : W p l e R s m args below meth c H locs cells slots Q (F0 m pc ls (.ref (a 0) :: rest)) :=
  x_get4 S w 0 (fs := [.ref (a 1), .ref (a 2), .ref (a 3), .ref (a 4), .ref (a 5), .ref (a 6), .ref (a 7), .ref (a 8), .ref (a 9), .ref (a 10), .int (σ 11), .int (σ 12), .int (σ 13), .int (σ 14), .int (σ 15), .int (σ 16)]) rfl 7 (by decide) hl rfl hd kk
theorem xr_9 (S : CallFix p m c cc nL s args wsL_law own) (w : Wd D tys A H0 s (xW cI cO a σ f Z) H locs) (hl : Cond.fieldLink own index "RepeatLearner" "aligned" "[I" ∈ wsL_law) (hd : decode cc pc = .ok (.getfield index, 3)) (kk : W p l e R s m args below meth c H locs cells slots Q (F0 m (pc + 3) ls (.ref (a 9) :: rest))) : W p l e R s m args below meth c H locs cells slots Q (F0 m pc ls (.ref (a 0) :: rest)) :=
  x_get4 S w 0 (fs := [.ref (a 1), .ref (a 2), .ref (a 3), .ref (a 4), .ref (a 5), .ref (a 6), .ref (a 7), .ref (a 8), .ref (a 9), .ref (a 10), .int (σ 11), .int (σ 12), .int (σ 13), .int (σ 14), .int (σ 15), .int (σ 16)]) rfl 8 (by decide) hl rfl hd kk
theorem xr_10 (S : CallFix p m c cc nL s args wsL_law own) (w : Wd D tys A H0 s (xW cI cO a σ f Z) H locs) (hl : Cond.fieldLink own index "RepeatLearner" "partErrors" "[I" ∈ wsL_law) (hd : decode cc pc = .ok (.getfield index, 3)) (kk : W p l e R s m args below meth c H locs cells slots Q (F0 m (pc + 3) ls (.ref (a 10) :: rest))) : W p l e R s m args below meth c H locs cells slots Q (F0 m pc ls (.ref (a 0) :: rest)) :=
  x_get4 S w 0 (fs := [.ref (a 1), .ref (a 2), .ref (a 3), .ref (a 4), .ref (a 5), .ref (a 6), .ref (a 7), .ref (a 8), .ref (a 9), .ref (a 10), .int (σ 11), .int (σ 12), .int (σ 13), .int (σ 14), .int (σ 15), .int (σ 16)]) rfl 9 (by decide) hl rfl hd kk
theorem xg_11 (S : CallFix p m c cc nL s args wsL_law own) (w : Wd D tys A H0 s (xW cI cO a σ f Z) H locs) (hl : Cond.fieldLink own index "RepeatLearner" "running" "Z" ∈ wsL_law) (hd : decode cc pc = .ok (.getfield index, 3)) (kk : W p l e R s m args below meth c H locs cells slots Q (F0 m (pc + 3) ls (.int (σ 11) :: rest))) : W p l e R s m args below meth c H locs cells slots Q (F0 m pc ls (.ref (a 0) :: rest)) :=
  x_get4 S w 0 (fs := [.ref (a 1), .ref (a 2), .ref (a 3), .ref (a 4), .ref (a 5), .ref (a 6), .ref (a 7), .ref (a 8), .ref (a 9), .ref (a 10), .int (σ 11), .int (σ 12), .int (σ 13), .int (σ 14), .int (σ 15), .int (σ 16)]) rfl 10 (by decide) hl rfl hd kk
theorem xp_11 {v : Int32} (S : CallFix p m c cc nL s args wsL_law own) (w : Wd D tys A H0 s (xW cI cO a σ f Z) H locs) (hb : v = 0 ∨ v = 1) (hl : Cond.fieldLink own index "RepeatLearner" "running" "Z" ∈ wsL_law) (hd : decode cc pc = .ok (.putfield index, 3)) (kk : ∀ (H1 : Heap) (locs1 : List Loc), Wd D tys A H0 s (xW cI cO a (upd σ 11 v) f Z) H1 locs1 → W p l e R s m args below meth c H1 locs1 cells slots Q (F0 m (pc + 3) ls rest)) : W p l e R s m args below meth c H locs cells slots Q (F0 m pc ls (.int v :: .ref (a 0) :: rest)) :=
  x_put4 S w 0 (fs := [.ref (a 1), .ref (a 2), .ref (a 3), .ref (a 4), .ref (a 5), .ref (a 6), .ref (a 7), .ref (a 8), .ref (a 9), .ref (a 10), .int (σ 11), .int (σ 12), .int (σ 13), .int (σ 14), .int (σ 15), .int (σ 16)]) rfl 10 (by decide) hl rfl (v := .int v) (ws' := xW cI cO a (upd σ 11 v) f Z) (by rcases hb with rfl | rfl <;> rfl) (by rcases hb with rfl | rfl <;> rfl) (Nat.le_of_ble_eq_true rfl) rfl hd kk
theorem xg_12 (S : CallFix p m c cc nL s args wsL_law own) (w : Wd D tys A H0 s (xW cI cO a σ f Z) H locs) (hl : Cond.fieldLink own index "RepeatLearner" "recorded" "I" ∈ wsL_law) (hd : decode cc pc = .ok (.getfield index, 3)) (kk : W p l e R s m args below meth c H locs cells slots Q (F0 m (pc + 3) ls (.int (σ 12) :: rest))) : W p l e R s m args below meth c H locs cells slots Q (F0 m pc ls (.ref (a 0) :: rest)) :=
  x_get4 S w 0 (fs := [.ref (a 1), .ref (a 2), .ref (a 3), .ref (a 4), .ref (a 5), .ref (a 6), .ref (a 7), .ref (a 8), .ref (a 9), .ref (a 10), .int (σ 11), .int (σ 12), .int (σ 13), .int (σ 14), .int (σ 15), .int (σ 16)]) rfl 11 (by decide) hl rfl hd kk
theorem xp_12 {v : Int32} (S : CallFix p m c cc nL s args wsL_law own) (w : Wd D tys A H0 s (xW cI cO a σ f Z) H locs) (hl : Cond.fieldLink own index "RepeatLearner" "recorded" "I" ∈ wsL_law) (hd : decode cc pc = .ok (.putfield index, 3)) (kk : ∀ (H1 : Heap) (locs1 : List Loc), Wd D tys A H0 s (xW cI cO a (upd σ 12 v) f Z) H1 locs1 → W p l e R s m args below meth c H1 locs1 cells slots Q (F0 m (pc + 3) ls rest)) : W p l e R s m args below meth c H locs cells slots Q (F0 m pc ls (.int v :: .ref (a 0) :: rest)) :=
  x_put4 S w 0 (fs := [.ref (a 1), .ref (a 2), .ref (a 3), .ref (a 4), .ref (a 5), .ref (a 6), .ref (a 7), .ref (a 8), .ref (a 9), .ref (a 10), .int (σ 11), .int (σ 12), .int (σ 13), .int (σ 14), .int (σ 15), .int (σ 16)]) rfl 11 (by decide) hl rfl (v := .int v) (ws' := xW cI cO a (upd σ 12 v) f Z) rfl rfl (Nat.le_of_ble_eq_true rfl) rfl hd kk
theorem xg_13 (S : CallFix p m c cc nL s args wsL_law own) (w : Wd D tys A H0 s (xW cI cO a σ f Z) H locs) (hl : Cond.fieldLink own index "RepeatLearner" "started" "I" ∈ wsL_law) (hd : decode cc pc = .ok (.getfield index, 3)) (kk : W p l e R s m args below meth c H locs cells slots Q (F0 m (pc + 3) ls (.int (σ 13) :: rest))) : W p l e R s m args below meth c H locs cells slots Q (F0 m pc ls (.ref (a 0) :: rest)) :=
  x_get4 S w 0 (fs := [.ref (a 1), .ref (a 2), .ref (a 3), .ref (a 4), .ref (a 5), .ref (a 6), .ref (a 7), .ref (a 8), .ref (a 9), .ref (a 10), .int (σ 11), .int (σ 12), .int (σ 13), .int (σ 14), .int (σ 15), .int (σ 16)]) rfl 12 (by decide) hl rfl hd kk
theorem xp_13 {v : Int32} (S : CallFix p m c cc nL s args wsL_law own) (w : Wd D tys A H0 s (xW cI cO a σ f Z) H locs) (hl : Cond.fieldLink own index "RepeatLearner" "started" "I" ∈ wsL_law) (hd : decode cc pc = .ok (.putfield index, 3)) (kk : ∀ (H1 : Heap) (locs1 : List Loc), Wd D tys A H0 s (xW cI cO a (upd σ 13 v) f Z) H1 locs1 → W p l e R s m args below meth c H1 locs1 cells slots Q (F0 m (pc + 3) ls rest)) : W p l e R s m args below meth c H locs cells slots Q (F0 m pc ls (.int v :: .ref (a 0) :: rest)) :=
  x_put4 S w 0 (fs := [.ref (a 1), .ref (a 2), .ref (a 3), .ref (a 4), .ref (a 5), .ref (a 6), .ref (a 7), .ref (a 8), .ref (a 9), .ref (a 10), .int (σ 11), .int (σ 12), .int (σ 13), .int (σ 14), .int (σ 15), .int (σ 16)]) rfl 12 (by decide) hl rfl (v := .int v) (ws' := xW cI cO a (upd σ 13 v) f Z) rfl rfl (Nat.le_of_ble_eq_true rfl) rfl hd kk
theorem xg_14 (S : CallFix p m c cc nL s args wsL_law own) (w : Wd D tys A H0 s (xW cI cO a σ f Z) H locs) (hl : Cond.fieldLink own index "RepeatLearner" "aborted" "I" ∈ wsL_law) (hd : decode cc pc = .ok (.getfield index, 3)) (kk : W p l e R s m args below meth c H locs cells slots Q (F0 m (pc + 3) ls (.int (σ 14) :: rest))) : W p l e R s m args below meth c H locs cells slots Q (F0 m pc ls (.ref (a 0) :: rest)) :=
  x_get4 S w 0 (fs := [.ref (a 1), .ref (a 2), .ref (a 3), .ref (a 4), .ref (a 5), .ref (a 6), .ref (a 7), .ref (a 8), .ref (a 9), .ref (a 10), .int (σ 11), .int (σ 12), .int (σ 13), .int (σ 14), .int (σ 15), .int (σ 16)]) rfl 13 (by decide) hl rfl hd kk
theorem xp_14 {v : Int32} (S : CallFix p m c cc nL s args wsL_law own) (w : Wd D tys A H0 s (xW cI cO a σ f Z) H locs) (hl : Cond.fieldLink own index "RepeatLearner" "aborted" "I" ∈ wsL_law) (hd : decode cc pc = .ok (.putfield index, 3)) (kk : ∀ (H1 : Heap) (locs1 : List Loc), Wd D tys A H0 s (xW cI cO a (upd σ 14 v) f Z) H1 locs1 → W p l e R s m args below meth c H1 locs1 cells slots Q (F0 m (pc + 3) ls rest)) : W p l e R s m args below meth c H locs cells slots Q (F0 m pc ls (.int v :: .ref (a 0) :: rest)) :=
  x_put4 S w 0 (fs := [.ref (a 1), .ref (a 2), .ref (a 3), .ref (a 4), .ref (a 5), .ref (a 6), .ref (a 7), .ref (a 8), .ref (a 9), .ref (a 10), .int (σ 11), .int (σ 12), .int (σ 13), .int (σ 14), .int (σ 15), .int (σ 16)]) rfl 13 (by decide) hl rfl (v := .int v) (ws' := xW cI cO a (upd σ 14 v) f Z) rfl rfl (Nat.le_of_ble_eq_true rfl) rfl hd kk
theorem xg_15 (S : CallFix p m c cc nL s args wsL_law own) (w : Wd D tys A H0 s (xW cI cO a σ f Z) H locs) (hl : Cond.fieldLink own index "RepeatLearner" "fallbacks" "I" ∈ wsL_law) (hd : decode cc pc = .ok (.getfield index, 3)) (kk : W p l e R s m args below meth c H locs cells slots Q (F0 m (pc + 3) ls (.int (σ 15) :: rest))) : W p l e R s m args below meth c H locs cells slots Q (F0 m pc ls (.ref (a 0) :: rest)) :=
  x_get4 S w 0 (fs := [.ref (a 1), .ref (a 2), .ref (a 3), .ref (a 4), .ref (a 5), .ref (a 6), .ref (a 7), .ref (a 8), .ref (a 9), .ref (a 10), .int (σ 11), .int (σ 12), .int (σ 13), .int (σ 14), .int (σ 15), .int (σ 16)]) rfl 14 (by decide) hl rfl hd kk
theorem xp_15 {v : Int32} (S : CallFix p m c cc nL s args wsL_law own) (w : Wd D tys A H0 s (xW cI cO a σ f Z) H locs) (hl : Cond.fieldLink own index "RepeatLearner" "fallbacks" "I" ∈ wsL_law) (hd : decode cc pc = .ok (.putfield index, 3)) (kk : ∀ (H1 : Heap) (locs1 : List Loc), Wd D tys A H0 s (xW cI cO a (upd σ 15 v) f Z) H1 locs1 → W p l e R s m args below meth c H1 locs1 cells slots Q (F0 m (pc + 3) ls rest)) : W p l e R s m args below meth c H locs cells slots Q (F0 m pc ls (.int v :: .ref (a 0) :: rest)) :=
  x_put4 S w 0 (fs := [.ref (a 1), .ref (a 2), .ref (a 3), .ref (a 4), .ref (a 5), .ref (a 6), .ref (a 7), .ref (a 8), .ref (a 9), .ref (a 10), .int (σ 11), .int (σ 12), .int (σ 13), .int (σ 14), .int (σ 15), .int (σ 16)]) rfl 14 (by decide) hl rfl (v := .int v) (ws' := xW cI cO a (upd σ 15 v) f Z) rfl rfl (Nat.le_of_ble_eq_true rfl) rfl hd kk
theorem xg_16 (S : CallFix p m c cc nL s args wsL_law own) (w : Wd D tys A H0 s (xW cI cO a σ f Z) H locs) (hl : Cond.fieldLink own index "RepeatLearner" "badTrials" "I" ∈ wsL_law) (hd : decode cc pc = .ok (.getfield index, 3)) (kk : W p l e R s m args below meth c H locs cells slots Q (F0 m (pc + 3) ls (.int (σ 16) :: rest))) : W p l e R s m args below meth c H locs cells slots Q (F0 m pc ls (.ref (a 0) :: rest)) :=
  x_get4 S w 0 (fs := [.ref (a 1), .ref (a 2), .ref (a 3), .ref (a 4), .ref (a 5), .ref (a 6), .ref (a 7), .ref (a 8), .ref (a 9), .ref (a 10), .int (σ 11), .int (σ 12), .int (σ 13), .int (σ 14), .int (σ 15), .int (σ 16)]) rfl 15 (by decide) hl rfl hd kk
theorem xp_16 {v : Int32} (S : CallFix p m c cc nL s args wsL_law own) (w : Wd D tys A H0 s (xW cI cO a σ f Z) H locs) (hl : Cond.fieldLink own index "RepeatLearner" "badTrials" "I" ∈ wsL_law) (hd : decode cc pc = .ok (.putfield index, 3)) (kk : ∀ (H1 : Heap) (locs1 : List Loc), Wd D tys A H0 s (xW cI cO a (upd σ 16 v) f Z) H1 locs1 → W p l e R s m args below meth c H1 locs1 cells slots Q (F0 m (pc + 3) ls rest)) : W p l e R s m args below meth c H locs cells slots Q (F0 m pc ls (.int v :: .ref (a 0) :: rest)) :=
  x_put4 S w 0 (fs := [.ref (a 1), .ref (a 2), .ref (a 3), .ref (a 4), .ref (a 5), .ref (a 6), .ref (a 7), .ref (a 8), .ref (a 9), .ref (a 10), .int (σ 11), .int (σ 12), .int (σ 13), .int (σ 14), .int (σ 15), .int (σ 16)]) rfl 15 (by decide) hl rfl (v := .int v) (ws' := xW cI cO a (upd σ 16 v) f Z) rfl rfl (Nat.le_of_ble_eq_true rfl) rfl hd kk
theorem xg_0 (S : CallFix p m c cc nL s args wsL_law own) (w : Wd D tys A H0 s (xW cI cO a σ f Z) H locs) (hl : Cond.fieldLink own index "RepeatLearner$Settings" "samples" "I" ∈ wsL_law) (hd : decode cc pc = .ok (.getfield index, 3)) (kk : W p l e R s m args below meth c H locs cells slots Q (F0 m (pc + 3) ls (.int (σ 0) :: rest))) : W p l e R s m args below meth c H locs cells slots Q (F0 m pc ls (.ref (a 1) :: rest)) :=
  x_get3 S w 1 (fs := [.int (σ 0), .int (σ 1), .int (σ 2), .int (σ 3), .int (σ 4), .int (σ 5), .int (σ 6), .int (σ 7), .int (σ 8), .int (σ 9), .int (σ 10)]) rfl 0 (by decide) hl rfl hd kk
theorem xp_0 {v : Int32} (S : CallFix p m c cc nL s args wsL_law own) (w : Wd D tys A H0 s (xW cI cO a σ f Z) H locs) (hl : Cond.fieldLink own index "RepeatLearner$Settings" "samples" "I" ∈ wsL_law) (hd : decode cc pc = .ok (.putfield index, 3)) (kk : ∀ (H1 : Heap) (locs1 : List Loc), Wd D tys A H0 s (xW cI cO a (upd σ 0 v) f Z) H1 locs1 → W p l e R s m args below meth c H1 locs1 cells slots Q (F0 m (pc + 3) ls rest)) : W p l e R s m args below meth c H locs cells slots Q (F0 m pc ls (.int v :: .ref (a 1) :: rest)) :=
  x_put3 S w 1 (fs := [.int (σ 0), .int (σ 1), .int (σ 2), .int (σ 3), .int (σ 4), .int (σ 5), .int (σ 6), .int (σ 7), .int (σ 8), .int (σ 9), .int (σ 10)]) rfl 0 (by decide) hl rfl (v := .int v) (ws' := xW cI cO a (upd σ 0 v) f Z) rfl rfl (Nat.le_of_ble_eq_true rfl) rfl hd kk
theorem xg_1 (S : CallFix p m c cc nL s args wsL_law own) (w : Wd D tys A H0 s (xW cI cO a σ f Z) H locs) (hl : Cond.fieldLink own index "RepeatLearner$Settings" "gain" "I" ∈ wsL_law) (hd : decode cc pc = .ok (.getfield index, 3)) (kk : W p l e R s m args below meth c H locs cells slots Q (F0 m (pc + 3) ls (.int (σ 1) :: rest))) : W p l e R s m args below meth c H locs cells slots Q (F0 m pc ls (.ref (a 1) :: rest)) :=
  x_get3 S w 1 (fs := [.int (σ 0), .int (σ 1), .int (σ 2), .int (σ 3), .int (σ 4), .int (σ 5), .int (σ 6), .int (σ 7), .int (σ 8), .int (σ 9), .int (σ 10)]) rfl 1 (by decide) hl rfl hd kk
theorem xp_1 {v : Int32} (S : CallFix p m c cc nL s args wsL_law own) (w : Wd D tys A H0 s (xW cI cO a σ f Z) H locs) (hl : Cond.fieldLink own index "RepeatLearner$Settings" "gain" "I" ∈ wsL_law) (hd : decode cc pc = .ok (.putfield index, 3)) (kk : ∀ (H1 : Heap) (locs1 : List Loc), Wd D tys A H0 s (xW cI cO a (upd σ 1 v) f Z) H1 locs1 → W p l e R s m args below meth c H1 locs1 cells slots Q (F0 m (pc + 3) ls rest)) : W p l e R s m args below meth c H locs cells slots Q (F0 m pc ls (.int v :: .ref (a 1) :: rest)) :=
  x_put3 S w 1 (fs := [.int (σ 0), .int (σ 1), .int (σ 2), .int (σ 3), .int (σ 4), .int (σ 5), .int (σ 6), .int (σ 7), .int (σ 8), .int (σ 9), .int (σ 10)]) rfl 1 (by decide) hl rfl (v := .int v) (ws' := xW cI cO a (upd σ 1 v) f Z) rfl rfl (Nat.le_of_ble_eq_true rfl) rfl hd kk
theorem xg_2 (S : CallFix p m c cc nL s args wsL_law own) (w : Wd D tys A H0 s (xW cI cO a σ f Z) H locs) (hl : Cond.fieldLink own index "RepeatLearner$Settings" "lead" "I" ∈ wsL_law) (hd : decode cc pc = .ok (.getfield index, 3)) (kk : W p l e R s m args below meth c H locs cells slots Q (F0 m (pc + 3) ls (.int (σ 2) :: rest))) : W p l e R s m args below meth c H locs cells slots Q (F0 m pc ls (.ref (a 1) :: rest)) :=
  x_get3 S w 1 (fs := [.int (σ 0), .int (σ 1), .int (σ 2), .int (σ 3), .int (σ 4), .int (σ 5), .int (σ 6), .int (σ 7), .int (σ 8), .int (σ 9), .int (σ 10)]) rfl 2 (by decide) hl rfl hd kk
theorem xp_2 {v : Int32} (S : CallFix p m c cc nL s args wsL_law own) (w : Wd D tys A H0 s (xW cI cO a σ f Z) H locs) (hl : Cond.fieldLink own index "RepeatLearner$Settings" "lead" "I" ∈ wsL_law) (hd : decode cc pc = .ok (.putfield index, 3)) (kk : ∀ (H1 : Heap) (locs1 : List Loc), Wd D tys A H0 s (xW cI cO a (upd σ 2 v) f Z) H1 locs1 → W p l e R s m args below meth c H1 locs1 cells slots Q (F0 m (pc + 3) ls rest)) : W p l e R s m args below meth c H locs cells slots Q (F0 m pc ls (.int v :: .ref (a 1) :: rest)) :=
  x_put3 S w 1 (fs := [.int (σ 0), .int (σ 1), .int (σ 2), .int (σ 3), .int (σ 4), .int (σ 5), .int (σ 6), .int (σ 7), .int (σ 8), .int (σ 9), .int (σ 10)]) rfl 2 (by decide) hl rfl (v := .int v) (ws' := xW cI cO a (upd σ 2 v) f Z) rfl rfl (Nat.le_of_ble_eq_true rfl) rfl hd kk
theorem xg_3 (S : CallFix p m c cc nL s args wsL_law own) (w : Wd D tys A H0 s (xW cI cO a σ f Z) H locs) (hl : Cond.fieldLink own index "RepeatLearner$Settings" "weight" "I" ∈ wsL_law) (hd : decode cc pc = .ok (.getfield index, 3)) (kk : W p l e R s m args below meth c H locs cells slots Q (F0 m (pc + 3) ls (.int (σ 3) :: rest))) : W p l e R s m args below meth c H locs cells slots Q (F0 m pc ls (.ref (a 1) :: rest)) :=
  x_get3 S w 1 (fs := [.int (σ 0), .int (σ 1), .int (σ 2), .int (σ 3), .int (σ 4), .int (σ 5), .int (σ 6), .int (σ 7), .int (σ 8), .int (σ 9), .int (σ 10)]) rfl 3 (by decide) hl rfl hd kk
theorem xp_3 {v : Int32} (S : CallFix p m c cc nL s args wsL_law own) (w : Wd D tys A H0 s (xW cI cO a σ f Z) H locs) (hl : Cond.fieldLink own index "RepeatLearner$Settings" "weight" "I" ∈ wsL_law) (hd : decode cc pc = .ok (.putfield index, 3)) (kk : ∀ (H1 : Heap) (locs1 : List Loc), Wd D tys A H0 s (xW cI cO a (upd σ 3 v) f Z) H1 locs1 → W p l e R s m args below meth c H1 locs1 cells slots Q (F0 m (pc + 3) ls rest)) : W p l e R s m args below meth c H locs cells slots Q (F0 m pc ls (.int v :: .ref (a 1) :: rest)) :=
  x_put3 S w 1 (fs := [.int (σ 0), .int (σ 1), .int (σ 2), .int (σ 3), .int (σ 4), .int (σ 5), .int (σ 6), .int (σ 7), .int (σ 8), .int (σ 9), .int (σ 10)]) rfl 3 (by decide) hl rfl (v := .int v) (ws' := xW cI cO a (upd σ 3 v) f Z) rfl rfl (Nat.le_of_ble_eq_true rfl) rfl hd kk
theorem xg_4 (S : CallFix p m c cc nL s args wsL_law own) (w : Wd D tys A H0 s (xW cI cO a σ f Z) H locs) (hl : Cond.fieldLink own index "RepeatLearner$Settings" "passes" "I" ∈ wsL_law) (hd : decode cc pc = .ok (.getfield index, 3)) (kk : W p l e R s m args below meth c H locs cells slots Q (F0 m (pc + 3) ls (.int (σ 4) :: rest))) : W p l e R s m args below meth c H locs cells slots Q (F0 m pc ls (.ref (a 1) :: rest)) :=
  x_get3 S w 1 (fs := [.int (σ 0), .int (σ 1), .int (σ 2), .int (σ 3), .int (σ 4), .int (σ 5), .int (σ 6), .int (σ 7), .int (σ 8), .int (σ 9), .int (σ 10)]) rfl 4 (by decide) hl rfl hd kk
theorem xp_4 {v : Int32} (S : CallFix p m c cc nL s args wsL_law own) (w : Wd D tys A H0 s (xW cI cO a σ f Z) H locs) (hl : Cond.fieldLink own index "RepeatLearner$Settings" "passes" "I" ∈ wsL_law) (hd : decode cc pc = .ok (.putfield index, 3)) (kk : ∀ (H1 : Heap) (locs1 : List Loc), Wd D tys A H0 s (xW cI cO a (upd σ 4 v) f Z) H1 locs1 → W p l e R s m args below meth c H1 locs1 cells slots Q (F0 m (pc + 3) ls rest)) : W p l e R s m args below meth c H locs cells slots Q (F0 m pc ls (.int v :: .ref (a 1) :: rest)) :=
  x_put3 S w 1 (fs := [.int (σ 0), .int (σ 1), .int (σ 2), .int (σ 3), .int (σ 4), .int (σ 5), .int (σ 6), .int (σ 7), .int (σ 8), .int (σ 9), .int (σ 10)]) rfl 4 (by decide) hl rfl (v := .int v) (ws' := xW cI cO a (upd σ 4 v) f Z) rfl rfl (Nat.le_of_ble_eq_true rfl) rfl hd kk
theorem xg_5 (S : CallFix p m c cc nL s args wsL_law own) (w : Wd D tys A H0 s (xW cI cO a σ f Z) H locs) (hl : Cond.fieldLink own index "RepeatLearner$Settings" "limit" "I" ∈ wsL_law) (hd : decode cc pc = .ok (.getfield index, 3)) (kk : W p l e R s m args below meth c H locs cells slots Q (F0 m (pc + 3) ls (.int (σ 5) :: rest))) : W p l e R s m args below meth c H locs cells slots Q (F0 m pc ls (.ref (a 1) :: rest)) :=
  x_get3 S w 1 (fs := [.int (σ 0), .int (σ 1), .int (σ 2), .int (σ 3), .int (σ 4), .int (σ 5), .int (σ 6), .int (σ 7), .int (σ 8), .int (σ 9), .int (σ 10)]) rfl 5 (by decide) hl rfl hd kk
theorem xp_5 {v : Int32} (S : CallFix p m c cc nL s args wsL_law own) (w : Wd D tys A H0 s (xW cI cO a σ f Z) H locs) (hl : Cond.fieldLink own index "RepeatLearner$Settings" "limit" "I" ∈ wsL_law) (hd : decode cc pc = .ok (.putfield index, 3)) (kk : ∀ (H1 : Heap) (locs1 : List Loc), Wd D tys A H0 s (xW cI cO a (upd σ 5 v) f Z) H1 locs1 → W p l e R s m args below meth c H1 locs1 cells slots Q (F0 m (pc + 3) ls rest)) : W p l e R s m args below meth c H locs cells slots Q (F0 m pc ls (.int v :: .ref (a 1) :: rest)) :=
  x_put3 S w 1 (fs := [.int (σ 0), .int (σ 1), .int (σ 2), .int (σ 3), .int (σ 4), .int (σ 5), .int (σ 6), .int (σ 7), .int (σ 8), .int (σ 9), .int (σ 10)]) rfl 5 (by decide) hl rfl (v := .int v) (ws' := xW cI cO a (upd σ 5 v) f Z) rfl rfl (Nat.le_of_ble_eq_true rfl) rfl hd kk
theorem xg_6 (S : CallFix p m c cc nL s args wsL_law own) (w : Wd D tys A H0 s (xW cI cO a σ f Z) H locs) (hl : Cond.fieldLink own index "RepeatLearner$Settings" "blend" "I" ∈ wsL_law) (hd : decode cc pc = .ok (.getfield index, 3)) (kk : W p l e R s m args below meth c H locs cells slots Q (F0 m (pc + 3) ls (.int (σ 6) :: rest))) : W p l e R s m args below meth c H locs cells slots Q (F0 m pc ls (.ref (a 1) :: rest)) :=
  x_get3 S w 1 (fs := [.int (σ 0), .int (σ 1), .int (σ 2), .int (σ 3), .int (σ 4), .int (σ 5), .int (σ 6), .int (σ 7), .int (σ 8), .int (σ 9), .int (σ 10)]) rfl 6 (by decide) hl rfl hd kk
theorem xp_6 {v : Int32} (S : CallFix p m c cc nL s args wsL_law own) (w : Wd D tys A H0 s (xW cI cO a σ f Z) H locs) (hl : Cond.fieldLink own index "RepeatLearner$Settings" "blend" "I" ∈ wsL_law) (hd : decode cc pc = .ok (.putfield index, 3)) (kk : ∀ (H1 : Heap) (locs1 : List Loc), Wd D tys A H0 s (xW cI cO a (upd σ 6 v) f Z) H1 locs1 → W p l e R s m args below meth c H1 locs1 cells slots Q (F0 m (pc + 3) ls rest)) : W p l e R s m args below meth c H locs cells slots Q (F0 m pc ls (.int v :: .ref (a 1) :: rest)) :=
  x_put3 S w 1 (fs := [.int (σ 0), .int (σ 1), .int (σ 2), .int (σ 3), .int (σ 4), .int (σ 5), .int (σ 6), .int (σ 7), .int (σ 8), .int (σ 9), .int (σ 10)]) rfl 6 (by decide) hl rfl (v := .int v) (ws' := xW cI cO a (upd σ 6 v) f Z) rfl rfl (Nat.le_of_ble_eq_true rfl) rfl hd kk
theorem xg_7 (S : CallFix p m c cc nL s args wsL_law own) (w : Wd D tys A H0 s (xW cI cO a σ f Z) H locs) (hl : Cond.fieldLink own index "RepeatLearner$Settings" "greatestShift" "I" ∈ wsL_law) (hd : decode cc pc = .ok (.getfield index, 3)) (kk : W p l e R s m args below meth c H locs cells slots Q (F0 m (pc + 3) ls (.int (σ 7) :: rest))) : W p l e R s m args below meth c H locs cells slots Q (F0 m pc ls (.ref (a 1) :: rest)) :=
  x_get3 S w 1 (fs := [.int (σ 0), .int (σ 1), .int (σ 2), .int (σ 3), .int (σ 4), .int (σ 5), .int (σ 6), .int (σ 7), .int (σ 8), .int (σ 9), .int (σ 10)]) rfl 7 (by decide) hl rfl hd kk
theorem xp_7 {v : Int32} (S : CallFix p m c cc nL s args wsL_law own) (w : Wd D tys A H0 s (xW cI cO a σ f Z) H locs) (hl : Cond.fieldLink own index "RepeatLearner$Settings" "greatestShift" "I" ∈ wsL_law) (hd : decode cc pc = .ok (.putfield index, 3)) (kk : ∀ (H1 : Heap) (locs1 : List Loc), Wd D tys A H0 s (xW cI cO a (upd σ 7 v) f Z) H1 locs1 → W p l e R s m args below meth c H1 locs1 cells slots Q (F0 m (pc + 3) ls rest)) : W p l e R s m args below meth c H locs cells slots Q (F0 m pc ls (.int v :: .ref (a 1) :: rest)) :=
  x_put3 S w 1 (fs := [.int (σ 0), .int (σ 1), .int (σ 2), .int (σ 3), .int (σ 4), .int (σ 5), .int (σ 6), .int (σ 7), .int (σ 8), .int (σ 9), .int (σ 10)]) rfl 7 (by decide) hl rfl (v := .int v) (ws' := xW cI cO a (upd σ 7 v) f Z) rfl rfl (Nat.le_of_ble_eq_true rfl) rfl hd kk
theorem xg_8 (S : CallFix p m c cc nL s args wsL_law own) (w : Wd D tys A H0 s (xW cI cO a σ f Z) H locs) (hl : Cond.fieldLink own index "RepeatLearner$Settings" "tolerance" "I" ∈ wsL_law) (hd : decode cc pc = .ok (.getfield index, 3)) (kk : W p l e R s m args below meth c H locs cells slots Q (F0 m (pc + 3) ls (.int (σ 8) :: rest))) : W p l e R s m args below meth c H locs cells slots Q (F0 m pc ls (.ref (a 1) :: rest)) :=
  x_get3 S w 1 (fs := [.int (σ 0), .int (σ 1), .int (σ 2), .int (σ 3), .int (σ 4), .int (σ 5), .int (σ 6), .int (σ 7), .int (σ 8), .int (σ 9), .int (σ 10)]) rfl 8 (by decide) hl rfl hd kk
theorem xp_8 {v : Int32} (S : CallFix p m c cc nL s args wsL_law own) (w : Wd D tys A H0 s (xW cI cO a σ f Z) H locs) (hl : Cond.fieldLink own index "RepeatLearner$Settings" "tolerance" "I" ∈ wsL_law) (hd : decode cc pc = .ok (.putfield index, 3)) (kk : ∀ (H1 : Heap) (locs1 : List Loc), Wd D tys A H0 s (xW cI cO a (upd σ 8 v) f Z) H1 locs1 → W p l e R s m args below meth c H1 locs1 cells slots Q (F0 m (pc + 3) ls rest)) : W p l e R s m args below meth c H locs cells slots Q (F0 m pc ls (.int v :: .ref (a 1) :: rest)) :=
  x_put3 S w 1 (fs := [.int (σ 0), .int (σ 1), .int (σ 2), .int (σ 3), .int (σ 4), .int (σ 5), .int (σ 6), .int (σ 7), .int (σ 8), .int (σ 9), .int (σ 10)]) rfl 8 (by decide) hl rfl (v := .int v) (ws' := xW cI cO a (upd σ 8 v) f Z) rfl rfl (Nat.le_of_ble_eq_true rfl) rfl hd kk
theorem xg_9 (S : CallFix p m c cc nL s args wsL_law own) (w : Wd D tys A H0 s (xW cI cO a σ f Z) H locs) (hl : Cond.fieldLink own index "RepeatLearner$Settings" "hold" "I" ∈ wsL_law) (hd : decode cc pc = .ok (.getfield index, 3)) (kk : W p l e R s m args below meth c H locs cells slots Q (F0 m (pc + 3) ls (.int (σ 9) :: rest))) : W p l e R s m args below meth c H locs cells slots Q (F0 m pc ls (.ref (a 1) :: rest)) :=
  x_get3 S w 1 (fs := [.int (σ 0), .int (σ 1), .int (σ 2), .int (σ 3), .int (σ 4), .int (σ 5), .int (σ 6), .int (σ 7), .int (σ 8), .int (σ 9), .int (σ 10)]) rfl 9 (by decide) hl rfl hd kk
theorem xp_9 {v : Int32} (S : CallFix p m c cc nL s args wsL_law own) (w : Wd D tys A H0 s (xW cI cO a σ f Z) H locs) (hl : Cond.fieldLink own index "RepeatLearner$Settings" "hold" "I" ∈ wsL_law) (hd : decode cc pc = .ok (.putfield index, 3)) (kk : ∀ (H1 : Heap) (locs1 : List Loc), Wd D tys A H0 s (xW cI cO a (upd σ 9 v) f Z) H1 locs1 → W p l e R s m args below meth c H1 locs1 cells slots Q (F0 m (pc + 3) ls rest)) : W p l e R s m args below meth c H locs cells slots Q (F0 m pc ls (.int v :: .ref (a 1) :: rest)) :=
  x_put3 S w 1 (fs := [.int (σ 0), .int (σ 1), .int (σ 2), .int (σ 3), .int (σ 4), .int (σ 5), .int (σ 6), .int (σ 7), .int (σ 8), .int (σ 9), .int (σ 10)]) rfl 9 (by decide) hl rfl (v := .int v) (ws' := xW cI cO a (upd σ 9 v) f Z) rfl rfl (Nat.le_of_ble_eq_true rfl) rfl hd kk
theorem xg_10 (S : CallFix p m c cc nL s args wsL_law own) (w : Wd D tys A H0 s (xW cI cO a σ f Z) H locs) (hl : Cond.fieldLink own index "RepeatLearner$Settings" "guard" "Z" ∈ wsL_law) (hd : decode cc pc = .ok (.getfield index, 3)) (kk : W p l e R s m args below meth c H locs cells slots Q (F0 m (pc + 3) ls (.int (σ 10) :: rest))) : W p l e R s m args below meth c H locs cells slots Q (F0 m pc ls (.ref (a 1) :: rest)) :=
  x_get3 S w 1 (fs := [.int (σ 0), .int (σ 1), .int (σ 2), .int (σ 3), .int (σ 4), .int (σ 5), .int (σ 6), .int (σ 7), .int (σ 8), .int (σ 9), .int (σ 10)]) rfl 10 (by decide) hl rfl hd kk
theorem xp_10 {v : Int32} (S : CallFix p m c cc nL s args wsL_law own) (w : Wd D tys A H0 s (xW cI cO a σ f Z) H locs) (hb : v = 0 ∨ v = 1) (hl : Cond.fieldLink own index "RepeatLearner$Settings" "guard" "Z" ∈ wsL_law) (hd : decode cc pc = .ok (.putfield index, 3)) (kk : ∀ (H1 : Heap) (locs1 : List Loc), Wd D tys A H0 s (xW cI cO a (upd σ 10 v) f Z) H1 locs1 → W p l e R s m args below meth c H1 locs1 cells slots Q (F0 m (pc + 3) ls rest)) : W p l e R s m args below meth c H locs cells slots Q (F0 m pc ls (.int v :: .ref (a 1) :: rest)) :=
  x_put3 S w 1 (fs := [.int (σ 0), .int (σ 1), .int (σ 2), .int (σ 3), .int (σ 4), .int (σ 5), .int (σ 6), .int (σ 7), .int (σ 8), .int (σ 9), .int (σ 10)]) rfl 10 (by decide) hl rfl (v := .int v) (ws' := xW cI cO a (upd σ 10 v) f Z) (by rcases hb with rfl | rfl <;> rfl) (by rcases hb with rfl | rfl <;> rfl) (Nat.le_of_ble_eq_true rfl) rfl hd kk
theorem xr_11 (S : CallFix p m c cc nL s args wsL_law own) (w : Wd D tys A H0 s (xW cI cO a σ f Z) H locs) (hl : Cond.fieldLink own index "RepeatLearner$Plant" "coefficients" "[I" ∈ wsL_law) (hd : decode cc pc = .ok (.getfield index, 3)) (kk : W p l e R s m args below meth c H locs cells slots Q (F0 m (pc + 3) ls (.ref (a 11) :: rest))) : W p l e R s m args below meth c H locs cells slots Q (F0 m pc ls (.ref (a 2) :: rest)) :=
  x_get2 S w 2 (fs := [.ref (a 11), .int (σ 17), .int (σ 18)]) rfl 0 (by decide) hl rfl hd kk
theorem xg_17 (S : CallFix p m c cc nL s args wsL_law own) (w : Wd D tys A H0 s (xW cI cO a σ f Z) H locs) (hl : Cond.fieldLink own index "RepeatLearner$Plant" "amplitude" "I" ∈ wsL_law) (hd : decode cc pc = .ok (.getfield index, 3)) (kk : W p l e R s m args below meth c H locs cells slots Q (F0 m (pc + 3) ls (.int (σ 17) :: rest))) : W p l e R s m args below meth c H locs cells slots Q (F0 m pc ls (.ref (a 2) :: rest)) :=
  x_get2 S w 2 (fs := [.ref (a 11), .int (σ 17), .int (σ 18)]) rfl 1 (by decide) hl rfl hd kk
theorem xp_17 {v : Int32} (S : CallFix p m c cc nL s args wsL_law own) (w : Wd D tys A H0 s (xW cI cO a σ f Z) H locs) (hl : Cond.fieldLink own index "RepeatLearner$Plant" "amplitude" "I" ∈ wsL_law) (hd : decode cc pc = .ok (.putfield index, 3)) (kk : ∀ (H1 : Heap) (locs1 : List Loc), Wd D tys A H0 s (xW cI cO a (upd σ 17 v) f Z) H1 locs1 → W p l e R s m args below meth c H1 locs1 cells slots Q (F0 m (pc + 3) ls rest)) : W p l e R s m args below meth c H locs cells slots Q (F0 m pc ls (.int v :: .ref (a 2) :: rest)) :=
  x_put2 S w 2 (fs := [.ref (a 11), .int (σ 17), .int (σ 18)]) rfl 1 (by decide) hl rfl (v := .int v) (ws' := xW cI cO a (upd σ 17 v) f Z) rfl rfl (Nat.le_of_ble_eq_true rfl) rfl hd kk
theorem xg_18 (S : CallFix p m c cc nL s args wsL_law own) (w : Wd D tys A H0 s (xW cI cO a σ f Z) H locs) (hl : Cond.fieldLink own index "RepeatLearner$Plant" "seed" "I" ∈ wsL_law) (hd : decode cc pc = .ok (.getfield index, 3)) (kk : W p l e R s m args below meth c H locs cells slots Q (F0 m (pc + 3) ls (.int (σ 18) :: rest))) : W p l e R s m args below meth c H locs cells slots Q (F0 m pc ls (.ref (a 2) :: rest)) :=
  x_get2 S w 2 (fs := [.ref (a 11), .int (σ 17), .int (σ 18)]) rfl 2 (by decide) hl rfl hd kk
theorem xp_18 {v : Int32} (S : CallFix p m c cc nL s args wsL_law own) (w : Wd D tys A H0 s (xW cI cO a σ f Z) H locs) (hl : Cond.fieldLink own index "RepeatLearner$Plant" "seed" "I" ∈ wsL_law) (hd : decode cc pc = .ok (.putfield index, 3)) (kk : ∀ (H1 : Heap) (locs1 : List Loc), Wd D tys A H0 s (xW cI cO a (upd σ 18 v) f Z) H1 locs1 → W p l e R s m args below meth c H1 locs1 cells slots Q (F0 m (pc + 3) ls rest)) : W p l e R s m args below meth c H locs cells slots Q (F0 m pc ls (.int v :: .ref (a 2) :: rest)) :=
  x_put2 S w 2 (fs := [.ref (a 11), .int (σ 17), .int (σ 18)]) rfl 2 (by decide) hl rfl (v := .int v) (ws' := xW cI cO a (upd σ 18 v) f Z) rfl rfl (Nat.le_of_ble_eq_true rfl) rfl hd kk
theorem xr_15 (S : CallFix p m c cc nL s args wsL_law own) (w : Wd D tys A H0 s (xW cI cO a σ f Z) H locs) (hl : Cond.fieldLink own index "RepeatLearner$History" "errors" "[[I" ∈ wsL_law) (hd : decode cc pc = .ok (.getfield index, 3)) (kk : W p l e R s m args below meth c H locs cells slots Q (F0 m (pc + 3) ls (.ref (a 15) :: rest))) : W p l e R s m args below meth c H locs cells slots Q (F0 m pc ls (.ref (a 3) :: rest)) :=
  x_get1 S w 3 (fs := [.ref (a 15), .ref (a 12), .ref (a 13), .int (σ 19)]) rfl 0 (by decide) hl rfl hd kk
theorem xr_12 (S : CallFix p m c cc nL s args wsL_law own) (w : Wd D tys A H0 s (xW cI cO a σ f Z) H locs) (hl : Cond.fieldLink own index "RepeatLearner$History" "norms" "[I" ∈ wsL_law) (hd : decode cc pc = .ok (.getfield index, 3)) (kk : W p l e R s m args below meth c H locs cells slots Q (F0 m (pc + 3) ls (.ref (a 12) :: rest))) : W p l e R s m args below meth c H locs cells slots Q (F0 m pc ls (.ref (a 3) :: rest)) :=
  x_get1 S w 3 (fs := [.ref (a 15), .ref (a 12), .ref (a 13), .int (σ 19)]) rfl 1 (by decide) hl rfl hd kk
theorem xr_13 (S : CallFix p m c cc nL s args wsL_law own) (w : Wd D tys A H0 s (xW cI cO a σ f Z) H locs) (hl : Cond.fieldLink own index "RepeatLearner$History" "shifts" "[I" ∈ wsL_law) (hd : decode cc pc = .ok (.getfield index, 3)) (kk : W p l e R s m args below meth c H locs cells slots Q (F0 m (pc + 3) ls (.ref (a 13) :: rest))) : W p l e R s m args below meth c H locs cells slots Q (F0 m pc ls (.ref (a 3) :: rest)) :=
  x_get1 S w 3 (fs := [.ref (a 15), .ref (a 12), .ref (a 13), .int (σ 19)]) rfl 2 (by decide) hl rfl hd kk
theorem xg_19 (S : CallFix p m c cc nL s args wsL_law own) (w : Wd D tys A H0 s (xW cI cO a σ f Z) H locs) (hl : Cond.fieldLink own index "RepeatLearner$History" "complete" "I" ∈ wsL_law) (hd : decode cc pc = .ok (.getfield index, 3)) (kk : W p l e R s m args below meth c H locs cells slots Q (F0 m (pc + 3) ls (.int (σ 19) :: rest))) : W p l e R s m args below meth c H locs cells slots Q (F0 m pc ls (.ref (a 3) :: rest)) :=
  x_get1 S w 3 (fs := [.ref (a 15), .ref (a 12), .ref (a 13), .int (σ 19)]) rfl 3 (by decide) hl rfl hd kk
theorem xp_19 {v : Int32} (S : CallFix p m c cc nL s args wsL_law own) (w : Wd D tys A H0 s (xW cI cO a σ f Z) H locs) (hl : Cond.fieldLink own index "RepeatLearner$History" "complete" "I" ∈ wsL_law) (hd : decode cc pc = .ok (.putfield index, 3)) (kk : ∀ (H1 : Heap) (locs1 : List Loc), Wd D tys A H0 s (xW cI cO a (upd σ 19 v) f Z) H1 locs1 → W p l e R s m args below meth c H1 locs1 cells slots Q (F0 m (pc + 3) ls rest)) : W p l e R s m args below meth c H locs cells slots Q (F0 m pc ls (.int v :: .ref (a 3) :: rest)) :=
  x_put1 S w 3 (fs := [.ref (a 15), .ref (a 12), .ref (a 13), .int (σ 19)]) rfl 3 (by decide) hl rfl (v := .int v) (ws' := xW cI cO a (upd σ 19 v) f Z) rfl rfl (Nat.le_of_ble_eq_true rfl) rfl hd kk
theorem xr_14 (S : CallFix p m c cc nL s args wsL_law own) (w : Wd D tys A H0 s (xW cI cO a σ f Z) H locs) (hl : Cond.fieldLink own index "RepeatLearner$Best" "usedInputs" "[I" ∈ wsL_law) (hd : decode cc pc = .ok (.getfield index, 3)) (kk : W p l e R s m args below meth c H locs cells slots Q (F0 m (pc + 3) ls (.ref (a 14) :: rest))) : W p l e R s m args below meth c H locs cells slots Q (F0 m pc ls (.ref (a 4) :: rest)) :=
  x_get0 S w 4 (fs := [.ref (a 14), .int (σ 20), .int (σ 21), .int (σ 22)]) rfl 0 (by decide) hl rfl hd kk
theorem xg_20 (S : CallFix p m c cc nL s args wsL_law own) (w : Wd D tys A H0 s (xW cI cO a σ f Z) H locs) (hl : Cond.fieldLink own index "RepeatLearner$Best" "known" "Z" ∈ wsL_law) (hd : decode cc pc = .ok (.getfield index, 3)) (kk : W p l e R s m args below meth c H locs cells slots Q (F0 m (pc + 3) ls (.int (σ 20) :: rest))) : W p l e R s m args below meth c H locs cells slots Q (F0 m pc ls (.ref (a 4) :: rest)) :=
  x_get0 S w 4 (fs := [.ref (a 14), .int (σ 20), .int (σ 21), .int (σ 22)]) rfl 1 (by decide) hl rfl hd kk
theorem xp_20 {v : Int32} (S : CallFix p m c cc nL s args wsL_law own) (w : Wd D tys A H0 s (xW cI cO a σ f Z) H locs) (hb : v = 0 ∨ v = 1) (hl : Cond.fieldLink own index "RepeatLearner$Best" "known" "Z" ∈ wsL_law) (hd : decode cc pc = .ok (.putfield index, 3)) (kk : ∀ (H1 : Heap) (locs1 : List Loc), Wd D tys A H0 s (xW cI cO a (upd σ 20 v) f Z) H1 locs1 → W p l e R s m args below meth c H1 locs1 cells slots Q (F0 m (pc + 3) ls rest)) : W p l e R s m args below meth c H locs cells slots Q (F0 m pc ls (.int v :: .ref (a 4) :: rest)) :=
  x_put0 S w 4 (fs := [.ref (a 14), .int (σ 20), .int (σ 21), .int (σ 22)]) rfl 1 (by decide) hl rfl (v := .int v) (ws' := xW cI cO a (upd σ 20 v) f Z) (by rcases hb with rfl | rfl <;> rfl) (by rcases hb with rfl | rfl <;> rfl) (Nat.le_of_ble_eq_true rfl) rfl hd kk
theorem xg_21 (S : CallFix p m c cc nL s args wsL_law own) (w : Wd D tys A H0 s (xW cI cO a σ f Z) H locs) (hl : Cond.fieldLink own index "RepeatLearner$Best" "leastNorm" "I" ∈ wsL_law) (hd : decode cc pc = .ok (.getfield index, 3)) (kk : W p l e R s m args below meth c H locs cells slots Q (F0 m (pc + 3) ls (.int (σ 21) :: rest))) : W p l e R s m args below meth c H locs cells slots Q (F0 m pc ls (.ref (a 4) :: rest)) :=
  x_get0 S w 4 (fs := [.ref (a 14), .int (σ 20), .int (σ 21), .int (σ 22)]) rfl 2 (by decide) hl rfl hd kk
theorem xp_21 {v : Int32} (S : CallFix p m c cc nL s args wsL_law own) (w : Wd D tys A H0 s (xW cI cO a σ f Z) H locs) (hl : Cond.fieldLink own index "RepeatLearner$Best" "leastNorm" "I" ∈ wsL_law) (hd : decode cc pc = .ok (.putfield index, 3)) (kk : ∀ (H1 : Heap) (locs1 : List Loc), Wd D tys A H0 s (xW cI cO a (upd σ 21 v) f Z) H1 locs1 → W p l e R s m args below meth c H1 locs1 cells slots Q (F0 m (pc + 3) ls rest)) : W p l e R s m args below meth c H locs cells slots Q (F0 m pc ls (.int v :: .ref (a 4) :: rest)) :=
  x_put0 S w 4 (fs := [.ref (a 14), .int (σ 20), .int (σ 21), .int (σ 22)]) rfl 2 (by decide) hl rfl (v := .int v) (ws' := xW cI cO a (upd σ 21 v) f Z) rfl rfl (Nat.le_of_ble_eq_true rfl) rfl hd kk
theorem xg_22 (S : CallFix p m c cc nL s args wsL_law own) (w : Wd D tys A H0 s (xW cI cO a σ f Z) H locs) (hl : Cond.fieldLink own index "RepeatLearner$Best" "number" "I" ∈ wsL_law) (hd : decode cc pc = .ok (.getfield index, 3)) (kk : W p l e R s m args below meth c H locs cells slots Q (F0 m (pc + 3) ls (.int (σ 22) :: rest))) : W p l e R s m args below meth c H locs cells slots Q (F0 m pc ls (.ref (a 4) :: rest)) :=
  x_get0 S w 4 (fs := [.ref (a 14), .int (σ 20), .int (σ 21), .int (σ 22)]) rfl 3 (by decide) hl rfl hd kk
theorem xp_22 {v : Int32} (S : CallFix p m c cc nL s args wsL_law own) (w : Wd D tys A H0 s (xW cI cO a σ f Z) H locs) (hl : Cond.fieldLink own index "RepeatLearner$Best" "number" "I" ∈ wsL_law) (hd : decode cc pc = .ok (.putfield index, 3)) (kk : ∀ (H1 : Heap) (locs1 : List Loc), Wd D tys A H0 s (xW cI cO a (upd σ 22 v) f Z) H1 locs1 → W p l e R s m args below meth c H1 locs1 cells slots Q (F0 m (pc + 3) ls rest)) : W p l e R s m args below meth c H locs cells slots Q (F0 m pc ls (.int v :: .ref (a 4) :: rest)) :=
  x_put0 S w 4 (fs := [.ref (a 14), .int (σ 20), .int (σ 21), .int (σ 22)]) rfl 3 (by decide) hl rfl (v := .int v) (ws' := xW cI cO a (upd σ 22 v) f Z) rfl rfl (Nat.le_of_ble_eq_true rfl) rfl hd kk
theorem mg_0 (S : CallFix p m c cc nL s args wsL_law own) (w : Wd D tys A H0 s (mW cI cO a σ f Z) H locs) (hl : Cond.fieldLink own index "RepeatLearnerModel" "samples" "I" ∈ wsL_law) (hd : decode cc pc = .ok (.getfield index, 3)) (kk : W p l e R s m args below meth c H locs cells slots Q (F0 m (pc + 3) ls (.int (σ 0) :: rest))) : W p l e R s m args below meth c H locs cells slots Q (F0 m pc ls (.ref (a 0) :: rest)) :=
  x_get5 S w 0 (fs := mF a σ) rfl 0 (by decide) hl rfl hd kk
theorem mp_0 {v : Int32} (S : CallFix p m c cc nL s args wsL_law own) (w : Wd D tys A H0 s (mW cI cO a σ f Z) H locs) (hl : Cond.fieldLink own index "RepeatLearnerModel" "samples" "I" ∈ wsL_law) (hd : decode cc pc = .ok (.putfield index, 3)) (kk : ∀ (H1 : Heap) (locs1 : List Loc), Wd D tys A H0 s (mW cI cO a (upd σ 0 v) f Z) H1 locs1 → W p l e R s m args below meth c H1 locs1 cells slots Q (F0 m (pc + 3) ls rest)) : W p l e R s m args below meth c H locs cells slots Q (F0 m pc ls (.int v :: .ref (a 0) :: rest)) :=
  x_put5 S w 0 (fs := mF a σ) rfl 0 (by decide) hl rfl (v := .int v) (ws' := mW cI cO a (upd σ 0 v) f Z) rfl rfl (Nat.le_of_ble_eq_true rfl) rfl hd kk
theorem mr_1 (S : CallFix p m c cc nL s args wsL_law own) (w : Wd D tys A H0 s (mW cI cO a σ f Z) H locs) (hl : Cond.fieldLink own index "RepeatLearnerModel" "target" "[I" ∈ wsL_law) (hd : decode cc pc = .ok (.getfield index, 3)) (kk : W p l e R s m args below meth c H locs cells slots Q (F0 m (pc + 3) ls (.ref (a 1) :: rest))) : W p l e R s m args below meth c H locs cells slots Q (F0 m pc ls (.ref (a 0) :: rest)) :=
  x_get5 S w 0 (fs := mF a σ) rfl 1 (by decide) hl rfl hd kk
theorem mr_2 (S : CallFix p m c cc nL s args wsL_law own) (w : Wd D tys A H0 s (mW cI cO a σ f Z) H locs) (hl : Cond.fieldLink own index "RepeatLearnerModel" "put" "[I" ∈ wsL_law) (hd : decode cc pc = .ok (.getfield index, 3)) (kk : W p l e R s m args below meth c H locs cells slots Q (F0 m (pc + 3) ls (.ref (a 2) :: rest))) : W p l e R s m args below meth c H locs cells slots Q (F0 m pc ls (.ref (a 0) :: rest)) :=
  x_get5 S w 0 (fs := mF a σ) rfl 2 (by decide) hl rfl hd kk
theorem mg_1 (S : CallFix p m c cc nL s args wsL_law own) (w : Wd D tys A H0 s (mW cI cO a σ f Z) H locs) (hl : Cond.fieldLink own index "RepeatLearnerModel" "gain" "I" ∈ wsL_law) (hd : decode cc pc = .ok (.getfield index, 3)) (kk : W p l e R s m args below meth c H locs cells slots Q (F0 m (pc + 3) ls (.int (σ 1) :: rest))) : W p l e R s m args below meth c H locs cells slots Q (F0 m pc ls (.ref (a 0) :: rest)) :=
  x_get5 S w 0 (fs := mF a σ) rfl 3 (by decide) hl rfl hd kk
theorem mp_1 {v : Int32} (S : CallFix p m c cc nL s args wsL_law own) (w : Wd D tys A H0 s (mW cI cO a σ f Z) H locs) (hl : Cond.fieldLink own index "RepeatLearnerModel" "gain" "I" ∈ wsL_law) (hd : decode cc pc = .ok (.putfield index, 3)) (kk : ∀ (H1 : Heap) (locs1 : List Loc), Wd D tys A H0 s (mW cI cO a (upd σ 1 v) f Z) H1 locs1 → W p l e R s m args below meth c H1 locs1 cells slots Q (F0 m (pc + 3) ls rest)) : W p l e R s m args below meth c H locs cells slots Q (F0 m pc ls (.int v :: .ref (a 0) :: rest)) :=
  x_put5 S w 0 (fs := mF a σ) rfl 3 (by decide) hl rfl (v := .int v) (ws' := mW cI cO a (upd σ 1 v) f Z) rfl rfl (Nat.le_of_ble_eq_true rfl) rfl hd kk
theorem mg_2 (S : CallFix p m c cc nL s args wsL_law own) (w : Wd D tys A H0 s (mW cI cO a σ f Z) H locs) (hl : Cond.fieldLink own index "RepeatLearnerModel" "lead" "I" ∈ wsL_law) (hd : decode cc pc = .ok (.getfield index, 3)) (kk : W p l e R s m args below meth c H locs cells slots Q (F0 m (pc + 3) ls (.int (σ 2) :: rest))) : W p l e R s m args below meth c H locs cells slots Q (F0 m pc ls (.ref (a 0) :: rest)) :=
  x_get5 S w 0 (fs := mF a σ) rfl 4 (by decide) hl rfl hd kk
theorem mp_2 {v : Int32} (S : CallFix p m c cc nL s args wsL_law own) (w : Wd D tys A H0 s (mW cI cO a σ f Z) H locs) (hl : Cond.fieldLink own index "RepeatLearnerModel" "lead" "I" ∈ wsL_law) (hd : decode cc pc = .ok (.putfield index, 3)) (kk : ∀ (H1 : Heap) (locs1 : List Loc), Wd D tys A H0 s (mW cI cO a (upd σ 2 v) f Z) H1 locs1 → W p l e R s m args below meth c H1 locs1 cells slots Q (F0 m (pc + 3) ls rest)) : W p l e R s m args below meth c H locs cells slots Q (F0 m pc ls (.int v :: .ref (a 0) :: rest)) :=
  x_put5 S w 0 (fs := mF a σ) rfl 4 (by decide) hl rfl (v := .int v) (ws' := mW cI cO a (upd σ 2 v) f Z) rfl rfl (Nat.le_of_ble_eq_true rfl) rfl hd kk
theorem mg_3 (S : CallFix p m c cc nL s args wsL_law own) (w : Wd D tys A H0 s (mW cI cO a σ f Z) H locs) (hl : Cond.fieldLink own index "RepeatLearnerModel" "weight" "I" ∈ wsL_law) (hd : decode cc pc = .ok (.getfield index, 3)) (kk : W p l e R s m args below meth c H locs cells slots Q (F0 m (pc + 3) ls (.int (σ 3) :: rest))) : W p l e R s m args below meth c H locs cells slots Q (F0 m pc ls (.ref (a 0) :: rest)) :=
  x_get5 S w 0 (fs := mF a σ) rfl 5 (by decide) hl rfl hd kk
theorem mp_3 {v : Int32} (S : CallFix p m c cc nL s args wsL_law own) (w : Wd D tys A H0 s (mW cI cO a σ f Z) H locs) (hl : Cond.fieldLink own index "RepeatLearnerModel" "weight" "I" ∈ wsL_law) (hd : decode cc pc = .ok (.putfield index, 3)) (kk : ∀ (H1 : Heap) (locs1 : List Loc), Wd D tys A H0 s (mW cI cO a (upd σ 3 v) f Z) H1 locs1 → W p l e R s m args below meth c H1 locs1 cells slots Q (F0 m (pc + 3) ls rest)) : W p l e R s m args below meth c H locs cells slots Q (F0 m pc ls (.int v :: .ref (a 0) :: rest)) :=
  x_put5 S w 0 (fs := mF a σ) rfl 5 (by decide) hl rfl (v := .int v) (ws' := mW cI cO a (upd σ 3 v) f Z) rfl rfl (Nat.le_of_ble_eq_true rfl) rfl hd kk
theorem mg_4 (S : CallFix p m c cc nL s args wsL_law own) (w : Wd D tys A H0 s (mW cI cO a σ f Z) H locs) (hl : Cond.fieldLink own index "RepeatLearnerModel" "passes" "I" ∈ wsL_law) (hd : decode cc pc = .ok (.getfield index, 3)) (kk : W p l e R s m args below meth c H locs cells slots Q (F0 m (pc + 3) ls (.int (σ 4) :: rest))) : W p l e R s m args below meth c H locs cells slots Q (F0 m pc ls (.ref (a 0) :: rest)) :=
  x_get5 S w 0 (fs := mF a σ) rfl 6 (by decide) hl rfl hd kk
theorem mp_4 {v : Int32} (S : CallFix p m c cc nL s args wsL_law own) (w : Wd D tys A H0 s (mW cI cO a σ f Z) H locs) (hl : Cond.fieldLink own index "RepeatLearnerModel" "passes" "I" ∈ wsL_law) (hd : decode cc pc = .ok (.putfield index, 3)) (kk : ∀ (H1 : Heap) (locs1 : List Loc), Wd D tys A H0 s (mW cI cO a (upd σ 4 v) f Z) H1 locs1 → W p l e R s m args below meth c H1 locs1 cells slots Q (F0 m (pc + 3) ls rest)) : W p l e R s m args below meth c H locs cells slots Q (F0 m pc ls (.int v :: .ref (a 0) :: rest)) :=
  x_put5 S w 0 (fs := mF a σ) rfl 6 (by decide) hl rfl (v := .int v) (ws' := mW cI cO a (upd σ 4 v) f Z) rfl rfl (Nat.le_of_ble_eq_true rfl) rfl hd kk
theorem mg_5 (S : CallFix p m c cc nL s args wsL_law own) (w : Wd D tys A H0 s (mW cI cO a σ f Z) H locs) (hl : Cond.fieldLink own index "RepeatLearnerModel" "limit" "I" ∈ wsL_law) (hd : decode cc pc = .ok (.getfield index, 3)) (kk : W p l e R s m args below meth c H locs cells slots Q (F0 m (pc + 3) ls (.int (σ 5) :: rest))) : W p l e R s m args below meth c H locs cells slots Q (F0 m pc ls (.ref (a 0) :: rest)) :=
  x_get5 S w 0 (fs := mF a σ) rfl 7 (by decide) hl rfl hd kk
theorem mp_5 {v : Int32} (S : CallFix p m c cc nL s args wsL_law own) (w : Wd D tys A H0 s (mW cI cO a σ f Z) H locs) (hl : Cond.fieldLink own index "RepeatLearnerModel" "limit" "I" ∈ wsL_law) (hd : decode cc pc = .ok (.putfield index, 3)) (kk : ∀ (H1 : Heap) (locs1 : List Loc), Wd D tys A H0 s (mW cI cO a (upd σ 5 v) f Z) H1 locs1 → W p l e R s m args below meth c H1 locs1 cells slots Q (F0 m (pc + 3) ls rest)) : W p l e R s m args below meth c H locs cells slots Q (F0 m pc ls (.int v :: .ref (a 0) :: rest)) :=
  x_put5 S w 0 (fs := mF a σ) rfl 7 (by decide) hl rfl (v := .int v) (ws' := mW cI cO a (upd σ 5 v) f Z) rfl rfl (Nat.le_of_ble_eq_true rfl) rfl hd kk
theorem mg_6 (S : CallFix p m c cc nL s args wsL_law own) (w : Wd D tys A H0 s (mW cI cO a σ f Z) H locs) (hl : Cond.fieldLink own index "RepeatLearnerModel" "blend" "I" ∈ wsL_law) (hd : decode cc pc = .ok (.getfield index, 3)) (kk : W p l e R s m args below meth c H locs cells slots Q (F0 m (pc + 3) ls (.int (σ 6) :: rest))) : W p l e R s m args below meth c H locs cells slots Q (F0 m pc ls (.ref (a 0) :: rest)) :=
  x_get5 S w 0 (fs := mF a σ) rfl 8 (by decide) hl rfl hd kk
theorem mp_6 {v : Int32} (S : CallFix p m c cc nL s args wsL_law own) (w : Wd D tys A H0 s (mW cI cO a σ f Z) H locs) (hl : Cond.fieldLink own index "RepeatLearnerModel" "blend" "I" ∈ wsL_law) (hd : decode cc pc = .ok (.putfield index, 3)) (kk : ∀ (H1 : Heap) (locs1 : List Loc), Wd D tys A H0 s (mW cI cO a (upd σ 6 v) f Z) H1 locs1 → W p l e R s m args below meth c H1 locs1 cells slots Q (F0 m (pc + 3) ls rest)) : W p l e R s m args below meth c H locs cells slots Q (F0 m pc ls (.int v :: .ref (a 0) :: rest)) :=
  x_put5 S w 0 (fs := mF a σ) rfl 8 (by decide) hl rfl (v := .int v) (ws' := mW cI cO a (upd σ 6 v) f Z) rfl rfl (Nat.le_of_ble_eq_true rfl) rfl hd kk
theorem mg_7 (S : CallFix p m c cc nL s args wsL_law own) (w : Wd D tys A H0 s (mW cI cO a σ f Z) H locs) (hl : Cond.fieldLink own index "RepeatLearnerModel" "greatest" "I" ∈ wsL_law) (hd : decode cc pc = .ok (.getfield index, 3)) (kk : W p l e R s m args below meth c H locs cells slots Q (F0 m (pc + 3) ls (.int (σ 7) :: rest))) : W p l e R s m args below meth c H locs cells slots Q (F0 m pc ls (.ref (a 0) :: rest)) :=
  x_get5 S w 0 (fs := mF a σ) rfl 9 (by decide) hl rfl hd kk
theorem mp_7 {v : Int32} (S : CallFix p m c cc nL s args wsL_law own) (w : Wd D tys A H0 s (mW cI cO a σ f Z) H locs) (hl : Cond.fieldLink own index "RepeatLearnerModel" "greatest" "I" ∈ wsL_law) (hd : decode cc pc = .ok (.putfield index, 3)) (kk : ∀ (H1 : Heap) (locs1 : List Loc), Wd D tys A H0 s (mW cI cO a (upd σ 7 v) f Z) H1 locs1 → W p l e R s m args below meth c H1 locs1 cells slots Q (F0 m (pc + 3) ls rest)) : W p l e R s m args below meth c H locs cells slots Q (F0 m pc ls (.int v :: .ref (a 0) :: rest)) :=
  x_put5 S w 0 (fs := mF a σ) rfl 9 (by decide) hl rfl (v := .int v) (ws' := mW cI cO a (upd σ 7 v) f Z) rfl rfl (Nat.le_of_ble_eq_true rfl) rfl hd kk
theorem mg_8 (S : CallFix p m c cc nL s args wsL_law own) (w : Wd D tys A H0 s (mW cI cO a σ f Z) H locs) (hl : Cond.fieldLink own index "RepeatLearnerModel" "tolerance" "I" ∈ wsL_law) (hd : decode cc pc = .ok (.getfield index, 3)) (kk : W p l e R s m args below meth c H locs cells slots Q (F0 m (pc + 3) ls (.int (σ 8) :: rest))) : W p l e R s m args below meth c H locs cells slots Q (F0 m pc ls (.ref (a 0) :: rest)) :=
  x_get5 S w 0 (fs := mF a σ) rfl 10 (by decide) hl rfl hd kk
theorem mp_8 {v : Int32} (S : CallFix p m c cc nL s args wsL_law own) (w : Wd D tys A H0 s (mW cI cO a σ f Z) H locs) (hl : Cond.fieldLink own index "RepeatLearnerModel" "tolerance" "I" ∈ wsL_law) (hd : decode cc pc = .ok (.putfield index, 3)) (kk : ∀ (H1 : Heap) (locs1 : List Loc), Wd D tys A H0 s (mW cI cO a (upd σ 8 v) f Z) H1 locs1 → W p l e R s m args below meth c H1 locs1 cells slots Q (F0 m (pc + 3) ls rest)) : W p l e R s m args below meth c H locs cells slots Q (F0 m pc ls (.int v :: .ref (a 0) :: rest)) :=
  x_put5 S w 0 (fs := mF a σ) rfl 10 (by decide) hl rfl (v := .int v) (ws' := mW cI cO a (upd σ 8 v) f Z) rfl rfl (Nat.le_of_ble_eq_true rfl) rfl hd kk
theorem mg_9 (S : CallFix p m c cc nL s args wsL_law own) (w : Wd D tys A H0 s (mW cI cO a σ f Z) H locs) (hl : Cond.fieldLink own index "RepeatLearnerModel" "hold" "I" ∈ wsL_law) (hd : decode cc pc = .ok (.getfield index, 3)) (kk : W p l e R s m args below meth c H locs cells slots Q (F0 m (pc + 3) ls (.int (σ 9) :: rest))) : W p l e R s m args below meth c H locs cells slots Q (F0 m pc ls (.ref (a 0) :: rest)) :=
  x_get5 S w 0 (fs := mF a σ) rfl 11 (by decide) hl rfl hd kk
theorem mp_9 {v : Int32} (S : CallFix p m c cc nL s args wsL_law own) (w : Wd D tys A H0 s (mW cI cO a σ f Z) H locs) (hl : Cond.fieldLink own index "RepeatLearnerModel" "hold" "I" ∈ wsL_law) (hd : decode cc pc = .ok (.putfield index, 3)) (kk : ∀ (H1 : Heap) (locs1 : List Loc), Wd D tys A H0 s (mW cI cO a (upd σ 9 v) f Z) H1 locs1 → W p l e R s m args below meth c H1 locs1 cells slots Q (F0 m (pc + 3) ls rest)) : W p l e R s m args below meth c H locs cells slots Q (F0 m pc ls (.int v :: .ref (a 0) :: rest)) :=
  x_put5 S w 0 (fs := mF a σ) rfl 11 (by decide) hl rfl (v := .int v) (ws' := mW cI cO a (upd σ 9 v) f Z) rfl rfl (Nat.le_of_ble_eq_true rfl) rfl hd kk
theorem mg_10 (S : CallFix p m c cc nL s args wsL_law own) (w : Wd D tys A H0 s (mW cI cO a σ f Z) H locs) (hl : Cond.fieldLink own index "RepeatLearnerModel" "isGuarded" "Z" ∈ wsL_law) (hd : decode cc pc = .ok (.getfield index, 3)) (kk : W p l e R s m args below meth c H locs cells slots Q (F0 m (pc + 3) ls (.int (σ 10) :: rest))) : W p l e R s m args below meth c H locs cells slots Q (F0 m pc ls (.ref (a 0) :: rest)) :=
  x_get5 S w 0 (fs := mF a σ) rfl 12 (by decide) hl rfl hd kk
theorem mp_10 {v : Int32} (S : CallFix p m c cc nL s args wsL_law own) (w : Wd D tys A H0 s (mW cI cO a σ f Z) H locs) (hb : v = 0 ∨ v = 1) (hl : Cond.fieldLink own index "RepeatLearnerModel" "isGuarded" "Z" ∈ wsL_law) (hd : decode cc pc = .ok (.putfield index, 3)) (kk : ∀ (H1 : Heap) (locs1 : List Loc), Wd D tys A H0 s (mW cI cO a (upd σ 10 v) f Z) H1 locs1 → W p l e R s m args below meth c H1 locs1 cells slots Q (F0 m (pc + 3) ls rest)) : W p l e R s m args below meth c H locs cells slots Q (F0 m pc ls (.int v :: .ref (a 0) :: rest)) :=
  x_put5 S w 0 (fs := mF a σ) rfl 12 (by decide) hl rfl (v := .int v) (ws' := mW cI cO a (upd σ 10 v) f Z) (by rcases hb with rfl | rfl <;> rfl) (by rcases hb with rfl | rfl <;> rfl) (Nat.le_of_ble_eq_true rfl) rfl hd kk
theorem mg_11 (S : CallFix p m c cc nL s args wsL_law own) (w : Wd D tys A H0 s (mW cI cO a σ f Z) H locs) (hl : Cond.fieldLink own index "RepeatLearnerModel" "isRunning" "Z" ∈ wsL_law) (hd : decode cc pc = .ok (.getfield index, 3)) (kk : W p l e R s m args below meth c H locs cells slots Q (F0 m (pc + 3) ls (.int (σ 11) :: rest))) : W p l e R s m args below meth c H locs cells slots Q (F0 m pc ls (.ref (a 0) :: rest)) :=
  x_get5 S w 0 (fs := mF a σ) rfl 13 (by decide) hl rfl hd kk
theorem mp_11 {v : Int32} (S : CallFix p m c cc nL s args wsL_law own) (w : Wd D tys A H0 s (mW cI cO a σ f Z) H locs) (hb : v = 0 ∨ v = 1) (hl : Cond.fieldLink own index "RepeatLearnerModel" "isRunning" "Z" ∈ wsL_law) (hd : decode cc pc = .ok (.putfield index, 3)) (kk : ∀ (H1 : Heap) (locs1 : List Loc), Wd D tys A H0 s (mW cI cO a (upd σ 11 v) f Z) H1 locs1 → W p l e R s m args below meth c H1 locs1 cells slots Q (F0 m (pc + 3) ls rest)) : W p l e R s m args below meth c H locs cells slots Q (F0 m pc ls (.int v :: .ref (a 0) :: rest)) :=
  x_put5 S w 0 (fs := mF a σ) rfl 13 (by decide) hl rfl (v := .int v) (ws' := mW cI cO a (upd σ 11 v) f Z) (by rcases hb with rfl | rfl <;> rfl) (by rcases hb with rfl | rfl <;> rfl) (Nat.le_of_ble_eq_true rfl) rfl hd kk
theorem mg_12 (S : CallFix p m c cc nL s args wsL_law own) (w : Wd D tys A H0 s (mW cI cO a σ f Z) H locs) (hl : Cond.fieldLink own index "RepeatLearnerModel" "recorded" "I" ∈ wsL_law) (hd : decode cc pc = .ok (.getfield index, 3)) (kk : W p l e R s m args below meth c H locs cells slots Q (F0 m (pc + 3) ls (.int (σ 12) :: rest))) : W p l e R s m args below meth c H locs cells slots Q (F0 m pc ls (.ref (a 0) :: rest)) :=
  x_get5 S w 0 (fs := mF a σ) rfl 14 (by decide) hl rfl hd kk
theorem mp_12 {v : Int32} (S : CallFix p m c cc nL s args wsL_law own) (w : Wd D tys A H0 s (mW cI cO a σ f Z) H locs) (hl : Cond.fieldLink own index "RepeatLearnerModel" "recorded" "I" ∈ wsL_law) (hd : decode cc pc = .ok (.putfield index, 3)) (kk : ∀ (H1 : Heap) (locs1 : List Loc), Wd D tys A H0 s (mW cI cO a (upd σ 12 v) f Z) H1 locs1 → W p l e R s m args below meth c H1 locs1 cells slots Q (F0 m (pc + 3) ls rest)) : W p l e R s m args below meth c H locs cells slots Q (F0 m pc ls (.int v :: .ref (a 0) :: rest)) :=
  x_put5 S w 0 (fs := mF a σ) rfl 14 (by decide) hl rfl (v := .int v) (ws' := mW cI cO a (upd σ 12 v) f Z) rfl rfl (Nat.le_of_ble_eq_true rfl) rfl hd kk
theorem mg_13 (S : CallFix p m c cc nL s args wsL_law own) (w : Wd D tys A H0 s (mW cI cO a σ f Z) H locs) (hl : Cond.fieldLink own index "RepeatLearnerModel" "started" "I" ∈ wsL_law) (hd : decode cc pc = .ok (.getfield index, 3)) (kk : W p l e R s m args below meth c H locs cells slots Q (F0 m (pc + 3) ls (.int (σ 13) :: rest))) : W p l e R s m args below meth c H locs cells slots Q (F0 m pc ls (.ref (a 0) :: rest)) :=
  x_get5 S w 0 (fs := mF a σ) rfl 15 (by decide) hl rfl hd kk
theorem mp_13 {v : Int32} (S : CallFix p m c cc nL s args wsL_law own) (w : Wd D tys A H0 s (mW cI cO a σ f Z) H locs) (hl : Cond.fieldLink own index "RepeatLearnerModel" "started" "I" ∈ wsL_law) (hd : decode cc pc = .ok (.putfield index, 3)) (kk : ∀ (H1 : Heap) (locs1 : List Loc), Wd D tys A H0 s (mW cI cO a (upd σ 13 v) f Z) H1 locs1 → W p l e R s m args below meth c H1 locs1 cells slots Q (F0 m (pc + 3) ls rest)) : W p l e R s m args below meth c H locs cells slots Q (F0 m pc ls (.int v :: .ref (a 0) :: rest)) :=
  x_put5 S w 0 (fs := mF a σ) rfl 15 (by decide) hl rfl (v := .int v) (ws' := mW cI cO a (upd σ 13 v) f Z) rfl rfl (Nat.le_of_ble_eq_true rfl) rfl hd kk
theorem mg_19 (S : CallFix p m c cc nL s args wsL_law own) (w : Wd D tys A H0 s (mW cI cO a σ f Z) H locs) (hl : Cond.fieldLink own index "RepeatLearnerModel" "complete" "I" ∈ wsL_law) (hd : decode cc pc = .ok (.getfield index, 3)) (kk : W p l e R s m args below meth c H locs cells slots Q (F0 m (pc + 3) ls (.int (σ 19) :: rest))) : W p l e R s m args below meth c H locs cells slots Q (F0 m pc ls (.ref (a 0) :: rest)) :=
  x_get5 S w 0 (fs := mF a σ) rfl 16 (by decide) hl rfl hd kk
theorem mp_19 {v : Int32} (S : CallFix p m c cc nL s args wsL_law own) (w : Wd D tys A H0 s (mW cI cO a σ f Z) H locs) (hl : Cond.fieldLink own index "RepeatLearnerModel" "complete" "I" ∈ wsL_law) (hd : decode cc pc = .ok (.putfield index, 3)) (kk : ∀ (H1 : Heap) (locs1 : List Loc), Wd D tys A H0 s (mW cI cO a (upd σ 19 v) f Z) H1 locs1 → W p l e R s m args below meth c H1 locs1 cells slots Q (F0 m (pc + 3) ls rest)) : W p l e R s m args below meth c H locs cells slots Q (F0 m pc ls (.int v :: .ref (a 0) :: rest)) :=
  x_put5 S w 0 (fs := mF a σ) rfl 16 (by decide) hl rfl (v := .int v) (ws' := mW cI cO a (upd σ 19 v) f Z) rfl rfl (Nat.le_of_ble_eq_true rfl) rfl hd kk
theorem mg_14 (S : CallFix p m c cc nL s args wsL_law own) (w : Wd D tys A H0 s (mW cI cO a σ f Z) H locs) (hl : Cond.fieldLink own index "RepeatLearnerModel" "aborted" "I" ∈ wsL_law) (hd : decode cc pc = .ok (.getfield index, 3)) (kk : W p l e R s m args below meth c H locs cells slots Q (F0 m (pc + 3) ls (.int (σ 14) :: rest))) : W p l e R s m args below meth c H locs cells slots Q (F0 m pc ls (.ref (a 0) :: rest)) :=
  x_get5 S w 0 (fs := mF a σ) rfl 17 (by decide) hl rfl hd kk
theorem mp_14 {v : Int32} (S : CallFix p m c cc nL s args wsL_law own) (w : Wd D tys A H0 s (mW cI cO a σ f Z) H locs) (hl : Cond.fieldLink own index "RepeatLearnerModel" "aborted" "I" ∈ wsL_law) (hd : decode cc pc = .ok (.putfield index, 3)) (kk : ∀ (H1 : Heap) (locs1 : List Loc), Wd D tys A H0 s (mW cI cO a (upd σ 14 v) f Z) H1 locs1 → W p l e R s m args below meth c H1 locs1 cells slots Q (F0 m (pc + 3) ls rest)) : W p l e R s m args below meth c H locs cells slots Q (F0 m pc ls (.int v :: .ref (a 0) :: rest)) :=
  x_put5 S w 0 (fs := mF a σ) rfl 17 (by decide) hl rfl (v := .int v) (ws' := mW cI cO a (upd σ 14 v) f Z) rfl rfl (Nat.le_of_ble_eq_true rfl) rfl hd kk
theorem mg_15 (S : CallFix p m c cc nL s args wsL_law own) (w : Wd D tys A H0 s (mW cI cO a σ f Z) H locs) (hl : Cond.fieldLink own index "RepeatLearnerModel" "fallbacks" "I" ∈ wsL_law) (hd : decode cc pc = .ok (.getfield index, 3)) (kk : W p l e R s m args below meth c H locs cells slots Q (F0 m (pc + 3) ls (.int (σ 15) :: rest))) : W p l e R s m args below meth c H locs cells slots Q (F0 m pc ls (.ref (a 0) :: rest)) :=
  x_get5 S w 0 (fs := mF a σ) rfl 18 (by decide) hl rfl hd kk
theorem mp_15 {v : Int32} (S : CallFix p m c cc nL s args wsL_law own) (w : Wd D tys A H0 s (mW cI cO a σ f Z) H locs) (hl : Cond.fieldLink own index "RepeatLearnerModel" "fallbacks" "I" ∈ wsL_law) (hd : decode cc pc = .ok (.putfield index, 3)) (kk : ∀ (H1 : Heap) (locs1 : List Loc), Wd D tys A H0 s (mW cI cO a (upd σ 15 v) f Z) H1 locs1 → W p l e R s m args below meth c H1 locs1 cells slots Q (F0 m (pc + 3) ls rest)) : W p l e R s m args below meth c H locs cells slots Q (F0 m pc ls (.int v :: .ref (a 0) :: rest)) :=
  x_put5 S w 0 (fs := mF a σ) rfl 18 (by decide) hl rfl (v := .int v) (ws' := mW cI cO a (upd σ 15 v) f Z) rfl rfl (Nat.le_of_ble_eq_true rfl) rfl hd kk
theorem mg_16 (S : CallFix p m c cc nL s args wsL_law own) (w : Wd D tys A H0 s (mW cI cO a σ f Z) H locs) (hl : Cond.fieldLink own index "RepeatLearnerModel" "bad" "I" ∈ wsL_law) (hd : decode cc pc = .ok (.getfield index, 3)) (kk : W p l e R s m args below meth c H locs cells slots Q (F0 m (pc + 3) ls (.int (σ 16) :: rest))) : W p l e R s m args below meth c H locs cells slots Q (F0 m pc ls (.ref (a 0) :: rest)) :=
  x_get5 S w 0 (fs := mF a σ) rfl 19 (by decide) hl rfl hd kk
theorem mp_16 {v : Int32} (S : CallFix p m c cc nL s args wsL_law own) (w : Wd D tys A H0 s (mW cI cO a σ f Z) H locs) (hl : Cond.fieldLink own index "RepeatLearnerModel" "bad" "I" ∈ wsL_law) (hd : decode cc pc = .ok (.putfield index, 3)) (kk : ∀ (H1 : Heap) (locs1 : List Loc), Wd D tys A H0 s (mW cI cO a (upd σ 16 v) f Z) H1 locs1 → W p l e R s m args below meth c H1 locs1 cells slots Q (F0 m (pc + 3) ls rest)) : W p l e R s m args below meth c H locs cells slots Q (F0 m pc ls (.int v :: .ref (a 0) :: rest)) :=
  x_put5 S w 0 (fs := mF a σ) rfl 19 (by decide) hl rfl (v := .int v) (ws' := mW cI cO a (upd σ 16 v) f Z) rfl rfl (Nat.le_of_ble_eq_true rfl) rfl hd kk
theorem mr_4 (S : CallFix p m c cc nL s args wsL_law own) (w : Wd D tys A H0 s (mW cI cO a σ f Z) H locs) (hl : Cond.fieldLink own index "RepeatLearnerModel" "raw" "[I" ∈ wsL_law) (hd : decode cc pc = .ok (.getfield index, 3)) (kk : W p l e R s m args below meth c H locs cells slots Q (F0 m (pc + 3) ls (.ref (a 4) :: rest))) : W p l e R s m args below meth c H locs cells slots Q (F0 m pc ls (.ref (a 0) :: rest)) :=
  x_get5 S w 0 (fs := mF a σ) rfl 20 (by decide) hl rfl hd kk
theorem mr_6 (S : CallFix p m c cc nL s args wsL_law own) (w : Wd D tys A H0 s (mW cI cO a σ f Z) H locs) (hl : Cond.fieldLink own index "RepeatLearnerModel" "off" "[I" ∈ wsL_law) (hd : decode cc pc = .ok (.getfield index, 3)) (kk : W p l e R s m args below meth c H locs cells slots Q (F0 m (pc + 3) ls (.ref (a 6) :: rest))) : W p l e R s m args below meth c H locs cells slots Q (F0 m pc ls (.ref (a 0) :: rest)) :=
  x_get5 S w 0 (fs := mF a σ) rfl 21 (by decide) hl rfl hd kk
theorem mr_3 (S : CallFix p m c cc nL s args wsL_law own) (w : Wd D tys A H0 s (mW cI cO a σ f Z) H locs) (hl : Cond.fieldLink own index "RepeatLearnerModel" "smoothed" "[I" ∈ wsL_law) (hd : decode cc pc = .ok (.getfield index, 3)) (kk : W p l e R s m args below meth c H locs cells slots Q (F0 m (pc + 3) ls (.ref (a 3) :: rest))) : W p l e R s m args below meth c H locs cells slots Q (F0 m pc ls (.ref (a 0) :: rest)) :=
  x_get5 S w 0 (fs := mF a σ) rfl 22 (by decide) hl rfl hd kk
theorem mr_11 (S : CallFix p m c cc nL s args wsL_law own) (w : Wd D tys A H0 s (mW cI cO a σ f Z) H locs) (hl : Cond.fieldLink own index "RepeatLearnerModel" "error" "[I" ∈ wsL_law) (hd : decode cc pc = .ok (.getfield index, 3)) (kk : W p l e R s m args below meth c H locs cells slots Q (F0 m (pc + 3) ls (.ref (a 11) :: rest))) : W p l e R s m args below meth c H locs cells slots Q (F0 m pc ls (.ref (a 0) :: rest)) :=
  x_get5 S w 0 (fs := mF a σ) rfl 23 (by decide) hl rfl hd kk
theorem mr_8 (S : CallFix p m c cc nL s args wsL_law own) (w : Wd D tys A H0 s (mW cI cO a σ f Z) H locs) (hl : Cond.fieldLink own index "RepeatLearnerModel" "normOf" "[I" ∈ wsL_law) (hd : decode cc pc = .ok (.getfield index, 3)) (kk : W p l e R s m args below meth c H locs cells slots Q (F0 m (pc + 3) ls (.ref (a 8) :: rest))) : W p l e R s m args below meth c H locs cells slots Q (F0 m pc ls (.ref (a 0) :: rest)) :=
  x_get5 S w 0 (fs := mF a σ) rfl 24 (by decide) hl rfl hd kk
theorem mr_9 (S : CallFix p m c cc nL s args wsL_law own) (w : Wd D tys A H0 s (mW cI cO a σ f Z) H locs) (hl : Cond.fieldLink own index "RepeatLearnerModel" "shiftOf" "[I" ∈ wsL_law) (hd : decode cc pc = .ok (.getfield index, 3)) (kk : W p l e R s m args below meth c H locs cells slots Q (F0 m (pc + 3) ls (.ref (a 9) :: rest))) : W p l e R s m args below meth c H locs cells slots Q (F0 m pc ls (.ref (a 0) :: rest)) :=
  x_get5 S w 0 (fs := mF a σ) rfl 25 (by decide) hl rfl hd kk
theorem mr_5 (S : CallFix p m c cc nL s args wsL_law own) (w : Wd D tys A H0 s (mW cI cO a σ f Z) H locs) (hl : Cond.fieldLink own index "RepeatLearnerModel" "aligned" "[I" ∈ wsL_law) (hd : decode cc pc = .ok (.getfield index, 3)) (kk : W p l e R s m args below meth c H locs cells slots Q (F0 m (pc + 3) ls (.ref (a 5) :: rest))) : W p l e R s m args below meth c H locs cells slots Q (F0 m pc ls (.ref (a 0) :: rest)) :=
  x_get5 S w 0 (fs := mF a σ) rfl 26 (by decide) hl rfl hd kk
theorem mg_22 (S : CallFix p m c cc nL s args wsL_law own) (w : Wd D tys A H0 s (mW cI cO a σ f Z) H locs) (hl : Cond.fieldLink own index "RepeatLearnerModel" "bestNumber" "I" ∈ wsL_law) (hd : decode cc pc = .ok (.getfield index, 3)) (kk : W p l e R s m args below meth c H locs cells slots Q (F0 m (pc + 3) ls (.int (σ 22) :: rest))) : W p l e R s m args below meth c H locs cells slots Q (F0 m pc ls (.ref (a 0) :: rest)) :=
  x_get5 S w 0 (fs := mF a σ) rfl 27 (by decide) hl rfl hd kk
theorem mp_22 {v : Int32} (S : CallFix p m c cc nL s args wsL_law own) (w : Wd D tys A H0 s (mW cI cO a σ f Z) H locs) (hl : Cond.fieldLink own index "RepeatLearnerModel" "bestNumber" "I" ∈ wsL_law) (hd : decode cc pc = .ok (.putfield index, 3)) (kk : ∀ (H1 : Heap) (locs1 : List Loc), Wd D tys A H0 s (mW cI cO a (upd σ 22 v) f Z) H1 locs1 → W p l e R s m args below meth c H1 locs1 cells slots Q (F0 m (pc + 3) ls rest)) : W p l e R s m args below meth c H locs cells slots Q (F0 m pc ls (.int v :: .ref (a 0) :: rest)) :=
  x_put5 S w 0 (fs := mF a σ) rfl 27 (by decide) hl rfl (v := .int v) (ws' := mW cI cO a (upd σ 22 v) f Z) rfl rfl (Nat.le_of_ble_eq_true rfl) rfl hd kk
theorem mg_21 (S : CallFix p m c cc nL s args wsL_law own) (w : Wd D tys A H0 s (mW cI cO a σ f Z) H locs) (hl : Cond.fieldLink own index "RepeatLearnerModel" "bestNorm" "I" ∈ wsL_law) (hd : decode cc pc = .ok (.getfield index, 3)) (kk : W p l e R s m args below meth c H locs cells slots Q (F0 m (pc + 3) ls (.int (σ 21) :: rest))) : W p l e R s m args below meth c H locs cells slots Q (F0 m pc ls (.ref (a 0) :: rest)) :=
  x_get5 S w 0 (fs := mF a σ) rfl 28 (by decide) hl rfl hd kk
theorem mp_21 {v : Int32} (S : CallFix p m c cc nL s args wsL_law own) (w : Wd D tys A H0 s (mW cI cO a σ f Z) H locs) (hl : Cond.fieldLink own index "RepeatLearnerModel" "bestNorm" "I" ∈ wsL_law) (hd : decode cc pc = .ok (.putfield index, 3)) (kk : ∀ (H1 : Heap) (locs1 : List Loc), Wd D tys A H0 s (mW cI cO a (upd σ 21 v) f Z) H1 locs1 → W p l e R s m args below meth c H1 locs1 cells slots Q (F0 m (pc + 3) ls rest)) : W p l e R s m args below meth c H locs cells slots Q (F0 m pc ls (.int v :: .ref (a 0) :: rest)) :=
  x_put5 S w 0 (fs := mF a σ) rfl 28 (by decide) hl rfl (v := .int v) (ws' := mW cI cO a (upd σ 21 v) f Z) rfl rfl (Nat.le_of_ble_eq_true rfl) rfl hd kk
theorem mr_10 (S : CallFix p m c cc nL s args wsL_law own) (w : Wd D tys A H0 s (mW cI cO a σ f Z) H locs) (hl : Cond.fieldLink own index "RepeatLearnerModel" "bestPut" "[I" ∈ wsL_law) (hd : decode cc pc = .ok (.getfield index, 3)) (kk : W p l e R s m args below meth c H locs cells slots Q (F0 m (pc + 3) ls (.ref (a 10) :: rest))) : W p l e R s m args below meth c H locs cells slots Q (F0 m pc ls (.ref (a 0) :: rest)) :=
  x_get5 S w 0 (fs := mF a σ) rfl 29 (by decide) hl rfl hd kk
theorem mr_7 (S : CallFix p m c cc nL s args wsL_law own) (w : Wd D tys A H0 s (mW cI cO a σ f Z) H locs) (hl : Cond.fieldLink own index "RepeatLearnerModel" "plant" "[I" ∈ wsL_law) (hd : decode cc pc = .ok (.getfield index, 3)) (kk : W p l e R s m args below meth c H locs cells slots Q (F0 m (pc + 3) ls (.ref (a 7) :: rest))) : W p l e R s m args below meth c H locs cells slots Q (F0 m pc ls (.ref (a 0) :: rest)) :=
  x_get5 S w 0 (fs := mF a σ) rfl 30 (by decide) hl rfl hd kk
theorem mg_17 (S : CallFix p m c cc nL s args wsL_law own) (w : Wd D tys A H0 s (mW cI cO a σ f Z) H locs) (hl : Cond.fieldLink own index "RepeatLearnerModel" "amplitude" "I" ∈ wsL_law) (hd : decode cc pc = .ok (.getfield index, 3)) (kk : W p l e R s m args below meth c H locs cells slots Q (F0 m (pc + 3) ls (.int (σ 17) :: rest))) : W p l e R s m args below meth c H locs cells slots Q (F0 m pc ls (.ref (a 0) :: rest)) :=
  x_get5 S w 0 (fs := mF a σ) rfl 31 (by decide) hl rfl hd kk
theorem mp_17 {v : Int32} (S : CallFix p m c cc nL s args wsL_law own) (w : Wd D tys A H0 s (mW cI cO a σ f Z) H locs) (hl : Cond.fieldLink own index "RepeatLearnerModel" "amplitude" "I" ∈ wsL_law) (hd : decode cc pc = .ok (.putfield index, 3)) (kk : ∀ (H1 : Heap) (locs1 : List Loc), Wd D tys A H0 s (mW cI cO a (upd σ 17 v) f Z) H1 locs1 → W p l e R s m args below meth c H1 locs1 cells slots Q (F0 m (pc + 3) ls rest)) : W p l e R s m args below meth c H locs cells slots Q (F0 m pc ls (.int v :: .ref (a 0) :: rest)) :=
  x_put5 S w 0 (fs := mF a σ) rfl 31 (by decide) hl rfl (v := .int v) (ws' := mW cI cO a (upd σ 17 v) f Z) rfl rfl (Nat.le_of_ble_eq_true rfl) rfl hd kk
theorem mg_18 (S : CallFix p m c cc nL s args wsL_law own) (w : Wd D tys A H0 s (mW cI cO a σ f Z) H locs) (hl : Cond.fieldLink own index "RepeatLearnerModel" "drawn" "I" ∈ wsL_law) (hd : decode cc pc = .ok (.getfield index, 3)) (kk : W p l e R s m args below meth c H locs cells slots Q (F0 m (pc + 3) ls (.int (σ 18) :: rest))) : W p l e R s m args below meth c H locs cells slots Q (F0 m pc ls (.ref (a 0) :: rest)) :=
  x_get5 S w 0 (fs := mF a σ) rfl 32 (by decide) hl rfl hd kk
theorem mp_18 {v : Int32} (S : CallFix p m c cc nL s args wsL_law own) (w : Wd D tys A H0 s (mW cI cO a σ f Z) H locs) (hl : Cond.fieldLink own index "RepeatLearnerModel" "drawn" "I" ∈ wsL_law) (hd : decode cc pc = .ok (.putfield index, 3)) (kk : ∀ (H1 : Heap) (locs1 : List Loc), Wd D tys A H0 s (mW cI cO a (upd σ 18 v) f Z) H1 locs1 → W p l e R s m args below meth c H1 locs1 cells slots Q (F0 m (pc + 3) ls rest)) : W p l e R s m args below meth c H locs cells slots Q (F0 m pc ls (.int v :: .ref (a 0) :: rest)) :=
  x_put5 S w 0 (fs := mF a σ) rfl 32 (by decide) hl rfl (v := .int v) (ws' := mW cI cO a (upd σ 18 v) f Z) rfl rfl (Nat.le_of_ble_eq_true rfl) rfl hd kk
end WORLD
end
section
theorem x_inc (i : Nat) : nI i + Int32.ofInt 1 = nI (i + 1) := nI_1 i
def iush (x y : Int32) : Int32 := (x.toUInt32 >>> (y.toUInt32 &&& Int32.toUInt32 31)).toInt32
def lmax (x y : Int64) : Int64 := if y < x then x else y
def lmin (x y : Int64) : Int64 := if y < x then y else x
def labs (x : Int64) : Int64 := if 0 < x then x else -x
section MORE
variable {p : Program} {l : Launch} {e : Env} {R : Room} {s : State} {m : MethodId} {args : Array Value} {below : List Frame} {meth : Method} {c : Code} {H : Heap} {locs : List Loc} {cells slots : Nat} {Q : State → Prop}
variable {cc : ByteArray} {nL : Nat} {own : String} {pc : Nat} {ls : Array Slot} {rest : List Value} {D : va_G} {tys : List (ClassId × FieldType)} {ws1 ws2 ws0 : va_W} {sz : Nat} {g : JFrame} {free : Addr → Prop}
theorem x_eqr {x y : Nat} (h : x = y) (k : W p l e R s m args below meth c H locs cells slots Q (F0 m pc ls (.ref y :: rest))) : W p l e R s m args below meth c H locs cells slots Q (F0 m pc ls (.ref x :: rest)) := h ▸ k
theorem x_toi {r1 r2 : Int32} (hr : r1 = r2) (hw : ws1 = ws2) (k : W p l e R s m args below meth c H locs cells slots (MQ below (mQi D tys ws0 sz ws1 r1) args s cells slots free) g) : W p l e R s m args below meth c H locs cells slots (MQ below (mQi D tys ws0 sz ws2 r2) args s cells slots free) g := by
  subst hr; subst hw; exact k
theorem x_tol {r1 r2 : Int64} (hr : r1 = r2) (hw : ws1 = ws2) (k : W p l e R s m args below meth c H locs cells slots (MQ below (mQl D tys ws0 sz ws1 r1) args s cells slots free) g) : W p l e R s m args below meth c H locs cells slots (MQ below (mQl D tys ws0 sz ws2 r2) args s cells slots free) g := by
  subst hr; subst hw; exact k
theorem x_tor {r1 r2 : Nat} (hr : r1 = r2) (hw : ws1 = ws2) (k : W p l e R s m args below meth c H locs cells slots (MQ below (mQr D tys ws0 sz ws1 r1) args s cells slots free) g) : W p l e R s m args below meth c H locs cells slots (MQ below (mQr D tys ws0 sz ws2 r2) args s cells slots free) g := by
  subst hr; subst hw; exact k
theorem x_tov (hw : ws1 = ws2) (k : W p l e R s m args below meth c H locs cells slots (MQ below (mQv D tys ws0 sz ws1) args s cells slots free) g) : W p l e R s m args below meth c H locs cells slots (MQ below (mQv D tys ws0 sz ws2) args s cells slots free) g := by
  subst hw; exact k
theorem x_lif_lt (hexec : p.tables.exec = Jvm.exec) (hb : c.code = cc) {x y : Int64} {off : Int} {tgt : Nat} (hd1 : decode cc pc = .ok (.lcmp, 1)) (hd2 : decode cc (pc + 1) = .ok (.ifCond .lt off, 3)) (ht : ((pc + 1 : Nat) : Int) + off = (tgt : Int)) (kt : x < y → W p l e R s m args below meth c H locs cells slots Q (F0 m tgt ls rest)) (kf : ¬ x < y → W p l e R s m args below meth c H locs cells slots Q (F0 m (pc + 1 + 3) ls rest)) : W p l e R s m args below meth c H locs cells slots Q (F0 m pc ls (.long y :: .long x :: rest)) :=
  W.lcmp hexec hb hd1 (lv_if_lt hexec hb hd2 ht (fun h => kt ((lg_cmp_lt x y).mp h)) (fun h => kf (fun z => h ((lg_cmp_lt x y).mpr z))))
theorem x_lif_ge (hexec : p.tables.exec = Jvm.exec) (hb : c.code = cc) {x y : Int64} {off : Int} {tgt : Nat} (hd1 : decode cc pc = .ok (.lcmp, 1)) (hd2 : decode cc (pc + 1) = .ok (.ifCond .ge off, 3)) (ht : ((pc + 1 : Nat) : Int) + off = (tgt : Int)) (kt : y ≤ x → W p l e R s m args below meth c H locs cells slots Q (F0 m tgt ls rest)) (kf : ¬ y ≤ x → W p l e R s m args below meth c H locs cells slots Q (F0 m (pc + 1 + 3) ls rest)) : W p l e R s m args below meth c H locs cells slots Q (F0 m pc ls (.long y :: .long x :: rest)) :=
  W.lcmp hexec hb hd1 (lv_if_ge hexec hb hd2 ht (fun h => kt ((lg_cmp_ge x y).mp h)) (fun h => kf (fun z => h ((lg_cmp_ge x y).mpr z))))
theorem x_lif_gt (hexec : p.tables.exec = Jvm.exec) (hb : c.code = cc) {x y : Int64} {off : Int} {tgt : Nat} (hd1 : decode cc pc = .ok (.lcmp, 1)) (hd2 : decode cc (pc + 1) = .ok (.ifCond .gt off, 3)) (ht : ((pc + 1 : Nat) : Int) + off = (tgt : Int)) (kt : y < x → W p l e R s m args below meth c H locs cells slots Q (F0 m tgt ls rest)) (kf : ¬ y < x → W p l e R s m args below meth c H locs cells slots Q (F0 m (pc + 1 + 3) ls rest)) : W p l e R s m args below meth c H locs cells slots Q (F0 m pc ls (.long y :: .long x :: rest)) :=
  W.lcmp hexec hb hd1 (lv_if_gt hexec hb hd2 ht (fun h => kt ((lg_cmp_gt x y).mp h)) (fun h => kf (fun z => h ((lg_cmp_gt x y).mpr z))))
theorem x_lif_le (hexec : p.tables.exec = Jvm.exec) (hb : c.code = cc) {x y : Int64} {off : Int} {tgt : Nat} (hd1 : decode cc pc = .ok (.lcmp, 1)) (hd2 : decode cc (pc + 1) = .ok (.ifCond .le off, 3)) (ht : ((pc + 1 : Nat) : Int) + off = (tgt : Int)) (kt : x ≤ y → W p l e R s m args below meth c H locs cells slots Q (F0 m tgt ls rest)) (kf : ¬ x ≤ y → W p l e R s m args below meth c H locs cells slots Q (F0 m (pc + 1 + 3) ls rest)) : W p l e R s m args below meth c H locs cells slots Q (F0 m pc ls (.long y :: .long x :: rest)) :=
  W.lcmp hexec hb hd1 (lv_if_le hexec hb hd2 ht (fun h => kt ((lg_cmp_le x y).mp h)) (fun h => kf (fun z => h ((lg_cmp_le x y).mpr z))))
theorem x_lif_eq (hexec : p.tables.exec = Jvm.exec) (hb : c.code = cc) {x y : Int64} {off : Int} {tgt : Nat} (hd1 : decode cc pc = .ok (.lcmp, 1)) (hd2 : decode cc (pc + 1) = .ok (.ifCond .eq off, 3)) (ht : ((pc + 1 : Nat) : Int) + off = (tgt : Int)) (kt : x = y → W p l e R s m args below meth c H locs cells slots Q (F0 m tgt ls rest)) (kf : ¬ x = y → W p l e R s m args below meth c H locs cells slots Q (F0 m (pc + 1 + 3) ls rest)) : W p l e R s m args below meth c H locs cells slots Q (F0 m pc ls (.long y :: .long x :: rest)) :=
  W.lcmp hexec hb hd1 (lv_if_eq hexec hb hd2 ht (fun h => kt ((lg_cmp_eq x y).mp h)) (fun h => kf (fun z => h ((lg_cmp_eq x y).mpr z))))
theorem x_lif_ne (hexec : p.tables.exec = Jvm.exec) (hb : c.code = cc) {x y : Int64} {off : Int} {tgt : Nat} (hd1 : decode cc pc = .ok (.lcmp, 1)) (hd2 : decode cc (pc + 1) = .ok (.ifCond .ne off, 3)) (ht : ((pc + 1 : Nat) : Int) + off = (tgt : Int)) (kt : ¬ x = y → W p l e R s m args below meth c H locs cells slots Q (F0 m tgt ls rest)) (kf : x = y → W p l e R s m args below meth c H locs cells slots Q (F0 m (pc + 1 + 3) ls rest)) : W p l e R s m args below meth c H locs cells slots Q (F0 m pc ls (.long y :: .long x :: rest)) :=
  W.lcmp hexec hb hd1 (lv_if_ne hexec hb hd2 ht (fun h => kt (fun z => h ((lg_cmp_eq x y).mpr z))) (fun h => kf ((lg_cmp_eq x y).mp h)))
theorem x_mmaxl (S : CallFix p m c cc nL s args wsL_law own) {index : Nat} (hlink : Cond.methodLink own index Lib.MathLoose.max_long.x ∈ wsL_law) (hls : ls.size = nL) (hframes : 1 ≤ R.frames) (hlocals : (rest.map fun v => v.category).sum + 15 ≤ R.locals) (hc : cells ≤ R.cells) (hs : slots ≤ R.slots) {x y : Int64} (hdg : decode cc pc = .ok (.invokestatic index, 3))
    (kk : W p l e R s m args below meth c H locs cells slots Q (F0 m (pc + 3) ls (.long (lmax x y) :: rest))) : W p l e R s m args below meth c H locs cells slots Q (F0 m pc ls (.long y :: .long x :: rest)) :=
  va_mmax_long S.1 S.2.1 (S.2.2.1.trans hls.symm) S.2.2.2.1 (S.2.2.2.2 _ hlink) (S.2.2.2.2 _ lw_static_Lib_MathLoose_max_long_x) (S.2.2.2.2 _ lw_initialized__java_lang_Math_) (S.2.2.2.2 _ lw_code_Lib_MathLoose_max_long_x_Lib_MathLoose_max_long_co) hframes hlocals hc hs hdg kk
theorem x_mminl (S : CallFix p m c cc nL s args wsL_law own) {index : Nat} (hlink : Cond.methodLink own index Lib.MathLoose.min_long.x ∈ wsL_law) (hls : ls.size = nL) (hframes : 1 ≤ R.frames) (hlocals : (rest.map fun v => v.category).sum + 15 ≤ R.locals) (hc : cells ≤ R.cells) (hs : slots ≤ R.slots) {x y : Int64} (hdg : decode cc pc = .ok (.invokestatic index, 3))
    (kk : W p l e R s m args below meth c H locs cells slots Q (F0 m (pc + 3) ls (.long (lmin x y) :: rest))) : W p l e R s m args below meth c H locs cells slots Q (F0 m pc ls (.long y :: .long x :: rest)) :=
  va_mmin_long S.1 S.2.1 (S.2.2.1.trans hls.symm) S.2.2.2.1 (S.2.2.2.2 _ hlink) (S.2.2.2.2 _ lw_static_Lib_MathLoose_min_long_x) (S.2.2.2.2 _ lw_initialized__java_lang_Math_) (S.2.2.2.2 _ lw_code_Lib_MathLoose_min_long_x_Lib_MathLoose_min_long_co) hframes hlocals hc hs hdg kk
theorem x_mabsl (S : CallFix p m c cc nL s args wsL_law own) {index : Nat} (hlink : Cond.methodLink own index Lib.MathLoose.abs_long.x ∈ wsL_law) (hls : ls.size = nL) (hframes : 1 ≤ R.frames) (hlocals : (rest.map fun v => v.category).sum + 13 ≤ R.locals) (hc : cells ≤ R.cells) (hs : slots ≤ R.slots) {x : Int64} (hdg : decode cc pc = .ok (.invokestatic index, 3))
    (kk : W p l e R s m args below meth c H locs cells slots Q (F0 m (pc + 3) ls (.long (labs x) :: rest))) : W p l e R s m args below meth c H locs cells slots Q (F0 m pc ls (.long x :: rest)) :=
  va_mabs_long S.1 S.2.1 (S.2.2.1.trans hls.symm) S.2.2.2.1 (S.2.2.2.2 _ hlink) (S.2.2.2.2 _ lw_static_Lib_MathLoose_abs_long_x) (S.2.2.2.2 _ lw_initialized__java_lang_Math_) (S.2.2.2.2 _ lw_code_Lib_MathLoose_abs_long_x_Lib_MathLoose_abs_long_co) hframes hlocals hc hs hdg kk
end MORE
theorem x_tout5 {x : Int32} (h0 : ¬ x = 0) (h1 : ¬ x = 1) (h2 : ¬ x = 2) (h3 : ¬ x = 3) (h4 : ¬ x = 4) : x.toInt < 0 ∨ 4 < x.toInt := by
  have g0 := lv_neT (a := 0) h0 (by decide)
  have g1 := lv_neT (a := 1) h1 (by decide)
  have g2 := lv_neT (a := 2) h2 (by decide)
  have g3 := lv_neT (a := 3) h3 (by decide)
  have g4 := lv_neT (a := 4) h4 (by decide)
  omega
theorem x_tout11 {x : Int32} (h0 : ¬ x = 0) (h1 : ¬ x = 1) (h2 : ¬ x = 2) (h3 : ¬ x = 3) (h4 : ¬ x = 4) (h5 : ¬ x = 5) (h6 : ¬ x = 6) (h7 : ¬ x = 7) (h8 : ¬ x = 8) (h9 : ¬ x = 9) (h10 : ¬ x = 10) : x.toInt < 0 ∨ 10 < x.toInt := by
  have g0 := lv_neT (a := 0) h0 (by decide)
  have g1 := lv_neT (a := 1) h1 (by decide)
  have g2 := lv_neT (a := 2) h2 (by decide)
  have g3 := lv_neT (a := 3) h3 (by decide)
  have g4 := lv_neT (a := 4) h4 (by decide)
  have g5 := lv_neT (a := 5) h5 (by decide)
  have g6 := lv_neT (a := 6) h6 (by decide)
  have g7 := lv_neT (a := 7) h7 (by decide)
  have g8 := lv_neT (a := 8) h8 (by decide)
  have g9 := lv_neT (a := 9) h9 (by decide)
  have g10 := lv_neT (a := 10) h10 (by decide)
  omega
end
section
def wIn (v lo hi : Int32) : Int32 := if v < lo then 0 else if hi < v then 0 else 1
theorem wIn_b (v lo hi : Int32) : wIn v lo hi = 0 ∨ wIn v lo hi = 1 := by
  unfold wIn
  split
  · exact Or.inl rfl
  · split
    · exact Or.inl rfl
    · exact Or.inr rfl
theorem wIn_ne {v lo hi : Int32} (h : ¬ wIn v lo hi = 0) : lo ≤ v ∧ v ≤ hi := by
  unfold wIn at h
  by_cases h1 : v < lo
  · exact absurd (if_pos h1) h
  · rw [if_neg h1] at h
    by_cases h2 : hi < v
    · exact absurd (if_pos h2) h
    · exact ⟨Int32.not_lt.mp h1, Int32.not_lt.mp h2⟩
/-- an int of 0 to n, as a natural -/
theorem wIn_ix {v hi : Int32} {n : Nat} (hn : n < 2 ^ 31) (hh : hi = nI n) (h : ¬ wIn v 0 hi = 0) : Int32.toNatClampNeg v ≤ n ∧ v = nI (Int32.toNatClampNeg v) := by
  obtain ⟨h1, h2⟩ := wIn_ne h
  subst hh
  obtain ⟨j, hj, rfl⟩ := nI_of2 (nI_toInt hn) (Int32.not_lt.mpr h1) h2
  rw [nI_clamp (Nat.lt_of_le_of_lt hj hn)]
  exact ⟨hj, rfl⟩
theorem wIn_j {v x : Int32} {N : Nat} (hN : x = nI N) (h4 : 4 ≤ N) (h48 : N ≤ 48) (h : ¬ wIn v 0 (x - 1) = 0) : Int32.toNatClampNeg v < N ∧ v = nI (Int32.toNatClampNeg v) := by
  have e : x - 1 = nI (N - 1) := by rw [hN]; exact pk_sub (b := 1) (by omega)
  obtain ⟨h1, h2⟩ := wIn_ix (by omega) e h
  exact ⟨by omega, h2⟩
def onI (q1 : Int32) : Int32 := if q1 = 0 then 0 else 1
/-- the row of a complete trial: c complete ones, of age g -/
def slt (c g : Int32) : Nat := (Int32.toNatClampNeg c - 1 - Int32.toNatClampNeg g) % 5
theorem slt_lt (c g : Int32) : slt c g < 5 := Nat.mod_lt _ (by decide)
theorem slt_eq {c g : Int32} {K A : Nat} (hK : c = nI K) (hK2 : K < 1000000) (hA : g = nI A) (h : A < K) : nI ((K - 1 - A) % 5) = nI (slt c g) := by
  unfold slt
  rw [hK, hA, nI_clamp (by omega), nI_clamp (by omega)]
theorem xor_pos {X : Nat} (h : X < 2 ^ 31) : (0 : Int32) ≤ nI X ^^^ 5 := by
  rw [← Int32.not_lt, Int32.lt_iff_toBitVec_slt]
  have h1 : (nI X).toBitVec.msb = false := by
    rw [BitVec.msb_eq_false_iff_two_mul_lt, pk_tn (by omega)]; omega
  have h2 : ((nI X) ^^^ 5).toBitVec.msb = false := by
    rw [Int32.toBitVec_xor, BitVec.msb_xor, h1]; rfl
  rw [show (0 : Int32).toBitVec = 0#32 from rfl, BitVec.slt_zero_eq_msb, h2]
  decide
set_option maxHeartbeats 4000000 in
set_option maxRecDepth 100000 in
theorem k_X4_isWithin (l : Launch) (D : va_G) (tys : List (ClassId × FieldType)) (ws : va_W) (v : Int32) (lo : Int32) (hi : Int32) : Mi l yX4_isWithin cX4_isWithin 3 (some .boolean) { frames := 0, cells := 0, slots := 0, locals := 0 } D tys ws [.int v, .int lo, .int hi] ws (wIn v lo hi) := by
  intro sz
  refine ent (by decide +kernel) (Nat.le_of_ble_eq_true rfl) ?_
  intro p e st m below meth c ls S hr hlk hnm w hsz hl
  have hl : lv_has ls 3 [(0, .int v), (1, .int lo), (2, .int hi)] := hl
  refine lv_iload_n S.1 S.2.1 dX4_isWithin_0 rfl (lv_at hl 0 rfl) ?_
  refine lv_iload_n S.1 S.2.1 dX4_isWithin_1 rfl (lv_at hl 1 rfl) ?_
  refine lv_icmp_lt (tgt := 14) S.1 S.2.1 dX4_isWithin_2 (by decide) (fun (c_1 : v < lo) => ?_) (fun (c_1 : ¬ (v < lo)) => ?_)
  · refine lv_iconst (v := 0) S.1 S.2.1 dX4_isWithin_14 (by decide) ?_
    exact x_retz S w hr hlk dX4_isWithin_15 (Or.inl rfl) (show 0 = wIn v lo hi from by simp only [wIn, if_pos c_1]) (show ws = ws from rfl)
  · refine lv_iload_n S.1 S.2.1 dX4_isWithin_5 rfl (lv_at hl 0 rfl) ?_
    refine lv_iload_n S.1 S.2.1 dX4_isWithin_6 rfl (lv_at hl 2 rfl) ?_
    refine lv_icmp_gt (tgt := 14) S.1 S.2.1 dX4_isWithin_7 (by decide) (fun (c_2 : hi < v) => ?_) (fun (c_2 : ¬ (hi < v)) => ?_)
    · refine lv_iconst (v := 0) S.1 S.2.1 dX4_isWithin_14 (by decide) ?_
      exact x_retz S w hr hlk dX4_isWithin_15 (Or.inl rfl) (show 0 = wIn v lo hi from by simp only [wIn, if_neg c_1, if_pos c_2]) (show ws = ws from rfl)
    · refine lv_iconst (v := 1) S.1 S.2.1 dX4_isWithin_10 (by decide) ?_
      refine lv_goto (tgt := 15) S.1 S.2.1 dX4_isWithin_11 (by decide) ?_
      exact x_retz S w hr hlk dX4_isWithin_15 (Or.inr rfl) (show 1 = wIn v lo hi from by simp only [wIn, if_neg c_1, if_neg c_2]) (show ws = ws from rfl)
def o_X4_isSignal (v : Int32) : Int32 := wIn v (-1000000) 1000000
set_option maxHeartbeats 4000000 in
set_option maxRecDepth 100000 in
theorem k_X4_isSignal (l : Launch) (D : va_G) (tys : List (ClassId × FieldType)) (ws : va_W) (v : Int32) : Mi l yX4_isSignal cX4_isSignal 1 (some .boolean) { frames := 1, cells := 0, slots := 0, locals := 22 } D tys ws [.int v] ws (o_X4_isSignal v) := by
  intro sz
  refine ent (by decide +kernel) (Nat.le_of_ble_eq_true rfl) ?_
  intro p e st m below meth c ls S hr hlk hnm w hsz hl
  have hl : lv_has ls 1 [(0, .int v)] := hl
  refine lv_iload_n S.1 S.2.1 dX4_isSignal_0 rfl (lv_at hl 0 rfl) ?_
  refine x_ldc S lk_RX4_215 dX4_isSignal_1 ?_
  refine x_ldc S lk_RX4_92 dX4_isSignal_3 ?_
  refine x_Si (As := [.int v, .int (-1000000), .int 1000000]) (rest := []) S w (goodS lk_RX4_60 lt_X4_isWithin ln_RX4 lc_X4_isWithin) hd_X4_isWithin (k_X4_isWithin l _ _ ws v (-1000000) 1000000) rfl ⟨(Nat.le_of_ble_eq_true rfl), (Nat.le_of_ble_eq_true rfl)⟩ ⟨rfl, rfl⟩ hl.1 rfl (Nat.le_of_ble_eq_true rfl) ⟨Nat.zero_le _, Nat.zero_le _⟩ dX4_isSignal_5 (fun H locs (w : Wd D tys (va_A _ _) _ _ (ws) H locs) => ?_)
  exact x_retz S w hr hlk dX4_isSignal_8 (wIn_b _ _ _) (show wIn v (-1000000) 1000000 = o_X4_isSignal v from by simp only [o_X4_isSignal]) (show ws = ws from rfl)
def o_X4_isAge (v : Int32) : Int32 := wIn v 0 4
set_option maxHeartbeats 4000000 in
set_option maxRecDepth 100000 in
theorem k_X4_isAge (l : Launch) (D : va_G) (tys : List (ClassId × FieldType)) (ws : va_W) (v : Int32) : Mi l yX4_isAge cX4_isAge 1 (some .boolean) { frames := 1, cells := 0, slots := 0, locals := 22 } D tys ws [.int v] ws (o_X4_isAge v) := by
  intro sz
  refine ent (by decide +kernel) (Nat.le_of_ble_eq_true rfl) ?_
  intro p e st m below meth c ls S hr hlk hnm w hsz hl
  have hl : lv_has ls 1 [(0, .int v)] := hl
  refine lv_iload_n S.1 S.2.1 dX4_isAge_0 rfl (lv_at hl 0 rfl) ?_
  refine lv_iconst (v := 0) S.1 S.2.1 dX4_isAge_1 (by decide) ?_
  refine lv_iconst (v := 4) S.1 S.2.1 dX4_isAge_2 (by decide) ?_
  refine x_Si (As := [.int v, .int 0, .int 4]) (rest := []) S w (goodS lk_RX4_60 lt_X4_isWithin ln_RX4 lc_X4_isWithin) hd_X4_isWithin (k_X4_isWithin l _ _ ws v 0 4) rfl ⟨(Nat.le_of_ble_eq_true rfl), (Nat.le_of_ble_eq_true rfl)⟩ ⟨rfl, rfl⟩ hl.1 rfl (Nat.le_of_ble_eq_true rfl) ⟨Nat.zero_le _, Nat.zero_le _⟩ dX4_isAge_3 (fun H locs (w : Wd D tys (va_A _ _) _ _ (ws) H locs) => ?_)
  exact x_retz S w hr hlk dX4_isAge_6 (wIn_b _ _ _) (show wIn v 0 4 = o_X4_isAge v from by simp only [o_X4_isAge]) (show ws = ws from rfl)
set_option maxHeartbeats 4000000 in
set_option maxRecDepth 100000 in
theorem k_X4_oneIf (l : Launch) (D : va_G) (tys : List (ClassId × FieldType)) (ws : va_W) (q1 : Int32) : Mi l yX4_oneIf cX4_oneIf 1 (some .int) { frames := 0, cells := 0, slots := 0, locals := 0 } D tys ws [.int q1] ws (onI q1) := by
  intro sz
  refine ent (by decide +kernel) (Nat.le_of_ble_eq_true rfl) ?_
  intro p e st m below meth c ls S hr hlk hnm w hsz hl
  have hl : lv_has ls 1 [(0, .int q1)] := hl
  refine lv_iload_n S.1 S.2.1 dX4_oneIf_0 rfl (lv_at hl 0 rfl) ?_
  refine lv_if_eq (tgt := 8) S.1 S.2.1 dX4_oneIf_1 (by decide) (fun (c_1 : q1 = 0) => ?_) (fun (c_1 : ¬ (q1 = 0)) => ?_)
  · refine lv_iconst (v := 0) S.1 S.2.1 dX4_oneIf_8 (by decide) ?_
    exact x_reti S w hr hlk dX4_oneIf_9 (show 0 = onI q1 from by simp only [onI, if_pos c_1]) (show ws = ws from rfl)
  · refine lv_iconst (v := 1) S.1 S.2.1 dX4_oneIf_4 (by decide) ?_
    refine lv_goto (tgt := 9) S.1 S.2.1 dX4_oneIf_5 (by decide) ?_
    exact x_reti S w hr hlk dX4_oneIf_9 (show 1 = onI q1 from by simp only [onI, if_neg c_1]) (show ws = ws from rfl)
def o_X4_isSample (s : Nat → Int32) (f : Nat → Nat → Int32) (k : Int32) : Int32 := wIn k 0 ((s 0) - 1)
set_option maxHeartbeats 4000000 in
set_option maxRecDepth 100000 in
theorem k_X4_isSample (l : Launch) (D : va_G) (cI cO : ClassId) (a : Nat → Nat) (R : va_W) (s : Nat → Int32) (f : Nat → Nat → Int32) (k : Int32) : Mi l yX4_isSample cX4_isSample 2 (some .boolean) { frames := 1, cells := 0, slots := 0, locals := 22 } D (kT cI cO) (xW cI cO a s f R) [.ref (a 0), .int k] (xW cI cO a s f R) (o_X4_isSample s f k) := by
  intro sz
  refine ent (by decide +kernel) (Nat.le_of_ble_eq_true rfl) ?_
  intro p e st m below meth c ls S hr hlk hnm w hsz hl
  have hl : lv_has ls 2 [(0, .ref (a 0)), (1, .int k)] := hl
  refine lv_iload_n S.1 S.2.1 dX4_isSample_0 rfl (lv_at hl 1 rfl) ?_
  refine lv_iconst (v := 0) S.1 S.2.1 dX4_isSample_1 (by decide) ?_
  refine lv_aload_n S.1 S.2.1 dX4_isSample_2 rfl (lv_at hl 0 rfl) ?_
  refine xr_1 S w lk_RX4_10 dX4_isSample_3 ?_
  refine xg_0 S w lk_RX4_65 dX4_isSample_6 ?_
  refine lv_iconst (v := 1) S.1 S.2.1 dX4_isSample_9 (by decide) ?_
  refine lv_isub S.1 S.2.1 dX4_isSample_10 ?_
  refine x_Si (As := [.int k, .int 0, .int ((s 0) - 1)]) (rest := []) S w (goodS lk_RX4_60 lt_X4_isWithin ln_RX4 lc_X4_isWithin) hd_X4_isWithin (k_X4_isWithin l _ _ (xW cI cO a s f R) k 0 ((s 0) - 1)) rfl ⟨(Nat.le_of_ble_eq_true rfl), (Nat.le_of_ble_eq_true rfl)⟩ ⟨rfl, rfl⟩ hl.1 rfl (Nat.le_of_ble_eq_true rfl) ⟨Nat.zero_le _, Nat.zero_le _⟩ dX4_isSample_11 (fun H locs (w : Wd D (kT cI cO) (va_A _ _) _ _ (xW cI cO a s f R) H locs) => ?_)
  exact x_retz S w hr hlk dX4_isSample_14 (wIn_b _ _ _) (show wIn k 0 ((s 0) - 1) = o_X4_isSample s f k from by simp only [o_X4_isSample]) (show xW cI cO a s f R = xW cI cO a s f R from rfl)
def o_X4_setReference (s : Nat → Int32) (f : Nat → Nat → Int32) (N : Nat) (k : Int32) (v : Int32) : Int32 × (Nat → Nat → Int32) := if (wIn k 0 ((s 0) - 1)) = 0 then ((-2000000001), f) else if (wIn v (-1000000) 1000000) = 0 then ((-2000000001), f) else ((f 0) (Int32.toNatClampNeg k), va_up f 0 (upd (f 0) (Int32.toNatClampNeg k) v))
set_option maxHeartbeats 4000000 in
set_option maxRecDepth 100000 in
theorem k_X4_setReference (l : Launch) (D : va_G) (cI cO : ClassId) (a : Nat → Nat) (R : va_W) (s : Nat → Int32) (f : Nat → Nat → Int32) (N : Nat) (k : Int32) (v : Int32) (hN : s 0 = nI N) (h4 : 4 ≤ N) (h48 : N ≤ 48) : Mi l yX4_setReference cX4_setReference 4 (some .int) { frames := 2, cells := 0, slots := 0, locals := 43 } D (kT cI cO) (xW cI cO a s f R) [.ref (a 0), .int k, .int v] (xW cI cO a s ((o_X4_setReference s f N k v).2) R) ((o_X4_setReference s f N k v).1) := by
  intro sz
  refine ent (by decide +kernel) (Nat.le_of_ble_eq_true rfl) ?_
  intro p e st m below meth c ls S hr hlk hnm w hsz hl
  have hl : lv_has ls 4 [(0, .ref (a 0)), (1, .int k), (2, .int v)] := hl
  refine lv_aload_n S.1 S.2.1 dX4_setReference_0 rfl (lv_at hl 0 rfl) ?_
  refine lv_iload_n S.1 S.2.1 dX4_setReference_1 rfl (lv_at hl 1 rfl) ?_
  refine x_Vi (As := [.int k]) (rest := []) S w (goodV lk_RX4_69 li_X4_isSample ls_X4_isSample ln_RX4 lc_X4_isSample) hV_X4_isSample (k_X4_isSample l D cI cO a R s f k) rfl 0 4 rfl rfl xc_0 ⟨(Nat.le_of_ble_eq_true rfl), (Nat.le_of_ble_eq_true rfl)⟩ ⟨rfl, rfl⟩ hl.1 rfl (Nat.le_of_ble_eq_true rfl) ⟨Nat.zero_le _, Nat.zero_le _⟩ dX4_setReference_2 (fun H locs (w : Wd D (kT cI cO) (va_A _ _) _ _ (xW cI cO a s f R) H locs) => ?_)
  refine x_eqi (x := o_X4_isSample s f k) (y := wIn k 0 ((s 0) - 1)) rfl ?_
  refine lv_if_eq (tgt := 15) S.1 S.2.1 dX4_setReference_5 (by decide) (fun (c_1 : (wIn k 0 ((s 0) - 1)) = 0) => ?_) (fun (c_1 : ¬ ((wIn k 0 ((s 0) - 1)) = 0)) => ?_)
  · refine x_ldc S lk_RX4_64 dX4_setReference_15 ?_
    exact x_reti S w hr hlk dX4_setReference_17 (show (-2000000001) = (o_X4_setReference s f N k v).1 from by simp only [o_X4_setReference, if_pos c_1]) (show xW cI cO a s f R = xW cI cO a s ((o_X4_setReference s f N k v).2) R from by simp only [o_X4_setReference, if_pos c_1])
  · have hj := wIn_j hN h4 h48 c_1
    refine lv_iload_n S.1 S.2.1 dX4_setReference_8 rfl (lv_at hl 2 rfl) ?_
    refine x_Si (As := [.int v]) (rest := []) S w (goodS lk_RX4_73 lt_X4_isSignal ln_RX4 lc_X4_isSignal) hd_X4_isSignal (k_X4_isSignal l _ _ (xW cI cO a s f R) v) rfl ⟨(Nat.le_of_ble_eq_true rfl), (Nat.le_of_ble_eq_true rfl)⟩ ⟨rfl, rfl⟩ hl.1 rfl (Nat.le_of_ble_eq_true rfl) ⟨Nat.zero_le _, Nat.zero_le _⟩ dX4_setReference_9 (fun H locs (w : Wd D (kT cI cO) (va_A _ _) _ _ (xW cI cO a s f R) H locs) => ?_)
    refine x_eqi (x := o_X4_isSignal v) (y := wIn v (-1000000) 1000000) rfl ?_
    refine lv_if_ne (tgt := 18) S.1 S.2.1 dX4_setReference_12 (by decide) (fun (c_2 : ¬ (wIn v (-1000000) 1000000) = 0) => ?_) (fun (c_2 : (wIn v (-1000000) 1000000) = 0) => ?_)
    · refine lv_aload_n S.1 S.2.1 dX4_setReference_18 rfl (lv_at hl 0 rfl) ?_
      refine xr_5 S w lk_RX4_37 dX4_setReference_19 ?_
      refine lv_iload_n S.1 S.2.1 dX4_setReference_22 rfl (lv_at hl 1 rfl) ?_
      refine x_iald S w 5 0 (g := f 0) (v := (f 0) (Int32.toNatClampNeg k)) (Int32.toNatClampNeg k) (by have := hj.1; omega) (hj.2) (Nat.le_of_ble_eq_true rfl) (xc_5) rfl (rfl) dX4_setReference_23 ?_
      refine lv_istore_n (lv' := [(3, .int ((f 0) (Int32.toNatClampNeg k))), (0, .ref (a 0)), (1, .int k), (2, .int v)]) S.1 S.2.1 dX4_setReference_24 rfl hl (by decide) rfl (fun ls hl => ?_)
      refine lv_aload_n S.1 S.2.1 dX4_setReference_25 rfl (lv_at hl 1 rfl) ?_
      refine xr_5 S w lk_RX4_37 dX4_setReference_26 ?_
      refine lv_iload_n S.1 S.2.1 dX4_setReference_29 rfl (lv_at hl 2 rfl) ?_
      refine lv_iload_n S.1 S.2.1 dX4_setReference_30 rfl (lv_at hl 3 rfl) ?_
      refine x_iast S w 5 0 (g := f 0) (Int32.toNatClampNeg k) (by have := hj.1; omega) (hj.2) (Nat.le_of_ble_eq_true rfl) (xc_5) rfl (xs_0) dX4_setReference_31 (fun H locs (w : Wd D (kT cI cO) (va_A _ _) _ _ (xW cI cO a s (va_up f 0 (upd (f 0) (Int32.toNatClampNeg k) v)) R) H locs) => ?_)
      refine lv_iload_n S.1 S.2.1 dX4_setReference_32 rfl (lv_at hl 0 rfl) ?_
      exact x_reti S w hr hlk dX4_setReference_33 (show (f 0) (Int32.toNatClampNeg k) = (o_X4_setReference s f N k v).1 from by simp only [o_X4_setReference, if_neg c_1, if_neg c_2]) (show xW cI cO a s (va_up f 0 (upd (f 0) (Int32.toNatClampNeg k) v)) R = xW cI cO a s ((o_X4_setReference s f N k v).2) R from by simp only [o_X4_setReference, if_neg c_1, if_neg c_2])
    · refine x_ldc S lk_RX4_64 dX4_setReference_15 ?_
      exact x_reti S w hr hlk dX4_setReference_17 (show (-2000000001) = (o_X4_setReference s f N k v).1 from by simp only [o_X4_setReference, if_neg c_1, if_pos c_2]) (show xW cI cO a s f R = xW cI cO a s ((o_X4_setReference s f N k v).2) R from by simp only [o_X4_setReference, if_neg c_1, if_pos c_2])
def o_X4_setGain (s : Nat → Int32) (f : Nat → Nat → Int32) (g : Int32) (d : Int32) : Int32 × (Nat → Int32) := if (wIn g 0 2000) = 0 then ((-2000000001), s) else if (wIn d 0 8) = 0 then ((-2000000001), s) else if g = (s 1) then if d = (s 2) then (onI 0, upd (upd s 1 g) 2 d) else (onI 1, upd (upd s 1 g) 2 d) else (onI 1, upd (upd s 1 g) 2 d)
set_option maxHeartbeats 4000000 in
set_option maxRecDepth 100000 in
theorem k_X4_setGain (l : Launch) (D : va_G) (cI cO : ClassId) (a : Nat → Nat) (R : va_W) (s : Nat → Int32) (f : Nat → Nat → Int32) (g : Int32) (d : Int32) : Mi l yX4_setGain cX4_setGain 4 (some .int) { frames := 1, cells := 0, slots := 0, locals := 22 } D (kT cI cO) (xW cI cO a s f R) [.ref (a 0), .int g, .int d] (xW cI cO a ((o_X4_setGain s f g d).2) f R) ((o_X4_setGain s f g d).1) := by
  intro sz
  refine ent (by decide +kernel) (Nat.le_of_ble_eq_true rfl) ?_
  intro p e st m below meth c ls S hr hlk hnm w hsz hl
  have hl : lv_has ls 4 [(0, .ref (a 0)), (1, .int g), (2, .int d)] := hl
  refine lv_iload_n S.1 S.2.1 dX4_setGain_0 rfl (lv_at hl 1 rfl) ?_
  refine lv_iconst (v := 0) S.1 S.2.1 dX4_setGain_1 (by decide) ?_
  refine lv_sipush (v := 2000) S.1 S.2.1 dX4_setGain_2 (by decide) ?_
  refine x_Si (As := [.int g, .int 0, .int 2000]) (rest := []) S w (goodS lk_RX4_60 lt_X4_isWithin ln_RX4 lc_X4_isWithin) hd_X4_isWithin (k_X4_isWithin l _ _ (xW cI cO a s f R) g 0 2000) rfl ⟨(Nat.le_of_ble_eq_true rfl), (Nat.le_of_ble_eq_true rfl)⟩ ⟨rfl, rfl⟩ hl.1 rfl (Nat.le_of_ble_eq_true rfl) ⟨Nat.zero_le _, Nat.zero_le _⟩ dX4_setGain_5 (fun H locs (w : Wd D (kT cI cO) (va_A _ _) _ _ (xW cI cO a s f R) H locs) => ?_)
  refine lv_if_eq (tgt := 21) S.1 S.2.1 dX4_setGain_8 (by decide) (fun (c_1 : (wIn g 0 2000) = 0) => ?_) (fun (c_1 : ¬ ((wIn g 0 2000) = 0)) => ?_)
  · refine x_ldc S lk_RX4_64 dX4_setGain_21 ?_
    exact x_reti S w hr hlk dX4_setGain_23 (show (-2000000001) = (o_X4_setGain s f g d).1 from by simp only [o_X4_setGain, if_pos c_1]) (show xW cI cO a s f R = xW cI cO a ((o_X4_setGain s f g d).2) f R from by simp only [o_X4_setGain, if_pos c_1])
  · refine lv_iload_n S.1 S.2.1 dX4_setGain_11 rfl (lv_at hl 2 rfl) ?_
    refine lv_iconst (v := 0) S.1 S.2.1 dX4_setGain_12 (by decide) ?_
    refine lv_bipush (v := 8) S.1 S.2.1 dX4_setGain_13 (by decide) ?_
    refine x_Si (As := [.int d, .int 0, .int 8]) (rest := []) S w (goodS lk_RX4_60 lt_X4_isWithin ln_RX4 lc_X4_isWithin) hd_X4_isWithin (k_X4_isWithin l _ _ (xW cI cO a s f R) d 0 8) rfl ⟨(Nat.le_of_ble_eq_true rfl), (Nat.le_of_ble_eq_true rfl)⟩ ⟨rfl, rfl⟩ hl.1 rfl (Nat.le_of_ble_eq_true rfl) ⟨Nat.zero_le _, Nat.zero_le _⟩ dX4_setGain_15 (fun H locs (w : Wd D (kT cI cO) (va_A _ _) _ _ (xW cI cO a s f R) H locs) => ?_)
    refine lv_if_ne (tgt := 24) S.1 S.2.1 dX4_setGain_18 (by decide) (fun (c_2 : ¬ (wIn d 0 8) = 0) => ?_) (fun (c_2 : (wIn d 0 8) = 0) => ?_)
    · refine lv_iload_n S.1 S.2.1 dX4_setGain_24 rfl (lv_at hl 1 rfl) ?_
      refine lv_aload_n S.1 S.2.1 dX4_setGain_25 rfl (lv_at hl 0 rfl) ?_
      refine xr_1 S w lk_RX4_10 dX4_setGain_26 ?_
      refine xg_1 S w lk_RX4_76 dX4_setGain_29 ?_
      refine lv_icmp_ne (tgt := 46) S.1 S.2.1 dX4_setGain_32 (by decide) (fun (c_3 : ¬ g = (s 1)) => ?_) (fun (c_3 : g = (s 1)) => ?_)
      · refine lv_iconst (v := 1) S.1 S.2.1 dX4_setGain_46 (by decide) ?_
        refine lv_goto (tgt := 51) S.1 S.2.1 dX4_setGain_47 (by decide) ?_
        refine lv_istore_n (lv' := [(3, .int 1), (0, .ref (a 0)), (1, .int g), (2, .int d)]) S.1 S.2.1 dX4_setGain_51 rfl hl (by decide) rfl (fun ls hl => ?_)
        refine lv_aload_n S.1 S.2.1 dX4_setGain_52 rfl (lv_at hl 1 rfl) ?_
        refine xr_1 S w lk_RX4_10 dX4_setGain_53 ?_
        refine lv_iload_n S.1 S.2.1 dX4_setGain_56 rfl (lv_at hl 2 rfl) ?_
        refine xp_1 S w lk_RX4_76 dX4_setGain_57 (fun H locs (w : Wd D (kT cI cO) (va_A _ _) _ _ (xW cI cO a (upd s 1 g) f R) H locs) => ?_)
        refine lv_aload_n S.1 S.2.1 dX4_setGain_60 rfl (lv_at hl 1 rfl) ?_
        refine xr_1 S w lk_RX4_10 dX4_setGain_61 ?_
        refine lv_iload_n S.1 S.2.1 dX4_setGain_64 rfl (lv_at hl 3 rfl) ?_
        refine xp_2 S w lk_RX4_79 dX4_setGain_65 (fun H locs (w : Wd D (kT cI cO) (va_A _ _) _ _ (xW cI cO a (upd (upd s 1 g) 2 d) f R) H locs) => ?_)
        refine lv_iload_n S.1 S.2.1 dX4_setGain_68 rfl (lv_at hl 0 rfl) ?_
        refine x_Si (As := [.int 1]) (rest := []) S w (goodS lk_RX4_82 lt_X4_oneIf ln_RX4 lc_X4_oneIf) hd_X4_oneIf (k_X4_oneIf l _ _ (xW cI cO a (upd (upd s 1 g) 2 d) f R) 1) rfl ⟨(Nat.le_of_ble_eq_true rfl), (Nat.le_of_ble_eq_true rfl)⟩ ⟨rfl, rfl⟩ hl.1 rfl (Nat.le_of_ble_eq_true rfl) ⟨Nat.zero_le _, Nat.zero_le _⟩ dX4_setGain_69 (fun H locs (w : Wd D (kT cI cO) (va_A _ _) _ _ (xW cI cO a (upd (upd s 1 g) 2 d) f R) H locs) => ?_)
        exact x_reti S w hr hlk dX4_setGain_72 (show onI 1 = (o_X4_setGain s f g d).1 from by simp only [o_X4_setGain, if_neg c_1, if_neg c_2, if_neg c_3]) (show xW cI cO a (upd (upd s 1 g) 2 d) f R = xW cI cO a ((o_X4_setGain s f g d).2) f R from by simp only [o_X4_setGain, if_neg c_1, if_neg c_2, if_neg c_3])
      · refine lv_iload_n S.1 S.2.1 dX4_setGain_35 rfl (lv_at hl 2 rfl) ?_
        refine lv_aload_n S.1 S.2.1 dX4_setGain_36 rfl (lv_at hl 0 rfl) ?_
        refine xr_1 S w lk_RX4_10 dX4_setGain_37 ?_
        refine xg_2 S w lk_RX4_79 dX4_setGain_40 ?_
        refine lv_icmp_eq (tgt := 50) S.1 S.2.1 dX4_setGain_43 (by decide) (fun (c_4 : d = (s 2)) => ?_) (fun (c_4 : ¬ (d = (s 2))) => ?_)
        · refine lv_iconst (v := 0) S.1 S.2.1 dX4_setGain_50 (by decide) ?_
          refine lv_istore_n (lv' := [(3, .int 0), (0, .ref (a 0)), (1, .int g), (2, .int d)]) S.1 S.2.1 dX4_setGain_51 rfl hl (by decide) rfl (fun ls hl => ?_)
          refine lv_aload_n S.1 S.2.1 dX4_setGain_52 rfl (lv_at hl 1 rfl) ?_
          refine xr_1 S w lk_RX4_10 dX4_setGain_53 ?_
          refine lv_iload_n S.1 S.2.1 dX4_setGain_56 rfl (lv_at hl 2 rfl) ?_
          refine xp_1 S w lk_RX4_76 dX4_setGain_57 (fun H locs (w : Wd D (kT cI cO) (va_A _ _) _ _ (xW cI cO a (upd s 1 g) f R) H locs) => ?_)
          refine lv_aload_n S.1 S.2.1 dX4_setGain_60 rfl (lv_at hl 1 rfl) ?_
          refine xr_1 S w lk_RX4_10 dX4_setGain_61 ?_
          refine lv_iload_n S.1 S.2.1 dX4_setGain_64 rfl (lv_at hl 3 rfl) ?_
          refine xp_2 S w lk_RX4_79 dX4_setGain_65 (fun H locs (w : Wd D (kT cI cO) (va_A _ _) _ _ (xW cI cO a (upd (upd s 1 g) 2 d) f R) H locs) => ?_)
          refine lv_iload_n S.1 S.2.1 dX4_setGain_68 rfl (lv_at hl 0 rfl) ?_
          refine x_Si (As := [.int 0]) (rest := []) S w (goodS lk_RX4_82 lt_X4_oneIf ln_RX4 lc_X4_oneIf) hd_X4_oneIf (k_X4_oneIf l _ _ (xW cI cO a (upd (upd s 1 g) 2 d) f R) 0) rfl ⟨(Nat.le_of_ble_eq_true rfl), (Nat.le_of_ble_eq_true rfl)⟩ ⟨rfl, rfl⟩ hl.1 rfl (Nat.le_of_ble_eq_true rfl) ⟨Nat.zero_le _, Nat.zero_le _⟩ dX4_setGain_69 (fun H locs (w : Wd D (kT cI cO) (va_A _ _) _ _ (xW cI cO a (upd (upd s 1 g) 2 d) f R) H locs) => ?_)
          exact x_reti S w hr hlk dX4_setGain_72 (show onI 0 = (o_X4_setGain s f g d).1 from by simp only [o_X4_setGain, if_neg c_1, if_neg c_2, if_pos c_3, if_pos c_4]) (show xW cI cO a (upd (upd s 1 g) 2 d) f R = xW cI cO a ((o_X4_setGain s f g d).2) f R from by simp only [o_X4_setGain, if_neg c_1, if_neg c_2, if_pos c_3, if_pos c_4])
        · refine lv_iconst (v := 1) S.1 S.2.1 dX4_setGain_46 (by decide) ?_
          refine lv_goto (tgt := 51) S.1 S.2.1 dX4_setGain_47 (by decide) ?_
          refine lv_istore_n (lv' := [(3, .int 1), (0, .ref (a 0)), (1, .int g), (2, .int d)]) S.1 S.2.1 dX4_setGain_51 rfl hl (by decide) rfl (fun ls hl => ?_)
          refine lv_aload_n S.1 S.2.1 dX4_setGain_52 rfl (lv_at hl 1 rfl) ?_
          refine xr_1 S w lk_RX4_10 dX4_setGain_53 ?_
          refine lv_iload_n S.1 S.2.1 dX4_setGain_56 rfl (lv_at hl 2 rfl) ?_
          refine xp_1 S w lk_RX4_76 dX4_setGain_57 (fun H locs (w : Wd D (kT cI cO) (va_A _ _) _ _ (xW cI cO a (upd s 1 g) f R) H locs) => ?_)
          refine lv_aload_n S.1 S.2.1 dX4_setGain_60 rfl (lv_at hl 1 rfl) ?_
          refine xr_1 S w lk_RX4_10 dX4_setGain_61 ?_
          refine lv_iload_n S.1 S.2.1 dX4_setGain_64 rfl (lv_at hl 3 rfl) ?_
          refine xp_2 S w lk_RX4_79 dX4_setGain_65 (fun H locs (w : Wd D (kT cI cO) (va_A _ _) _ _ (xW cI cO a (upd (upd s 1 g) 2 d) f R) H locs) => ?_)
          refine lv_iload_n S.1 S.2.1 dX4_setGain_68 rfl (lv_at hl 0 rfl) ?_
          refine x_Si (As := [.int 1]) (rest := []) S w (goodS lk_RX4_82 lt_X4_oneIf ln_RX4 lc_X4_oneIf) hd_X4_oneIf (k_X4_oneIf l _ _ (xW cI cO a (upd (upd s 1 g) 2 d) f R) 1) rfl ⟨(Nat.le_of_ble_eq_true rfl), (Nat.le_of_ble_eq_true rfl)⟩ ⟨rfl, rfl⟩ hl.1 rfl (Nat.le_of_ble_eq_true rfl) ⟨Nat.zero_le _, Nat.zero_le _⟩ dX4_setGain_69 (fun H locs (w : Wd D (kT cI cO) (va_A _ _) _ _ (xW cI cO a (upd (upd s 1 g) 2 d) f R) H locs) => ?_)
          exact x_reti S w hr hlk dX4_setGain_72 (show onI 1 = (o_X4_setGain s f g d).1 from by simp only [o_X4_setGain, if_neg c_1, if_neg c_2, if_pos c_3, if_neg c_4]) (show xW cI cO a (upd (upd s 1 g) 2 d) f R = xW cI cO a ((o_X4_setGain s f g d).2) f R from by simp only [o_X4_setGain, if_neg c_1, if_neg c_2, if_pos c_3, if_neg c_4])
    · refine x_ldc S lk_RX4_64 dX4_setGain_21 ?_
      exact x_reti S w hr hlk dX4_setGain_23 (show (-2000000001) = (o_X4_setGain s f g d).1 from by simp only [o_X4_setGain, if_neg c_1, if_pos c_2]) (show xW cI cO a s f R = xW cI cO a ((o_X4_setGain s f g d).2) f R from by simp only [o_X4_setGain, if_neg c_1, if_pos c_2])
def o_X4_setSmoothing (s : Nat → Int32) (f : Nat → Nat → Int32) (g : Int32) (d : Int32) : Int32 × (Nat → Int32) := if (wIn g 0 333) = 0 then ((-2000000001), s) else if (wIn d 0 4) = 0 then ((-2000000001), s) else if g = (s 3) then if d = (s 4) then (onI 0, upd (upd s 3 g) 4 d) else (onI 1, upd (upd s 3 g) 4 d) else (onI 1, upd (upd s 3 g) 4 d)
set_option maxHeartbeats 4000000 in
set_option maxRecDepth 100000 in
theorem k_X4_setSmoothing (l : Launch) (D : va_G) (cI cO : ClassId) (a : Nat → Nat) (R : va_W) (s : Nat → Int32) (f : Nat → Nat → Int32) (g : Int32) (d : Int32) : Mi l yX4_setSmoothing cX4_setSmoothing 4 (some .int) { frames := 1, cells := 0, slots := 0, locals := 22 } D (kT cI cO) (xW cI cO a s f R) [.ref (a 0), .int g, .int d] (xW cI cO a ((o_X4_setSmoothing s f g d).2) f R) ((o_X4_setSmoothing s f g d).1) := by
  intro sz
  refine ent (by decide +kernel) (Nat.le_of_ble_eq_true rfl) ?_
  intro p e st m below meth c ls S hr hlk hnm w hsz hl
  have hl : lv_has ls 4 [(0, .ref (a 0)), (1, .int g), (2, .int d)] := hl
  refine lv_iload_n S.1 S.2.1 dX4_setSmoothing_0 rfl (lv_at hl 1 rfl) ?_
  refine lv_iconst (v := 0) S.1 S.2.1 dX4_setSmoothing_1 (by decide) ?_
  refine lv_sipush (v := 333) S.1 S.2.1 dX4_setSmoothing_2 (by decide) ?_
  refine x_Si (As := [.int g, .int 0, .int 333]) (rest := []) S w (goodS lk_RX4_60 lt_X4_isWithin ln_RX4 lc_X4_isWithin) hd_X4_isWithin (k_X4_isWithin l _ _ (xW cI cO a s f R) g 0 333) rfl ⟨(Nat.le_of_ble_eq_true rfl), (Nat.le_of_ble_eq_true rfl)⟩ ⟨rfl, rfl⟩ hl.1 rfl (Nat.le_of_ble_eq_true rfl) ⟨Nat.zero_le _, Nat.zero_le _⟩ dX4_setSmoothing_5 (fun H locs (w : Wd D (kT cI cO) (va_A _ _) _ _ (xW cI cO a s f R) H locs) => ?_)
  refine lv_if_eq (tgt := 20) S.1 S.2.1 dX4_setSmoothing_8 (by decide) (fun (c_1 : (wIn g 0 333) = 0) => ?_) (fun (c_1 : ¬ ((wIn g 0 333) = 0)) => ?_)
  · refine x_ldc S lk_RX4_64 dX4_setSmoothing_20 ?_
    exact x_reti S w hr hlk dX4_setSmoothing_22 (show (-2000000001) = (o_X4_setSmoothing s f g d).1 from by simp only [o_X4_setSmoothing, if_pos c_1]) (show xW cI cO a s f R = xW cI cO a ((o_X4_setSmoothing s f g d).2) f R from by simp only [o_X4_setSmoothing, if_pos c_1])
  · refine lv_iload_n S.1 S.2.1 dX4_setSmoothing_11 rfl (lv_at hl 2 rfl) ?_
    refine lv_iconst (v := 0) S.1 S.2.1 dX4_setSmoothing_12 (by decide) ?_
    refine lv_iconst (v := 4) S.1 S.2.1 dX4_setSmoothing_13 (by decide) ?_
    refine x_Si (As := [.int d, .int 0, .int 4]) (rest := []) S w (goodS lk_RX4_60 lt_X4_isWithin ln_RX4 lc_X4_isWithin) hd_X4_isWithin (k_X4_isWithin l _ _ (xW cI cO a s f R) d 0 4) rfl ⟨(Nat.le_of_ble_eq_true rfl), (Nat.le_of_ble_eq_true rfl)⟩ ⟨rfl, rfl⟩ hl.1 rfl (Nat.le_of_ble_eq_true rfl) ⟨Nat.zero_le _, Nat.zero_le _⟩ dX4_setSmoothing_14 (fun H locs (w : Wd D (kT cI cO) (va_A _ _) _ _ (xW cI cO a s f R) H locs) => ?_)
    refine lv_if_ne (tgt := 23) S.1 S.2.1 dX4_setSmoothing_17 (by decide) (fun (c_2 : ¬ (wIn d 0 4) = 0) => ?_) (fun (c_2 : (wIn d 0 4) = 0) => ?_)
    · refine lv_iload_n S.1 S.2.1 dX4_setSmoothing_23 rfl (lv_at hl 1 rfl) ?_
      refine lv_aload_n S.1 S.2.1 dX4_setSmoothing_24 rfl (lv_at hl 0 rfl) ?_
      refine xr_1 S w lk_RX4_10 dX4_setSmoothing_25 ?_
      refine xg_3 S w lk_RX4_86 dX4_setSmoothing_28 ?_
      refine lv_icmp_ne (tgt := 45) S.1 S.2.1 dX4_setSmoothing_31 (by decide) (fun (c_3 : ¬ g = (s 3)) => ?_) (fun (c_3 : g = (s 3)) => ?_)
      · refine lv_iconst (v := 1) S.1 S.2.1 dX4_setSmoothing_45 (by decide) ?_
        refine lv_goto (tgt := 50) S.1 S.2.1 dX4_setSmoothing_46 (by decide) ?_
        refine lv_istore_n (lv' := [(3, .int 1), (0, .ref (a 0)), (1, .int g), (2, .int d)]) S.1 S.2.1 dX4_setSmoothing_50 rfl hl (by decide) rfl (fun ls hl => ?_)
        refine lv_aload_n S.1 S.2.1 dX4_setSmoothing_51 rfl (lv_at hl 1 rfl) ?_
        refine xr_1 S w lk_RX4_10 dX4_setSmoothing_52 ?_
        refine lv_iload_n S.1 S.2.1 dX4_setSmoothing_55 rfl (lv_at hl 2 rfl) ?_
        refine xp_3 S w lk_RX4_86 dX4_setSmoothing_56 (fun H locs (w : Wd D (kT cI cO) (va_A _ _) _ _ (xW cI cO a (upd s 3 g) f R) H locs) => ?_)
        refine lv_aload_n S.1 S.2.1 dX4_setSmoothing_59 rfl (lv_at hl 1 rfl) ?_
        refine xr_1 S w lk_RX4_10 dX4_setSmoothing_60 ?_
        refine lv_iload_n S.1 S.2.1 dX4_setSmoothing_63 rfl (lv_at hl 3 rfl) ?_
        refine xp_4 S w lk_RX4_89 dX4_setSmoothing_64 (fun H locs (w : Wd D (kT cI cO) (va_A _ _) _ _ (xW cI cO a (upd (upd s 3 g) 4 d) f R) H locs) => ?_)
        refine lv_iload_n S.1 S.2.1 dX4_setSmoothing_67 rfl (lv_at hl 0 rfl) ?_
        refine x_Si (As := [.int 1]) (rest := []) S w (goodS lk_RX4_82 lt_X4_oneIf ln_RX4 lc_X4_oneIf) hd_X4_oneIf (k_X4_oneIf l _ _ (xW cI cO a (upd (upd s 3 g) 4 d) f R) 1) rfl ⟨(Nat.le_of_ble_eq_true rfl), (Nat.le_of_ble_eq_true rfl)⟩ ⟨rfl, rfl⟩ hl.1 rfl (Nat.le_of_ble_eq_true rfl) ⟨Nat.zero_le _, Nat.zero_le _⟩ dX4_setSmoothing_68 (fun H locs (w : Wd D (kT cI cO) (va_A _ _) _ _ (xW cI cO a (upd (upd s 3 g) 4 d) f R) H locs) => ?_)
        exact x_reti S w hr hlk dX4_setSmoothing_71 (show onI 1 = (o_X4_setSmoothing s f g d).1 from by simp only [o_X4_setSmoothing, if_neg c_1, if_neg c_2, if_neg c_3]) (show xW cI cO a (upd (upd s 3 g) 4 d) f R = xW cI cO a ((o_X4_setSmoothing s f g d).2) f R from by simp only [o_X4_setSmoothing, if_neg c_1, if_neg c_2, if_neg c_3])
      · refine lv_iload_n S.1 S.2.1 dX4_setSmoothing_34 rfl (lv_at hl 2 rfl) ?_
        refine lv_aload_n S.1 S.2.1 dX4_setSmoothing_35 rfl (lv_at hl 0 rfl) ?_
        refine xr_1 S w lk_RX4_10 dX4_setSmoothing_36 ?_
        refine xg_4 S w lk_RX4_89 dX4_setSmoothing_39 ?_
        refine lv_icmp_eq (tgt := 49) S.1 S.2.1 dX4_setSmoothing_42 (by decide) (fun (c_4 : d = (s 4)) => ?_) (fun (c_4 : ¬ (d = (s 4))) => ?_)
        · refine lv_iconst (v := 0) S.1 S.2.1 dX4_setSmoothing_49 (by decide) ?_
          refine lv_istore_n (lv' := [(3, .int 0), (0, .ref (a 0)), (1, .int g), (2, .int d)]) S.1 S.2.1 dX4_setSmoothing_50 rfl hl (by decide) rfl (fun ls hl => ?_)
          refine lv_aload_n S.1 S.2.1 dX4_setSmoothing_51 rfl (lv_at hl 1 rfl) ?_
          refine xr_1 S w lk_RX4_10 dX4_setSmoothing_52 ?_
          refine lv_iload_n S.1 S.2.1 dX4_setSmoothing_55 rfl (lv_at hl 2 rfl) ?_
          refine xp_3 S w lk_RX4_86 dX4_setSmoothing_56 (fun H locs (w : Wd D (kT cI cO) (va_A _ _) _ _ (xW cI cO a (upd s 3 g) f R) H locs) => ?_)
          refine lv_aload_n S.1 S.2.1 dX4_setSmoothing_59 rfl (lv_at hl 1 rfl) ?_
          refine xr_1 S w lk_RX4_10 dX4_setSmoothing_60 ?_
          refine lv_iload_n S.1 S.2.1 dX4_setSmoothing_63 rfl (lv_at hl 3 rfl) ?_
          refine xp_4 S w lk_RX4_89 dX4_setSmoothing_64 (fun H locs (w : Wd D (kT cI cO) (va_A _ _) _ _ (xW cI cO a (upd (upd s 3 g) 4 d) f R) H locs) => ?_)
          refine lv_iload_n S.1 S.2.1 dX4_setSmoothing_67 rfl (lv_at hl 0 rfl) ?_
          refine x_Si (As := [.int 0]) (rest := []) S w (goodS lk_RX4_82 lt_X4_oneIf ln_RX4 lc_X4_oneIf) hd_X4_oneIf (k_X4_oneIf l _ _ (xW cI cO a (upd (upd s 3 g) 4 d) f R) 0) rfl ⟨(Nat.le_of_ble_eq_true rfl), (Nat.le_of_ble_eq_true rfl)⟩ ⟨rfl, rfl⟩ hl.1 rfl (Nat.le_of_ble_eq_true rfl) ⟨Nat.zero_le _, Nat.zero_le _⟩ dX4_setSmoothing_68 (fun H locs (w : Wd D (kT cI cO) (va_A _ _) _ _ (xW cI cO a (upd (upd s 3 g) 4 d) f R) H locs) => ?_)
          exact x_reti S w hr hlk dX4_setSmoothing_71 (show onI 0 = (o_X4_setSmoothing s f g d).1 from by simp only [o_X4_setSmoothing, if_neg c_1, if_neg c_2, if_pos c_3, if_pos c_4]) (show xW cI cO a (upd (upd s 3 g) 4 d) f R = xW cI cO a ((o_X4_setSmoothing s f g d).2) f R from by simp only [o_X4_setSmoothing, if_neg c_1, if_neg c_2, if_pos c_3, if_pos c_4])
        · refine lv_iconst (v := 1) S.1 S.2.1 dX4_setSmoothing_45 (by decide) ?_
          refine lv_goto (tgt := 50) S.1 S.2.1 dX4_setSmoothing_46 (by decide) ?_
          refine lv_istore_n (lv' := [(3, .int 1), (0, .ref (a 0)), (1, .int g), (2, .int d)]) S.1 S.2.1 dX4_setSmoothing_50 rfl hl (by decide) rfl (fun ls hl => ?_)
          refine lv_aload_n S.1 S.2.1 dX4_setSmoothing_51 rfl (lv_at hl 1 rfl) ?_
          refine xr_1 S w lk_RX4_10 dX4_setSmoothing_52 ?_
          refine lv_iload_n S.1 S.2.1 dX4_setSmoothing_55 rfl (lv_at hl 2 rfl) ?_
          refine xp_3 S w lk_RX4_86 dX4_setSmoothing_56 (fun H locs (w : Wd D (kT cI cO) (va_A _ _) _ _ (xW cI cO a (upd s 3 g) f R) H locs) => ?_)
          refine lv_aload_n S.1 S.2.1 dX4_setSmoothing_59 rfl (lv_at hl 1 rfl) ?_
          refine xr_1 S w lk_RX4_10 dX4_setSmoothing_60 ?_
          refine lv_iload_n S.1 S.2.1 dX4_setSmoothing_63 rfl (lv_at hl 3 rfl) ?_
          refine xp_4 S w lk_RX4_89 dX4_setSmoothing_64 (fun H locs (w : Wd D (kT cI cO) (va_A _ _) _ _ (xW cI cO a (upd (upd s 3 g) 4 d) f R) H locs) => ?_)
          refine lv_iload_n S.1 S.2.1 dX4_setSmoothing_67 rfl (lv_at hl 0 rfl) ?_
          refine x_Si (As := [.int 1]) (rest := []) S w (goodS lk_RX4_82 lt_X4_oneIf ln_RX4 lc_X4_oneIf) hd_X4_oneIf (k_X4_oneIf l _ _ (xW cI cO a (upd (upd s 3 g) 4 d) f R) 1) rfl ⟨(Nat.le_of_ble_eq_true rfl), (Nat.le_of_ble_eq_true rfl)⟩ ⟨rfl, rfl⟩ hl.1 rfl (Nat.le_of_ble_eq_true rfl) ⟨Nat.zero_le _, Nat.zero_le _⟩ dX4_setSmoothing_68 (fun H locs (w : Wd D (kT cI cO) (va_A _ _) _ _ (xW cI cO a (upd (upd s 3 g) 4 d) f R) H locs) => ?_)
          exact x_reti S w hr hlk dX4_setSmoothing_71 (show onI 1 = (o_X4_setSmoothing s f g d).1 from by simp only [o_X4_setSmoothing, if_neg c_1, if_neg c_2, if_pos c_3, if_neg c_4]) (show xW cI cO a (upd (upd s 3 g) 4 d) f R = xW cI cO a ((o_X4_setSmoothing s f g d).2) f R from by simp only [o_X4_setSmoothing, if_neg c_1, if_neg c_2, if_pos c_3, if_neg c_4])
    · refine x_ldc S lk_RX4_64 dX4_setSmoothing_20 ?_
      exact x_reti S w hr hlk dX4_setSmoothing_22 (show (-2000000001) = (o_X4_setSmoothing s f g d).1 from by simp only [o_X4_setSmoothing, if_neg c_1, if_pos c_2]) (show xW cI cO a s f R = xW cI cO a ((o_X4_setSmoothing s f g d).2) f R from by simp only [o_X4_setSmoothing, if_neg c_1, if_pos c_2])
def o_X4_setLimits (s : Nat → Int32) (f : Nat → Nat → Int32) (g : Int32) (d : Int32) : Int32 × (Nat → Int32) := if (wIn g 1 1000000) = 0 then ((-2000000001), s) else if (wIn d 1 10) = 0 then ((-2000000001), s) else if g = (s 5) then if d = (s 6) then (onI 0, upd (upd s 5 g) 6 d) else (onI 1, upd (upd s 5 g) 6 d) else (onI 1, upd (upd s 5 g) 6 d)
set_option maxHeartbeats 4000000 in
set_option maxRecDepth 100000 in
theorem k_X4_setLimits (l : Launch) (D : va_G) (cI cO : ClassId) (a : Nat → Nat) (R : va_W) (s : Nat → Int32) (f : Nat → Nat → Int32) (g : Int32) (d : Int32) : Mi l yX4_setLimits cX4_setLimits 4 (some .int) { frames := 1, cells := 0, slots := 0, locals := 22 } D (kT cI cO) (xW cI cO a s f R) [.ref (a 0), .int g, .int d] (xW cI cO a ((o_X4_setLimits s f g d).2) f R) ((o_X4_setLimits s f g d).1) := by
  intro sz
  refine ent (by decide +kernel) (Nat.le_of_ble_eq_true rfl) ?_
  intro p e st m below meth c ls S hr hlk hnm w hsz hl
  have hl : lv_has ls 4 [(0, .ref (a 0)), (1, .int g), (2, .int d)] := hl
  refine lv_iload_n S.1 S.2.1 dX4_setLimits_0 rfl (lv_at hl 1 rfl) ?_
  refine lv_iconst (v := 1) S.1 S.2.1 dX4_setLimits_1 (by decide) ?_
  refine x_ldc S lk_RX4_92 dX4_setLimits_2 ?_
  refine x_Si (As := [.int g, .int 1, .int 1000000]) (rest := []) S w (goodS lk_RX4_60 lt_X4_isWithin ln_RX4 lc_X4_isWithin) hd_X4_isWithin (k_X4_isWithin l _ _ (xW cI cO a s f R) g 1 1000000) rfl ⟨(Nat.le_of_ble_eq_true rfl), (Nat.le_of_ble_eq_true rfl)⟩ ⟨rfl, rfl⟩ hl.1 rfl (Nat.le_of_ble_eq_true rfl) ⟨Nat.zero_le _, Nat.zero_le _⟩ dX4_setLimits_4 (fun H locs (w : Wd D (kT cI cO) (va_A _ _) _ _ (xW cI cO a s f R) H locs) => ?_)
  refine lv_if_eq (tgt := 20) S.1 S.2.1 dX4_setLimits_7 (by decide) (fun (c_1 : (wIn g 1 1000000) = 0) => ?_) (fun (c_1 : ¬ ((wIn g 1 1000000) = 0)) => ?_)
  · refine x_ldc S lk_RX4_64 dX4_setLimits_20 ?_
    exact x_reti S w hr hlk dX4_setLimits_22 (show (-2000000001) = (o_X4_setLimits s f g d).1 from by simp only [o_X4_setLimits, if_pos c_1]) (show xW cI cO a s f R = xW cI cO a ((o_X4_setLimits s f g d).2) f R from by simp only [o_X4_setLimits, if_pos c_1])
  · refine lv_iload_n S.1 S.2.1 dX4_setLimits_10 rfl (lv_at hl 2 rfl) ?_
    refine lv_iconst (v := 1) S.1 S.2.1 dX4_setLimits_11 (by decide) ?_
    refine lv_bipush (v := 10) S.1 S.2.1 dX4_setLimits_12 (by decide) ?_
    refine x_Si (As := [.int d, .int 1, .int 10]) (rest := []) S w (goodS lk_RX4_60 lt_X4_isWithin ln_RX4 lc_X4_isWithin) hd_X4_isWithin (k_X4_isWithin l _ _ (xW cI cO a s f R) d 1 10) rfl ⟨(Nat.le_of_ble_eq_true rfl), (Nat.le_of_ble_eq_true rfl)⟩ ⟨rfl, rfl⟩ hl.1 rfl (Nat.le_of_ble_eq_true rfl) ⟨Nat.zero_le _, Nat.zero_le _⟩ dX4_setLimits_14 (fun H locs (w : Wd D (kT cI cO) (va_A _ _) _ _ (xW cI cO a s f R) H locs) => ?_)
    refine lv_if_ne (tgt := 23) S.1 S.2.1 dX4_setLimits_17 (by decide) (fun (c_2 : ¬ (wIn d 1 10) = 0) => ?_) (fun (c_2 : (wIn d 1 10) = 0) => ?_)
    · refine lv_iload_n S.1 S.2.1 dX4_setLimits_23 rfl (lv_at hl 1 rfl) ?_
      refine lv_aload_n S.1 S.2.1 dX4_setLimits_24 rfl (lv_at hl 0 rfl) ?_
      refine xr_1 S w lk_RX4_10 dX4_setLimits_25 ?_
      refine xg_5 S w lk_RX4_93 dX4_setLimits_28 ?_
      refine lv_icmp_ne (tgt := 45) S.1 S.2.1 dX4_setLimits_31 (by decide) (fun (c_3 : ¬ g = (s 5)) => ?_) (fun (c_3 : g = (s 5)) => ?_)
      · refine lv_iconst (v := 1) S.1 S.2.1 dX4_setLimits_45 (by decide) ?_
        refine lv_goto (tgt := 50) S.1 S.2.1 dX4_setLimits_46 (by decide) ?_
        refine lv_istore_n (lv' := [(3, .int 1), (0, .ref (a 0)), (1, .int g), (2, .int d)]) S.1 S.2.1 dX4_setLimits_50 rfl hl (by decide) rfl (fun ls hl => ?_)
        refine lv_aload_n S.1 S.2.1 dX4_setLimits_51 rfl (lv_at hl 1 rfl) ?_
        refine xr_1 S w lk_RX4_10 dX4_setLimits_52 ?_
        refine lv_iload_n S.1 S.2.1 dX4_setLimits_55 rfl (lv_at hl 2 rfl) ?_
        refine xp_5 S w lk_RX4_93 dX4_setLimits_56 (fun H locs (w : Wd D (kT cI cO) (va_A _ _) _ _ (xW cI cO a (upd s 5 g) f R) H locs) => ?_)
        refine lv_aload_n S.1 S.2.1 dX4_setLimits_59 rfl (lv_at hl 1 rfl) ?_
        refine xr_1 S w lk_RX4_10 dX4_setLimits_60 ?_
        refine lv_iload_n S.1 S.2.1 dX4_setLimits_63 rfl (lv_at hl 3 rfl) ?_
        refine xp_6 S w lk_RX4_96 dX4_setLimits_64 (fun H locs (w : Wd D (kT cI cO) (va_A _ _) _ _ (xW cI cO a (upd (upd s 5 g) 6 d) f R) H locs) => ?_)
        refine lv_iload_n S.1 S.2.1 dX4_setLimits_67 rfl (lv_at hl 0 rfl) ?_
        refine x_Si (As := [.int 1]) (rest := []) S w (goodS lk_RX4_82 lt_X4_oneIf ln_RX4 lc_X4_oneIf) hd_X4_oneIf (k_X4_oneIf l _ _ (xW cI cO a (upd (upd s 5 g) 6 d) f R) 1) rfl ⟨(Nat.le_of_ble_eq_true rfl), (Nat.le_of_ble_eq_true rfl)⟩ ⟨rfl, rfl⟩ hl.1 rfl (Nat.le_of_ble_eq_true rfl) ⟨Nat.zero_le _, Nat.zero_le _⟩ dX4_setLimits_68 (fun H locs (w : Wd D (kT cI cO) (va_A _ _) _ _ (xW cI cO a (upd (upd s 5 g) 6 d) f R) H locs) => ?_)
        exact x_reti S w hr hlk dX4_setLimits_71 (show onI 1 = (o_X4_setLimits s f g d).1 from by simp only [o_X4_setLimits, if_neg c_1, if_neg c_2, if_neg c_3]) (show xW cI cO a (upd (upd s 5 g) 6 d) f R = xW cI cO a ((o_X4_setLimits s f g d).2) f R from by simp only [o_X4_setLimits, if_neg c_1, if_neg c_2, if_neg c_3])
      · refine lv_iload_n S.1 S.2.1 dX4_setLimits_34 rfl (lv_at hl 2 rfl) ?_
        refine lv_aload_n S.1 S.2.1 dX4_setLimits_35 rfl (lv_at hl 0 rfl) ?_
        refine xr_1 S w lk_RX4_10 dX4_setLimits_36 ?_
        refine xg_6 S w lk_RX4_96 dX4_setLimits_39 ?_
        refine lv_icmp_eq (tgt := 49) S.1 S.2.1 dX4_setLimits_42 (by decide) (fun (c_4 : d = (s 6)) => ?_) (fun (c_4 : ¬ (d = (s 6))) => ?_)
        · refine lv_iconst (v := 0) S.1 S.2.1 dX4_setLimits_49 (by decide) ?_
          refine lv_istore_n (lv' := [(3, .int 0), (0, .ref (a 0)), (1, .int g), (2, .int d)]) S.1 S.2.1 dX4_setLimits_50 rfl hl (by decide) rfl (fun ls hl => ?_)
          refine lv_aload_n S.1 S.2.1 dX4_setLimits_51 rfl (lv_at hl 1 rfl) ?_
          refine xr_1 S w lk_RX4_10 dX4_setLimits_52 ?_
          refine lv_iload_n S.1 S.2.1 dX4_setLimits_55 rfl (lv_at hl 2 rfl) ?_
          refine xp_5 S w lk_RX4_93 dX4_setLimits_56 (fun H locs (w : Wd D (kT cI cO) (va_A _ _) _ _ (xW cI cO a (upd s 5 g) f R) H locs) => ?_)
          refine lv_aload_n S.1 S.2.1 dX4_setLimits_59 rfl (lv_at hl 1 rfl) ?_
          refine xr_1 S w lk_RX4_10 dX4_setLimits_60 ?_
          refine lv_iload_n S.1 S.2.1 dX4_setLimits_63 rfl (lv_at hl 3 rfl) ?_
          refine xp_6 S w lk_RX4_96 dX4_setLimits_64 (fun H locs (w : Wd D (kT cI cO) (va_A _ _) _ _ (xW cI cO a (upd (upd s 5 g) 6 d) f R) H locs) => ?_)
          refine lv_iload_n S.1 S.2.1 dX4_setLimits_67 rfl (lv_at hl 0 rfl) ?_
          refine x_Si (As := [.int 0]) (rest := []) S w (goodS lk_RX4_82 lt_X4_oneIf ln_RX4 lc_X4_oneIf) hd_X4_oneIf (k_X4_oneIf l _ _ (xW cI cO a (upd (upd s 5 g) 6 d) f R) 0) rfl ⟨(Nat.le_of_ble_eq_true rfl), (Nat.le_of_ble_eq_true rfl)⟩ ⟨rfl, rfl⟩ hl.1 rfl (Nat.le_of_ble_eq_true rfl) ⟨Nat.zero_le _, Nat.zero_le _⟩ dX4_setLimits_68 (fun H locs (w : Wd D (kT cI cO) (va_A _ _) _ _ (xW cI cO a (upd (upd s 5 g) 6 d) f R) H locs) => ?_)
          exact x_reti S w hr hlk dX4_setLimits_71 (show onI 0 = (o_X4_setLimits s f g d).1 from by simp only [o_X4_setLimits, if_neg c_1, if_neg c_2, if_pos c_3, if_pos c_4]) (show xW cI cO a (upd (upd s 5 g) 6 d) f R = xW cI cO a ((o_X4_setLimits s f g d).2) f R from by simp only [o_X4_setLimits, if_neg c_1, if_neg c_2, if_pos c_3, if_pos c_4])
        · refine lv_iconst (v := 1) S.1 S.2.1 dX4_setLimits_45 (by decide) ?_
          refine lv_goto (tgt := 50) S.1 S.2.1 dX4_setLimits_46 (by decide) ?_
          refine lv_istore_n (lv' := [(3, .int 1), (0, .ref (a 0)), (1, .int g), (2, .int d)]) S.1 S.2.1 dX4_setLimits_50 rfl hl (by decide) rfl (fun ls hl => ?_)
          refine lv_aload_n S.1 S.2.1 dX4_setLimits_51 rfl (lv_at hl 1 rfl) ?_
          refine xr_1 S w lk_RX4_10 dX4_setLimits_52 ?_
          refine lv_iload_n S.1 S.2.1 dX4_setLimits_55 rfl (lv_at hl 2 rfl) ?_
          refine xp_5 S w lk_RX4_93 dX4_setLimits_56 (fun H locs (w : Wd D (kT cI cO) (va_A _ _) _ _ (xW cI cO a (upd s 5 g) f R) H locs) => ?_)
          refine lv_aload_n S.1 S.2.1 dX4_setLimits_59 rfl (lv_at hl 1 rfl) ?_
          refine xr_1 S w lk_RX4_10 dX4_setLimits_60 ?_
          refine lv_iload_n S.1 S.2.1 dX4_setLimits_63 rfl (lv_at hl 3 rfl) ?_
          refine xp_6 S w lk_RX4_96 dX4_setLimits_64 (fun H locs (w : Wd D (kT cI cO) (va_A _ _) _ _ (xW cI cO a (upd (upd s 5 g) 6 d) f R) H locs) => ?_)
          refine lv_iload_n S.1 S.2.1 dX4_setLimits_67 rfl (lv_at hl 0 rfl) ?_
          refine x_Si (As := [.int 1]) (rest := []) S w (goodS lk_RX4_82 lt_X4_oneIf ln_RX4 lc_X4_oneIf) hd_X4_oneIf (k_X4_oneIf l _ _ (xW cI cO a (upd (upd s 5 g) 6 d) f R) 1) rfl ⟨(Nat.le_of_ble_eq_true rfl), (Nat.le_of_ble_eq_true rfl)⟩ ⟨rfl, rfl⟩ hl.1 rfl (Nat.le_of_ble_eq_true rfl) ⟨Nat.zero_le _, Nat.zero_le _⟩ dX4_setLimits_68 (fun H locs (w : Wd D (kT cI cO) (va_A _ _) _ _ (xW cI cO a (upd (upd s 5 g) 6 d) f R) H locs) => ?_)
          exact x_reti S w hr hlk dX4_setLimits_71 (show onI 1 = (o_X4_setLimits s f g d).1 from by simp only [o_X4_setLimits, if_neg c_1, if_neg c_2, if_pos c_3, if_neg c_4]) (show xW cI cO a (upd (upd s 5 g) 6 d) f R = xW cI cO a ((o_X4_setLimits s f g d).2) f R from by simp only [o_X4_setLimits, if_neg c_1, if_neg c_2, if_pos c_3, if_neg c_4])
    · refine x_ldc S lk_RX4_64 dX4_setLimits_20 ?_
      exact x_reti S w hr hlk dX4_setLimits_22 (show (-2000000001) = (o_X4_setLimits s f g d).1 from by simp only [o_X4_setLimits, if_neg c_1, if_pos c_2]) (show xW cI cO a s f R = xW cI cO a ((o_X4_setLimits s f g d).2) f R from by simp only [o_X4_setLimits, if_neg c_1, if_pos c_2])
def o_X4_setTolerance (s : Nat → Int32) (f : Nat → Nat → Int32) (g : Int32) (d : Int32) : Int32 × (Nat → Int32) := if (wIn g 0 1000000) = 0 then ((-2000000001), s) else if (wIn d 1 5) = 0 then ((-2000000001), s) else if g = (s 8) then if d = (s 9) then (onI 0, upd (upd s 8 g) 9 d) else (onI 1, upd (upd s 8 g) 9 d) else (onI 1, upd (upd s 8 g) 9 d)
set_option maxHeartbeats 4000000 in
set_option maxRecDepth 100000 in
theorem k_X4_setTolerance (l : Launch) (D : va_G) (cI cO : ClassId) (a : Nat → Nat) (R : va_W) (s : Nat → Int32) (f : Nat → Nat → Int32) (g : Int32) (d : Int32) : Mi l yX4_setTolerance cX4_setTolerance 4 (some .int) { frames := 1, cells := 0, slots := 0, locals := 22 } D (kT cI cO) (xW cI cO a s f R) [.ref (a 0), .int g, .int d] (xW cI cO a ((o_X4_setTolerance s f g d).2) f R) ((o_X4_setTolerance s f g d).1) := by
  intro sz
  refine ent (by decide +kernel) (Nat.le_of_ble_eq_true rfl) ?_
  intro p e st m below meth c ls S hr hlk hnm w hsz hl
  have hl : lv_has ls 4 [(0, .ref (a 0)), (1, .int g), (2, .int d)] := hl
  refine lv_iload_n S.1 S.2.1 dX4_setTolerance_0 rfl (lv_at hl 1 rfl) ?_
  refine lv_iconst (v := 0) S.1 S.2.1 dX4_setTolerance_1 (by decide) ?_
  refine x_ldc S lk_RX4_92 dX4_setTolerance_2 ?_
  refine x_Si (As := [.int g, .int 0, .int 1000000]) (rest := []) S w (goodS lk_RX4_60 lt_X4_isWithin ln_RX4 lc_X4_isWithin) hd_X4_isWithin (k_X4_isWithin l _ _ (xW cI cO a s f R) g 0 1000000) rfl ⟨(Nat.le_of_ble_eq_true rfl), (Nat.le_of_ble_eq_true rfl)⟩ ⟨rfl, rfl⟩ hl.1 rfl (Nat.le_of_ble_eq_true rfl) ⟨Nat.zero_le _, Nat.zero_le _⟩ dX4_setTolerance_4 (fun H locs (w : Wd D (kT cI cO) (va_A _ _) _ _ (xW cI cO a s f R) H locs) => ?_)
  refine lv_if_eq (tgt := 19) S.1 S.2.1 dX4_setTolerance_7 (by decide) (fun (c_1 : (wIn g 0 1000000) = 0) => ?_) (fun (c_1 : ¬ ((wIn g 0 1000000) = 0)) => ?_)
  · refine x_ldc S lk_RX4_64 dX4_setTolerance_19 ?_
    exact x_reti S w hr hlk dX4_setTolerance_21 (show (-2000000001) = (o_X4_setTolerance s f g d).1 from by simp only [o_X4_setTolerance, if_pos c_1]) (show xW cI cO a s f R = xW cI cO a ((o_X4_setTolerance s f g d).2) f R from by simp only [o_X4_setTolerance, if_pos c_1])
  · refine lv_iload_n S.1 S.2.1 dX4_setTolerance_10 rfl (lv_at hl 2 rfl) ?_
    refine lv_iconst (v := 1) S.1 S.2.1 dX4_setTolerance_11 (by decide) ?_
    refine lv_iconst (v := 5) S.1 S.2.1 dX4_setTolerance_12 (by decide) ?_
    refine x_Si (As := [.int d, .int 1, .int 5]) (rest := []) S w (goodS lk_RX4_60 lt_X4_isWithin ln_RX4 lc_X4_isWithin) hd_X4_isWithin (k_X4_isWithin l _ _ (xW cI cO a s f R) d 1 5) rfl ⟨(Nat.le_of_ble_eq_true rfl), (Nat.le_of_ble_eq_true rfl)⟩ ⟨rfl, rfl⟩ hl.1 rfl (Nat.le_of_ble_eq_true rfl) ⟨Nat.zero_le _, Nat.zero_le _⟩ dX4_setTolerance_13 (fun H locs (w : Wd D (kT cI cO) (va_A _ _) _ _ (xW cI cO a s f R) H locs) => ?_)
    refine lv_if_ne (tgt := 22) S.1 S.2.1 dX4_setTolerance_16 (by decide) (fun (c_2 : ¬ (wIn d 1 5) = 0) => ?_) (fun (c_2 : (wIn d 1 5) = 0) => ?_)
    · refine lv_iload_n S.1 S.2.1 dX4_setTolerance_22 rfl (lv_at hl 1 rfl) ?_
      refine lv_aload_n S.1 S.2.1 dX4_setTolerance_23 rfl (lv_at hl 0 rfl) ?_
      refine xr_1 S w lk_RX4_10 dX4_setTolerance_24 ?_
      refine xg_8 S w lk_RX4_102 dX4_setTolerance_27 ?_
      refine lv_icmp_ne (tgt := 44) S.1 S.2.1 dX4_setTolerance_30 (by decide) (fun (c_3 : ¬ g = (s 8)) => ?_) (fun (c_3 : g = (s 8)) => ?_)
      · refine lv_iconst (v := 1) S.1 S.2.1 dX4_setTolerance_44 (by decide) ?_
        refine lv_goto (tgt := 49) S.1 S.2.1 dX4_setTolerance_45 (by decide) ?_
        refine lv_istore_n (lv' := [(3, .int 1), (0, .ref (a 0)), (1, .int g), (2, .int d)]) S.1 S.2.1 dX4_setTolerance_49 rfl hl (by decide) rfl (fun ls hl => ?_)
        refine lv_aload_n S.1 S.2.1 dX4_setTolerance_50 rfl (lv_at hl 1 rfl) ?_
        refine xr_1 S w lk_RX4_10 dX4_setTolerance_51 ?_
        refine lv_iload_n S.1 S.2.1 dX4_setTolerance_54 rfl (lv_at hl 2 rfl) ?_
        refine xp_8 S w lk_RX4_102 dX4_setTolerance_55 (fun H locs (w : Wd D (kT cI cO) (va_A _ _) _ _ (xW cI cO a (upd s 8 g) f R) H locs) => ?_)
        refine lv_aload_n S.1 S.2.1 dX4_setTolerance_58 rfl (lv_at hl 1 rfl) ?_
        refine xr_1 S w lk_RX4_10 dX4_setTolerance_59 ?_
        refine lv_iload_n S.1 S.2.1 dX4_setTolerance_62 rfl (lv_at hl 3 rfl) ?_
        refine xp_9 S w lk_RX4_105 dX4_setTolerance_63 (fun H locs (w : Wd D (kT cI cO) (va_A _ _) _ _ (xW cI cO a (upd (upd s 8 g) 9 d) f R) H locs) => ?_)
        refine lv_iload_n S.1 S.2.1 dX4_setTolerance_66 rfl (lv_at hl 0 rfl) ?_
        refine x_Si (As := [.int 1]) (rest := []) S w (goodS lk_RX4_82 lt_X4_oneIf ln_RX4 lc_X4_oneIf) hd_X4_oneIf (k_X4_oneIf l _ _ (xW cI cO a (upd (upd s 8 g) 9 d) f R) 1) rfl ⟨(Nat.le_of_ble_eq_true rfl), (Nat.le_of_ble_eq_true rfl)⟩ ⟨rfl, rfl⟩ hl.1 rfl (Nat.le_of_ble_eq_true rfl) ⟨Nat.zero_le _, Nat.zero_le _⟩ dX4_setTolerance_67 (fun H locs (w : Wd D (kT cI cO) (va_A _ _) _ _ (xW cI cO a (upd (upd s 8 g) 9 d) f R) H locs) => ?_)
        exact x_reti S w hr hlk dX4_setTolerance_70 (show onI 1 = (o_X4_setTolerance s f g d).1 from by simp only [o_X4_setTolerance, if_neg c_1, if_neg c_2, if_neg c_3]) (show xW cI cO a (upd (upd s 8 g) 9 d) f R = xW cI cO a ((o_X4_setTolerance s f g d).2) f R from by simp only [o_X4_setTolerance, if_neg c_1, if_neg c_2, if_neg c_3])
      · refine lv_iload_n S.1 S.2.1 dX4_setTolerance_33 rfl (lv_at hl 2 rfl) ?_
        refine lv_aload_n S.1 S.2.1 dX4_setTolerance_34 rfl (lv_at hl 0 rfl) ?_
        refine xr_1 S w lk_RX4_10 dX4_setTolerance_35 ?_
        refine xg_9 S w lk_RX4_105 dX4_setTolerance_38 ?_
        refine lv_icmp_eq (tgt := 48) S.1 S.2.1 dX4_setTolerance_41 (by decide) (fun (c_4 : d = (s 9)) => ?_) (fun (c_4 : ¬ (d = (s 9))) => ?_)
        · refine lv_iconst (v := 0) S.1 S.2.1 dX4_setTolerance_48 (by decide) ?_
          refine lv_istore_n (lv' := [(3, .int 0), (0, .ref (a 0)), (1, .int g), (2, .int d)]) S.1 S.2.1 dX4_setTolerance_49 rfl hl (by decide) rfl (fun ls hl => ?_)
          refine lv_aload_n S.1 S.2.1 dX4_setTolerance_50 rfl (lv_at hl 1 rfl) ?_
          refine xr_1 S w lk_RX4_10 dX4_setTolerance_51 ?_
          refine lv_iload_n S.1 S.2.1 dX4_setTolerance_54 rfl (lv_at hl 2 rfl) ?_
          refine xp_8 S w lk_RX4_102 dX4_setTolerance_55 (fun H locs (w : Wd D (kT cI cO) (va_A _ _) _ _ (xW cI cO a (upd s 8 g) f R) H locs) => ?_)
          refine lv_aload_n S.1 S.2.1 dX4_setTolerance_58 rfl (lv_at hl 1 rfl) ?_
          refine xr_1 S w lk_RX4_10 dX4_setTolerance_59 ?_
          refine lv_iload_n S.1 S.2.1 dX4_setTolerance_62 rfl (lv_at hl 3 rfl) ?_
          refine xp_9 S w lk_RX4_105 dX4_setTolerance_63 (fun H locs (w : Wd D (kT cI cO) (va_A _ _) _ _ (xW cI cO a (upd (upd s 8 g) 9 d) f R) H locs) => ?_)
          refine lv_iload_n S.1 S.2.1 dX4_setTolerance_66 rfl (lv_at hl 0 rfl) ?_
          refine x_Si (As := [.int 0]) (rest := []) S w (goodS lk_RX4_82 lt_X4_oneIf ln_RX4 lc_X4_oneIf) hd_X4_oneIf (k_X4_oneIf l _ _ (xW cI cO a (upd (upd s 8 g) 9 d) f R) 0) rfl ⟨(Nat.le_of_ble_eq_true rfl), (Nat.le_of_ble_eq_true rfl)⟩ ⟨rfl, rfl⟩ hl.1 rfl (Nat.le_of_ble_eq_true rfl) ⟨Nat.zero_le _, Nat.zero_le _⟩ dX4_setTolerance_67 (fun H locs (w : Wd D (kT cI cO) (va_A _ _) _ _ (xW cI cO a (upd (upd s 8 g) 9 d) f R) H locs) => ?_)
          exact x_reti S w hr hlk dX4_setTolerance_70 (show onI 0 = (o_X4_setTolerance s f g d).1 from by simp only [o_X4_setTolerance, if_neg c_1, if_neg c_2, if_pos c_3, if_pos c_4]) (show xW cI cO a (upd (upd s 8 g) 9 d) f R = xW cI cO a ((o_X4_setTolerance s f g d).2) f R from by simp only [o_X4_setTolerance, if_neg c_1, if_neg c_2, if_pos c_3, if_pos c_4])
        · refine lv_iconst (v := 1) S.1 S.2.1 dX4_setTolerance_44 (by decide) ?_
          refine lv_goto (tgt := 49) S.1 S.2.1 dX4_setTolerance_45 (by decide) ?_
          refine lv_istore_n (lv' := [(3, .int 1), (0, .ref (a 0)), (1, .int g), (2, .int d)]) S.1 S.2.1 dX4_setTolerance_49 rfl hl (by decide) rfl (fun ls hl => ?_)
          refine lv_aload_n S.1 S.2.1 dX4_setTolerance_50 rfl (lv_at hl 1 rfl) ?_
          refine xr_1 S w lk_RX4_10 dX4_setTolerance_51 ?_
          refine lv_iload_n S.1 S.2.1 dX4_setTolerance_54 rfl (lv_at hl 2 rfl) ?_
          refine xp_8 S w lk_RX4_102 dX4_setTolerance_55 (fun H locs (w : Wd D (kT cI cO) (va_A _ _) _ _ (xW cI cO a (upd s 8 g) f R) H locs) => ?_)
          refine lv_aload_n S.1 S.2.1 dX4_setTolerance_58 rfl (lv_at hl 1 rfl) ?_
          refine xr_1 S w lk_RX4_10 dX4_setTolerance_59 ?_
          refine lv_iload_n S.1 S.2.1 dX4_setTolerance_62 rfl (lv_at hl 3 rfl) ?_
          refine xp_9 S w lk_RX4_105 dX4_setTolerance_63 (fun H locs (w : Wd D (kT cI cO) (va_A _ _) _ _ (xW cI cO a (upd (upd s 8 g) 9 d) f R) H locs) => ?_)
          refine lv_iload_n S.1 S.2.1 dX4_setTolerance_66 rfl (lv_at hl 0 rfl) ?_
          refine x_Si (As := [.int 1]) (rest := []) S w (goodS lk_RX4_82 lt_X4_oneIf ln_RX4 lc_X4_oneIf) hd_X4_oneIf (k_X4_oneIf l _ _ (xW cI cO a (upd (upd s 8 g) 9 d) f R) 1) rfl ⟨(Nat.le_of_ble_eq_true rfl), (Nat.le_of_ble_eq_true rfl)⟩ ⟨rfl, rfl⟩ hl.1 rfl (Nat.le_of_ble_eq_true rfl) ⟨Nat.zero_le _, Nat.zero_le _⟩ dX4_setTolerance_67 (fun H locs (w : Wd D (kT cI cO) (va_A _ _) _ _ (xW cI cO a (upd (upd s 8 g) 9 d) f R) H locs) => ?_)
          exact x_reti S w hr hlk dX4_setTolerance_70 (show onI 1 = (o_X4_setTolerance s f g d).1 from by simp only [o_X4_setTolerance, if_neg c_1, if_neg c_2, if_pos c_3, if_neg c_4]) (show xW cI cO a (upd (upd s 8 g) 9 d) f R = xW cI cO a ((o_X4_setTolerance s f g d).2) f R from by simp only [o_X4_setTolerance, if_neg c_1, if_neg c_2, if_pos c_3, if_neg c_4])
    · refine x_ldc S lk_RX4_64 dX4_setTolerance_19 ?_
      exact x_reti S w hr hlk dX4_setTolerance_21 (show (-2000000001) = (o_X4_setTolerance s f g d).1 from by simp only [o_X4_setTolerance, if_neg c_1, if_pos c_2]) (show xW cI cO a s f R = xW cI cO a ((o_X4_setTolerance s f g d).2) f R from by simp only [o_X4_setTolerance, if_neg c_1, if_pos c_2])
def o_X4_setGreatestShift (s : Nat → Int32) (f : Nat → Nat → Int32) (g : Int32) : Int32 × (Nat → Int32) := if (wIn g 0 5) = 0 then ((-2000000001), s) else (s 7, upd s 7 g)
set_option maxHeartbeats 4000000 in
set_option maxRecDepth 100000 in
theorem k_X4_setGreatestShift (l : Launch) (D : va_G) (cI cO : ClassId) (a : Nat → Nat) (R : va_W) (s : Nat → Int32) (f : Nat → Nat → Int32) (g : Int32) : Mi l yX4_setGreatestShift cX4_setGreatestShift 3 (some .int) { frames := 1, cells := 0, slots := 0, locals := 22 } D (kT cI cO) (xW cI cO a s f R) [.ref (a 0), .int g] (xW cI cO a ((o_X4_setGreatestShift s f g).2) f R) ((o_X4_setGreatestShift s f g).1) := by
  intro sz
  refine ent (by decide +kernel) (Nat.le_of_ble_eq_true rfl) ?_
  intro p e st m below meth c ls S hr hlk hnm w hsz hl
  have hl : lv_has ls 3 [(0, .ref (a 0)), (1, .int g)] := hl
  refine lv_iload_n S.1 S.2.1 dX4_setGreatestShift_0 rfl (lv_at hl 1 rfl) ?_
  refine lv_iconst (v := 0) S.1 S.2.1 dX4_setGreatestShift_1 (by decide) ?_
  refine lv_iconst (v := 5) S.1 S.2.1 dX4_setGreatestShift_2 (by decide) ?_
  refine x_Si (As := [.int g, .int 0, .int 5]) (rest := []) S w (goodS lk_RX4_60 lt_X4_isWithin ln_RX4 lc_X4_isWithin) hd_X4_isWithin (k_X4_isWithin l _ _ (xW cI cO a s f R) g 0 5) rfl ⟨(Nat.le_of_ble_eq_true rfl), (Nat.le_of_ble_eq_true rfl)⟩ ⟨rfl, rfl⟩ hl.1 rfl (Nat.le_of_ble_eq_true rfl) ⟨Nat.zero_le _, Nat.zero_le _⟩ dX4_setGreatestShift_3 (fun H locs (w : Wd D (kT cI cO) (va_A _ _) _ _ (xW cI cO a s f R) H locs) => ?_)
  refine lv_if_ne (tgt := 12) S.1 S.2.1 dX4_setGreatestShift_6 (by decide) (fun (c_1 : ¬ (wIn g 0 5) = 0) => ?_) (fun (c_1 : (wIn g 0 5) = 0) => ?_)
  · refine lv_aload_n S.1 S.2.1 dX4_setGreatestShift_12 rfl (lv_at hl 0 rfl) ?_
    refine xr_1 S w lk_RX4_10 dX4_setGreatestShift_13 ?_
    refine xg_7 S w lk_RX4_99 dX4_setGreatestShift_16 ?_
    refine lv_istore_n (lv' := [(2, .int (s 7)), (0, .ref (a 0)), (1, .int g)]) S.1 S.2.1 dX4_setGreatestShift_19 rfl hl (by decide) rfl (fun ls hl => ?_)
    refine lv_aload_n S.1 S.2.1 dX4_setGreatestShift_20 rfl (lv_at hl 1 rfl) ?_
    refine xr_1 S w lk_RX4_10 dX4_setGreatestShift_21 ?_
    refine lv_iload_n S.1 S.2.1 dX4_setGreatestShift_24 rfl (lv_at hl 2 rfl) ?_
    refine xp_7 S w lk_RX4_99 dX4_setGreatestShift_25 (fun H locs (w : Wd D (kT cI cO) (va_A _ _) _ _ (xW cI cO a (upd s 7 g) f R) H locs) => ?_)
    refine lv_iload_n S.1 S.2.1 dX4_setGreatestShift_28 rfl (lv_at hl 0 rfl) ?_
    exact x_reti S w hr hlk dX4_setGreatestShift_29 (show s 7 = (o_X4_setGreatestShift s f g).1 from by simp only [o_X4_setGreatestShift, if_neg c_1]) (show xW cI cO a (upd s 7 g) f R = xW cI cO a ((o_X4_setGreatestShift s f g).2) f R from by simp only [o_X4_setGreatestShift, if_neg c_1])
  · refine x_ldc S lk_RX4_64 dX4_setGreatestShift_9 ?_
    exact x_reti S w hr hlk dX4_setGreatestShift_11 (show (-2000000001) = (o_X4_setGreatestShift s f g).1 from by simp only [o_X4_setGreatestShift, if_pos c_1]) (show xW cI cO a s f R = xW cI cO a ((o_X4_setGreatestShift s f g).2) f R from by simp only [o_X4_setGreatestShift, if_pos c_1])
def o_X4_setGuard (s : Nat → Int32) (f : Nat → Nat → Int32) (g : Int32) : Int32 × (Nat → Int32) := if g = (s 10) then (onI 0, upd s 10 g) else (onI 1, upd s 10 g)
set_option maxHeartbeats 4000000 in
set_option maxRecDepth 100000 in
theorem k_X4_setGuard (l : Launch) (D : va_G) (cI cO : ClassId) (a : Nat → Nat) (R : va_W) (s : Nat → Int32) (f : Nat → Nat → Int32) (g : Int32) (hg : g = 0 ∨ g = 1) : Mi l yX4_setGuard cX4_setGuard 3 (some .int) { frames := 1, cells := 0, slots := 0, locals := 20 } D (kT cI cO) (xW cI cO a s f R) [.ref (a 0), .int g] (xW cI cO a ((o_X4_setGuard s f g).2) f R) ((o_X4_setGuard s f g).1) := by
  intro sz
  refine ent (by decide +kernel) (Nat.le_of_ble_eq_true rfl) ?_
  intro p e st m below meth c ls S hr hlk hnm w hsz hl
  have hl : lv_has ls 3 [(0, .ref (a 0)), (1, .int g)] := hl
  refine lv_iload_n S.1 S.2.1 dX4_setGuard_0 rfl (lv_at hl 1 rfl) ?_
  refine lv_aload_n S.1 S.2.1 dX4_setGuard_1 rfl (lv_at hl 0 rfl) ?_
  refine xr_1 S w lk_RX4_10 dX4_setGuard_2 ?_
  refine xg_10 S w lk_RX4_108 dX4_setGuard_5 ?_
  refine lv_icmp_eq (tgt := 15) S.1 S.2.1 dX4_setGuard_8 (by decide) (fun (c_1 : g = (s 10)) => ?_) (fun (c_1 : ¬ (g = (s 10))) => ?_)
  · refine lv_iconst (v := 0) S.1 S.2.1 dX4_setGuard_15 (by decide) ?_
    refine lv_istore_n (lv' := [(2, .int 0), (0, .ref (a 0)), (1, .int g)]) S.1 S.2.1 dX4_setGuard_16 rfl hl (by decide) rfl (fun ls hl => ?_)
    refine lv_aload_n S.1 S.2.1 dX4_setGuard_17 rfl (lv_at hl 1 rfl) ?_
    refine xr_1 S w lk_RX4_10 dX4_setGuard_18 ?_
    refine lv_iload_n S.1 S.2.1 dX4_setGuard_21 rfl (lv_at hl 2 rfl) ?_
    refine xp_10 S w (hg) lk_RX4_108 dX4_setGuard_22 (fun H locs (w : Wd D (kT cI cO) (va_A _ _) _ _ (xW cI cO a (upd s 10 g) f R) H locs) => ?_)
    refine lv_iload_n S.1 S.2.1 dX4_setGuard_25 rfl (lv_at hl 0 rfl) ?_
    refine x_Si (As := [.int 0]) (rest := []) S w (goodS lk_RX4_82 lt_X4_oneIf ln_RX4 lc_X4_oneIf) hd_X4_oneIf (k_X4_oneIf l _ _ (xW cI cO a (upd s 10 g) f R) 0) rfl ⟨(Nat.le_of_ble_eq_true rfl), (Nat.le_of_ble_eq_true rfl)⟩ ⟨rfl, rfl⟩ hl.1 rfl (Nat.le_of_ble_eq_true rfl) ⟨Nat.zero_le _, Nat.zero_le _⟩ dX4_setGuard_26 (fun H locs (w : Wd D (kT cI cO) (va_A _ _) _ _ (xW cI cO a (upd s 10 g) f R) H locs) => ?_)
    exact x_reti S w hr hlk dX4_setGuard_29 (show onI 0 = (o_X4_setGuard s f g).1 from by simp only [o_X4_setGuard, if_pos c_1]) (show xW cI cO a (upd s 10 g) f R = xW cI cO a ((o_X4_setGuard s f g).2) f R from by simp only [o_X4_setGuard, if_pos c_1])
  · refine lv_iconst (v := 1) S.1 S.2.1 dX4_setGuard_11 (by decide) ?_
    refine lv_goto (tgt := 16) S.1 S.2.1 dX4_setGuard_12 (by decide) ?_
    refine lv_istore_n (lv' := [(2, .int 1), (0, .ref (a 0)), (1, .int g)]) S.1 S.2.1 dX4_setGuard_16 rfl hl (by decide) rfl (fun ls hl => ?_)
    refine lv_aload_n S.1 S.2.1 dX4_setGuard_17 rfl (lv_at hl 1 rfl) ?_
    refine xr_1 S w lk_RX4_10 dX4_setGuard_18 ?_
    refine lv_iload_n S.1 S.2.1 dX4_setGuard_21 rfl (lv_at hl 2 rfl) ?_
    refine xp_10 S w (hg) lk_RX4_108 dX4_setGuard_22 (fun H locs (w : Wd D (kT cI cO) (va_A _ _) _ _ (xW cI cO a (upd s 10 g) f R) H locs) => ?_)
    refine lv_iload_n S.1 S.2.1 dX4_setGuard_25 rfl (lv_at hl 0 rfl) ?_
    refine x_Si (As := [.int 1]) (rest := []) S w (goodS lk_RX4_82 lt_X4_oneIf ln_RX4 lc_X4_oneIf) hd_X4_oneIf (k_X4_oneIf l _ _ (xW cI cO a (upd s 10 g) f R) 1) rfl ⟨(Nat.le_of_ble_eq_true rfl), (Nat.le_of_ble_eq_true rfl)⟩ ⟨rfl, rfl⟩ hl.1 rfl (Nat.le_of_ble_eq_true rfl) ⟨Nat.zero_le _, Nat.zero_le _⟩ dX4_setGuard_26 (fun H locs (w : Wd D (kT cI cO) (va_A _ _) _ _ (xW cI cO a (upd s 10 g) f R) H locs) => ?_)
    exact x_reti S w hr hlk dX4_setGuard_29 (show onI 1 = (o_X4_setGuard s f g).1 from by simp only [o_X4_setGuard, if_neg c_1]) (show xW cI cO a (upd s 10 g) f R = xW cI cO a ((o_X4_setGuard s f g).2) f R from by simp only [o_X4_setGuard, if_neg c_1])
def o_X4_setting (s : Nat → Int32) (f : Nat → Nat → Int32) (q : Int32) : Int32 := if q = 0 then s 0 else if q = 1 then s 1 else if q = 2 then s 2 else if q = 3 then s 3 else if q = 4 then s 4 else if q = 5 then s 5 else if q = 6 then s 6 else if q = 7 then s 7 else if q = 8 then s 8 else if q = 9 then s 9 else if q = 10 then onI (s 10) else (-2000000001)
set_option maxHeartbeats 4000000 in
set_option maxRecDepth 100000 in
theorem k_X4_setting (l : Launch) (D : va_G) (cI cO : ClassId) (a : Nat → Nat) (R : va_W) (s : Nat → Int32) (f : Nat → Nat → Int32) (q : Int32) : Mi l yX4_setting cX4_setting 2 (some .int) { frames := 1, cells := 0, slots := 0, locals := 20 } D (kT cI cO) (xW cI cO a s f R) [.ref (a 0), .int q] (xW cI cO a s f R) (o_X4_setting s f q) := by
  intro sz
  refine ent (by decide +kernel) (Nat.le_of_ble_eq_true rfl) ?_
  intro p e st m below meth c ls S hr hlk hnm w hsz hl
  have hl : lv_has ls 2 [(0, .ref (a 0)), (1, .int q)] := hl
  refine lv_iload_n S.1 S.2.1 dX4_setting_0 rfl (lv_at hl 1 rfl) ?_
  by_cases c_1 : q = 0
  · refine lv_tableIn (off := 59) (tgt := 60) S.1 S.2.1 dX4_setting_1 (by rw [c_1]; decide) (by rw [c_1]; decide) (by rw [c_1]; decide) (by decide) ?_
    refine lv_aload_n S.1 S.2.1 dX4_setting_60 rfl (lv_at hl 0 rfl) ?_
    refine xr_1 S w lk_RX4_10 dX4_setting_61 ?_
    refine xg_0 S w lk_RX4_65 dX4_setting_64 ?_
    exact x_reti S w hr hlk dX4_setting_67 (show s 0 = o_X4_setting s f q from by simp only [o_X4_setting, if_pos c_1]) (show xW cI cO a s f R = xW cI cO a s f R from rfl)
  by_cases c_2 : q = 1
  · refine lv_tableIn (off := 67) (tgt := 68) S.1 S.2.1 dX4_setting_1 (by rw [c_2]; decide) (by rw [c_2]; decide) (by rw [c_2]; decide) (by decide) ?_
    refine lv_aload_n S.1 S.2.1 dX4_setting_68 rfl (lv_at hl 0 rfl) ?_
    refine xr_1 S w lk_RX4_10 dX4_setting_69 ?_
    refine xg_1 S w lk_RX4_76 dX4_setting_72 ?_
    exact x_reti S w hr hlk dX4_setting_75 (show s 1 = o_X4_setting s f q from by simp only [o_X4_setting, if_neg c_1, if_pos c_2]) (show xW cI cO a s f R = xW cI cO a s f R from rfl)
  by_cases c_3 : q = 2
  · refine lv_tableIn (off := 75) (tgt := 76) S.1 S.2.1 dX4_setting_1 (by rw [c_3]; decide) (by rw [c_3]; decide) (by rw [c_3]; decide) (by decide) ?_
    refine lv_aload_n S.1 S.2.1 dX4_setting_76 rfl (lv_at hl 0 rfl) ?_
    refine xr_1 S w lk_RX4_10 dX4_setting_77 ?_
    refine xg_2 S w lk_RX4_79 dX4_setting_80 ?_
    exact x_reti S w hr hlk dX4_setting_83 (show s 2 = o_X4_setting s f q from by simp only [o_X4_setting, if_neg c_1, if_neg c_2, if_pos c_3]) (show xW cI cO a s f R = xW cI cO a s f R from rfl)
  by_cases c_4 : q = 3
  · refine lv_tableIn (off := 83) (tgt := 84) S.1 S.2.1 dX4_setting_1 (by rw [c_4]; decide) (by rw [c_4]; decide) (by rw [c_4]; decide) (by decide) ?_
    refine lv_aload_n S.1 S.2.1 dX4_setting_84 rfl (lv_at hl 0 rfl) ?_
    refine xr_1 S w lk_RX4_10 dX4_setting_85 ?_
    refine xg_3 S w lk_RX4_86 dX4_setting_88 ?_
    exact x_reti S w hr hlk dX4_setting_91 (show s 3 = o_X4_setting s f q from by simp only [o_X4_setting, if_neg c_1, if_neg c_2, if_neg c_3, if_pos c_4]) (show xW cI cO a s f R = xW cI cO a s f R from rfl)
  by_cases c_5 : q = 4
  · refine lv_tableIn (off := 91) (tgt := 92) S.1 S.2.1 dX4_setting_1 (by rw [c_5]; decide) (by rw [c_5]; decide) (by rw [c_5]; decide) (by decide) ?_
    refine lv_aload_n S.1 S.2.1 dX4_setting_92 rfl (lv_at hl 0 rfl) ?_
    refine xr_1 S w lk_RX4_10 dX4_setting_93 ?_
    refine xg_4 S w lk_RX4_89 dX4_setting_96 ?_
    exact x_reti S w hr hlk dX4_setting_99 (show s 4 = o_X4_setting s f q from by simp only [o_X4_setting, if_neg c_1, if_neg c_2, if_neg c_3, if_neg c_4, if_pos c_5]) (show xW cI cO a s f R = xW cI cO a s f R from rfl)
  by_cases c_6 : q = 5
  · refine lv_tableIn (off := 99) (tgt := 100) S.1 S.2.1 dX4_setting_1 (by rw [c_6]; decide) (by rw [c_6]; decide) (by rw [c_6]; decide) (by decide) ?_
    refine lv_aload_n S.1 S.2.1 dX4_setting_100 rfl (lv_at hl 0 rfl) ?_
    refine xr_1 S w lk_RX4_10 dX4_setting_101 ?_
    refine xg_5 S w lk_RX4_93 dX4_setting_104 ?_
    exact x_reti S w hr hlk dX4_setting_107 (show s 5 = o_X4_setting s f q from by simp only [o_X4_setting, if_neg c_1, if_neg c_2, if_neg c_3, if_neg c_4, if_neg c_5, if_pos c_6]) (show xW cI cO a s f R = xW cI cO a s f R from rfl)
  by_cases c_7 : q = 6
  · refine lv_tableIn (off := 107) (tgt := 108) S.1 S.2.1 dX4_setting_1 (by rw [c_7]; decide) (by rw [c_7]; decide) (by rw [c_7]; decide) (by decide) ?_
    refine lv_aload_n S.1 S.2.1 dX4_setting_108 rfl (lv_at hl 0 rfl) ?_
    refine xr_1 S w lk_RX4_10 dX4_setting_109 ?_
    refine xg_6 S w lk_RX4_96 dX4_setting_112 ?_
    exact x_reti S w hr hlk dX4_setting_115 (show s 6 = o_X4_setting s f q from by simp only [o_X4_setting, if_neg c_1, if_neg c_2, if_neg c_3, if_neg c_4, if_neg c_5, if_neg c_6, if_pos c_7]) (show xW cI cO a s f R = xW cI cO a s f R from rfl)
  by_cases c_8 : q = 7
  · refine lv_tableIn (off := 115) (tgt := 116) S.1 S.2.1 dX4_setting_1 (by rw [c_8]; decide) (by rw [c_8]; decide) (by rw [c_8]; decide) (by decide) ?_
    refine lv_aload_n S.1 S.2.1 dX4_setting_116 rfl (lv_at hl 0 rfl) ?_
    refine xr_1 S w lk_RX4_10 dX4_setting_117 ?_
    refine xg_7 S w lk_RX4_99 dX4_setting_120 ?_
    exact x_reti S w hr hlk dX4_setting_123 (show s 7 = o_X4_setting s f q from by simp only [o_X4_setting, if_neg c_1, if_neg c_2, if_neg c_3, if_neg c_4, if_neg c_5, if_neg c_6, if_neg c_7, if_pos c_8]) (show xW cI cO a s f R = xW cI cO a s f R from rfl)
  by_cases c_9 : q = 8
  · refine lv_tableIn (off := 123) (tgt := 124) S.1 S.2.1 dX4_setting_1 (by rw [c_9]; decide) (by rw [c_9]; decide) (by rw [c_9]; decide) (by decide) ?_
    refine lv_aload_n S.1 S.2.1 dX4_setting_124 rfl (lv_at hl 0 rfl) ?_
    refine xr_1 S w lk_RX4_10 dX4_setting_125 ?_
    refine xg_8 S w lk_RX4_102 dX4_setting_128 ?_
    exact x_reti S w hr hlk dX4_setting_131 (show s 8 = o_X4_setting s f q from by simp only [o_X4_setting, if_neg c_1, if_neg c_2, if_neg c_3, if_neg c_4, if_neg c_5, if_neg c_6, if_neg c_7, if_neg c_8, if_pos c_9]) (show xW cI cO a s f R = xW cI cO a s f R from rfl)
  by_cases c_10 : q = 9
  · refine lv_tableIn (off := 131) (tgt := 132) S.1 S.2.1 dX4_setting_1 (by rw [c_10]; decide) (by rw [c_10]; decide) (by rw [c_10]; decide) (by decide) ?_
    refine lv_aload_n S.1 S.2.1 dX4_setting_132 rfl (lv_at hl 0 rfl) ?_
    refine xr_1 S w lk_RX4_10 dX4_setting_133 ?_
    refine xg_9 S w lk_RX4_105 dX4_setting_136 ?_
    exact x_reti S w hr hlk dX4_setting_139 (show s 9 = o_X4_setting s f q from by simp only [o_X4_setting, if_neg c_1, if_neg c_2, if_neg c_3, if_neg c_4, if_neg c_5, if_neg c_6, if_neg c_7, if_neg c_8, if_neg c_9, if_pos c_10]) (show xW cI cO a s f R = xW cI cO a s f R from rfl)
  by_cases c_11 : q = 10
  · refine lv_tableIn (off := 139) (tgt := 140) S.1 S.2.1 dX4_setting_1 (by rw [c_11]; decide) (by rw [c_11]; decide) (by rw [c_11]; decide) (by decide) ?_
    refine lv_aload_n S.1 S.2.1 dX4_setting_140 rfl (lv_at hl 0 rfl) ?_
    refine xr_1 S w lk_RX4_10 dX4_setting_141 ?_
    refine xg_10 S w lk_RX4_108 dX4_setting_144 ?_
    refine x_Si (As := [.int (s 10)]) (rest := []) S w (goodS lk_RX4_82 lt_X4_oneIf ln_RX4 lc_X4_oneIf) hd_X4_oneIf (k_X4_oneIf l _ _ (xW cI cO a s f R) (s 10)) rfl ⟨(Nat.le_of_ble_eq_true rfl), (Nat.le_of_ble_eq_true rfl)⟩ ⟨rfl, rfl⟩ hl.1 rfl (Nat.le_of_ble_eq_true rfl) ⟨Nat.zero_le _, Nat.zero_le _⟩ dX4_setting_147 (fun H locs (w : Wd D (kT cI cO) (va_A _ _) _ _ (xW cI cO a s f R) H locs) => ?_)
    exact x_reti S w hr hlk dX4_setting_150 (show onI (s 10) = o_X4_setting s f q from by simp only [o_X4_setting, if_neg c_1, if_neg c_2, if_neg c_3, if_neg c_4, if_neg c_5, if_neg c_6, if_neg c_7, if_neg c_8, if_neg c_9, if_neg c_10, if_pos c_11]) (show xW cI cO a s f R = xW cI cO a s f R from rfl)
  refine lv_tableOut (tgt := 151) S.1 S.2.1 dX4_setting_1 (x_tout11 c_1 c_2 c_3 c_4 c_5 c_6 c_7 c_8 c_9 c_10 c_11) (by decide) ?_
  refine x_ldc S lk_RX4_64 dX4_setting_151 ?_
  exact x_reti S w hr hlk dX4_setting_153 (show (-2000000001) = o_X4_setting s f q from by simp only [o_X4_setting, if_neg c_1, if_neg c_2, if_neg c_3, if_neg c_4, if_neg c_5, if_neg c_6, if_neg c_7, if_neg c_8, if_neg c_9, if_neg c_10, if_neg c_11]) (show xW cI cO a s f R = xW cI cO a s f R from rfl)
def o_X4_beginTrial (s : Nat → Int32) (f : Nat → Nat → Int32) : (Nat → Int32) := upd (upd (upd s 11 1) 12 0) 13 ((s 13) + 1)
set_option maxHeartbeats 4000000 in
set_option maxRecDepth 100000 in
theorem k_X4_beginTrial (l : Launch) (D : va_G) (cI cO : ClassId) (a : Nat → Nat) (R : va_W) (s : Nat → Int32) (f : Nat → Nat → Int32) : Mv l yX4_beginTrial cX4_beginTrial 1 none { frames := 0, cells := 0, slots := 0, locals := 0 } D (kT cI cO) (xW cI cO a s f R) [.ref (a 0)] (xW cI cO a (o_X4_beginTrial s f) f R) := by
  intro sz
  refine ent (by decide +kernel) (Nat.le_of_ble_eq_true rfl) ?_
  intro p e st m below meth c ls S hr hlk hnm w hsz hl
  have hl : lv_has ls 1 [(0, .ref (a 0))] := hl
  refine lv_aload_n S.1 S.2.1 dX4_beginTrial_0 rfl (lv_at hl 0 rfl) ?_
  refine lv_iconst (v := 1) S.1 S.2.1 dX4_beginTrial_1 (by decide) ?_
  refine xp_11 S w (Or.inr rfl) lk_RX4_112 dX4_beginTrial_2 (fun H locs (w : Wd D (kT cI cO) (va_A _ _) _ _ (xW cI cO a (upd s 11 1) f R) H locs) => ?_)
  refine lv_aload_n S.1 S.2.1 dX4_beginTrial_5 rfl (lv_at hl 0 rfl) ?_
  refine lv_iconst (v := 0) S.1 S.2.1 dX4_beginTrial_6 (by decide) ?_
  refine xp_12 S w lk_RX4_126 dX4_beginTrial_7 (fun H locs (w : Wd D (kT cI cO) (va_A _ _) _ _ (xW cI cO a (upd (upd s 11 1) 12 0) f R) H locs) => ?_)
  refine lv_aload_n S.1 S.2.1 dX4_beginTrial_10 rfl (lv_at hl 0 rfl) ?_
  refine lv_dup S.1 S.2.1 dX4_beginTrial_11 rfl ?_
  refine xg_13 S w lk_RX4_119 dX4_beginTrial_12 ?_
  refine x_eqi (x := (upd (upd s 11 1) 12 0) 13) (y := s 13) rfl ?_
  refine lv_iconst (v := 1) S.1 S.2.1 dX4_beginTrial_15 (by decide) ?_
  refine lv_iadd S.1 S.2.1 dX4_beginTrial_16 ?_
  refine xp_13 S w lk_RX4_119 dX4_beginTrial_17 (fun H locs (w : Wd D (kT cI cO) (va_A _ _) _ _ (xW cI cO a (upd (upd (upd s 11 1) 12 0) 13 ((s 13) + 1)) f R) H locs) => ?_)
  exact x_retv S w hr hlk dX4_beginTrial_20 (show xW cI cO a (upd (upd (upd s 11 1) 12 0) 13 ((s 13) + 1)) f R = xW cI cO a (o_X4_beginTrial s f) f R from by simp only [o_X4_beginTrial])
def o_X4_startTrial (s : Nat → Int32) (f : Nat → Nat → Int32) : Int32 × (Nat → Int32) := if (s 11) = 0 then (((s 13) + 1) - 1, upd (upd (upd s 11 1) 12 0) 13 ((s 13) + 1)) else ((-2000000002), s)
set_option maxHeartbeats 4000000 in
set_option maxRecDepth 100000 in
theorem k_X4_startTrial (l : Launch) (D : va_G) (cI cO : ClassId) (a : Nat → Nat) (R : va_W) (s : Nat → Int32) (f : Nat → Nat → Int32) : Mi l yX4_startTrial cX4_startTrial 1 (some .int) { frames := 1, cells := 0, slots := 0, locals := 20 } D (kT cI cO) (xW cI cO a s f R) [.ref (a 0)] (xW cI cO a ((o_X4_startTrial s f).2) f R) ((o_X4_startTrial s f).1) := by
  intro sz
  refine ent (by decide +kernel) (Nat.le_of_ble_eq_true rfl) ?_
  intro p e st m below meth c ls S hr hlk hnm w hsz hl
  have hl : lv_has ls 1 [(0, .ref (a 0))] := hl
  refine lv_aload_n S.1 S.2.1 dX4_startTrial_0 rfl (lv_at hl 0 rfl) ?_
  refine xg_11 S w lk_RX4_112 dX4_startTrial_1 ?_
  refine lv_if_eq (tgt := 10) S.1 S.2.1 dX4_startTrial_4 (by decide) (fun (c_1 : (s 11) = 0) => ?_) (fun (c_1 : ¬ ((s 11) = 0)) => ?_)
  · refine lv_aload_n S.1 S.2.1 dX4_startTrial_10 rfl (lv_at hl 0 rfl) ?_
    refine x_Vv (As := []) (rest := []) S w (goodV lk_RX4_116 li_X4_beginTrial ls_X4_beginTrial ln_RX4 lc_X4_beginTrial) hV_X4_beginTrial (k_X4_beginTrial l D cI cO a R s f) rfl 0 4 rfl rfl xc_0 ⟨(Nat.le_of_ble_eq_true rfl), (Nat.le_of_ble_eq_true rfl)⟩ ⟨rfl, rfl⟩ hl.1 rfl (Nat.le_of_ble_eq_true rfl) ⟨Nat.zero_le _, Nat.zero_le _⟩ dX4_startTrial_11 (fun H locs (w : Wd D (kT cI cO) (va_A _ _) _ _ (xW cI cO a (upd (upd (upd s 11 1) 12 0) 13 ((s 13) + 1)) f R) H locs) => ?_)
    refine lv_aload_n S.1 S.2.1 dX4_startTrial_14 rfl (lv_at hl 0 rfl) ?_
    refine xg_13 S w lk_RX4_119 dX4_startTrial_15 ?_
    refine x_eqi (x := (upd (upd (upd s 11 1) 12 0) 13 ((s 13) + 1)) 13) (y := (s 13) + 1) rfl ?_
    refine lv_iconst (v := 1) S.1 S.2.1 dX4_startTrial_18 (by decide) ?_
    refine lv_isub S.1 S.2.1 dX4_startTrial_19 ?_
    exact x_reti S w hr hlk dX4_startTrial_20 (show ((s 13) + 1) - 1 = (o_X4_startTrial s f).1 from by simp only [o_X4_startTrial, if_pos c_1]) (show xW cI cO a (upd (upd (upd s 11 1) 12 0) 13 ((s 13) + 1)) f R = xW cI cO a ((o_X4_startTrial s f).2) f R from by simp only [o_X4_startTrial, if_pos c_1])
  · refine x_ldc S lk_RX4_115 dX4_startTrial_7 ?_
    exact x_reti S w hr hlk dX4_startTrial_9 (show (-2000000002) = (o_X4_startTrial s f).1 from by simp only [o_X4_startTrial, if_neg c_1]) (show xW cI cO a s f R = xW cI cO a ((o_X4_startTrial s f).2) f R from by simp only [o_X4_startTrial, if_neg c_1])
def o_X4_position (s : Nat → Int32) (f : Nat → Nat → Int32) : Int32 := if (s 11) = 0 then (-2000000003) else s 12
set_option maxHeartbeats 4000000 in
set_option maxRecDepth 100000 in
theorem k_X4_position (l : Launch) (D : va_G) (cI cO : ClassId) (a : Nat → Nat) (R : va_W) (s : Nat → Int32) (f : Nat → Nat → Int32) : Mi l yX4_position cX4_position 1 (some .int) { frames := 0, cells := 0, slots := 0, locals := 0 } D (kT cI cO) (xW cI cO a s f R) [.ref (a 0)] (xW cI cO a s f R) (o_X4_position s f) := by
  intro sz
  refine ent (by decide +kernel) (Nat.le_of_ble_eq_true rfl) ?_
  intro p e st m below meth c ls S hr hlk hnm w hsz hl
  have hl : lv_has ls 1 [(0, .ref (a 0))] := hl
  refine lv_aload_n S.1 S.2.1 dX4_position_0 rfl (lv_at hl 0 rfl) ?_
  refine xg_11 S w lk_RX4_112 dX4_position_1 ?_
  refine lv_if_eq (tgt := 14) S.1 S.2.1 dX4_position_4 (by decide) (fun (c_1 : (s 11) = 0) => ?_) (fun (c_1 : ¬ ((s 11) = 0)) => ?_)
  · refine x_ldc S lk_RX4_122 dX4_position_14 ?_
    exact x_reti S w hr hlk dX4_position_16 (show (-2000000003) = o_X4_position s f from by simp only [o_X4_position, if_pos c_1]) (show xW cI cO a s f R = xW cI cO a s f R from rfl)
  · refine lv_aload_n S.1 S.2.1 dX4_position_7 rfl (lv_at hl 0 rfl) ?_
    refine xg_12 S w lk_RX4_126 dX4_position_8 ?_
    refine lv_goto (tgt := 16) S.1 S.2.1 dX4_position_11 (by decide) ?_
    exact x_reti S w hr hlk dX4_position_16 (show s 12 = o_X4_position s f from by simp only [o_X4_position, if_neg c_1]) (show xW cI cO a s f R = xW cI cO a s f R from rfl)
def o_X4_input (s : Nat → Int32) (f : Nat → Nat → Int32) (N : Nat) (k : Int32) : Int32 := if (wIn k 0 ((s 0) - 1)) = 0 then (-2000000001) else (f 1) (Int32.toNatClampNeg k)
set_option maxHeartbeats 4000000 in
set_option maxRecDepth 100000 in
theorem k_X4_input (l : Launch) (D : va_G) (cI cO : ClassId) (a : Nat → Nat) (R : va_W) (s : Nat → Int32) (f : Nat → Nat → Int32) (N : Nat) (k : Int32) (hN : s 0 = nI N) (h4 : 4 ≤ N) (h48 : N ≤ 48) : Mi l yX4_input cX4_input 2 (some .int) { frames := 2, cells := 0, slots := 0, locals := 43 } D (kT cI cO) (xW cI cO a s f R) [.ref (a 0), .int k] (xW cI cO a s f R) (o_X4_input s f N k) := by
  intro sz
  refine ent (by decide +kernel) (Nat.le_of_ble_eq_true rfl) ?_
  intro p e st m below meth c ls S hr hlk hnm w hsz hl
  have hl : lv_has ls 2 [(0, .ref (a 0)), (1, .int k)] := hl
  refine lv_aload_n S.1 S.2.1 dX4_input_0 rfl (lv_at hl 0 rfl) ?_
  refine lv_iload_n S.1 S.2.1 dX4_input_1 rfl (lv_at hl 1 rfl) ?_
  refine x_Vi (As := [.int k]) (rest := []) S w (goodV lk_RX4_69 li_X4_isSample ls_X4_isSample ln_RX4 lc_X4_isSample) hV_X4_isSample (k_X4_isSample l D cI cO a R s f k) rfl 0 4 rfl rfl xc_0 ⟨(Nat.le_of_ble_eq_true rfl), (Nat.le_of_ble_eq_true rfl)⟩ ⟨rfl, rfl⟩ hl.1 rfl (Nat.le_of_ble_eq_true rfl) ⟨Nat.zero_le _, Nat.zero_le _⟩ dX4_input_2 (fun H locs (w : Wd D (kT cI cO) (va_A _ _) _ _ (xW cI cO a s f R) H locs) => ?_)
  refine x_eqi (x := o_X4_isSample s f k) (y := wIn k 0 ((s 0) - 1)) rfl ?_
  refine lv_if_eq (tgt := 17) S.1 S.2.1 dX4_input_5 (by decide) (fun (c_1 : (wIn k 0 ((s 0) - 1)) = 0) => ?_) (fun (c_1 : ¬ ((wIn k 0 ((s 0) - 1)) = 0)) => ?_)
  · refine x_ldc S lk_RX4_64 dX4_input_17 ?_
    exact x_reti S w hr hlk dX4_input_19 (show (-2000000001) = o_X4_input s f N k from by simp only [o_X4_input, if_pos c_1]) (show xW cI cO a s f R = xW cI cO a s f R from rfl)
  · have hj := wIn_j hN h4 h48 c_1
    refine lv_aload_n S.1 S.2.1 dX4_input_8 rfl (lv_at hl 0 rfl) ?_
    refine xr_6 S w lk_RX4_41 dX4_input_9 ?_
    refine lv_iload_n S.1 S.2.1 dX4_input_12 rfl (lv_at hl 1 rfl) ?_
    refine x_iald S w 6 0 (g := f 1) (v := (f 1) (Int32.toNatClampNeg k)) (Int32.toNatClampNeg k) (by have := hj.1; omega) (hj.2) (Nat.le_of_ble_eq_true rfl) (xc_6) rfl (rfl) dX4_input_13 ?_
    refine lv_goto (tgt := 19) S.1 S.2.1 dX4_input_14 (by decide) ?_
    exact x_reti S w hr hlk dX4_input_19 (show (f 1) (Int32.toNatClampNeg k) = o_X4_input s f N k from by simp only [o_X4_input, if_neg c_1]) (show xW cI cO a s f R = xW cI cO a s f R from rfl)
def o_X4_setInput (s : Nat → Int32) (f : Nat → Nat → Int32) (N : Nat) (k : Int32) (v : Int32) : Int32 × (Nat → Nat → Int32) := if (s 11) = 0 then if (wIn k 0 ((s 0) - 1)) = 0 then ((-2000000001), f) else if (wIn v (-1000000) 1000000) = 0 then ((-2000000001), f) else ((f 1) (Int32.toNatClampNeg k), va_up f 1 (upd (f 1) (Int32.toNatClampNeg k) v)) else ((-2000000002), f)
set_option maxHeartbeats 4000000 in
set_option maxRecDepth 100000 in
theorem k_X4_setInput (l : Launch) (D : va_G) (cI cO : ClassId) (a : Nat → Nat) (R : va_W) (s : Nat → Int32) (f : Nat → Nat → Int32) (N : Nat) (k : Int32) (v : Int32) (hN : s 0 = nI N) (h4 : 4 ≤ N) (h48 : N ≤ 48) : Mi l yX4_setInput cX4_setInput 4 (some .int) { frames := 2, cells := 0, slots := 0, locals := 43 } D (kT cI cO) (xW cI cO a s f R) [.ref (a 0), .int k, .int v] (xW cI cO a s ((o_X4_setInput s f N k v).2) R) ((o_X4_setInput s f N k v).1) := by
  intro sz
  refine ent (by decide +kernel) (Nat.le_of_ble_eq_true rfl) ?_
  intro p e st m below meth c ls S hr hlk hnm w hsz hl
  have hl : lv_has ls 4 [(0, .ref (a 0)), (1, .int k), (2, .int v)] := hl
  refine lv_aload_n S.1 S.2.1 dX4_setInput_0 rfl (lv_at hl 0 rfl) ?_
  refine xg_11 S w lk_RX4_112 dX4_setInput_1 ?_
  refine lv_if_eq (tgt := 10) S.1 S.2.1 dX4_setInput_4 (by decide) (fun (c_1 : (s 11) = 0) => ?_) (fun (c_1 : ¬ ((s 11) = 0)) => ?_)
  · refine lv_aload_n S.1 S.2.1 dX4_setInput_10 rfl (lv_at hl 0 rfl) ?_
    refine lv_iload_n S.1 S.2.1 dX4_setInput_11 rfl (lv_at hl 1 rfl) ?_
    refine x_Vi (As := [.int k]) (rest := []) S w (goodV lk_RX4_69 li_X4_isSample ls_X4_isSample ln_RX4 lc_X4_isSample) hV_X4_isSample (k_X4_isSample l D cI cO a R s f k) rfl 0 4 rfl rfl xc_0 ⟨(Nat.le_of_ble_eq_true rfl), (Nat.le_of_ble_eq_true rfl)⟩ ⟨rfl, rfl⟩ hl.1 rfl (Nat.le_of_ble_eq_true rfl) ⟨Nat.zero_le _, Nat.zero_le _⟩ dX4_setInput_12 (fun H locs (w : Wd D (kT cI cO) (va_A _ _) _ _ (xW cI cO a s f R) H locs) => ?_)
    refine x_eqi (x := o_X4_isSample s f k) (y := wIn k 0 ((s 0) - 1)) rfl ?_
    refine lv_if_eq (tgt := 25) S.1 S.2.1 dX4_setInput_15 (by decide) (fun (c_2 : (wIn k 0 ((s 0) - 1)) = 0) => ?_) (fun (c_2 : ¬ ((wIn k 0 ((s 0) - 1)) = 0)) => ?_)
    · refine x_ldc S lk_RX4_64 dX4_setInput_25 ?_
      exact x_reti S w hr hlk dX4_setInput_27 (show (-2000000001) = (o_X4_setInput s f N k v).1 from by simp only [o_X4_setInput, if_pos c_1, if_pos c_2]) (show xW cI cO a s f R = xW cI cO a s ((o_X4_setInput s f N k v).2) R from by simp only [o_X4_setInput, if_pos c_1, if_pos c_2])
    · have hj := wIn_j hN h4 h48 c_2
      refine lv_iload_n S.1 S.2.1 dX4_setInput_18 rfl (lv_at hl 2 rfl) ?_
      refine x_Si (As := [.int v]) (rest := []) S w (goodS lk_RX4_73 lt_X4_isSignal ln_RX4 lc_X4_isSignal) hd_X4_isSignal (k_X4_isSignal l _ _ (xW cI cO a s f R) v) rfl ⟨(Nat.le_of_ble_eq_true rfl), (Nat.le_of_ble_eq_true rfl)⟩ ⟨rfl, rfl⟩ hl.1 rfl (Nat.le_of_ble_eq_true rfl) ⟨Nat.zero_le _, Nat.zero_le _⟩ dX4_setInput_19 (fun H locs (w : Wd D (kT cI cO) (va_A _ _) _ _ (xW cI cO a s f R) H locs) => ?_)
      refine x_eqi (x := o_X4_isSignal v) (y := wIn v (-1000000) 1000000) rfl ?_
      refine lv_if_ne (tgt := 28) S.1 S.2.1 dX4_setInput_22 (by decide) (fun (c_3 : ¬ (wIn v (-1000000) 1000000) = 0) => ?_) (fun (c_3 : (wIn v (-1000000) 1000000) = 0) => ?_)
      · refine lv_aload_n S.1 S.2.1 dX4_setInput_28 rfl (lv_at hl 0 rfl) ?_
        refine xr_6 S w lk_RX4_41 dX4_setInput_29 ?_
        refine lv_iload_n S.1 S.2.1 dX4_setInput_32 rfl (lv_at hl 1 rfl) ?_
        refine x_iald S w 6 0 (g := f 1) (v := (f 1) (Int32.toNatClampNeg k)) (Int32.toNatClampNeg k) (by have := hj.1; omega) (hj.2) (Nat.le_of_ble_eq_true rfl) (xc_6) rfl (rfl) dX4_setInput_33 ?_
        refine lv_istore_n (lv' := [(3, .int ((f 1) (Int32.toNatClampNeg k))), (0, .ref (a 0)), (1, .int k), (2, .int v)]) S.1 S.2.1 dX4_setInput_34 rfl hl (by decide) rfl (fun ls hl => ?_)
        refine lv_aload_n S.1 S.2.1 dX4_setInput_35 rfl (lv_at hl 1 rfl) ?_
        refine xr_6 S w lk_RX4_41 dX4_setInput_36 ?_
        refine lv_iload_n S.1 S.2.1 dX4_setInput_39 rfl (lv_at hl 2 rfl) ?_
        refine lv_iload_n S.1 S.2.1 dX4_setInput_40 rfl (lv_at hl 3 rfl) ?_
        refine x_iast S w 6 0 (g := f 1) (Int32.toNatClampNeg k) (by have := hj.1; omega) (hj.2) (Nat.le_of_ble_eq_true rfl) (xc_6) rfl (xs_1) dX4_setInput_41 (fun H locs (w : Wd D (kT cI cO) (va_A _ _) _ _ (xW cI cO a s (va_up f 1 (upd (f 1) (Int32.toNatClampNeg k) v)) R) H locs) => ?_)
        refine lv_iload_n S.1 S.2.1 dX4_setInput_42 rfl (lv_at hl 0 rfl) ?_
        exact x_reti S w hr hlk dX4_setInput_43 (show (f 1) (Int32.toNatClampNeg k) = (o_X4_setInput s f N k v).1 from by simp only [o_X4_setInput, if_pos c_1, if_neg c_2, if_neg c_3]) (show xW cI cO a s (va_up f 1 (upd (f 1) (Int32.toNatClampNeg k) v)) R = xW cI cO a s ((o_X4_setInput s f N k v).2) R from by simp only [o_X4_setInput, if_pos c_1, if_neg c_2, if_neg c_3])
      · refine x_ldc S lk_RX4_64 dX4_setInput_25 ?_
        exact x_reti S w hr hlk dX4_setInput_27 (show (-2000000001) = (o_X4_setInput s f N k v).1 from by simp only [o_X4_setInput, if_pos c_1, if_neg c_2, if_pos c_3]) (show xW cI cO a s f R = xW cI cO a s ((o_X4_setInput s f N k v).2) R from by simp only [o_X4_setInput, if_pos c_1, if_neg c_2, if_pos c_3])
  · refine x_ldc S lk_RX4_115 dX4_setInput_7 ?_
    exact x_reti S w hr hlk dX4_setInput_9 (show (-2000000002) = (o_X4_setInput s f N k v).1 from by simp only [o_X4_setInput, if_neg c_1]) (show xW cI cO a s f R = xW cI cO a s ((o_X4_setInput s f N k v).2) R from by simp only [o_X4_setInput, if_neg c_1])
def o_X4_reference (s : Nat → Int32) (f : Nat → Nat → Int32) (N : Nat) (k : Int32) : Int32 := if (wIn k 0 ((s 0) - 1)) = 0 then (-2000000001) else (f 0) (Int32.toNatClampNeg k)
set_option maxHeartbeats 4000000 in
set_option maxRecDepth 100000 in
theorem k_X4_reference (l : Launch) (D : va_G) (cI cO : ClassId) (a : Nat → Nat) (R : va_W) (s : Nat → Int32) (f : Nat → Nat → Int32) (N : Nat) (k : Int32) (hN : s 0 = nI N) (h4 : 4 ≤ N) (h48 : N ≤ 48) : Mi l yX4_reference cX4_reference 2 (some .int) { frames := 2, cells := 0, slots := 0, locals := 43 } D (kT cI cO) (xW cI cO a s f R) [.ref (a 0), .int k] (xW cI cO a s f R) (o_X4_reference s f N k) := by
  intro sz
  refine ent (by decide +kernel) (Nat.le_of_ble_eq_true rfl) ?_
  intro p e st m below meth c ls S hr hlk hnm w hsz hl
  have hl : lv_has ls 2 [(0, .ref (a 0)), (1, .int k)] := hl
  refine lv_aload_n S.1 S.2.1 dX4_reference_0 rfl (lv_at hl 0 rfl) ?_
  refine lv_iload_n S.1 S.2.1 dX4_reference_1 rfl (lv_at hl 1 rfl) ?_
  refine x_Vi (As := [.int k]) (rest := []) S w (goodV lk_RX4_69 li_X4_isSample ls_X4_isSample ln_RX4 lc_X4_isSample) hV_X4_isSample (k_X4_isSample l D cI cO a R s f k) rfl 0 4 rfl rfl xc_0 ⟨(Nat.le_of_ble_eq_true rfl), (Nat.le_of_ble_eq_true rfl)⟩ ⟨rfl, rfl⟩ hl.1 rfl (Nat.le_of_ble_eq_true rfl) ⟨Nat.zero_le _, Nat.zero_le _⟩ dX4_reference_2 (fun H locs (w : Wd D (kT cI cO) (va_A _ _) _ _ (xW cI cO a s f R) H locs) => ?_)
  refine x_eqi (x := o_X4_isSample s f k) (y := wIn k 0 ((s 0) - 1)) rfl ?_
  refine lv_if_eq (tgt := 17) S.1 S.2.1 dX4_reference_5 (by decide) (fun (c_1 : (wIn k 0 ((s 0) - 1)) = 0) => ?_) (fun (c_1 : ¬ ((wIn k 0 ((s 0) - 1)) = 0)) => ?_)
  · refine x_ldc S lk_RX4_64 dX4_reference_17 ?_
    exact x_reti S w hr hlk dX4_reference_19 (show (-2000000001) = o_X4_reference s f N k from by simp only [o_X4_reference, if_pos c_1]) (show xW cI cO a s f R = xW cI cO a s f R from rfl)
  · have hj := wIn_j hN h4 h48 c_1
    refine lv_aload_n S.1 S.2.1 dX4_reference_8 rfl (lv_at hl 0 rfl) ?_
    refine xr_5 S w lk_RX4_37 dX4_reference_9 ?_
    refine lv_iload_n S.1 S.2.1 dX4_reference_12 rfl (lv_at hl 1 rfl) ?_
    refine x_iald S w 5 0 (g := f 0) (v := (f 0) (Int32.toNatClampNeg k)) (Int32.toNatClampNeg k) (by have := hj.1; omega) (hj.2) (Nat.le_of_ble_eq_true rfl) (xc_5) rfl (rfl) dX4_reference_13 ?_
    refine lv_goto (tgt := 19) S.1 S.2.1 dX4_reference_14 (by decide) ?_
    exact x_reti S w hr hlk dX4_reference_19 (show (f 0) (Int32.toNatClampNeg k) = o_X4_reference s f N k from by simp only [o_X4_reference, if_neg c_1]) (show xW cI cO a s f R = xW cI cO a s f R from rfl)
def o_X4_count (s : Nat → Int32) (f : Nat → Nat → Int32) (q : Int32) : Int32 := if q = 0 then s 13 else if q = 1 then s 19 else if q = 2 then s 14 else if q = 3 then s 15 else if q = 4 then s 16 else (-2000000001)
set_option maxHeartbeats 4000000 in
set_option maxRecDepth 100000 in
theorem k_X4_count (l : Launch) (D : va_G) (cI cO : ClassId) (a : Nat → Nat) (R : va_W) (s : Nat → Int32) (f : Nat → Nat → Int32) (q : Int32) : Mi l yX4_count cX4_count 2 (some .int) { frames := 0, cells := 0, slots := 0, locals := 0 } D (kT cI cO) (xW cI cO a s f R) [.ref (a 0), .int q] (xW cI cO a s f R) (o_X4_count s f q) := by
  intro sz
  refine ent (by decide +kernel) (Nat.le_of_ble_eq_true rfl) ?_
  intro p e st m below meth c ls S hr hlk hnm w hsz hl
  have hl : lv_has ls 2 [(0, .ref (a 0)), (1, .int q)] := hl
  refine lv_iload_n S.1 S.2.1 dX4_count_0 rfl (lv_at hl 1 rfl) ?_
  by_cases c_1 : q = 0
  · refine lv_tableIn (off := 35) (tgt := 36) S.1 S.2.1 dX4_count_1 (by rw [c_1]; decide) (by rw [c_1]; decide) (by rw [c_1]; decide) (by decide) ?_
    refine lv_aload_n S.1 S.2.1 dX4_count_36 rfl (lv_at hl 0 rfl) ?_
    refine xg_13 S w lk_RX4_119 dX4_count_37 ?_
    exact x_reti S w hr hlk dX4_count_40 (show s 13 = o_X4_count s f q from by simp only [o_X4_count, if_pos c_1]) (show xW cI cO a s f R = xW cI cO a s f R from rfl)
  by_cases c_2 : q = 1
  · refine lv_tableIn (off := 40) (tgt := 41) S.1 S.2.1 dX4_count_1 (by rw [c_2]; decide) (by rw [c_2]; decide) (by rw [c_2]; decide) (by decide) ?_
    refine lv_aload_n S.1 S.2.1 dX4_count_41 rfl (lv_at hl 0 rfl) ?_
    refine xr_3 S w lk_RX4_26 dX4_count_42 ?_
    refine xg_19 S w lk_RX4_136 dX4_count_45 ?_
    exact x_reti S w hr hlk dX4_count_48 (show s 19 = o_X4_count s f q from by simp only [o_X4_count, if_neg c_1, if_pos c_2]) (show xW cI cO a s f R = xW cI cO a s f R from rfl)
  by_cases c_3 : q = 2
  · refine lv_tableIn (off := 48) (tgt := 49) S.1 S.2.1 dX4_count_1 (by rw [c_3]; decide) (by rw [c_3]; decide) (by rw [c_3]; decide) (by decide) ?_
    refine lv_aload_n S.1 S.2.1 dX4_count_49 rfl (lv_at hl 0 rfl) ?_
    refine xg_14 S w lk_RX4_130 dX4_count_50 ?_
    exact x_reti S w hr hlk dX4_count_53 (show s 14 = o_X4_count s f q from by simp only [o_X4_count, if_neg c_1, if_neg c_2, if_pos c_3]) (show xW cI cO a s f R = xW cI cO a s f R from rfl)
  by_cases c_4 : q = 3
  · refine lv_tableIn (off := 53) (tgt := 54) S.1 S.2.1 dX4_count_1 (by rw [c_4]; decide) (by rw [c_4]; decide) (by rw [c_4]; decide) (by decide) ?_
    refine lv_aload_n S.1 S.2.1 dX4_count_54 rfl (lv_at hl 0 rfl) ?_
    refine xg_15 S w lk_RX4_139 dX4_count_55 ?_
    exact x_reti S w hr hlk dX4_count_58 (show s 15 = o_X4_count s f q from by simp only [o_X4_count, if_neg c_1, if_neg c_2, if_neg c_3, if_pos c_4]) (show xW cI cO a s f R = xW cI cO a s f R from rfl)
  by_cases c_5 : q = 4
  · refine lv_tableIn (off := 58) (tgt := 59) S.1 S.2.1 dX4_count_1 (by rw [c_5]; decide) (by rw [c_5]; decide) (by rw [c_5]; decide) (by decide) ?_
    refine lv_aload_n S.1 S.2.1 dX4_count_59 rfl (lv_at hl 0 rfl) ?_
    refine xg_16 S w lk_RX4_142 dX4_count_60 ?_
    exact x_reti S w hr hlk dX4_count_63 (show s 16 = o_X4_count s f q from by simp only [o_X4_count, if_neg c_1, if_neg c_2, if_neg c_3, if_neg c_4, if_pos c_5]) (show xW cI cO a s f R = xW cI cO a s f R from rfl)
  refine lv_tableOut (tgt := 64) S.1 S.2.1 dX4_count_1 (x_tout5 c_1 c_2 c_3 c_4 c_5) (by decide) ?_
  refine x_ldc S lk_RX4_64 dX4_count_64 ?_
  exact x_reti S w hr hlk dX4_count_66 (show (-2000000001) = o_X4_count s f q from by simp only [o_X4_count, if_neg c_1, if_neg c_2, if_neg c_3, if_neg c_4, if_neg c_5]) (show xW cI cO a s f R = xW cI cO a s f R from rfl)
def o_X4_best (s : Nat → Int32) (f : Nat → Nat → Int32) (q : Int32) : Int32 := if (wIn q 0 1) = 0 then (-2000000001) else if (s 20) = 0 then (-2000000004) else if q = 0 then s 21 else s 22
set_option maxHeartbeats 4000000 in
set_option maxRecDepth 100000 in
theorem k_X4_best (l : Launch) (D : va_G) (cI cO : ClassId) (a : Nat → Nat) (R : va_W) (s : Nat → Int32) (f : Nat → Nat → Int32) (q : Int32) : Mi l yX4_best cX4_best 2 (some .int) { frames := 1, cells := 0, slots := 0, locals := 22 } D (kT cI cO) (xW cI cO a s f R) [.ref (a 0), .int q] (xW cI cO a s f R) (o_X4_best s f q) := by
  intro sz
  refine ent (by decide +kernel) (Nat.le_of_ble_eq_true rfl) ?_
  intro p e st m below meth c ls S hr hlk hnm w hsz hl
  have hl : lv_has ls 2 [(0, .ref (a 0)), (1, .int q)] := hl
  refine lv_iload_n S.1 S.2.1 dX4_best_0 rfl (lv_at hl 1 rfl) ?_
  refine lv_iconst (v := 0) S.1 S.2.1 dX4_best_1 (by decide) ?_
  refine lv_iconst (v := 1) S.1 S.2.1 dX4_best_2 (by decide) ?_
  refine x_Si (As := [.int q, .int 0, .int 1]) (rest := []) S w (goodS lk_RX4_60 lt_X4_isWithin ln_RX4 lc_X4_isWithin) hd_X4_isWithin (k_X4_isWithin l _ _ (xW cI cO a s f R) q 0 1) rfl ⟨(Nat.le_of_ble_eq_true rfl), (Nat.le_of_ble_eq_true rfl)⟩ ⟨rfl, rfl⟩ hl.1 rfl (Nat.le_of_ble_eq_true rfl) ⟨Nat.zero_le _, Nat.zero_le _⟩ dX4_best_3 (fun H locs (w : Wd D (kT cI cO) (va_A _ _) _ _ (xW cI cO a s f R) H locs) => ?_)
  refine lv_if_ne (tgt := 12) S.1 S.2.1 dX4_best_6 (by decide) (fun (c_1 : ¬ (wIn q 0 1) = 0) => ?_) (fun (c_1 : (wIn q 0 1) = 0) => ?_)
  · refine lv_aload_n S.1 S.2.1 dX4_best_12 rfl (lv_at hl 0 rfl) ?_
    refine xr_4 S w lk_RX4_33 dX4_best_13 ?_
    refine xg_20 S w lk_RX4_177 dX4_best_16 ?_
    refine lv_if_ne (tgt := 25) S.1 S.2.1 dX4_best_19 (by decide) (fun (c_2 : ¬ (s 20) = 0) => ?_) (fun (c_2 : (s 20) = 0) => ?_)
    · refine lv_iload_n S.1 S.2.1 dX4_best_25 rfl (lv_at hl 1 rfl) ?_
      refine lv_if_ne (tgt := 39) S.1 S.2.1 dX4_best_26 (by decide) (fun (c_3 : ¬ q = 0) => ?_) (fun (c_3 : q = 0) => ?_)
      · refine lv_aload_n S.1 S.2.1 dX4_best_39 rfl (lv_at hl 0 rfl) ?_
        refine xr_4 S w lk_RX4_33 dX4_best_40 ?_
        refine xg_22 S w lk_RX4_183 dX4_best_43 ?_
        exact x_reti S w hr hlk dX4_best_46 (show s 22 = o_X4_best s f q from by simp only [o_X4_best, if_neg c_1, if_neg c_2, if_neg c_3]) (show xW cI cO a s f R = xW cI cO a s f R from rfl)
      · refine lv_aload_n S.1 S.2.1 dX4_best_29 rfl (lv_at hl 0 rfl) ?_
        refine xr_4 S w lk_RX4_33 dX4_best_30 ?_
        refine xg_21 S w lk_RX4_180 dX4_best_33 ?_
        refine lv_goto (tgt := 46) S.1 S.2.1 dX4_best_36 (by decide) ?_
        exact x_reti S w hr hlk dX4_best_46 (show s 21 = o_X4_best s f q from by simp only [o_X4_best, if_neg c_1, if_neg c_2, if_pos c_3]) (show xW cI cO a s f R = xW cI cO a s f R from rfl)
    · refine x_ldc S lk_RX4_129 dX4_best_22 ?_
      exact x_reti S w hr hlk dX4_best_24 (show (-2000000004) = o_X4_best s f q from by simp only [o_X4_best, if_neg c_1, if_pos c_2]) (show xW cI cO a s f R = xW cI cO a s f R from rfl)
  · refine x_ldc S lk_RX4_64 dX4_best_9 ?_
    exact x_reti S w hr hlk dX4_best_11 (show (-2000000001) = o_X4_best s f q from by simp only [o_X4_best, if_pos c_1]) (show xW cI cO a s f R = xW cI cO a s f R from rfl)
def o_X4_bestInput (s : Nat → Int32) (f : Nat → Nat → Int32) (N : Nat) (k : Int32) : Int32 := if (wIn k 0 ((s 0) - 1)) = 0 then (-2000000001) else if (s 20) = 0 then (-2000000004) else (f 9) (Int32.toNatClampNeg k)
set_option maxHeartbeats 4000000 in
set_option maxRecDepth 100000 in
theorem k_X4_bestInput (l : Launch) (D : va_G) (cI cO : ClassId) (a : Nat → Nat) (R : va_W) (s : Nat → Int32) (f : Nat → Nat → Int32) (N : Nat) (k : Int32) (hN : s 0 = nI N) (h4 : 4 ≤ N) (h48 : N ≤ 48) : Mi l yX4_bestInput cX4_bestInput 2 (some .int) { frames := 2, cells := 0, slots := 0, locals := 43 } D (kT cI cO) (xW cI cO a s f R) [.ref (a 0), .int k] (xW cI cO a s f R) (o_X4_bestInput s f N k) := by
  intro sz
  refine ent (by decide +kernel) (Nat.le_of_ble_eq_true rfl) ?_
  intro p e st m below meth c ls S hr hlk hnm w hsz hl
  have hl : lv_has ls 2 [(0, .ref (a 0)), (1, .int k)] := hl
  refine lv_aload_n S.1 S.2.1 dX4_bestInput_0 rfl (lv_at hl 0 rfl) ?_
  refine lv_iload_n S.1 S.2.1 dX4_bestInput_1 rfl (lv_at hl 1 rfl) ?_
  refine x_Vi (As := [.int k]) (rest := []) S w (goodV lk_RX4_69 li_X4_isSample ls_X4_isSample ln_RX4 lc_X4_isSample) hV_X4_isSample (k_X4_isSample l D cI cO a R s f k) rfl 0 4 rfl rfl xc_0 ⟨(Nat.le_of_ble_eq_true rfl), (Nat.le_of_ble_eq_true rfl)⟩ ⟨rfl, rfl⟩ hl.1 rfl (Nat.le_of_ble_eq_true rfl) ⟨Nat.zero_le _, Nat.zero_le _⟩ dX4_bestInput_2 (fun H locs (w : Wd D (kT cI cO) (va_A _ _) _ _ (xW cI cO a s f R) H locs) => ?_)
  refine x_eqi (x := o_X4_isSample s f k) (y := wIn k 0 ((s 0) - 1)) rfl ?_
  refine lv_if_ne (tgt := 11) S.1 S.2.1 dX4_bestInput_5 (by decide) (fun (c_1 : ¬ (wIn k 0 ((s 0) - 1)) = 0) => ?_) (fun (c_1 : (wIn k 0 ((s 0) - 1)) = 0) => ?_)
  · have hj := wIn_j hN h4 h48 c_1
    refine lv_aload_n S.1 S.2.1 dX4_bestInput_11 rfl (lv_at hl 0 rfl) ?_
    refine xr_4 S w lk_RX4_33 dX4_bestInput_12 ?_
    refine xg_20 S w lk_RX4_177 dX4_bestInput_15 ?_
    refine lv_if_eq (tgt := 33) S.1 S.2.1 dX4_bestInput_18 (by decide) (fun (c_2 : (s 20) = 0) => ?_) (fun (c_2 : ¬ ((s 20) = 0)) => ?_)
    · refine x_ldc S lk_RX4_129 dX4_bestInput_33 ?_
      exact x_reti S w hr hlk dX4_bestInput_35 (show (-2000000004) = o_X4_bestInput s f N k from by simp only [o_X4_bestInput, if_neg c_1, if_pos c_2]) (show xW cI cO a s f R = xW cI cO a s f R from rfl)
    · refine lv_aload_n S.1 S.2.1 dX4_bestInput_21 rfl (lv_at hl 0 rfl) ?_
      refine xr_4 S w lk_RX4_33 dX4_bestInput_22 ?_
      refine xr_14 S w lk_RX4_186 dX4_bestInput_25 ?_
      refine lv_iload_n S.1 S.2.1 dX4_bestInput_28 rfl (lv_at hl 1 rfl) ?_
      refine x_iald S w 14 0 (g := f 9) (v := (f 9) (Int32.toNatClampNeg k)) (Int32.toNatClampNeg k) (by have := hj.1; omega) (hj.2) (Nat.le_of_ble_eq_true rfl) (xc_14) rfl (rfl) dX4_bestInput_29 ?_
      refine lv_goto (tgt := 35) S.1 S.2.1 dX4_bestInput_30 (by decide) ?_
      exact x_reti S w hr hlk dX4_bestInput_35 (show (f 9) (Int32.toNatClampNeg k) = o_X4_bestInput s f N k from by simp only [o_X4_bestInput, if_neg c_1, if_neg c_2]) (show xW cI cO a s f R = xW cI cO a s f R from rfl)
  · refine x_ldc S lk_RX4_64 dX4_bestInput_8 ?_
    exact x_reti S w hr hlk dX4_bestInput_10 (show (-2000000001) = o_X4_bestInput s f N k from by simp only [o_X4_bestInput, if_pos c_1]) (show xW cI cO a s f R = xW cI cO a s f R from rfl)
def o_X4_setPlant (s : Nat → Int32) (f : Nat → Nat → Int32) (k : Int32) (v : Int32) : Int32 × (Nat → Nat → Int32) := if (wIn k 0 5) = 0 then ((-2000000001), f) else if (wIn v (-3000) 3000) = 0 then ((-2000000001), f) else ((f 6) (Int32.toNatClampNeg k), va_up f 6 (upd (f 6) (Int32.toNatClampNeg k) v))
set_option maxHeartbeats 4000000 in
set_option maxRecDepth 100000 in
theorem k_X4_setPlant (l : Launch) (D : va_G) (cI cO : ClassId) (a : Nat → Nat) (R : va_W) (s : Nat → Int32) (f : Nat → Nat → Int32) (k : Int32) (v : Int32) : Mi l yX4_setPlant cX4_setPlant 4 (some .int) { frames := 1, cells := 0, slots := 0, locals := 22 } D (kT cI cO) (xW cI cO a s f R) [.ref (a 0), .int k, .int v] (xW cI cO a s ((o_X4_setPlant s f k v).2) R) ((o_X4_setPlant s f k v).1) := by
  intro sz
  refine ent (by decide +kernel) (Nat.le_of_ble_eq_true rfl) ?_
  intro p e st m below meth c ls S hr hlk hnm w hsz hl
  have hl : lv_has ls 4 [(0, .ref (a 0)), (1, .int k), (2, .int v)] := hl
  refine lv_iload_n S.1 S.2.1 dX4_setPlant_0 rfl (lv_at hl 1 rfl) ?_
  refine lv_iconst (v := 0) S.1 S.2.1 dX4_setPlant_1 (by decide) ?_
  refine lv_iconst (v := 5) S.1 S.2.1 dX4_setPlant_2 (by decide) ?_
  refine x_Si (As := [.int k, .int 0, .int 5]) (rest := []) S w (goodS lk_RX4_60 lt_X4_isWithin ln_RX4 lc_X4_isWithin) hd_X4_isWithin (k_X4_isWithin l _ _ (xW cI cO a s f R) k 0 5) rfl ⟨(Nat.le_of_ble_eq_true rfl), (Nat.le_of_ble_eq_true rfl)⟩ ⟨rfl, rfl⟩ hl.1 rfl (Nat.le_of_ble_eq_true rfl) ⟨Nat.zero_le _, Nat.zero_le _⟩ dX4_setPlant_3 (fun H locs (w : Wd D (kT cI cO) (va_A _ _) _ _ (xW cI cO a s f R) H locs) => ?_)
  refine lv_if_eq (tgt := 22) S.1 S.2.1 dX4_setPlant_6 (by decide) (fun (c_1 : (wIn k 0 5) = 0) => ?_) (fun (c_1 : ¬ ((wIn k 0 5) = 0)) => ?_)
  · refine x_ldc S lk_RX4_64 dX4_setPlant_22 ?_
    exact x_reti S w hr hlk dX4_setPlant_24 (show (-2000000001) = (o_X4_setPlant s f k v).1 from by simp only [o_X4_setPlant, if_pos c_1]) (show xW cI cO a s f R = xW cI cO a s ((o_X4_setPlant s f k v).2) R from by simp only [o_X4_setPlant, if_pos c_1])
  · have hj := wIn_ix (n := 5) (by decide) rfl c_1
    refine lv_iload_n S.1 S.2.1 dX4_setPlant_9 rfl (lv_at hl 2 rfl) ?_
    refine lv_sipush (v := (-3000)) S.1 S.2.1 dX4_setPlant_10 (by decide) ?_
    refine lv_sipush (v := 3000) S.1 S.2.1 dX4_setPlant_13 (by decide) ?_
    refine x_Si (As := [.int v, .int (-3000), .int 3000]) (rest := []) S w (goodS lk_RX4_60 lt_X4_isWithin ln_RX4 lc_X4_isWithin) hd_X4_isWithin (k_X4_isWithin l _ _ (xW cI cO a s f R) v (-3000) 3000) rfl ⟨(Nat.le_of_ble_eq_true rfl), (Nat.le_of_ble_eq_true rfl)⟩ ⟨rfl, rfl⟩ hl.1 rfl (Nat.le_of_ble_eq_true rfl) ⟨Nat.zero_le _, Nat.zero_le _⟩ dX4_setPlant_16 (fun H locs (w : Wd D (kT cI cO) (va_A _ _) _ _ (xW cI cO a s f R) H locs) => ?_)
    refine lv_if_ne (tgt := 25) S.1 S.2.1 dX4_setPlant_19 (by decide) (fun (c_2 : ¬ (wIn v (-3000) 3000) = 0) => ?_) (fun (c_2 : (wIn v (-3000) 3000) = 0) => ?_)
    · refine lv_aload_n S.1 S.2.1 dX4_setPlant_25 rfl (lv_at hl 0 rfl) ?_
      refine xr_2 S w lk_RX4_19 dX4_setPlant_26 ?_
      refine xr_11 S w lk_RX4_195 dX4_setPlant_29 ?_
      refine lv_iload_n S.1 S.2.1 dX4_setPlant_32 rfl (lv_at hl 1 rfl) ?_
      refine x_iald S w 11 0 (g := f 6) (v := (f 6) (Int32.toNatClampNeg k)) (Int32.toNatClampNeg k) (by have := hj.1; omega) (hj.2) (Nat.le_of_ble_eq_true rfl) (xc_11) rfl (rfl) dX4_setPlant_33 ?_
      refine lv_istore_n (lv' := [(3, .int ((f 6) (Int32.toNatClampNeg k))), (0, .ref (a 0)), (1, .int k), (2, .int v)]) S.1 S.2.1 dX4_setPlant_34 rfl hl (by decide) rfl (fun ls hl => ?_)
      refine lv_aload_n S.1 S.2.1 dX4_setPlant_35 rfl (lv_at hl 1 rfl) ?_
      refine xr_2 S w lk_RX4_19 dX4_setPlant_36 ?_
      refine xr_11 S w lk_RX4_195 dX4_setPlant_39 ?_
      refine lv_iload_n S.1 S.2.1 dX4_setPlant_42 rfl (lv_at hl 2 rfl) ?_
      refine lv_iload_n S.1 S.2.1 dX4_setPlant_43 rfl (lv_at hl 3 rfl) ?_
      refine x_iast S w 11 0 (g := f 6) (Int32.toNatClampNeg k) (by have := hj.1; omega) (hj.2) (Nat.le_of_ble_eq_true rfl) (xc_11) rfl (xs_6) dX4_setPlant_44 (fun H locs (w : Wd D (kT cI cO) (va_A _ _) _ _ (xW cI cO a s (va_up f 6 (upd (f 6) (Int32.toNatClampNeg k) v)) R) H locs) => ?_)
      refine lv_iload_n S.1 S.2.1 dX4_setPlant_45 rfl (lv_at hl 0 rfl) ?_
      exact x_reti S w hr hlk dX4_setPlant_46 (show (f 6) (Int32.toNatClampNeg k) = (o_X4_setPlant s f k v).1 from by simp only [o_X4_setPlant, if_neg c_1, if_neg c_2]) (show xW cI cO a s (va_up f 6 (upd (f 6) (Int32.toNatClampNeg k) v)) R = xW cI cO a s ((o_X4_setPlant s f k v).2) R from by simp only [o_X4_setPlant, if_neg c_1, if_neg c_2])
    · refine x_ldc S lk_RX4_64 dX4_setPlant_22 ?_
      exact x_reti S w hr hlk dX4_setPlant_24 (show (-2000000001) = (o_X4_setPlant s f k v).1 from by simp only [o_X4_setPlant, if_neg c_1, if_pos c_2]) (show xW cI cO a s f R = xW cI cO a s ((o_X4_setPlant s f k v).2) R from by simp only [o_X4_setPlant, if_neg c_1, if_pos c_2])
def o_X4_setDisturbance (s : Nat → Int32) (f : Nat → Nat → Int32) (g : Int32) (d : Int32) : Int32 × (Nat → Int32) := if (wIn g 0 1000) = 0 then ((-2000000001), s) else (s 17, upd (upd s 17 g) 18 d)
set_option maxHeartbeats 4000000 in
set_option maxRecDepth 100000 in
theorem k_X4_setDisturbance (l : Launch) (D : va_G) (cI cO : ClassId) (a : Nat → Nat) (R : va_W) (s : Nat → Int32) (f : Nat → Nat → Int32) (g : Int32) (d : Int32) : Mi l yX4_setDisturbance cX4_setDisturbance 4 (some .int) { frames := 1, cells := 0, slots := 0, locals := 22 } D (kT cI cO) (xW cI cO a s f R) [.ref (a 0), .int g, .int d] (xW cI cO a ((o_X4_setDisturbance s f g d).2) f R) ((o_X4_setDisturbance s f g d).1) := by
  intro sz
  refine ent (by decide +kernel) (Nat.le_of_ble_eq_true rfl) ?_
  intro p e st m below meth c ls S hr hlk hnm w hsz hl
  have hl : lv_has ls 4 [(0, .ref (a 0)), (1, .int g), (2, .int d)] := hl
  refine lv_iload_n S.1 S.2.1 dX4_setDisturbance_0 rfl (lv_at hl 1 rfl) ?_
  refine lv_iconst (v := 0) S.1 S.2.1 dX4_setDisturbance_1 (by decide) ?_
  refine lv_sipush (v := 1000) S.1 S.2.1 dX4_setDisturbance_2 (by decide) ?_
  refine x_Si (As := [.int g, .int 0, .int 1000]) (rest := []) S w (goodS lk_RX4_60 lt_X4_isWithin ln_RX4 lc_X4_isWithin) hd_X4_isWithin (k_X4_isWithin l _ _ (xW cI cO a s f R) g 0 1000) rfl ⟨(Nat.le_of_ble_eq_true rfl), (Nat.le_of_ble_eq_true rfl)⟩ ⟨rfl, rfl⟩ hl.1 rfl (Nat.le_of_ble_eq_true rfl) ⟨Nat.zero_le _, Nat.zero_le _⟩ dX4_setDisturbance_5 (fun H locs (w : Wd D (kT cI cO) (va_A _ _) _ _ (xW cI cO a s f R) H locs) => ?_)
  refine lv_if_ne (tgt := 14) S.1 S.2.1 dX4_setDisturbance_8 (by decide) (fun (c_1 : ¬ (wIn g 0 1000) = 0) => ?_) (fun (c_1 : (wIn g 0 1000) = 0) => ?_)
  · refine lv_aload_n S.1 S.2.1 dX4_setDisturbance_14 rfl (lv_at hl 0 rfl) ?_
    refine xr_2 S w lk_RX4_19 dX4_setDisturbance_15 ?_
    refine xg_17 S w lk_RX4_198 dX4_setDisturbance_18 ?_
    refine lv_istore_n (lv' := [(3, .int (s 17)), (0, .ref (a 0)), (1, .int g), (2, .int d)]) S.1 S.2.1 dX4_setDisturbance_21 rfl hl (by decide) rfl (fun ls hl => ?_)
    refine lv_aload_n S.1 S.2.1 dX4_setDisturbance_22 rfl (lv_at hl 1 rfl) ?_
    refine xr_2 S w lk_RX4_19 dX4_setDisturbance_23 ?_
    refine lv_iload_n S.1 S.2.1 dX4_setDisturbance_26 rfl (lv_at hl 2 rfl) ?_
    refine xp_17 S w lk_RX4_198 dX4_setDisturbance_27 (fun H locs (w : Wd D (kT cI cO) (va_A _ _) _ _ (xW cI cO a (upd s 17 g) f R) H locs) => ?_)
    refine lv_aload_n S.1 S.2.1 dX4_setDisturbance_30 rfl (lv_at hl 1 rfl) ?_
    refine xr_2 S w lk_RX4_19 dX4_setDisturbance_31 ?_
    refine lv_iload_n S.1 S.2.1 dX4_setDisturbance_34 rfl (lv_at hl 3 rfl) ?_
    refine xp_18 S w lk_RX4_201 dX4_setDisturbance_35 (fun H locs (w : Wd D (kT cI cO) (va_A _ _) _ _ (xW cI cO a (upd (upd s 17 g) 18 d) f R) H locs) => ?_)
    refine lv_iload_n S.1 S.2.1 dX4_setDisturbance_38 rfl (lv_at hl 0 rfl) ?_
    exact x_reti S w hr hlk dX4_setDisturbance_39 (show s 17 = (o_X4_setDisturbance s f g d).1 from by simp only [o_X4_setDisturbance, if_neg c_1]) (show xW cI cO a (upd (upd s 17 g) 18 d) f R = xW cI cO a ((o_X4_setDisturbance s f g d).2) f R from by simp only [o_X4_setDisturbance, if_neg c_1])
  · refine x_ldc S lk_RX4_64 dX4_setDisturbance_11 ?_
    exact x_reti S w hr hlk dX4_setDisturbance_13 (show (-2000000001) = (o_X4_setDisturbance s f g d).1 from by simp only [o_X4_setDisturbance, if_pos c_1]) (show xW cI cO a s f R = xW cI cO a ((o_X4_setDisturbance s f g d).2) f R from by simp only [o_X4_setDisturbance, if_pos c_1])
end
section
/-- the first i places by g, the others as they were -/
def pfx (i : Nat) (g h : Nat → Int32) : Nat → Int32 := fun k => if k < i then g k else h k
theorem pfx_0 (g h : Nat → Int32) : pfx 0 g h = h := funext fun k => if_neg (Nat.not_lt_zero k)
theorem pfx_lt {i k : Nat} (g h : Nat → Int32) (hk : k < i) : pfx i g h k = g k := if_pos hk
theorem pfx_ge {i k : Nat} (g h : Nat → Int32) (hk : i ≤ k) : pfx i g h k = h k := if_neg (Nat.not_lt.mpr hk)
theorem pfx_upd {i : Nat} {g h : Nat → Int32} {v : Int32} (hv : v = g i) : upd (pfx i g h) i v = pfx (i + 1) g h := by
  subst hv
  funext k
  unfold upd pfx
  by_cases h1 : k = i
  · subst h1; rw [if_pos rfl, if_pos (Nat.lt_succ_self _)]
  · rw [if_neg h1]
    by_cases h2 : k < i
    · rw [if_pos h2, if_pos (Nat.lt_succ_of_lt h2)]
    · rw [if_neg h2, if_neg (by omega)]
theorem va_uu {f : Nat → Nat → Int32} {j : Nat} {g h : Nat → Int32} : va_up (va_up f j g) j h = va_up f j h := bx_uu f j g h
theorem va_us {f : Nat → Nat → Int32} {j : Nat} {g : Nat → Int32} : va_up f j g j = g := if_pos rfl
theorem va_un {f : Nat → Nat → Int32} {i j : Nat} {g : Nat → Int32} (h : i ≠ j) : va_up f j g i = f i := if_neg h
theorem va_self {f : Nat → Nat → Int32} {j : Nat} : va_up f j (f j) = f := by
  funext k
  unfold va_up
  by_cases h : k = j
  · subst h; rw [if_pos rfl]
  · rw [if_neg h]
/-- a step of a loop that fills an array from its first place on -/
theorem va_step {f : Nat → Nat → Int32} {i j : Nat} {g h : Nat → Int32} {v : Int32} (hv : v = g i) : va_up (va_up f j (pfx i g h)) j (upd (va_up f j (pfx i g h) j) i v) = va_up f j (pfx (i + 1) g h) := by
  rw [va_uu, va_us, pfx_upd hv]
theorem va_step' {f : Nat → Nat → Int32} {i j : Nat} {g h : Nat → Int32} {v : Int32} (hv : v = g i) : va_up (va_up f j (pfx i g h)) j (upd (pfx i g h) i v) = va_up f j (pfx (i + 1) g h) := by
  rw [va_uu, pfx_upd hv]
theorem va_first {f : Nat → Nat → Int32} {j : Nat} {g : Nat → Int32} : va_up f j (pfx 0 g (f j)) = f := by rw [pfx_0, va_self]
theorem cpy_pfx {n : Nat} {g h h2 : Nat → Int32} : va_cpy (pfx n g h) h2 0 0 n = pfx n g h2 := by
  funext j
  by_cases hj : j < n
  · rw [sb_cpy0 hj, pfx_lt _ _ hj, pfx_lt _ _ hj]
  · rw [pk_cpy_out (Or.inr (by omega)), pfx_ge _ _ (by omega)]
theorem cpy_pfx2 {n : Nat} {g h2 : Nat → Int32} : va_cpy g h2 0 0 n = pfx n g h2 := by
  funext j
  by_cases hj : j < n
  · rw [sb_cpy0 hj, pfx_lt _ _ hj]
  · rw [pk_cpy_out (Or.inr (by omega)), pfx_ge _ _ (by omega)]
def sumL (g : Nat → Int64) : Nat → Int64
  | 0 => 0
  | n + 1 => sumL g n + g n
def sumI (g : Nat → Int32) : Nat → Int32
  | 0 => 0
  | n + 1 => sumI g n + g n
def itk {α : Type} (g : Nat → α → α) : Nat → α → α
  | 0, x => x
  | n + 1, x => g n (itk g n x)
/-- the place of the recorded output of index k: the first one for all below, the last one for all above -/
def rix (N : Nat) (k : Int32) : Nat := if k < 0 then 0 else if nI N ≤ k then N - 1 else Int32.toNatClampNeg k
theorem rix_lt {N : Nat} {k : Int32} (h4 : 4 ≤ N) (h48 : N ≤ 48) : rix N k < N := by
  unfold rix
  by_cases h1 : k < 0
  · rw [if_pos h1]; omega
  · rw [if_neg h1]
    by_cases h2 : nI N ≤ k
    · rw [if_pos h2]; omega
    · rw [if_neg h2]
      obtain ⟨j, hj, rfl⟩ := nI_of h1
      rw [nI_clamp hj]
      have := nI_leI (a := N) (b := j) (by omega) hj
      exact Nat.lt_of_not_le (fun z => h2 (this.mpr z))
theorem nI_0lt {j : Nat} (h0 : 0 < j) (hj : j < 2 ^ 31) : (0 : Int32) < nI j := nI_lt (a := 0) h0 hj
theorem rix_eq {N : Nat} {k : Int32} (h4 : 4 ≤ N) (h48 : N ≤ 48) : (if (0 : Int32) < (if k < nI (N - 1) then k else nI (N - 1)) then (if k < nI (N - 1) then k else nI (N - 1)) else 0) = nI (rix N k) := by
  unfold rix
  by_cases h1 : k < 0
  · have h3 : k < nI (N - 1) := Int32.lt_of_lt_of_le h1 (nI_pos' (by omega))
    have h2 : ¬ (0 : Int32) < k := Int32.not_lt.mpr (Int32.le_of_lt h1)
    rw [if_pos h1, if_pos h3, if_neg h2]; rfl
  · obtain ⟨j, hj, rfl⟩ := nI_of h1
    rw [if_neg h1]
    have e1 := nI_ltI (a := j) (b := N - 1) hj (by omega)
    have e2 := nI_leI (a := N) (b := j) (by omega) hj
    by_cases h2 : j < N - 1
    · rw [if_pos (e1.mpr h2), if_neg (show ¬ nI N ≤ nI j from fun z => by have := e2.mp z; omega), nI_clamp hj]
      by_cases h0 : j = 0
      · subst h0; rfl
      · rw [if_pos (nI_0lt (by omega) hj)]
    · rw [if_neg (show ¬ nI j < nI (N - 1) from fun z => h2 (e1.mp z)), if_pos (nI_0lt (j := N - 1) (by omega) (by omega))]
      by_cases h3 : N ≤ j
      · rw [if_pos (e2.mpr h3)]
      · rw [if_neg (show ¬ nI N ≤ nI j from fun z => h3 (e2.mp z)), nI_clamp hj]
        congr 1
        omega
theorem mx_eq {i : Nat} (h : i < 2 ^ 31) : (if (0 : Int32) < nI i - 1 then nI i - 1 else 0) = nI (i - 1) := by
  cases i with
  | zero => rfl
  | succ n =>
    rw [nI_pred]
    by_cases h0 : n = 0
    · subst h0; rfl
    · rw [if_pos (nI_0lt (j := n) (by omega) (by omega))]
      rfl
theorem mn_eq {x y : Nat} (hx : x < 2 ^ 31) (hy : y < 2 ^ 31) : (if nI y < nI x then nI y else nI x) = nI (min y x) := by
  by_cases h : y < x
  · rw [if_pos (nI_lt h hx), Nat.min_eq_left (by omega)]
  · rw [if_neg (nI_nlt (by omega) hy), Nat.min_eq_right (by omega)]
def cwt (fd : Int32) (b left : Nat) : Int32 := if fd = 0 then nI b else nI (min left b)
/-- the shift that fits best, of those up to n, the nearer first, of two the negative one -/
def bst (mis : Int32 → Int64) : Nat → Int32
  | 0 => 0
  | n + 1 => if mis (nI (n + 1)) < mis (if mis (-nI (n + 1)) < mis (bst mis n) then -nI (n + 1) else bst mis n) then nI (n + 1) else (if mis (-nI (n + 1)) < mis (bst mis n) then -nI (n + 1) else bst mis n)
theorem neg_le_nI {n : Nat} (h : n < 2 ^ 30) : ¬ nI n < -nI n := by
  rw [Int32.not_lt, Int32.le_iff_toInt_le, sb_negT (by omega), nI_toInt (by omega)]
  omega
theorem neg_2 (x : Int32) : -x + 2 * x = x := by
  have : (2 : Int32) * x = x + x := by rw [show (2 : Int32) = 1 + 1 from by decide, Int32.add_mul, Int32.one_mul]
  rw [this, ← Int32.add_assoc, Int32.add_left_neg, Int32.zero_add]
theorem tr_2 {n : Nat} (h : n < 2 ^ 20) (h0 : 0 < n) : nI n < nI n + 2 * nI n := by
  rw [show (2 : Int32) = nI 2 from rfl, pk_mul, nI_add]
  exact nI_lt (by omega) (by omega)
theorem slt_top {K : Nat} (h : K < 1000000) : nI (slt (nI (K + 1)) 0) = nI (K % 5) := by
  unfold slt
  rw [nI_clamp (by omega), show Int32.toNatClampNeg 0 = 0 from rfl]
  rfl
theorem x_f {cI cO : ClassId} {a : Nat → Nat} {s : Nat → Int32} {f f' : Nat → Nat → Int32} {R : va_W} (h : f = f') : xW cI cO a s f R = xW cI cO a s f' R := h ▸ rfl
theorem m_f {cI cO : ClassId} {a : Nat → Nat} {s : Nat → Int32} {f f' : Nat → Nat → Int32} {R : va_W} (h : f = f') : mW cI cO a s f R = mW cI cO a s f' R := h ▸ rfl
end
section
def o_J9_floorMod_7cf53 (X : Nat) : Int32 := nI (X % 5)
set_option maxHeartbeats 4000000 in
set_option maxRecDepth 100000 in
theorem k_J9_floorMod_7cf53 (l : Launch) (D : va_G) (tys : List (ClassId × FieldType)) (ws : va_W) (X : Nat) (hX : X < 2 ^ 31) : Mi l yJ9_floorMod_7cf53 cJ9_floorMod_7cf53 3 (some .int) { frames := 0, cells := 0, slots := 0, locals := 0 } D tys ws [.int (nI X), .int 5] ws (o_J9_floorMod_7cf53 X) := by
  intro sz
  refine ent (by decide +kernel) (Nat.le_of_ble_eq_true rfl) ?_
  intro p e st m below meth c ls S hr hlk hnm w hsz hl
  have hl : lv_has ls 3 [(0, .int (nI X)), (1, .int 5)] := hl
  refine lv_iload_n S.1 S.2.1 dJ9_floorMod_7cf53_0 rfl (lv_at hl 0 rfl) ?_
  refine lv_iload_n S.1 S.2.1 dJ9_floorMod_7cf53_1 rfl (lv_at hl 1 rfl) ?_
  refine lv_irem S.1 S.2.1 dJ9_floorMod_7cf53_2 (by decide) ?_
  refine x_eqi (x := (nI X) - (nI X) / 5 * 5) (y := nI (X % 5)) (pk_rem hX (by decide) (by decide)) ?_
  refine lv_istore_n (lv' := [(2, .int (nI (X % 5))), (0, .int (nI X)), (1, .int 5)]) S.1 S.2.1 dJ9_floorMod_7cf53_3 rfl hl (by decide) rfl (fun ls hl => ?_)
  refine lv_iload_n S.1 S.2.1 dJ9_floorMod_7cf53_4 rfl (lv_at hl 1 rfl) ?_
  refine lv_iload_n S.1 S.2.1 dJ9_floorMod_7cf53_5 rfl (lv_at hl 2 rfl) ?_
  refine lv_ixor S.1 S.2.1 dJ9_floorMod_7cf53_6 ?_
  refine lv_if_ge (tgt := 18) S.1 S.2.1 dJ9_floorMod_7cf53_7 (by decide) (fun _ => ?_) (fun z => absurd (xor_pos hX : 0 ≤ ((nI X) ^^^ 5)) z)
  refine lv_iload_n S.1 S.2.1 dJ9_floorMod_7cf53_18 rfl (lv_at hl 0 rfl) ?_
  exact x_reti S w hr hlk dJ9_floorMod_7cf53_19 (show nI (X % 5) = o_J9_floorMod_7cf53 X from by simp only [o_J9_floorMod_7cf53]) (show ws = ws from rfl)
def o_X1_slot (s : Nat → Int32) (f : Nat → Nat → Int32) (g : Int32) : Int32 := nI (slt (s 19) g)
set_option maxHeartbeats 4000000 in
set_option maxRecDepth 100000 in
theorem k_X1_slot (l : Launch) (D : va_G) (cI cO : ClassId) (a : Nat → Nat) (R : va_W) (s : Nat → Int32) (f : Nat → Nat → Int32) (K : Nat) (A : Nat) (g : Int32) (hK : s 19 = nI K) (hK2 : K < 1000000) (hA : g = nI A) (hlt : A < K) : Mi l yX1_slot cX1_slot 2 (some .int) { frames := 1, cells := 0, slots := 0, locals := 22 } D (kT cI cO) (xW cI cO a s f R) [.ref (a 3), .int g] (xW cI cO a s f R) (o_X1_slot s f g) := by
  intro sz
  refine ent (by decide +kernel) (Nat.le_of_ble_eq_true rfl) ?_
  intro p e st m below meth c ls S hr hlk hnm w hsz hl
  have hl : lv_has ls 2 [(0, .ref (a 3)), (1, .int g)] := hl
  refine lv_aload_n S.1 S.2.1 dX1_slot_0 rfl (lv_at hl 0 rfl) ?_
  refine xg_19 S w lk_RX1_23 dX1_slot_1 ?_
  refine x_eqi (x := s 19) (y := nI K) (hK) ?_
  refine lv_iconst (v := 1) S.1 S.2.1 dX1_slot_4 (by decide) ?_
  refine lv_isub S.1 S.2.1 dX1_slot_5 ?_
  refine x_eqi (x := (nI K) - 1) (y := nI (K - 1)) (pk_sub (b := 1) (by omega)) ?_
  refine lv_iload_n S.1 S.2.1 dX1_slot_6 rfl (lv_at hl 1 rfl) ?_
  refine lv_isub S.1 S.2.1 dX1_slot_7 ?_
  refine x_eqi (x := (nI (K - 1)) - g) (y := nI (K - 1 - A)) (by rw [hA]; exact pk_sub (by omega)) ?_
  refine lv_iconst (v := 5) S.1 S.2.1 dX1_slot_8 (by decide) ?_
  refine x_Si (As := [.int (nI (K - 1 - A)), .int 5]) (rest := []) S w (goodS lk_RX1_27 lt_J9_floorMod_7cf53 ln_RJ9 lc_J9_floorMod_7cf53) hd_J9_floorMod_7cf53 (k_J9_floorMod_7cf53 l _ _ (xW cI cO a s f R) (K - 1 - A) (by omega)) rfl ⟨(Nat.le_of_ble_eq_true rfl), (Nat.le_of_ble_eq_true rfl)⟩ ⟨rfl, rfl⟩ hl.1 rfl (Nat.le_of_ble_eq_true rfl) ⟨Nat.zero_le _, Nat.zero_le _⟩ dX1_slot_9 (fun H locs (w : Wd D (kT cI cO) (va_A _ _) _ _ (xW cI cO a s f R) H locs) => ?_)
  refine x_eqi (x := o_J9_floorMod_7cf53 (K - 1 - A)) (y := nI ((K - 1 - A) % 5)) rfl ?_
  refine x_eqi (x := nI ((K - 1 - A) % 5)) (y := nI (slt (s 19) g)) (slt_eq hK hK2 hA hlt) ?_
  exact x_reti S w hr hlk dX1_slot_12 (show nI (slt (s 19) g) = o_X1_slot s f g from by simp only [o_X1_slot]) (show xW cI cO a s f R = xW cI cO a s f R from rfl)
def o_X1_reaches (s : Nat → Int32) (f : Nat → Nat → Int32) (g : Int32) : Int32 := if (s 19) ≤ g then 0 else 1
set_option maxHeartbeats 4000000 in
set_option maxRecDepth 100000 in
theorem k_X1_reaches (l : Launch) (D : va_G) (cI cO : ClassId) (a : Nat → Nat) (R : va_W) (s : Nat → Int32) (f : Nat → Nat → Int32) (g : Int32) : Mi l yX1_reaches cX1_reaches 2 (some .boolean) { frames := 0, cells := 0, slots := 0, locals := 0 } D (kT cI cO) (xW cI cO a s f R) [.ref (a 3), .int g] (xW cI cO a s f R) (o_X1_reaches s f g) := by
  intro sz
  refine ent (by decide +kernel) (Nat.le_of_ble_eq_true rfl) ?_
  intro p e st m below meth c ls S hr hlk hnm w hsz hl
  have hl : lv_has ls 2 [(0, .ref (a 3)), (1, .int g)] := hl
  refine lv_iload_n S.1 S.2.1 dX1_reaches_0 rfl (lv_at hl 1 rfl) ?_
  refine lv_aload_n S.1 S.2.1 dX1_reaches_1 rfl (lv_at hl 0 rfl) ?_
  refine xg_19 S w lk_RX1_23 dX1_reaches_2 ?_
  refine lv_icmp_ge (tgt := 12) S.1 S.2.1 dX1_reaches_5 (by decide) (fun (c_1 : (s 19) ≤ g) => ?_) (fun (c_1 : ¬ ((s 19) ≤ g)) => ?_)
  · refine lv_iconst (v := 0) S.1 S.2.1 dX1_reaches_12 (by decide) ?_
    exact x_retz S w hr hlk dX1_reaches_13 (Or.inl rfl) (show 0 = o_X1_reaches s f g from by simp only [o_X1_reaches, if_pos c_1]) (show xW cI cO a s f R = xW cI cO a s f R from rfl)
  · refine lv_iconst (v := 1) S.1 S.2.1 dX1_reaches_8 (by decide) ?_
    refine lv_goto (tgt := 13) S.1 S.2.1 dX1_reaches_9 (by decide) ?_
    exact x_retz S w hr hlk dX1_reaches_13 (Or.inr rfl) (show 1 = o_X1_reaches s f g from by simp only [o_X1_reaches, if_neg c_1]) (show xW cI cO a s f R = xW cI cO a s f R from rfl)
set_option maxHeartbeats 4000000 in
set_option maxRecDepth 100000 in
theorem k_X1_errorsOf (l : Launch) (D : va_G) (cI cO : ClassId) (a : Nat → Nat) (R : va_W) (s : Nat → Int32) (f : Nat → Nat → Int32) (K : Nat) (A : Nat) (g : Int32) (hK : s 19 = nI K) (hK2 : K < 1000000) (hA : g = nI A) (hlt : A < K) : Mr l yX1_errorsOf cX1_errorsOf 2 (some (.array .int)) { frames := 2, cells := 0, slots := 0, locals := 43 } D (kT cI cO) (xW cI cO a s f R) [.ref (a 3), .int g] (xW cI cO a s f R) (a (16 + (slt (s 19) g))) := by
  intro sz
  refine ent (by decide +kernel) (Nat.le_of_ble_eq_true rfl) ?_
  intro p e st m below meth c ls S hr hlk hnm w hsz hl
  have hl : lv_has ls 2 [(0, .ref (a 3)), (1, .int g)] := hl
  refine lv_aload_n S.1 S.2.1 dX1_errorsOf_0 rfl (lv_at hl 0 rfl) ?_
  refine xr_15 S w lk_RX1_13 dX1_errorsOf_1 ?_
  refine lv_aload_n S.1 S.2.1 dX1_errorsOf_4 rfl (lv_at hl 0 rfl) ?_
  refine lv_iload_n S.1 S.2.1 dX1_errorsOf_5 rfl (lv_at hl 1 rfl) ?_
  refine x_Vi (As := [.int g]) (rest := [.ref (a 15)]) S w (goodV lk_RX1_33 li_X1_slot ls_X1_slot ln_RX1 lc_X1_slot) hV_X1_slot (k_X1_slot l D cI cO a R s f K A g hK hK2 hA hlt) rfl 3 1 rfl rfl xc_3 ⟨(Nat.le_of_ble_eq_true rfl), (Nat.le_of_ble_eq_true rfl)⟩ ⟨rfl, rfl⟩ hl.1 rfl (Nat.le_of_ble_eq_true rfl) ⟨Nat.zero_le _, Nat.zero_le _⟩ dX1_errorsOf_6 (fun H locs (w : Wd D (kT cI cO) (va_A _ _) _ _ (xW cI cO a s f R) H locs) => ?_)
  refine x_eqi (x := o_X1_slot s f g) (y := nI (slt (s 19) g)) rfl ?_
  refine x_aald S w 15 1 (v := a (16 + (slt (s 19) g))) (slt (s 19) g) (slt_lt _ _) (rfl) (Nat.le_of_ble_eq_true rfl) xc_15 rfl (if_pos (slt_lt _ _)) dX1_errorsOf_9 ?_
  exact x_reta S w hr hlk dX1_errorsOf_10 rfl rfl
def o_X1_hasGrown (s : Nat → Int32) (f : Nat → Nat → Int32) (K : Nat) (k : Int32) : Int32 := if (nI K) < 2 then 0 else if (iabs ((f (10 + (slt (s 19) 0))) (Int32.toNatClampNeg k))) ≤ (iabs ((f (10 + (slt (s 19) 1))) (Int32.toNatClampNeg k))) then 0 else 1
set_option maxHeartbeats 4000000 in
set_option maxRecDepth 100000 in
theorem k_X1_hasGrown (l : Launch) (D : va_G) (cI cO : ClassId) (a : Nat → Nat) (R : va_W) (s : Nat → Int32) (f : Nat → Nat → Int32) (N : Nat) (K : Nat) (k : Int32) (hK : s 19 = nI K) (hK2 : K < 1000000) (h48 : N ≤ 48) (hj : Int32.toNatClampNeg k < N ∧ k = nI (Int32.toNatClampNeg k)) : Mi l yX1_hasGrown cX1_hasGrown 2 (some .boolean) { frames := 3, cells := 0, slots := 0, locals := 64 } D (kT cI cO) (xW cI cO a s f R) [.ref (a 3), .int k] (xW cI cO a s f R) (o_X1_hasGrown s f K k) := by
  intro sz
  refine ent (by decide +kernel) (Nat.le_of_ble_eq_true rfl) ?_
  intro p e st m below meth c ls S hr hlk hnm w hsz hl
  have hl : lv_has ls 2 [(0, .ref (a 3)), (1, .int k)] := hl
  refine lv_aload_n S.1 S.2.1 dX1_hasGrown_0 rfl (lv_at hl 0 rfl) ?_
  refine xg_19 S w lk_RX1_23 dX1_hasGrown_1 ?_
  refine x_eqi (x := s 19) (y := nI K) (hK) ?_
  refine lv_iconst (v := 2) S.1 S.2.1 dX1_hasGrown_4 (by decide) ?_
  refine lv_icmp_lt (tgt := 35) S.1 S.2.1 dX1_hasGrown_5 (by decide) (fun (c_1 : (nI K) < 2) => ?_) (fun (c_1 : ¬ ((nI K) < 2)) => ?_)
  · refine lv_iconst (v := 0) S.1 S.2.1 dX1_hasGrown_35 (by decide) ?_
    exact x_retz S w hr hlk dX1_hasGrown_36 (Or.inl rfl) (show 0 = o_X1_hasGrown s f K k from by simp only [o_X1_hasGrown, if_pos c_1]) (show xW cI cO a s f R = xW cI cO a s f R from rfl)
  · have h2 : 2 ≤ K := Nat.le_of_not_lt (fun z => c_1 (nI_lt (b := 2) z (by decide)))
    refine lv_aload_n S.1 S.2.1 dX1_hasGrown_8 rfl (lv_at hl 0 rfl) ?_
    refine lv_iconst (v := 0) S.1 S.2.1 dX1_hasGrown_9 (by decide) ?_
    refine x_Vr (As := [.int 0]) (rest := []) S w (goodV lk_RX1_40 li_X1_errorsOf ls_X1_errorsOf ln_RX1 lc_X1_errorsOf) hV_X1_errorsOf (k_X1_errorsOf l D cI cO a R s f K 0 0 hK hK2 rfl (by omega)) rfl 3 1 rfl rfl xc_3 ⟨(Nat.le_of_ble_eq_true rfl), (Nat.le_of_ble_eq_true rfl)⟩ ⟨rfl, rfl⟩ hl.1 rfl (Nat.le_of_ble_eq_true rfl) ⟨Nat.zero_le _, Nat.zero_le _⟩ dX1_hasGrown_10 (fun H locs (w : Wd D (kT cI cO) (va_A _ _) _ _ (xW cI cO a s f R) H locs) => ?_)
    refine lv_iload_n S.1 S.2.1 dX1_hasGrown_13 rfl (lv_at hl 1 rfl) ?_
    refine x_iald S w (16 + (slt (s 19) 0)) 0 (g := f (10 + (slt (s 19) 0))) (v := (f (10 + (slt (s 19) 0))) (Int32.toNatClampNeg k)) (Int32.toNatClampNeg k) (by have := hj.1; omega) (hj.2) (Nat.le_of_ble_eq_true rfl) (x_row (by first | exact slt_lt _ _ | omega)) rfl (rfl) dX1_hasGrown_14 ?_
    refine x_mabs S lk_RX1_37 hl.1 (Nat.le_of_ble_eq_true rfl) (Nat.le_of_ble_eq_true rfl) (Nat.zero_le _) (Nat.zero_le _) dX1_hasGrown_15 ?_
    refine lv_aload_n S.1 S.2.1 dX1_hasGrown_18 rfl (lv_at hl 0 rfl) ?_
    refine lv_iconst (v := 1) S.1 S.2.1 dX1_hasGrown_19 (by decide) ?_
    refine x_Vr (As := [.int 1]) (rest := [.int (iabs ((f (10 + (slt (s 19) 0))) (Int32.toNatClampNeg k)))]) S w (goodV lk_RX1_40 li_X1_errorsOf ls_X1_errorsOf ln_RX1 lc_X1_errorsOf) hV_X1_errorsOf (k_X1_errorsOf l D cI cO a R s f K 1 1 hK hK2 rfl (by omega)) rfl 3 1 rfl rfl xc_3 ⟨(Nat.le_of_ble_eq_true rfl), (Nat.le_of_ble_eq_true rfl)⟩ ⟨rfl, rfl⟩ hl.1 rfl (Nat.le_of_ble_eq_true rfl) ⟨Nat.zero_le _, Nat.zero_le _⟩ dX1_hasGrown_20 (fun H locs (w : Wd D (kT cI cO) (va_A _ _) _ _ (xW cI cO a s f R) H locs) => ?_)
    refine lv_iload_n S.1 S.2.1 dX1_hasGrown_23 rfl (lv_at hl 1 rfl) ?_
    refine x_iald S w (16 + (slt (s 19) 1)) 0 (g := f (10 + (slt (s 19) 1))) (v := (f (10 + (slt (s 19) 1))) (Int32.toNatClampNeg k)) (Int32.toNatClampNeg k) (by have := hj.1; omega) (hj.2) (Nat.le_of_ble_eq_true rfl) (x_row (by first | exact slt_lt _ _ | omega)) rfl (rfl) dX1_hasGrown_24 ?_
    refine x_mabs S lk_RX1_37 hl.1 (Nat.le_of_ble_eq_true rfl) (Nat.le_of_ble_eq_true rfl) (Nat.zero_le _) (Nat.zero_le _) dX1_hasGrown_25 ?_
    refine lv_icmp_le (tgt := 35) S.1 S.2.1 dX1_hasGrown_28 (by decide) (fun (c_2 : (iabs ((f (10 + (slt (s 19) 0))) (Int32.toNatClampNeg k))) ≤ (iabs ((f (10 + (slt (s 19) 1))) (Int32.toNatClampNeg k)))) => ?_) (fun (c_2 : ¬ ((iabs ((f (10 + (slt (s 19) 0))) (Int32.toNatClampNeg k))) ≤ (iabs ((f (10 + (slt (s 19) 1))) (Int32.toNatClampNeg k))))) => ?_)
    · refine lv_iconst (v := 0) S.1 S.2.1 dX1_hasGrown_35 (by decide) ?_
      exact x_retz S w hr hlk dX1_hasGrown_36 (Or.inl rfl) (show 0 = o_X1_hasGrown s f K k from by simp only [o_X1_hasGrown, if_neg c_1, if_pos c_2]) (show xW cI cO a s f R = xW cI cO a s f R from rfl)
    · refine lv_iconst (v := 1) S.1 S.2.1 dX1_hasGrown_31 (by decide) ?_
      refine lv_goto (tgt := 36) S.1 S.2.1 dX1_hasGrown_32 (by decide) ?_
      exact x_retz S w hr hlk dX1_hasGrown_36 (Or.inr rfl) (show 1 = o_X1_hasGrown s f K k from by simp only [o_X1_hasGrown, if_neg c_1, if_neg c_2]) (show xW cI cO a s f R = xW cI cO a s f R from rfl)
theorem rch_lt {s : Nat → Int32} {f : Nat → Nat → Int32} {g : Int32} {K A : Nat} (hK : s 19 = nI K) (hK2 : K < 1000000) (hA : g = nI A) (hA2 : A < 100) (h : ¬ o_X1_reaches s f g = 0) : A < K := by
  unfold o_X1_reaches at h
  rw [hK, hA] at h
  by_cases h1 : nI K ≤ nI A
  · exact absurd (if_pos h1) h
  · exact Nat.lt_of_not_le (fun z => h1 (nI_le z (by omega)))
def o_X4_error (s : Nat → Int32) (f : Nat → Nat → Int32) (k : Int32) (g : Int32) : Int32 := if (wIn k 0 ((s 0) - 1)) = 0 then (-2000000001) else if (wIn g 0 4) = 0 then (-2000000001) else if (o_X1_reaches s f g) = 0 then (-2000000004) else (f (10 + (slt (s 19) g))) (Int32.toNatClampNeg k)
set_option maxHeartbeats 4000000 in
set_option maxRecDepth 100000 in
theorem k_X4_error (l : Launch) (D : va_G) (cI cO : ClassId) (a : Nat → Nat) (R : va_W) (s : Nat → Int32) (f : Nat → Nat → Int32) (N : Nat) (K : Nat) (k : Int32) (g : Int32) (hN : s 0 = nI N) (h4 : 4 ≤ N) (h48 : N ≤ 48) (hK : s 19 = nI K) (hK2 : K < 1000000) : Mi l yX4_error cX4_error 3 (some .int) { frames := 3, cells := 0, slots := 0, locals := 64 } D (kT cI cO) (xW cI cO a s f R) [.ref (a 0), .int k, .int g] (xW cI cO a s f R) (o_X4_error s f k g) := by
  intro sz
  refine ent (by decide +kernel) (Nat.le_of_ble_eq_true rfl) ?_
  intro p e st m below meth c ls S hr hlk hnm w hsz hl
  have hl : lv_has ls 3 [(0, .ref (a 0)), (1, .int k), (2, .int g)] := hl
  refine lv_aload_n S.1 S.2.1 dX4_error_0 rfl (lv_at hl 0 rfl) ?_
  refine lv_iload_n S.1 S.2.1 dX4_error_1 rfl (lv_at hl 1 rfl) ?_
  refine x_Vi (As := [.int k]) (rest := []) S w (goodV lk_RX4_69 li_X4_isSample ls_X4_isSample ln_RX4 lc_X4_isSample) hV_X4_isSample (k_X4_isSample l D cI cO a R s f k) rfl 0 4 rfl rfl xc_0 ⟨(Nat.le_of_ble_eq_true rfl), (Nat.le_of_ble_eq_true rfl)⟩ ⟨rfl, rfl⟩ hl.1 rfl (Nat.le_of_ble_eq_true rfl) ⟨Nat.zero_le _, Nat.zero_le _⟩ dX4_error_2 (fun H locs (w : Wd D (kT cI cO) (va_A _ _) _ _ (xW cI cO a s f R) H locs) => ?_)
  refine x_eqi (x := o_X4_isSample s f k) (y := wIn k 0 ((s 0) - 1)) rfl ?_
  refine lv_if_eq (tgt := 15) S.1 S.2.1 dX4_error_5 (by decide) (fun (c_1 : (wIn k 0 ((s 0) - 1)) = 0) => ?_) (fun (c_1 : ¬ ((wIn k 0 ((s 0) - 1)) = 0)) => ?_)
  · refine x_ldc S lk_RX4_64 dX4_error_15 ?_
    exact x_reti S w hr hlk dX4_error_17 (show (-2000000001) = o_X4_error s f k g from by simp only [o_X4_error, if_pos c_1]) (show xW cI cO a s f R = xW cI cO a s f R from rfl)
  · have hj := wIn_j hN h4 h48 c_1
    refine lv_iload_n S.1 S.2.1 dX4_error_8 rfl (lv_at hl 2 rfl) ?_
    refine x_Si (As := [.int g]) (rest := []) S w (goodS lk_RX4_145 lt_X4_isAge ln_RX4 lc_X4_isAge) hd_X4_isAge (k_X4_isAge l _ _ (xW cI cO a s f R) g) rfl ⟨(Nat.le_of_ble_eq_true rfl), (Nat.le_of_ble_eq_true rfl)⟩ ⟨rfl, rfl⟩ hl.1 rfl (Nat.le_of_ble_eq_true rfl) ⟨Nat.zero_le _, Nat.zero_le _⟩ dX4_error_9 (fun H locs (w : Wd D (kT cI cO) (va_A _ _) _ _ (xW cI cO a s f R) H locs) => ?_)
    refine x_eqi (x := o_X4_isAge g) (y := wIn g 0 4) rfl ?_
    refine lv_if_ne (tgt := 18) S.1 S.2.1 dX4_error_12 (by decide) (fun (c_2 : ¬ (wIn g 0 4) = 0) => ?_) (fun (c_2 : (wIn g 0 4) = 0) => ?_)
    · have hg := wIn_ix (n := 4) (by decide) rfl c_2
      refine lv_aload_n S.1 S.2.1 dX4_error_18 rfl (lv_at hl 0 rfl) ?_
      refine xr_3 S w lk_RX4_26 dX4_error_19 ?_
      refine lv_iload_n S.1 S.2.1 dX4_error_22 rfl (lv_at hl 2 rfl) ?_
      refine x_Vi (As := [.int g]) (rest := []) S w (goodV lk_RX4_148 li_X1_reaches ls_X1_reaches ln_RX1 lc_X1_reaches) hV_X1_reaches (k_X1_reaches l D cI cO a R s f g) rfl 3 1 rfl rfl xc_3 ⟨(Nat.le_of_ble_eq_true rfl), (Nat.le_of_ble_eq_true rfl)⟩ ⟨rfl, rfl⟩ hl.1 rfl (Nat.le_of_ble_eq_true rfl) ⟨Nat.zero_le _, Nat.zero_le _⟩ dX4_error_23 (fun H locs (w : Wd D (kT cI cO) (va_A _ _) _ _ (xW cI cO a s f R) H locs) => ?_)
      refine lv_if_eq (tgt := 42) S.1 S.2.1 dX4_error_26 (by decide) (fun (c_3 : (o_X1_reaches s f g) = 0) => ?_) (fun (c_3 : ¬ ((o_X1_reaches s f g) = 0)) => ?_)
      · refine x_ldc S lk_RX4_129 dX4_error_42 ?_
        exact x_reti S w hr hlk dX4_error_44 (show (-2000000004) = o_X4_error s f k g from by simp only [o_X4_error, if_neg c_1, if_neg c_2, if_pos c_3]) (show xW cI cO a s f R = xW cI cO a s f R from rfl)
      · have hlt := rch_lt hK hK2 hg.2 (by have := hg.1; omega) c_3
        refine lv_aload_n S.1 S.2.1 dX4_error_29 rfl (lv_at hl 0 rfl) ?_
        refine xr_3 S w lk_RX4_26 dX4_error_30 ?_
        refine lv_iload_n S.1 S.2.1 dX4_error_33 rfl (lv_at hl 2 rfl) ?_
        refine x_Vr (As := [.int g]) (rest := []) S w (goodV lk_RX4_151 li_X1_errorsOf ls_X1_errorsOf ln_RX1 lc_X1_errorsOf) hV_X1_errorsOf (k_X1_errorsOf l D cI cO a R s f K (Int32.toNatClampNeg g) g hK hK2 hg.2 hlt) rfl 3 1 rfl rfl xc_3 ⟨(Nat.le_of_ble_eq_true rfl), (Nat.le_of_ble_eq_true rfl)⟩ ⟨rfl, rfl⟩ hl.1 rfl (Nat.le_of_ble_eq_true rfl) ⟨Nat.zero_le _, Nat.zero_le _⟩ dX4_error_34 (fun H locs (w : Wd D (kT cI cO) (va_A _ _) _ _ (xW cI cO a s f R) H locs) => ?_)
        refine lv_iload_n S.1 S.2.1 dX4_error_37 rfl (lv_at hl 1 rfl) ?_
        refine x_iald S w (16 + (slt (s 19) g)) 0 (g := f (10 + (slt (s 19) g))) (v := (f (10 + (slt (s 19) g))) (Int32.toNatClampNeg k)) (Int32.toNatClampNeg k) (by have := hj.1; omega) (hj.2) (Nat.le_of_ble_eq_true rfl) (x_row (by first | exact slt_lt _ _ | omega)) rfl (rfl) dX4_error_38 ?_
        refine lv_goto (tgt := 44) S.1 S.2.1 dX4_error_39 (by decide) ?_
        exact x_reti S w hr hlk dX4_error_44 (show (f (10 + (slt (s 19) g))) (Int32.toNatClampNeg k) = o_X4_error s f k g from by simp only [o_X4_error, if_neg c_1, if_neg c_2, if_neg c_3]) (show xW cI cO a s f R = xW cI cO a s f R from rfl)
    · refine x_ldc S lk_RX4_64 dX4_error_15 ?_
      exact x_reti S w hr hlk dX4_error_17 (show (-2000000001) = o_X4_error s f k g from by simp only [o_X4_error, if_neg c_1, if_pos c_2]) (show xW cI cO a s f R = xW cI cO a s f R from rfl)
def o_X4_norm (s : Nat → Int32) (f : Nat → Nat → Int32) (g : Int32) : Int32 := if (wIn g 0 4) = 0 then (-2000000001) else if (o_X1_reaches s f g) = 0 then (-2000000004) else (f 7) (slt (s 19) g)
set_option maxHeartbeats 4000000 in
set_option maxRecDepth 100000 in
theorem k_X4_norm (l : Launch) (D : va_G) (cI cO : ClassId) (a : Nat → Nat) (R : va_W) (s : Nat → Int32) (f : Nat → Nat → Int32) (K : Nat) (g : Int32) (hK : s 19 = nI K) (hK2 : K < 1000000) : Mi l yX4_norm cX4_norm 2 (some .int) { frames := 2, cells := 0, slots := 0, locals := 43 } D (kT cI cO) (xW cI cO a s f R) [.ref (a 0), .int g] (xW cI cO a s f R) (o_X4_norm s f g) := by
  intro sz
  refine ent (by decide +kernel) (Nat.le_of_ble_eq_true rfl) ?_
  intro p e st m below meth c ls S hr hlk hnm w hsz hl
  have hl : lv_has ls 2 [(0, .ref (a 0)), (1, .int g)] := hl
  refine lv_iload_n S.1 S.2.1 dX4_norm_0 rfl (lv_at hl 1 rfl) ?_
  refine x_Si (As := [.int g]) (rest := []) S w (goodS lk_RX4_145 lt_X4_isAge ln_RX4 lc_X4_isAge) hd_X4_isAge (k_X4_isAge l _ _ (xW cI cO a s f R) g) rfl ⟨(Nat.le_of_ble_eq_true rfl), (Nat.le_of_ble_eq_true rfl)⟩ ⟨rfl, rfl⟩ hl.1 rfl (Nat.le_of_ble_eq_true rfl) ⟨Nat.zero_le _, Nat.zero_le _⟩ dX4_norm_1 (fun H locs (w : Wd D (kT cI cO) (va_A _ _) _ _ (xW cI cO a s f R) H locs) => ?_)
  refine x_eqi (x := o_X4_isAge g) (y := wIn g 0 4) rfl ?_
  refine lv_if_ne (tgt := 10) S.1 S.2.1 dX4_norm_4 (by decide) (fun (c_1 : ¬ (wIn g 0 4) = 0) => ?_) (fun (c_1 : (wIn g 0 4) = 0) => ?_)
  · have hg := wIn_ix (n := 4) (by decide) rfl c_1
    refine lv_aload_n S.1 S.2.1 dX4_norm_10 rfl (lv_at hl 0 rfl) ?_
    refine xr_3 S w lk_RX4_26 dX4_norm_11 ?_
    refine lv_iload_n S.1 S.2.1 dX4_norm_14 rfl (lv_at hl 1 rfl) ?_
    refine x_Vi (As := [.int g]) (rest := []) S w (goodV lk_RX4_148 li_X1_reaches ls_X1_reaches ln_RX1 lc_X1_reaches) hV_X1_reaches (k_X1_reaches l D cI cO a R s f g) rfl 3 1 rfl rfl xc_3 ⟨(Nat.le_of_ble_eq_true rfl), (Nat.le_of_ble_eq_true rfl)⟩ ⟨rfl, rfl⟩ hl.1 rfl (Nat.le_of_ble_eq_true rfl) ⟨Nat.zero_le _, Nat.zero_le _⟩ dX4_norm_15 (fun H locs (w : Wd D (kT cI cO) (va_A _ _) _ _ (xW cI cO a s f R) H locs) => ?_)
    refine lv_if_eq (tgt := 40) S.1 S.2.1 dX4_norm_18 (by decide) (fun (c_2 : (o_X1_reaches s f g) = 0) => ?_) (fun (c_2 : ¬ ((o_X1_reaches s f g) = 0)) => ?_)
    · refine x_ldc S lk_RX4_129 dX4_norm_40 ?_
      exact x_reti S w hr hlk dX4_norm_42 (show (-2000000004) = o_X4_norm s f g from by simp only [o_X4_norm, if_neg c_1, if_pos c_2]) (show xW cI cO a s f R = xW cI cO a s f R from rfl)
    · have hlt := rch_lt hK hK2 hg.2 (by have := hg.1; omega) c_2
      refine lv_aload_n S.1 S.2.1 dX4_norm_21 rfl (lv_at hl 0 rfl) ?_
      refine xr_3 S w lk_RX4_26 dX4_norm_22 ?_
      refine xr_12 S w lk_RX4_155 dX4_norm_25 ?_
      refine lv_aload_n S.1 S.2.1 dX4_norm_28 rfl (lv_at hl 0 rfl) ?_
      refine xr_3 S w lk_RX4_26 dX4_norm_29 ?_
      refine lv_iload_n S.1 S.2.1 dX4_norm_32 rfl (lv_at hl 1 rfl) ?_
      refine x_Vi (As := [.int g]) (rest := [.ref (a 12)]) S w (goodV lk_RX4_158 li_X1_slot ls_X1_slot ln_RX1 lc_X1_slot) hV_X1_slot (k_X1_slot l D cI cO a R s f K (Int32.toNatClampNeg g) g hK hK2 hg.2 hlt) rfl 3 1 rfl rfl xc_3 ⟨(Nat.le_of_ble_eq_true rfl), (Nat.le_of_ble_eq_true rfl)⟩ ⟨rfl, rfl⟩ hl.1 rfl (Nat.le_of_ble_eq_true rfl) ⟨Nat.zero_le _, Nat.zero_le _⟩ dX4_norm_33 (fun H locs (w : Wd D (kT cI cO) (va_A _ _) _ _ (xW cI cO a s f R) H locs) => ?_)
      refine x_eqi (x := o_X1_slot s f g) (y := nI (slt (s 19) g)) rfl ?_
      refine x_iald S w 12 0 (g := f 7) (v := (f 7) (slt (s 19) g)) (slt (s 19) g) (slt_lt _ _) (rfl) (Nat.le_of_ble_eq_true rfl) (xc_12) rfl (rfl) dX4_norm_36 ?_
      refine lv_goto (tgt := 42) S.1 S.2.1 dX4_norm_37 (by decide) ?_
      exact x_reti S w hr hlk dX4_norm_42 (show (f 7) (slt (s 19) g) = o_X4_norm s f g from by simp only [o_X4_norm, if_neg c_1, if_neg c_2]) (show xW cI cO a s f R = xW cI cO a s f R from rfl)
  · refine x_ldc S lk_RX4_64 dX4_norm_7 ?_
    exact x_reti S w hr hlk dX4_norm_9 (show (-2000000001) = o_X4_norm s f g from by simp only [o_X4_norm, if_pos c_1]) (show xW cI cO a s f R = xW cI cO a s f R from rfl)
def o_X4_shift (s : Nat → Int32) (f : Nat → Nat → Int32) (g : Int32) : Int32 := if (wIn g 0 4) = 0 then (-2000000001) else if (o_X1_reaches s f g) = 0 then (-2000000004) else (f 8) (slt (s 19) g)
set_option maxHeartbeats 4000000 in
set_option maxRecDepth 100000 in
theorem k_X4_shift (l : Launch) (D : va_G) (cI cO : ClassId) (a : Nat → Nat) (R : va_W) (s : Nat → Int32) (f : Nat → Nat → Int32) (K : Nat) (g : Int32) (hK : s 19 = nI K) (hK2 : K < 1000000) : Mi l yX4_shift cX4_shift 2 (some .int) { frames := 2, cells := 0, slots := 0, locals := 43 } D (kT cI cO) (xW cI cO a s f R) [.ref (a 0), .int g] (xW cI cO a s f R) (o_X4_shift s f g) := by
  intro sz
  refine ent (by decide +kernel) (Nat.le_of_ble_eq_true rfl) ?_
  intro p e st m below meth c ls S hr hlk hnm w hsz hl
  have hl : lv_has ls 2 [(0, .ref (a 0)), (1, .int g)] := hl
  refine lv_iload_n S.1 S.2.1 dX4_shift_0 rfl (lv_at hl 1 rfl) ?_
  refine x_Si (As := [.int g]) (rest := []) S w (goodS lk_RX4_145 lt_X4_isAge ln_RX4 lc_X4_isAge) hd_X4_isAge (k_X4_isAge l _ _ (xW cI cO a s f R) g) rfl ⟨(Nat.le_of_ble_eq_true rfl), (Nat.le_of_ble_eq_true rfl)⟩ ⟨rfl, rfl⟩ hl.1 rfl (Nat.le_of_ble_eq_true rfl) ⟨Nat.zero_le _, Nat.zero_le _⟩ dX4_shift_1 (fun H locs (w : Wd D (kT cI cO) (va_A _ _) _ _ (xW cI cO a s f R) H locs) => ?_)
  refine x_eqi (x := o_X4_isAge g) (y := wIn g 0 4) rfl ?_
  refine lv_if_ne (tgt := 10) S.1 S.2.1 dX4_shift_4 (by decide) (fun (c_1 : ¬ (wIn g 0 4) = 0) => ?_) (fun (c_1 : (wIn g 0 4) = 0) => ?_)
  · have hg := wIn_ix (n := 4) (by decide) rfl c_1
    refine lv_aload_n S.1 S.2.1 dX4_shift_10 rfl (lv_at hl 0 rfl) ?_
    refine xr_3 S w lk_RX4_26 dX4_shift_11 ?_
    refine lv_iload_n S.1 S.2.1 dX4_shift_14 rfl (lv_at hl 1 rfl) ?_
    refine x_Vi (As := [.int g]) (rest := []) S w (goodV lk_RX4_148 li_X1_reaches ls_X1_reaches ln_RX1 lc_X1_reaches) hV_X1_reaches (k_X1_reaches l D cI cO a R s f g) rfl 3 1 rfl rfl xc_3 ⟨(Nat.le_of_ble_eq_true rfl), (Nat.le_of_ble_eq_true rfl)⟩ ⟨rfl, rfl⟩ hl.1 rfl (Nat.le_of_ble_eq_true rfl) ⟨Nat.zero_le _, Nat.zero_le _⟩ dX4_shift_15 (fun H locs (w : Wd D (kT cI cO) (va_A _ _) _ _ (xW cI cO a s f R) H locs) => ?_)
    refine lv_if_eq (tgt := 40) S.1 S.2.1 dX4_shift_18 (by decide) (fun (c_2 : (o_X1_reaches s f g) = 0) => ?_) (fun (c_2 : ¬ ((o_X1_reaches s f g) = 0)) => ?_)
    · refine x_ldc S lk_RX4_129 dX4_shift_40 ?_
      exact x_reti S w hr hlk dX4_shift_42 (show (-2000000004) = o_X4_shift s f g from by simp only [o_X4_shift, if_neg c_1, if_pos c_2]) (show xW cI cO a s f R = xW cI cO a s f R from rfl)
    · have hlt := rch_lt hK hK2 hg.2 (by have := hg.1; omega) c_2
      refine lv_aload_n S.1 S.2.1 dX4_shift_21 rfl (lv_at hl 0 rfl) ?_
      refine xr_3 S w lk_RX4_26 dX4_shift_22 ?_
      refine xr_13 S w lk_RX4_162 dX4_shift_25 ?_
      refine lv_aload_n S.1 S.2.1 dX4_shift_28 rfl (lv_at hl 0 rfl) ?_
      refine xr_3 S w lk_RX4_26 dX4_shift_29 ?_
      refine lv_iload_n S.1 S.2.1 dX4_shift_32 rfl (lv_at hl 1 rfl) ?_
      refine x_Vi (As := [.int g]) (rest := [.ref (a 13)]) S w (goodV lk_RX4_158 li_X1_slot ls_X1_slot ln_RX1 lc_X1_slot) hV_X1_slot (k_X1_slot l D cI cO a R s f K (Int32.toNatClampNeg g) g hK hK2 hg.2 hlt) rfl 3 1 rfl rfl xc_3 ⟨(Nat.le_of_ble_eq_true rfl), (Nat.le_of_ble_eq_true rfl)⟩ ⟨rfl, rfl⟩ hl.1 rfl (Nat.le_of_ble_eq_true rfl) ⟨Nat.zero_le _, Nat.zero_le _⟩ dX4_shift_33 (fun H locs (w : Wd D (kT cI cO) (va_A _ _) _ _ (xW cI cO a s f R) H locs) => ?_)
      refine x_eqi (x := o_X1_slot s f g) (y := nI (slt (s 19) g)) rfl ?_
      refine x_iald S w 13 0 (g := f 8) (v := (f 8) (slt (s 19) g)) (slt (s 19) g) (slt_lt _ _) (rfl) (Nat.le_of_ble_eq_true rfl) (xc_13) rfl (rfl) dX4_shift_36 ?_
      refine lv_goto (tgt := 42) S.1 S.2.1 dX4_shift_37 (by decide) ?_
      exact x_reti S w hr hlk dX4_shift_42 (show (f 8) (slt (s 19) g) = o_X4_shift s f g from by simp only [o_X4_shift, if_neg c_1, if_neg c_2]) (show xW cI cO a s f R = xW cI cO a s f R from rfl)
  · refine x_ldc S lk_RX4_64 dX4_shift_7 ?_
    exact x_reti S w hr hlk dX4_shift_9 (show (-2000000001) = o_X4_shift s f g from by simp only [o_X4_shift, if_pos c_1]) (show xW cI cO a s f R = xW cI cO a s f R from rfl)
def o_X4_rawAt (s : Nat → Int32) (f : Nat → Nat → Int32) (N : Nat) (k : Int32) : Int32 := (f 3) (rix N k)
set_option maxHeartbeats 4000000 in
set_option maxRecDepth 100000 in
theorem k_X4_rawAt (l : Launch) (D : va_G) (cI cO : ClassId) (a : Nat → Nat) (R : va_W) (s : Nat → Int32) (f : Nat → Nat → Int32) (N : Nat) (k : Int32) (hN : s 0 = nI N) (h4 : 4 ≤ N) (h48 : N ≤ 48) : Mi l yX4_rawAt cX4_rawAt 2 (some .int) { frames := 1, cells := 0, slots := 0, locals := 15 } D (kT cI cO) (xW cI cO a s f R) [.ref (a 0), .int k] (xW cI cO a s f R) (o_X4_rawAt s f N k) := by
  intro sz
  refine ent (by decide +kernel) (Nat.le_of_ble_eq_true rfl) ?_
  intro p e st m below meth c ls S hr hlk hnm w hsz hl
  have hl : lv_has ls 2 [(0, .ref (a 0)), (1, .int k)] := hl
  refine lv_aload_n S.1 S.2.1 dX4_rawAt_0 rfl (lv_at hl 0 rfl) ?_
  refine xr_8 S w lk_RX4_47 dX4_rawAt_1 ?_
  refine lv_iconst (v := 0) S.1 S.2.1 dX4_rawAt_4 (by decide) ?_
  refine lv_aload_n S.1 S.2.1 dX4_rawAt_5 rfl (lv_at hl 0 rfl) ?_
  refine xr_1 S w lk_RX4_10 dX4_rawAt_6 ?_
  refine xg_0 S w lk_RX4_65 dX4_rawAt_9 ?_
  refine x_eqi (x := s 0) (y := nI N) (hN) ?_
  refine lv_iconst (v := 1) S.1 S.2.1 dX4_rawAt_12 (by decide) ?_
  refine lv_isub S.1 S.2.1 dX4_rawAt_13 ?_
  refine x_eqi (x := (nI N) - 1) (y := nI (N - 1)) (pk_sub (b := 1) (by omega)) ?_
  refine lv_iload_n S.1 S.2.1 dX4_rawAt_14 rfl (lv_at hl 1 rfl) ?_
  refine x_mmin S lk_RX4_271 hl.1 (Nat.le_of_ble_eq_true rfl) (Nat.le_of_ble_eq_true rfl) (Nat.zero_le _) (Nat.zero_le _) (x := nI (N - 1)) (y := k) (v := if k < (nI (N - 1)) then k else (nI (N - 1))) (rfl) dX4_rawAt_15 ?_
  refine x_mmax S lk_RX4_274 hl.1 (Nat.le_of_ble_eq_true rfl) (Nat.le_of_ble_eq_true rfl) (Nat.zero_le _) (Nat.zero_le _) (x := 0) (y := if k < (nI (N - 1)) then k else (nI (N - 1))) (v := nI (rix N k)) (rix_eq h4 h48) dX4_rawAt_18 ?_
  refine x_iald S w 8 0 (g := f 3) (v := (f 3) (rix N k)) (rix N k) (by have := rix_lt (k := k) h4 h48; omega) (rfl) (Nat.le_of_ble_eq_true rfl) (xc_8) rfl (rfl) dX4_rawAt_21 ?_
  exact x_reti S w hr hlk dX4_rawAt_22 (show (f 3) (rix N k) = o_X4_rawAt s f N k from by simp only [o_X4_rawAt]) (show xW cI cO a s f R = xW cI cO a s f R from rfl)
def o_X0_remember (s : Nat → Int32) (f : Nat → Nat → Int32) (q : Int32) (b : Int32) : (Nat → Int32) × (Nat → Nat → Int32) := (upd (upd (upd s 20 1) 21 q) 22 b, va_up f 9 (va_cpy (f 1) (f 9) 0 0 48))
set_option maxHeartbeats 4000000 in
set_option maxRecDepth 100000 in
theorem k_X0_remember (l : Launch) (D : va_G) (cI cO : ClassId) (a : Nat → Nat) (R : va_W) (s : Nat → Int32) (f : Nat → Nat → Int32) (q : Int32) (b : Int32) : Mv l yX0_remember cX0_remember 4 none { frames := 1, cells := 0, slots := 0, locals := 40 } D (kT cI cO) (xW cI cO a s f R) [.ref (a 4), .int q, .int b, .ref (a 6)] (xW cI cO a ((o_X0_remember s f q b).1) ((o_X0_remember s f q b).2) R) := by
  intro sz
  refine ent (by decide +kernel) (Nat.le_of_ble_eq_true rfl) ?_
  intro p e st m below meth c ls S hr hlk hnm w hsz hl
  have hl : lv_has ls 4 [(0, .ref (a 4)), (1, .int q), (2, .int b), (3, .ref (a 6))] := hl
  refine lv_aload_n S.1 S.2.1 dX0_remember_0 rfl (lv_at hl 0 rfl) ?_
  refine lv_iconst (v := 1) S.1 S.2.1 dX0_remember_1 (by decide) ?_
  refine xp_20 S w (Or.inr rfl) lk_RX0_15 dX0_remember_2 (fun H locs (w : Wd D (kT cI cO) (va_A _ _) _ _ (xW cI cO a (upd s 20 1) f R) H locs) => ?_)
  refine lv_aload_n S.1 S.2.1 dX0_remember_5 rfl (lv_at hl 0 rfl) ?_
  refine lv_iload_n S.1 S.2.1 dX0_remember_6 rfl (lv_at hl 1 rfl) ?_
  refine xp_21 S w lk_RX0_19 dX0_remember_7 (fun H locs (w : Wd D (kT cI cO) (va_A _ _) _ _ (xW cI cO a (upd (upd s 20 1) 21 q) f R) H locs) => ?_)
  refine lv_aload_n S.1 S.2.1 dX0_remember_10 rfl (lv_at hl 0 rfl) ?_
  refine lv_iload_n S.1 S.2.1 dX0_remember_11 rfl (lv_at hl 2 rfl) ?_
  refine xp_22 S w lk_RX0_23 dX0_remember_12 (fun H locs (w : Wd D (kT cI cO) (va_A _ _) _ _ (xW cI cO a (upd (upd (upd s 20 1) 21 q) 22 b) f R) H locs) => ?_)
  refine lv_aload_n S.1 S.2.1 dX0_remember_15 rfl (lv_at hl 3 rfl) ?_
  refine lv_iconst (v := 0) S.1 S.2.1 dX0_remember_16 (by decide) ?_
  refine lv_aload_n S.1 S.2.1 dX0_remember_17 rfl (lv_at hl 0 rfl) ?_
  refine xr_14 S w lk_RX0_9 dX0_remember_18 ?_
  refine lv_iconst (v := 0) S.1 S.2.1 dX0_remember_21 (by decide) ?_
  refine lv_bipush (v := 48) S.1 S.2.1 dX0_remember_22 (by decide) ?_
  refine x_copy S w lk_RX0_26 hl.1 6 14 0 (f := f 1) (g := f 9) (xc_6) (xc_14) rfl 48 (rfl) (by decide) (by decide) (Nat.le_of_ble_eq_true rfl) (Nat.le_of_ble_eq_true rfl) (Nat.le_of_ble_eq_true rfl) xs_9 dX0_remember_24 (fun H locs (w : Wd D (kT cI cO) (va_A _ _) _ _ (xW cI cO a (upd (upd (upd s 20 1) 21 q) 22 b) (va_up f 9 (va_cpy (f 1) (f 9) 0 0 48)) R) H locs) => ?_)
  exact x_retv S w hr hlk dX0_remember_27 (show xW cI cO a (upd (upd (upd s 20 1) 21 q) 22 b) (va_up f 9 (va_cpy (f 1) (f 9) 0 0 48)) R = xW cI cO a ((o_X0_remember s f q b).1) ((o_X0_remember s f q b).2) R from by simp only [o_X0_remember])
def o_X4_judge (s : Nat → Int32) (f : Nat → Nat → Int32) (q : Int32) : (Nat → Int32) × (Nat → Nat → Int32) := if (s 20) = 0 then (upd (upd (upd (upd s 20 1) 21 q) 22 ((s 13) - 1)) 16 0, va_up f 9 (va_cpy (f 1) (f 9) 0 0 48)) else if (s 21) ≤ q then if q ≤ (s 21) then (upd s 16 0, f) else (upd s 16 ((s 16) + 1), f) else (upd (upd (upd (upd s 20 1) 21 q) 22 ((s 13) - 1)) 16 0, va_up f 9 (va_cpy (f 1) (f 9) 0 0 48))
set_option maxHeartbeats 4000000 in
set_option maxRecDepth 100000 in
theorem k_X4_judge (l : Launch) (D : va_G) (cI cO : ClassId) (a : Nat → Nat) (R : va_W) (s : Nat → Int32) (f : Nat → Nat → Int32) (q : Int32) : Mv l yX4_judge cX4_judge 2 none { frames := 2, cells := 0, slots := 0, locals := 63 } D (kT cI cO) (xW cI cO a s f R) [.ref (a 0), .int q] (xW cI cO a ((o_X4_judge s f q).1) ((o_X4_judge s f q).2) R) := by
  intro sz
  refine ent (by decide +kernel) (Nat.le_of_ble_eq_true rfl) ?_
  intro p e st m below meth c ls S hr hlk hnm w hsz hl
  have hl : lv_has ls 2 [(0, .ref (a 0)), (1, .int q)] := hl
  refine lv_aload_n S.1 S.2.1 dX4_judge_0 rfl (lv_at hl 0 rfl) ?_
  refine xr_4 S w lk_RX4_33 dX4_judge_1 ?_
  refine xg_20 S w lk_RX4_177 dX4_judge_4 ?_
  refine lv_if_eq (tgt := 21) S.1 S.2.1 dX4_judge_7 (by decide) (fun (c_1 : (s 20) = 0) => ?_) (fun (c_1 : ¬ ((s 20) = 0)) => ?_)
  · refine lv_aload_n S.1 S.2.1 dX4_judge_21 rfl (lv_at hl 0 rfl) ?_
    refine xr_4 S w lk_RX4_33 dX4_judge_22 ?_
    refine lv_iload_n S.1 S.2.1 dX4_judge_25 rfl (lv_at hl 1 rfl) ?_
    refine lv_aload_n S.1 S.2.1 dX4_judge_26 rfl (lv_at hl 0 rfl) ?_
    refine xg_13 S w lk_RX4_119 dX4_judge_27 ?_
    refine lv_iconst (v := 1) S.1 S.2.1 dX4_judge_30 (by decide) ?_
    refine lv_isub S.1 S.2.1 dX4_judge_31 ?_
    refine lv_aload_n S.1 S.2.1 dX4_judge_32 rfl (lv_at hl 0 rfl) ?_
    refine xr_6 S w lk_RX4_41 dX4_judge_33 ?_
    refine x_Vv (As := [.int q, .int ((s 13) - 1), .ref (a 6)]) (rest := []) S w (goodV lk_RX4_276 li_X0_remember ls_X0_remember ln_RX0 lc_X0_remember) hV_X0_remember (k_X0_remember l D cI cO a R s f q ((s 13) - 1)) rfl 4 0 rfl rfl xc_4 ⟨(Nat.le_of_ble_eq_true rfl), (Nat.le_of_ble_eq_true rfl)⟩ ⟨rfl, rfl⟩ hl.1 rfl (Nat.le_of_ble_eq_true rfl) ⟨Nat.zero_le _, Nat.zero_le _⟩ dX4_judge_36 (fun H locs (w : Wd D (kT cI cO) (va_A _ _) _ _ (xW cI cO a (upd (upd (upd s 20 1) 21 q) 22 ((s 13) - 1)) (va_up f 9 (va_cpy (f 1) (f 9) 0 0 48)) R) H locs) => ?_)
    refine lv_aload_n S.1 S.2.1 dX4_judge_39 rfl (lv_at hl 0 rfl) ?_
    refine lv_iconst (v := 0) S.1 S.2.1 dX4_judge_40 (by decide) ?_
    refine xp_16 S w lk_RX4_142 dX4_judge_41 (fun H locs (w : Wd D (kT cI cO) (va_A _ _) _ _ (xW cI cO a (upd (upd (upd (upd s 20 1) 21 q) 22 ((s 13) - 1)) 16 0) (va_up f 9 (va_cpy (f 1) (f 9) 0 0 48)) R) H locs) => ?_)
    refine lv_goto (tgt := 76) S.1 S.2.1 dX4_judge_44 (by decide) ?_
    exact x_retv S w hr hlk dX4_judge_76 (show xW cI cO a (upd (upd (upd (upd s 20 1) 21 q) 22 ((s 13) - 1)) 16 0) (va_up f 9 (va_cpy (f 1) (f 9) 0 0 48)) R = xW cI cO a ((o_X4_judge s f q).1) ((o_X4_judge s f q).2) R from by simp only [o_X4_judge, if_pos c_1])
  · refine lv_iload_n S.1 S.2.1 dX4_judge_10 rfl (lv_at hl 1 rfl) ?_
    refine lv_aload_n S.1 S.2.1 dX4_judge_11 rfl (lv_at hl 0 rfl) ?_
    refine xr_4 S w lk_RX4_33 dX4_judge_12 ?_
    refine xg_21 S w lk_RX4_180 dX4_judge_15 ?_
    refine lv_icmp_ge (tgt := 47) S.1 S.2.1 dX4_judge_18 (by decide) (fun (c_2 : (s 21) ≤ q) => ?_) (fun (c_2 : ¬ ((s 21) ≤ q)) => ?_)
    · refine lv_iload_n S.1 S.2.1 dX4_judge_47 rfl (lv_at hl 1 rfl) ?_
      refine lv_aload_n S.1 S.2.1 dX4_judge_48 rfl (lv_at hl 0 rfl) ?_
      refine xr_4 S w lk_RX4_33 dX4_judge_49 ?_
      refine xg_21 S w lk_RX4_180 dX4_judge_52 ?_
      refine lv_icmp_le (tgt := 71) S.1 S.2.1 dX4_judge_55 (by decide) (fun (c_3 : q ≤ (s 21)) => ?_) (fun (c_3 : ¬ (q ≤ (s 21))) => ?_)
      · refine lv_aload_n S.1 S.2.1 dX4_judge_71 rfl (lv_at hl 0 rfl) ?_
        refine lv_iconst (v := 0) S.1 S.2.1 dX4_judge_72 (by decide) ?_
        refine xp_16 S w lk_RX4_142 dX4_judge_73 (fun H locs (w : Wd D (kT cI cO) (va_A _ _) _ _ (xW cI cO a (upd s 16 0) f R) H locs) => ?_)
        exact x_retv S w hr hlk dX4_judge_76 (show xW cI cO a (upd s 16 0) f R = xW cI cO a ((o_X4_judge s f q).1) ((o_X4_judge s f q).2) R from by simp only [o_X4_judge, if_neg c_1, if_pos c_2, if_pos c_3])
      · refine lv_aload_n S.1 S.2.1 dX4_judge_58 rfl (lv_at hl 0 rfl) ?_
        refine lv_dup S.1 S.2.1 dX4_judge_59 rfl ?_
        refine xg_16 S w lk_RX4_142 dX4_judge_60 ?_
        refine lv_iconst (v := 1) S.1 S.2.1 dX4_judge_63 (by decide) ?_
        refine lv_iadd S.1 S.2.1 dX4_judge_64 ?_
        refine xp_16 S w lk_RX4_142 dX4_judge_65 (fun H locs (w : Wd D (kT cI cO) (va_A _ _) _ _ (xW cI cO a (upd s 16 ((s 16) + 1)) f R) H locs) => ?_)
        refine lv_goto (tgt := 76) S.1 S.2.1 dX4_judge_68 (by decide) ?_
        exact x_retv S w hr hlk dX4_judge_76 (show xW cI cO a (upd s 16 ((s 16) + 1)) f R = xW cI cO a ((o_X4_judge s f q).1) ((o_X4_judge s f q).2) R from by simp only [o_X4_judge, if_neg c_1, if_pos c_2, if_neg c_3])
    · refine lv_aload_n S.1 S.2.1 dX4_judge_21 rfl (lv_at hl 0 rfl) ?_
      refine xr_4 S w lk_RX4_33 dX4_judge_22 ?_
      refine lv_iload_n S.1 S.2.1 dX4_judge_25 rfl (lv_at hl 1 rfl) ?_
      refine lv_aload_n S.1 S.2.1 dX4_judge_26 rfl (lv_at hl 0 rfl) ?_
      refine xg_13 S w lk_RX4_119 dX4_judge_27 ?_
      refine lv_iconst (v := 1) S.1 S.2.1 dX4_judge_30 (by decide) ?_
      refine lv_isub S.1 S.2.1 dX4_judge_31 ?_
      refine lv_aload_n S.1 S.2.1 dX4_judge_32 rfl (lv_at hl 0 rfl) ?_
      refine xr_6 S w lk_RX4_41 dX4_judge_33 ?_
      refine x_Vv (As := [.int q, .int ((s 13) - 1), .ref (a 6)]) (rest := []) S w (goodV lk_RX4_276 li_X0_remember ls_X0_remember ln_RX0 lc_X0_remember) hV_X0_remember (k_X0_remember l D cI cO a R s f q ((s 13) - 1)) rfl 4 0 rfl rfl xc_4 ⟨(Nat.le_of_ble_eq_true rfl), (Nat.le_of_ble_eq_true rfl)⟩ ⟨rfl, rfl⟩ hl.1 rfl (Nat.le_of_ble_eq_true rfl) ⟨Nat.zero_le _, Nat.zero_le _⟩ dX4_judge_36 (fun H locs (w : Wd D (kT cI cO) (va_A _ _) _ _ (xW cI cO a (upd (upd (upd s 20 1) 21 q) 22 ((s 13) - 1)) (va_up f 9 (va_cpy (f 1) (f 9) 0 0 48)) R) H locs) => ?_)
      refine lv_aload_n S.1 S.2.1 dX4_judge_39 rfl (lv_at hl 0 rfl) ?_
      refine lv_iconst (v := 0) S.1 S.2.1 dX4_judge_40 (by decide) ?_
      refine xp_16 S w lk_RX4_142 dX4_judge_41 (fun H locs (w : Wd D (kT cI cO) (va_A _ _) _ _ (xW cI cO a (upd (upd (upd (upd s 20 1) 21 q) 22 ((s 13) - 1)) 16 0) (va_up f 9 (va_cpy (f 1) (f 9) 0 0 48)) R) H locs) => ?_)
      refine lv_goto (tgt := 76) S.1 S.2.1 dX4_judge_44 (by decide) ?_
      exact x_retv S w hr hlk dX4_judge_76 (show xW cI cO a (upd (upd (upd (upd s 20 1) 21 q) 22 ((s 13) - 1)) 16 0) (va_up f 9 (va_cpy (f 1) (f 9) 0 0 48)) R = xW cI cO a ((o_X4_judge s f q).1) ((o_X4_judge s f q).2) R from by simp only [o_X4_judge, if_neg c_1, if_neg c_2])
def o_X4_fallBack (s : Nat → Int32) (f : Nat → Nat → Int32) : (Nat → Int32) × (Nat → Nat → Int32) := (upd (upd (upd s 1 ((s 1) / 2)) 16 0) 15 ((s 15) + 1), va_up f 1 (va_cpy (f 9) (f 1) 0 0 48))
set_option maxHeartbeats 4000000 in
set_option maxRecDepth 100000 in
theorem k_X4_fallBack (l : Launch) (D : va_G) (cI cO : ClassId) (a : Nat → Nat) (R : va_W) (s : Nat → Int32) (f : Nat → Nat → Int32) : Mv l yX4_fallBack cX4_fallBack 1 none { frames := 1, cells := 0, slots := 0, locals := 40 } D (kT cI cO) (xW cI cO a s f R) [.ref (a 0)] (xW cI cO a ((o_X4_fallBack s f).1) ((o_X4_fallBack s f).2) R) := by
  intro sz
  refine ent (by decide +kernel) (Nat.le_of_ble_eq_true rfl) ?_
  intro p e st m below meth c ls S hr hlk hnm w hsz hl
  have hl : lv_has ls 1 [(0, .ref (a 0))] := hl
  refine lv_aload_n S.1 S.2.1 dX4_fallBack_0 rfl (lv_at hl 0 rfl) ?_
  refine xr_4 S w lk_RX4_33 dX4_fallBack_1 ?_
  refine xr_14 S w lk_RX4_186 dX4_fallBack_4 ?_
  refine lv_iconst (v := 0) S.1 S.2.1 dX4_fallBack_7 (by decide) ?_
  refine lv_aload_n S.1 S.2.1 dX4_fallBack_8 rfl (lv_at hl 0 rfl) ?_
  refine xr_6 S w lk_RX4_41 dX4_fallBack_9 ?_
  refine lv_iconst (v := 0) S.1 S.2.1 dX4_fallBack_12 (by decide) ?_
  refine lv_bipush (v := 48) S.1 S.2.1 dX4_fallBack_13 (by decide) ?_
  refine x_copy S w lk_RX4_280 hl.1 14 6 0 (f := f 9) (g := f 1) (xc_14) (xc_6) rfl 48 (rfl) (by decide) (by decide) (Nat.le_of_ble_eq_true rfl) (Nat.le_of_ble_eq_true rfl) (Nat.le_of_ble_eq_true rfl) xs_1 dX4_fallBack_15 (fun H locs (w : Wd D (kT cI cO) (va_A _ _) _ _ (xW cI cO a s (va_up f 1 (va_cpy (f 9) (f 1) 0 0 48)) R) H locs) => ?_)
  refine lv_aload_n S.1 S.2.1 dX4_fallBack_18 rfl (lv_at hl 0 rfl) ?_
  refine xr_1 S w lk_RX4_10 dX4_fallBack_19 ?_
  refine lv_dup S.1 S.2.1 dX4_fallBack_22 rfl ?_
  refine xg_1 S w lk_RX4_76 dX4_fallBack_23 ?_
  refine lv_iconst (v := 2) S.1 S.2.1 dX4_fallBack_26 (by decide) ?_
  refine lv_idiv S.1 S.2.1 dX4_fallBack_27 (by decide) ?_
  refine xp_1 S w lk_RX4_76 dX4_fallBack_28 (fun H locs (w : Wd D (kT cI cO) (va_A _ _) _ _ (xW cI cO a (upd s 1 ((s 1) / 2)) (va_up f 1 (va_cpy (f 9) (f 1) 0 0 48)) R) H locs) => ?_)
  refine lv_aload_n S.1 S.2.1 dX4_fallBack_31 rfl (lv_at hl 0 rfl) ?_
  refine lv_iconst (v := 0) S.1 S.2.1 dX4_fallBack_32 (by decide) ?_
  refine xp_16 S w lk_RX4_142 dX4_fallBack_33 (fun H locs (w : Wd D (kT cI cO) (va_A _ _) _ _ (xW cI cO a (upd (upd s 1 ((s 1) / 2)) 16 0) (va_up f 1 (va_cpy (f 9) (f 1) 0 0 48)) R) H locs) => ?_)
  refine lv_aload_n S.1 S.2.1 dX4_fallBack_36 rfl (lv_at hl 0 rfl) ?_
  refine lv_dup S.1 S.2.1 dX4_fallBack_37 rfl ?_
  refine xg_15 S w lk_RX4_139 dX4_fallBack_38 ?_
  refine x_eqi (x := (upd (upd s 1 ((s 1) / 2)) 16 0) 15) (y := s 15) rfl ?_
  refine lv_iconst (v := 1) S.1 S.2.1 dX4_fallBack_41 (by decide) ?_
  refine lv_iadd S.1 S.2.1 dX4_fallBack_42 ?_
  refine xp_15 S w lk_RX4_139 dX4_fallBack_43 (fun H locs (w : Wd D (kT cI cO) (va_A _ _) _ _ (xW cI cO a (upd (upd (upd s 1 ((s 1) / 2)) 16 0) 15 ((s 15) + 1)) (va_up f 1 (va_cpy (f 9) (f 1) 0 0 48)) R) H locs) => ?_)
  exact x_retv S w hr hlk dX4_fallBack_46 (show xW cI cO a (upd (upd (upd s 1 ((s 1) / 2)) 16 0) 15 ((s 15) + 1)) (va_up f 1 (va_cpy (f 9) (f 1) 0 0 48)) R = xW cI cO a ((o_X4_fallBack s f).1) ((o_X4_fallBack s f).2) R from by simp only [o_X4_fallBack])
def o_X4_limitTo (v : Int64) (q : Int32) : Int32 := Int64.toInt32 (lmax (Int32.toInt64 (-q)) (lmin (Int32.toInt64 q) v))
set_option maxHeartbeats 4000000 in
set_option maxRecDepth 100000 in
theorem k_X4_limitTo (l : Launch) (D : va_G) (tys : List (ClassId × FieldType)) (ws : va_W) (v : Int64) (q : Int32) : Mi l yX4_limitTo cX4_limitTo 3 (some .int) { frames := 1, cells := 0, slots := 0, locals := 17 } D tys ws [.long v, .int q] ws (o_X4_limitTo v q) := by
  intro sz
  refine ent (by decide +kernel) (Nat.le_of_ble_eq_true rfl) ?_
  intro p e st m below meth c ls S hr hlk hnm w hsz hl
  have hl : lv_has ls 3 [(0, .long v), (2, .int q)] := hl
  refine lv_iload_n S.1 S.2.1 dX4_limitTo_0 rfl (lv_at hl 1 rfl) ?_
  refine lv_ineg S.1 S.2.1 dX4_limitTo_1 ?_
  refine lv_i2l S.1 S.2.1 dX4_limitTo_2 rfl ?_
  refine lv_iload_n S.1 S.2.1 dX4_limitTo_3 rfl (lv_at hl 1 rfl) ?_
  refine lv_i2l S.1 S.2.1 dX4_limitTo_4 rfl ?_
  refine lv_lload_n S.1 S.2.1 dX4_limitTo_5 rfl (lv_at hl 0 rfl) ?_
  refine x_mminl S lk_RX4_216 hl.1 (Nat.le_of_ble_eq_true rfl) (Nat.le_of_ble_eq_true rfl) (Nat.zero_le _) (Nat.zero_le _) dX4_limitTo_6 ?_
  refine x_mmaxl S lk_RX4_220 hl.1 (Nat.le_of_ble_eq_true rfl) (Nat.le_of_ble_eq_true rfl) (Nat.zero_le _) (Nat.zero_le _) dX4_limitTo_9 ?_
  refine lv_l2i S.1 S.2.1 dX4_limitTo_12 rfl ?_
  exact x_reti S w hr hlk dX4_limitTo_13 (show Int64.toInt32 (lmax (Int32.toInt64 (-q)) (lmin (Int32.toInt64 q) v)) = o_X4_limitTo v q from by simp only [o_X4_limitTo]) (show ws = ws from rfl)
def o_J9_floorDiv_f86c9 (x : Int64) (y : Int64) : Int64 := if 0 ≤ (x ^^^ y) then x / y else if ((x / y) * y) = x then x / y else (x / y) - 1
set_option maxHeartbeats 4000000 in
set_option maxRecDepth 100000 in
theorem k_J9_floorDiv_f86c9 (l : Launch) (D : va_G) (tys : List (ClassId × FieldType)) (ws : va_W) (x : Int64) (y : Int64) (hy : ¬ y = 0) : Ml l yJ9_floorDiv_f86c9 cJ9_floorDiv_f86c9 6 (some .long) { frames := 0, cells := 0, slots := 0, locals := 0 } D tys ws [.long x, .long y] ws (o_J9_floorDiv_f86c9 x y) := by
  intro sz
  refine ent (by decide +kernel) (Nat.le_of_ble_eq_true rfl) ?_
  intro p e st m below meth c ls S hr hlk hnm w hsz hl
  have hl : lv_has ls 6 [(0, .long x), (2, .long y)] := hl
  refine lv_lload_n S.1 S.2.1 dJ9_floorDiv_f86c9_0 rfl (lv_at hl 0 rfl) ?_
  refine lv_lload_n S.1 S.2.1 dJ9_floorDiv_f86c9_1 rfl (lv_at hl 1 rfl) ?_
  refine lv_ldiv S.1 S.2.1 dJ9_floorDiv_f86c9_2 (hy) ?_
  refine lv_lstore (lv' := [(4, .long (x / y)), (0, .long x), (2, .long y)]) S.1 S.2.1 dJ9_floorDiv_f86c9_3 hl (by decide) rfl (fun ls hl => ?_)
  refine lv_lload_n S.1 S.2.1 dJ9_floorDiv_f86c9_5 rfl (lv_at hl 1 rfl) ?_
  refine lv_lload_n S.1 S.2.1 dJ9_floorDiv_f86c9_6 rfl (lv_at hl 2 rfl) ?_
  refine lv_lxor S.1 S.2.1 dJ9_floorDiv_f86c9_7 ?_
  refine lv_lconst (v := 0) S.1 S.2.1 dJ9_floorDiv_f86c9_8 (by decide) ?_
  refine x_lif_ge (tgt := 27) S.1 S.2.1 dJ9_floorDiv_f86c9_9 dJ9_floorDiv_f86c9_10 (by decide) (fun (c_1 : 0 ≤ (x ^^^ y)) => ?_) (fun (c_1 : ¬ (0 ≤ (x ^^^ y))) => ?_)
  · refine lv_lload S.1 S.2.1 dJ9_floorDiv_f86c9_27 (lv_at hl 0 rfl) ?_
    exact x_retl S w hr hlk dJ9_floorDiv_f86c9_29 (show x / y = o_J9_floorDiv_f86c9 x y from by simp only [o_J9_floorDiv_f86c9, if_pos c_1]) (show ws = ws from rfl)
  · refine lv_lload S.1 S.2.1 dJ9_floorDiv_f86c9_13 (lv_at hl 0 rfl) ?_
    refine lv_lload_n S.1 S.2.1 dJ9_floorDiv_f86c9_15 rfl (lv_at hl 2 rfl) ?_
    refine lv_lmul S.1 S.2.1 dJ9_floorDiv_f86c9_16 ?_
    refine lv_lload_n S.1 S.2.1 dJ9_floorDiv_f86c9_17 rfl (lv_at hl 1 rfl) ?_
    refine x_lif_eq (tgt := 27) S.1 S.2.1 dJ9_floorDiv_f86c9_18 dJ9_floorDiv_f86c9_19 (by decide) (fun (c_2 : ((x / y) * y) = x) => ?_) (fun (c_2 : ¬ (((x / y) * y) = x)) => ?_)
    · refine lv_lload S.1 S.2.1 dJ9_floorDiv_f86c9_27 (lv_at hl 0 rfl) ?_
      exact x_retl S w hr hlk dJ9_floorDiv_f86c9_29 (show x / y = o_J9_floorDiv_f86c9 x y from by simp only [o_J9_floorDiv_f86c9, if_neg c_1, if_pos c_2]) (show ws = ws from rfl)
    · refine lv_lload S.1 S.2.1 dJ9_floorDiv_f86c9_22 (lv_at hl 0 rfl) ?_
      refine lv_lconst (v := 1) S.1 S.2.1 dJ9_floorDiv_f86c9_24 (by decide) ?_
      refine lv_lsub S.1 S.2.1 dJ9_floorDiv_f86c9_25 ?_
      exact x_retl S w hr hlk dJ9_floorDiv_f86c9_26 (show (x / y) - 1 = o_J9_floorDiv_f86c9 x y from by simp only [o_J9_floorDiv_f86c9, if_neg c_1, if_neg c_2]) (show ws = ws from rfl)
def o_X2_nextDisturbance (s : Nat → Int32) (f : Nat → Nat → Int32) : Int32 × (Nat → Int32) := if (s 17) = 0 then (0, s) else (((iush (((s 18) * 1103515245) + 12345) 16) - (iush (((s 18) * 1103515245) + 12345) 16) / ((2 * (s 17)) + 1) * ((2 * (s 17)) + 1)) - (s 17), upd s 18 (((s 18) * 1103515245) + 12345))
set_option maxHeartbeats 4000000 in
set_option maxRecDepth 100000 in
theorem k_X2_nextDisturbance (l : Launch) (D : va_G) (cI cO : ClassId) (a : Nat → Nat) (R : va_W) (s : Nat → Int32) (f : Nat → Nat → Int32) (hz : ¬ 2 * s 17 + 1 = 0) : Mi l yX2_nextDisturbance cX2_nextDisturbance 1 (some .int) { frames := 0, cells := 0, slots := 0, locals := 0 } D (kT cI cO) (xW cI cO a s f R) [.ref (a 2)] (xW cI cO a ((o_X2_nextDisturbance s f).2) f R) ((o_X2_nextDisturbance s f).1) := by
  intro sz
  refine ent (by decide +kernel) (Nat.le_of_ble_eq_true rfl) ?_
  intro p e st m below meth c ls S hr hlk hnm w hsz hl
  have hl : lv_has ls 1 [(0, .ref (a 2))] := hl
  refine lv_aload_n S.1 S.2.1 dX2_nextDisturbance_0 rfl (lv_at hl 0 rfl) ?_
  refine xg_17 S w lk_RX2_19 dX2_nextDisturbance_1 ?_
  refine lv_if_ne (tgt := 9) S.1 S.2.1 dX2_nextDisturbance_4 (by decide) (fun (c_1 : ¬ (s 17) = 0) => ?_) (fun (c_1 : (s 17) = 0) => ?_)
  · refine lv_aload_n S.1 S.2.1 dX2_nextDisturbance_9 rfl (lv_at hl 0 rfl) ?_
    refine lv_aload_n S.1 S.2.1 dX2_nextDisturbance_10 rfl (lv_at hl 0 rfl) ?_
    refine xg_18 S w lk_RX2_23 dX2_nextDisturbance_11 ?_
    refine x_ldc S lk_RX2_42 dX2_nextDisturbance_14 ?_
    refine lv_imul S.1 S.2.1 dX2_nextDisturbance_16 ?_
    refine lv_sipush (v := 12345) S.1 S.2.1 dX2_nextDisturbance_17 (by decide) ?_
    refine lv_iadd S.1 S.2.1 dX2_nextDisturbance_20 ?_
    refine xp_18 S w lk_RX2_23 dX2_nextDisturbance_21 (fun H locs (w : Wd D (kT cI cO) (va_A _ _) _ _ (xW cI cO a (upd s 18 (((s 18) * 1103515245) + 12345)) f R) H locs) => ?_)
    refine lv_aload_n S.1 S.2.1 dX2_nextDisturbance_24 rfl (lv_at hl 0 rfl) ?_
    refine xg_18 S w lk_RX2_23 dX2_nextDisturbance_25 ?_
    refine x_eqi (x := (upd s 18 (((s 18) * 1103515245) + 12345)) 18) (y := ((s 18) * 1103515245) + 12345) rfl ?_
    refine lv_bipush (v := 16) S.1 S.2.1 dX2_nextDisturbance_28 (by decide) ?_
    refine lv_iushr (v := iush (((s 18) * 1103515245) + 12345) 16) S.1 S.2.1 dX2_nextDisturbance_30 rfl ?_
    refine lv_iconst (v := 2) S.1 S.2.1 dX2_nextDisturbance_31 (by decide) ?_
    refine lv_aload_n S.1 S.2.1 dX2_nextDisturbance_32 rfl (lv_at hl 0 rfl) ?_
    refine xg_17 S w lk_RX2_19 dX2_nextDisturbance_33 ?_
    refine x_eqi (x := (upd s 18 (((s 18) * 1103515245) + 12345)) 17) (y := s 17) rfl ?_
    refine lv_imul S.1 S.2.1 dX2_nextDisturbance_36 ?_
    refine lv_iconst (v := 1) S.1 S.2.1 dX2_nextDisturbance_37 (by decide) ?_
    refine lv_iadd S.1 S.2.1 dX2_nextDisturbance_38 ?_
    refine lv_irem S.1 S.2.1 dX2_nextDisturbance_39 (hz) ?_
    refine lv_aload_n S.1 S.2.1 dX2_nextDisturbance_40 rfl (lv_at hl 0 rfl) ?_
    refine xg_17 S w lk_RX2_19 dX2_nextDisturbance_41 ?_
    refine x_eqi (x := (upd s 18 (((s 18) * 1103515245) + 12345)) 17) (y := s 17) rfl ?_
    refine lv_isub S.1 S.2.1 dX2_nextDisturbance_44 ?_
    exact x_reti S w hr hlk dX2_nextDisturbance_45 (show ((iush (((s 18) * 1103515245) + 12345) 16) - (iush (((s 18) * 1103515245) + 12345) 16) / ((2 * (s 17)) + 1) * ((2 * (s 17)) + 1)) - (s 17) = (o_X2_nextDisturbance s f).1 from by simp only [o_X2_nextDisturbance, if_neg c_1]) (show xW cI cO a (upd s 18 (((s 18) * 1103515245) + 12345)) f R = xW cI cO a ((o_X2_nextDisturbance s f).2) f R from by simp only [o_X2_nextDisturbance, if_neg c_1])
  · refine lv_iconst (v := 0) S.1 S.2.1 dX2_nextDisturbance_7 (by decide) ?_
    exact x_reti S w hr hlk dX2_nextDisturbance_8 (show 0 = (o_X2_nextDisturbance s f).1 from by simp only [o_X2_nextDisturbance, if_pos c_1]) (show xW cI cO a s f R = xW cI cO a ((o_X2_nextDisturbance s f).2) f R from by simp only [o_X2_nextDisturbance, if_pos c_1])
def o_fill0_5 (s : Nat → Int32) (f : Nat → Nat → Int32) : (Nat → Nat → Int32) := va_up f 0 (pfx 48 (fun _ => 0) (f 0))
set_option maxHeartbeats 4000000 in
set_option maxRecDepth 100000 in
theorem j_fill0_5 {p : Program} {e : Env} {st : State} {m : MethodId} {args : Array Value} {below : List Frame} {meth : Method} {c : Code} {ws0 : va_W} {sz : Nat} (l : Launch) (D : va_G) (cI cO : ClassId) (a : Nat → Nat) (R : va_W) (s : Nat → Int32) (f : Nat → Nat → Int32) (S : CallFix p m c cJ7_fill_53178 4 st args wsL_law RJ7) (hr : meth.sig.returnType = none) (hlk : meth.locks = false) : ∀ (n : Nat) (i : Nat) (H : Heap) (locs : List Loc) (ls : Array Slot), 49 ≤ i + n → i ≤ 48 → Wd D (kT cI cO) (va_A ws0 sz) st.heap st (xW cI cO a s (va_up f 0 (pfx i (fun _ => 0) (f 0))) R) H locs → lv_has ls 4 [(0, .ref (a 5)), (1, .int 0), (2, .int (nI i)), (3, .int (nI 48))] → W p l e { frames := 0, cells := 0, slots := 0, locals := 0 } st m args below meth c H locs 0 0 (MQ below (mQv D (kT cI cO) ws0 sz (xW cI cO a s (o_fill0_5 s f) R)) args st 0 0 (va_A ws0 sz)) (F0 m 5 ls []) := by
  intro n
  induction n with
  | zero => intro i H locs ls hfu hi w hl; exact absurd hfu (by omega)
  | succ n ih =>
    intro i H locs ls hfu hi w hl
    refine lv_iload_n S.1 S.2.1 dJ7_fill_53178_5 rfl (lv_at hl 2 rfl) ?_
    refine lv_iload_n S.1 S.2.1 dJ7_fill_53178_6 rfl (lv_at hl 3 rfl) ?_
    refine lv_icmp_ge (tgt := 20) S.1 S.2.1 dJ7_fill_53178_7 (by decide) (fun (c_1 : (nI 48) ≤ (nI i)) => ?_) (fun (c_1 : ¬ ((nI 48) ≤ (nI i))) => ?_)
    · have he : i = 48 := by
        have := (nI_leI (a := 48) (b := i) (by omega) (by omega)).mp c_1
        omega
      subst i
      exact x_retv S w hr hlk dJ7_fill_53178_20 (show xW cI cO a s (va_up f 0 (pfx 48 (fun _ => 0) (f 0))) R = xW cI cO a s (o_fill0_5 s f) R from by simp only [o_fill0_5])
    · have hlt : i < 48 := Nat.lt_of_not_le (fun z => c_1 (nI_le z (by omega)))
      refine lv_aload_n S.1 S.2.1 dJ7_fill_53178_10 rfl (lv_at hl 0 rfl) ?_
      refine lv_iload_n S.1 S.2.1 dJ7_fill_53178_11 rfl (lv_at hl 2 rfl) ?_
      refine lv_iload_n S.1 S.2.1 dJ7_fill_53178_12 rfl (lv_at hl 1 rfl) ?_
      refine x_iast S w 5 0 (g := pfx i (fun _ => 0) (f 0)) i (by omega) (rfl) (Nat.le_of_ble_eq_true rfl) (xc_5) rfl (xs_0) dJ7_fill_53178_13 (fun H locs (w : Wd D (kT cI cO) (va_A _ _) _ _ (xW cI cO a s (va_up (va_up f 0 (pfx i (fun _ => 0) (f 0))) 0 (upd (pfx i (fun _ => 0) (f 0)) i 0)) R) H locs) => ?_)
      have w := w.to (show xW cI cO a s (va_up (va_up f 0 (pfx i (fun _ => 0) (f 0))) 0 (upd (pfx i (fun _ => 0) (f 0)) i 0)) R = xW cI cO a s (va_up f 0 (pfx (i + 1) (fun _ => 0) (f 0))) R from x_f (va_step' rfl))
      refine lv_iinc (v := nI (i + 1)) (lv' := [(2, .int (nI (i + 1))), (0, .ref (a 5)), (1, .int 0), (3, .int (nI 48))]) S.1 S.2.1 dJ7_fill_53178_14 hl (k := 2) rfl (x_inc _) (by decide) rfl (fun ls hl => ?_)
      refine lv_goto (tgt := 5) S.1 S.2.1 dJ7_fill_53178_17 (by decide) ?_
      exact ih (i + 1) _ _ _ (by omega) (by omega) w (lv_sub hl [1, 2, 0, 3] rfl)
def o_fill0 (s : Nat → Int32) (f : Nat → Nat → Int32) : (Nat → Nat → Int32) := o_fill0_5 s f
set_option maxHeartbeats 4000000 in
set_option maxRecDepth 100000 in
theorem k_fill0 (l : Launch) (D : va_G) (cI cO : ClassId) (a : Nat → Nat) (R : va_W) (s : Nat → Int32) (f : Nat → Nat → Int32) : Mv l yJ7_fill_53178 cJ7_fill_53178 4 none { frames := 0, cells := 0, slots := 0, locals := 0 } D (kT cI cO) (xW cI cO a s f R) [.ref (a 5), .int 0] (xW cI cO a s (o_fill0 s f) R) := by
  intro sz
  refine ent (by decide +kernel) (Nat.le_of_ble_eq_true rfl) ?_
  intro p e st m below meth c ls S hr hlk hnm w hsz hl
  have hl : lv_has ls 4 [(0, .ref (a 5)), (1, .int 0)] := hl
  refine lv_iconst (v := 0) S.1 S.2.1 dJ7_fill_53178_0 (by decide) ?_
  refine lv_istore_n (lv' := [(2, .int 0), (0, .ref (a 5)), (1, .int 0)]) S.1 S.2.1 dJ7_fill_53178_1 rfl hl (by decide) rfl (fun ls hl => ?_)
  refine lv_aload_n S.1 S.2.1 dJ7_fill_53178_2 rfl (lv_at hl 1 rfl) ?_
  refine x_alen S w 5 0 (g := f 0) (xc_5) rfl dJ7_fill_53178_3 ?_
  refine lv_istore_n (lv' := [(3, .int (nI 48)), (2, .int 0), (0, .ref (a 5)), (1, .int 0)]) S.1 S.2.1 dJ7_fill_53178_4 rfl hl (by decide) rfl (fun ls hl => ?_)
  refine x_tov  (show xW cI cO a s (o_fill0_5 s f) R = xW cI cO a s (o_fill0 s f) R from by simp only [o_fill0]) ?_
  exact j_fill0_5 l D cI cO a R s f S hr hlk 49 0 _ _ _ (by omega) (by omega) (w.to (show xW cI cO a s f R = xW cI cO a s (va_up f 0 (pfx 0 (fun _ => 0) (f 0))) R from by rw [va_first])) (lv_sub hl [2, 3, 1, 0] rfl)
def o_fill1_5 (s : Nat → Int32) (f : Nat → Nat → Int32) : (Nat → Nat → Int32) := va_up f 1 (pfx 48 (fun _ => 0) (f 1))
set_option maxHeartbeats 4000000 in
set_option maxRecDepth 100000 in
theorem j_fill1_5 {p : Program} {e : Env} {st : State} {m : MethodId} {args : Array Value} {below : List Frame} {meth : Method} {c : Code} {ws0 : va_W} {sz : Nat} (l : Launch) (D : va_G) (cI cO : ClassId) (a : Nat → Nat) (R : va_W) (s : Nat → Int32) (f : Nat → Nat → Int32) (S : CallFix p m c cJ7_fill_53178 4 st args wsL_law RJ7) (hr : meth.sig.returnType = none) (hlk : meth.locks = false) : ∀ (n : Nat) (i : Nat) (H : Heap) (locs : List Loc) (ls : Array Slot), 49 ≤ i + n → i ≤ 48 → Wd D (kT cI cO) (va_A ws0 sz) st.heap st (xW cI cO a s (va_up f 1 (pfx i (fun _ => 0) (f 1))) R) H locs → lv_has ls 4 [(0, .ref (a 6)), (1, .int 0), (2, .int (nI i)), (3, .int (nI 48))] → W p l e { frames := 0, cells := 0, slots := 0, locals := 0 } st m args below meth c H locs 0 0 (MQ below (mQv D (kT cI cO) ws0 sz (xW cI cO a s (o_fill1_5 s f) R)) args st 0 0 (va_A ws0 sz)) (F0 m 5 ls []) := by
  intro n
  induction n with
  | zero => intro i H locs ls hfu hi w hl; exact absurd hfu (by omega)
  | succ n ih =>
    intro i H locs ls hfu hi w hl
    refine lv_iload_n S.1 S.2.1 dJ7_fill_53178_5 rfl (lv_at hl 2 rfl) ?_
    refine lv_iload_n S.1 S.2.1 dJ7_fill_53178_6 rfl (lv_at hl 3 rfl) ?_
    refine lv_icmp_ge (tgt := 20) S.1 S.2.1 dJ7_fill_53178_7 (by decide) (fun (c_1 : (nI 48) ≤ (nI i)) => ?_) (fun (c_1 : ¬ ((nI 48) ≤ (nI i))) => ?_)
    · have he : i = 48 := by
        have := (nI_leI (a := 48) (b := i) (by omega) (by omega)).mp c_1
        omega
      subst i
      exact x_retv S w hr hlk dJ7_fill_53178_20 (show xW cI cO a s (va_up f 1 (pfx 48 (fun _ => 0) (f 1))) R = xW cI cO a s (o_fill1_5 s f) R from by simp only [o_fill1_5])
    · have hlt : i < 48 := Nat.lt_of_not_le (fun z => c_1 (nI_le z (by omega)))
      refine lv_aload_n S.1 S.2.1 dJ7_fill_53178_10 rfl (lv_at hl 0 rfl) ?_
      refine lv_iload_n S.1 S.2.1 dJ7_fill_53178_11 rfl (lv_at hl 2 rfl) ?_
      refine lv_iload_n S.1 S.2.1 dJ7_fill_53178_12 rfl (lv_at hl 1 rfl) ?_
      refine x_iast S w 6 0 (g := pfx i (fun _ => 0) (f 1)) i (by omega) (rfl) (Nat.le_of_ble_eq_true rfl) (xc_6) rfl (xs_1) dJ7_fill_53178_13 (fun H locs (w : Wd D (kT cI cO) (va_A _ _) _ _ (xW cI cO a s (va_up (va_up f 1 (pfx i (fun _ => 0) (f 1))) 1 (upd (pfx i (fun _ => 0) (f 1)) i 0)) R) H locs) => ?_)
      have w := w.to (show xW cI cO a s (va_up (va_up f 1 (pfx i (fun _ => 0) (f 1))) 1 (upd (pfx i (fun _ => 0) (f 1)) i 0)) R = xW cI cO a s (va_up f 1 (pfx (i + 1) (fun _ => 0) (f 1))) R from x_f (va_step' rfl))
      refine lv_iinc (v := nI (i + 1)) (lv' := [(2, .int (nI (i + 1))), (0, .ref (a 6)), (1, .int 0), (3, .int (nI 48))]) S.1 S.2.1 dJ7_fill_53178_14 hl (k := 2) rfl (x_inc _) (by decide) rfl (fun ls hl => ?_)
      refine lv_goto (tgt := 5) S.1 S.2.1 dJ7_fill_53178_17 (by decide) ?_
      exact ih (i + 1) _ _ _ (by omega) (by omega) w (lv_sub hl [1, 2, 0, 3] rfl)
def o_fill1 (s : Nat → Int32) (f : Nat → Nat → Int32) : (Nat → Nat → Int32) := o_fill1_5 s f
set_option maxHeartbeats 4000000 in
set_option maxRecDepth 100000 in
theorem k_fill1 (l : Launch) (D : va_G) (cI cO : ClassId) (a : Nat → Nat) (R : va_W) (s : Nat → Int32) (f : Nat → Nat → Int32) : Mv l yJ7_fill_53178 cJ7_fill_53178 4 none { frames := 0, cells := 0, slots := 0, locals := 0 } D (kT cI cO) (xW cI cO a s f R) [.ref (a 6), .int 0] (xW cI cO a s (o_fill1 s f) R) := by
  intro sz
  refine ent (by decide +kernel) (Nat.le_of_ble_eq_true rfl) ?_
  intro p e st m below meth c ls S hr hlk hnm w hsz hl
  have hl : lv_has ls 4 [(0, .ref (a 6)), (1, .int 0)] := hl
  refine lv_iconst (v := 0) S.1 S.2.1 dJ7_fill_53178_0 (by decide) ?_
  refine lv_istore_n (lv' := [(2, .int 0), (0, .ref (a 6)), (1, .int 0)]) S.1 S.2.1 dJ7_fill_53178_1 rfl hl (by decide) rfl (fun ls hl => ?_)
  refine lv_aload_n S.1 S.2.1 dJ7_fill_53178_2 rfl (lv_at hl 1 rfl) ?_
  refine x_alen S w 6 0 (g := f 1) (xc_6) rfl dJ7_fill_53178_3 ?_
  refine lv_istore_n (lv' := [(3, .int (nI 48)), (2, .int 0), (0, .ref (a 6)), (1, .int 0)]) S.1 S.2.1 dJ7_fill_53178_4 rfl hl (by decide) rfl (fun ls hl => ?_)
  refine x_tov  (show xW cI cO a s (o_fill1_5 s f) R = xW cI cO a s (o_fill1 s f) R from by simp only [o_fill1]) ?_
  exact j_fill1_5 l D cI cO a R s f S hr hlk 49 0 _ _ _ (by omega) (by omega) (w.to (show xW cI cO a s f R = xW cI cO a s (va_up f 1 (pfx 0 (fun _ => 0) (f 1))) R from by rw [va_first])) (lv_sub hl [2, 3, 1, 0] rfl)
def o_fill6_5 (s : Nat → Int32) (f : Nat → Nat → Int32) : (Nat → Nat → Int32) := va_up f 6 (pfx 6 (fun _ => 0) (f 6))
set_option maxHeartbeats 4000000 in
set_option maxRecDepth 100000 in
theorem j_fill6_5 {p : Program} {e : Env} {st : State} {m : MethodId} {args : Array Value} {below : List Frame} {meth : Method} {c : Code} {ws0 : va_W} {sz : Nat} (l : Launch) (D : va_G) (cI cO : ClassId) (a : Nat → Nat) (R : va_W) (s : Nat → Int32) (f : Nat → Nat → Int32) (S : CallFix p m c cJ7_fill_53178 4 st args wsL_law RJ7) (hr : meth.sig.returnType = none) (hlk : meth.locks = false) : ∀ (n : Nat) (i : Nat) (H : Heap) (locs : List Loc) (ls : Array Slot), 7 ≤ i + n → i ≤ 6 → Wd D (kT cI cO) (va_A ws0 sz) st.heap st (xW cI cO a s (va_up f 6 (pfx i (fun _ => 0) (f 6))) R) H locs → lv_has ls 4 [(0, .ref (a 11)), (1, .int 0), (2, .int (nI i)), (3, .int (nI 6))] → W p l e { frames := 0, cells := 0, slots := 0, locals := 0 } st m args below meth c H locs 0 0 (MQ below (mQv D (kT cI cO) ws0 sz (xW cI cO a s (o_fill6_5 s f) R)) args st 0 0 (va_A ws0 sz)) (F0 m 5 ls []) := by
  intro n
  induction n with
  | zero => intro i H locs ls hfu hi w hl; exact absurd hfu (by omega)
  | succ n ih =>
    intro i H locs ls hfu hi w hl
    refine lv_iload_n S.1 S.2.1 dJ7_fill_53178_5 rfl (lv_at hl 2 rfl) ?_
    refine lv_iload_n S.1 S.2.1 dJ7_fill_53178_6 rfl (lv_at hl 3 rfl) ?_
    refine lv_icmp_ge (tgt := 20) S.1 S.2.1 dJ7_fill_53178_7 (by decide) (fun (c_1 : (nI 6) ≤ (nI i)) => ?_) (fun (c_1 : ¬ ((nI 6) ≤ (nI i))) => ?_)
    · have he : i = 6 := by
        have := (nI_leI (a := 6) (b := i) (by omega) (by omega)).mp c_1
        omega
      subst i
      exact x_retv S w hr hlk dJ7_fill_53178_20 (show xW cI cO a s (va_up f 6 (pfx 6 (fun _ => 0) (f 6))) R = xW cI cO a s (o_fill6_5 s f) R from by simp only [o_fill6_5])
    · have hlt : i < 6 := Nat.lt_of_not_le (fun z => c_1 (nI_le z (by omega)))
      refine lv_aload_n S.1 S.2.1 dJ7_fill_53178_10 rfl (lv_at hl 0 rfl) ?_
      refine lv_iload_n S.1 S.2.1 dJ7_fill_53178_11 rfl (lv_at hl 2 rfl) ?_
      refine lv_iload_n S.1 S.2.1 dJ7_fill_53178_12 rfl (lv_at hl 1 rfl) ?_
      refine x_iast S w 11 0 (g := pfx i (fun _ => 0) (f 6)) i (by omega) (rfl) (Nat.le_of_ble_eq_true rfl) (xc_11) rfl (xs_6) dJ7_fill_53178_13 (fun H locs (w : Wd D (kT cI cO) (va_A _ _) _ _ (xW cI cO a s (va_up (va_up f 6 (pfx i (fun _ => 0) (f 6))) 6 (upd (pfx i (fun _ => 0) (f 6)) i 0)) R) H locs) => ?_)
      have w := w.to (show xW cI cO a s (va_up (va_up f 6 (pfx i (fun _ => 0) (f 6))) 6 (upd (pfx i (fun _ => 0) (f 6)) i 0)) R = xW cI cO a s (va_up f 6 (pfx (i + 1) (fun _ => 0) (f 6))) R from x_f (va_step' rfl))
      refine lv_iinc (v := nI (i + 1)) (lv' := [(2, .int (nI (i + 1))), (0, .ref (a 11)), (1, .int 0), (3, .int (nI 6))]) S.1 S.2.1 dJ7_fill_53178_14 hl (k := 2) rfl (x_inc _) (by decide) rfl (fun ls hl => ?_)
      refine lv_goto (tgt := 5) S.1 S.2.1 dJ7_fill_53178_17 (by decide) ?_
      exact ih (i + 1) _ _ _ (by omega) (by omega) w (lv_sub hl [1, 2, 0, 3] rfl)
def o_fill6 (s : Nat → Int32) (f : Nat → Nat → Int32) : (Nat → Nat → Int32) := o_fill6_5 s f
set_option maxHeartbeats 4000000 in
set_option maxRecDepth 100000 in
theorem k_fill6 (l : Launch) (D : va_G) (cI cO : ClassId) (a : Nat → Nat) (R : va_W) (s : Nat → Int32) (f : Nat → Nat → Int32) : Mv l yJ7_fill_53178 cJ7_fill_53178 4 none { frames := 0, cells := 0, slots := 0, locals := 0 } D (kT cI cO) (xW cI cO a s f R) [.ref (a 11), .int 0] (xW cI cO a s (o_fill6 s f) R) := by
  intro sz
  refine ent (by decide +kernel) (Nat.le_of_ble_eq_true rfl) ?_
  intro p e st m below meth c ls S hr hlk hnm w hsz hl
  have hl : lv_has ls 4 [(0, .ref (a 11)), (1, .int 0)] := hl
  refine lv_iconst (v := 0) S.1 S.2.1 dJ7_fill_53178_0 (by decide) ?_
  refine lv_istore_n (lv' := [(2, .int 0), (0, .ref (a 11)), (1, .int 0)]) S.1 S.2.1 dJ7_fill_53178_1 rfl hl (by decide) rfl (fun ls hl => ?_)
  refine lv_aload_n S.1 S.2.1 dJ7_fill_53178_2 rfl (lv_at hl 1 rfl) ?_
  refine x_alen S w 11 0 (g := f 6) (xc_11) rfl dJ7_fill_53178_3 ?_
  refine lv_istore_n (lv' := [(3, .int (nI 6)), (2, .int 0), (0, .ref (a 11)), (1, .int 0)]) S.1 S.2.1 dJ7_fill_53178_4 rfl hl (by decide) rfl (fun ls hl => ?_)
  refine x_tov  (show xW cI cO a s (o_fill6_5 s f) R = xW cI cO a s (o_fill6 s f) R from by simp only [o_fill6]) ?_
  exact j_fill6_5 l D cI cO a R s f S hr hlk 7 0 _ _ _ (by omega) (by omega) (w.to (show xW cI cO a s f R = xW cI cO a s (va_up f 6 (pfx 0 (fun _ => 0) (f 6))) R from by rw [va_first])) (lv_sub hl [2, 3, 1, 0] rfl)
end
section
def o_X3_becomeAsAtFirst (s : Nat → Int32) (f : Nat → Nat → Int32) (q : Int32) : (Nat → Int32) := upd (upd (upd (upd (upd (upd (upd (upd (upd (upd (upd s 0 q) 1 500) 2 0) 3 0) 4 1) 5 1000000) 6 4) 7 0) 8 10) 9 2) 10 0
set_option maxHeartbeats 4000000 in
set_option maxRecDepth 100000 in
theorem k_X3_becomeAsAtFirst (l : Launch) (D : va_G) (cI cO : ClassId) (a : Nat → Nat) (R : va_W) (s : Nat → Int32) (f : Nat → Nat → Int32) (q : Int32) : Mv l yX3_becomeAsAtFirst cX3_becomeAsAtFirst 2 none { frames := 0, cells := 0, slots := 0, locals := 0 } D (kT cI cO) (xW cI cO a s f R) [.ref (a 1), .int q] (xW cI cO a (o_X3_becomeAsAtFirst s f q) f R) := by
  intro sz
  refine ent (by decide +kernel) (Nat.le_of_ble_eq_true rfl) ?_
  intro p e st m below meth c ls S hr hlk hnm w hsz hl
  have hl : lv_has ls 2 [(0, .ref (a 1)), (1, .int q)] := hl
  refine lv_aload_n S.1 S.2.1 dX3_becomeAsAtFirst_0 rfl (lv_at hl 0 rfl) ?_
  refine lv_iload_n S.1 S.2.1 dX3_becomeAsAtFirst_1 rfl (lv_at hl 1 rfl) ?_
  refine xp_0 S w lk_RX3_9 dX3_becomeAsAtFirst_2 (fun H locs (w : Wd D (kT cI cO) (va_A _ _) _ _ (xW cI cO a (upd s 0 q) f R) H locs) => ?_)
  refine lv_aload_n S.1 S.2.1 dX3_becomeAsAtFirst_5 rfl (lv_at hl 0 rfl) ?_
  refine lv_sipush (v := 500) S.1 S.2.1 dX3_becomeAsAtFirst_6 (by decide) ?_
  refine xp_1 S w lk_RX3_15 dX3_becomeAsAtFirst_9 (fun H locs (w : Wd D (kT cI cO) (va_A _ _) _ _ (xW cI cO a (upd (upd s 0 q) 1 500) f R) H locs) => ?_)
  refine lv_aload_n S.1 S.2.1 dX3_becomeAsAtFirst_12 rfl (lv_at hl 0 rfl) ?_
  refine lv_iconst (v := 0) S.1 S.2.1 dX3_becomeAsAtFirst_13 (by decide) ?_
  refine xp_2 S w lk_RX3_18 dX3_becomeAsAtFirst_14 (fun H locs (w : Wd D (kT cI cO) (va_A _ _) _ _ (xW cI cO a (upd (upd (upd s 0 q) 1 500) 2 0) f R) H locs) => ?_)
  refine lv_aload_n S.1 S.2.1 dX3_becomeAsAtFirst_17 rfl (lv_at hl 0 rfl) ?_
  refine lv_iconst (v := 0) S.1 S.2.1 dX3_becomeAsAtFirst_18 (by decide) ?_
  refine xp_3 S w lk_RX3_21 dX3_becomeAsAtFirst_19 (fun H locs (w : Wd D (kT cI cO) (va_A _ _) _ _ (xW cI cO a (upd (upd (upd (upd s 0 q) 1 500) 2 0) 3 0) f R) H locs) => ?_)
  refine lv_aload_n S.1 S.2.1 dX3_becomeAsAtFirst_22 rfl (lv_at hl 0 rfl) ?_
  refine lv_iconst (v := 1) S.1 S.2.1 dX3_becomeAsAtFirst_23 (by decide) ?_
  refine xp_4 S w lk_RX3_24 dX3_becomeAsAtFirst_24 (fun H locs (w : Wd D (kT cI cO) (va_A _ _) _ _ (xW cI cO a (upd (upd (upd (upd (upd s 0 q) 1 500) 2 0) 3 0) 4 1) f R) H locs) => ?_)
  refine lv_aload_n S.1 S.2.1 dX3_becomeAsAtFirst_27 rfl (lv_at hl 0 rfl) ?_
  refine x_ldc S lk_RX3_27 dX3_becomeAsAtFirst_28 ?_
  refine xp_5 S w lk_RX3_28 dX3_becomeAsAtFirst_30 (fun H locs (w : Wd D (kT cI cO) (va_A _ _) _ _ (xW cI cO a (upd (upd (upd (upd (upd (upd s 0 q) 1 500) 2 0) 3 0) 4 1) 5 1000000) f R) H locs) => ?_)
  refine lv_aload_n S.1 S.2.1 dX3_becomeAsAtFirst_33 rfl (lv_at hl 0 rfl) ?_
  refine lv_iconst (v := 4) S.1 S.2.1 dX3_becomeAsAtFirst_34 (by decide) ?_
  refine xp_6 S w lk_RX3_31 dX3_becomeAsAtFirst_35 (fun H locs (w : Wd D (kT cI cO) (va_A _ _) _ _ (xW cI cO a (upd (upd (upd (upd (upd (upd (upd s 0 q) 1 500) 2 0) 3 0) 4 1) 5 1000000) 6 4) f R) H locs) => ?_)
  refine lv_aload_n S.1 S.2.1 dX3_becomeAsAtFirst_38 rfl (lv_at hl 0 rfl) ?_
  refine lv_iconst (v := 0) S.1 S.2.1 dX3_becomeAsAtFirst_39 (by decide) ?_
  refine xp_7 S w lk_RX3_34 dX3_becomeAsAtFirst_40 (fun H locs (w : Wd D (kT cI cO) (va_A _ _) _ _ (xW cI cO a (upd (upd (upd (upd (upd (upd (upd (upd s 0 q) 1 500) 2 0) 3 0) 4 1) 5 1000000) 6 4) 7 0) f R) H locs) => ?_)
  refine lv_aload_n S.1 S.2.1 dX3_becomeAsAtFirst_43 rfl (lv_at hl 0 rfl) ?_
  refine lv_bipush (v := 10) S.1 S.2.1 dX3_becomeAsAtFirst_44 (by decide) ?_
  refine xp_8 S w lk_RX3_37 dX3_becomeAsAtFirst_46 (fun H locs (w : Wd D (kT cI cO) (va_A _ _) _ _ (xW cI cO a (upd (upd (upd (upd (upd (upd (upd (upd (upd s 0 q) 1 500) 2 0) 3 0) 4 1) 5 1000000) 6 4) 7 0) 8 10) f R) H locs) => ?_)
  refine lv_aload_n S.1 S.2.1 dX3_becomeAsAtFirst_49 rfl (lv_at hl 0 rfl) ?_
  refine lv_iconst (v := 2) S.1 S.2.1 dX3_becomeAsAtFirst_50 (by decide) ?_
  refine xp_9 S w lk_RX3_40 dX3_becomeAsAtFirst_51 (fun H locs (w : Wd D (kT cI cO) (va_A _ _) _ _ (xW cI cO a (upd (upd (upd (upd (upd (upd (upd (upd (upd (upd s 0 q) 1 500) 2 0) 3 0) 4 1) 5 1000000) 6 4) 7 0) 8 10) 9 2) f R) H locs) => ?_)
  refine lv_aload_n S.1 S.2.1 dX3_becomeAsAtFirst_54 rfl (lv_at hl 0 rfl) ?_
  refine lv_iconst (v := 0) S.1 S.2.1 dX3_becomeAsAtFirst_55 (by decide) ?_
  refine xp_10 S w (Or.inl rfl) lk_RX3_43 dX3_becomeAsAtFirst_56 (fun H locs (w : Wd D (kT cI cO) (va_A _ _) _ _ (xW cI cO a (upd (upd (upd (upd (upd (upd (upd (upd (upd (upd (upd s 0 q) 1 500) 2 0) 3 0) 4 1) 5 1000000) 6 4) 7 0) 8 10) 9 2) 10 0) f R) H locs) => ?_)
  exact x_retv S w hr hlk dX3_becomeAsAtFirst_59 (show xW cI cO a (upd (upd (upd (upd (upd (upd (upd (upd (upd (upd (upd s 0 q) 1 500) 2 0) 3 0) 4 1) 5 1000000) 6 4) 7 0) 8 10) 9 2) 10 0) f R = xW cI cO a (o_X3_becomeAsAtFirst s f q) f R from by simp only [o_X3_becomeAsAtFirst])
def o_X2_becomeAsAtFirst (s : Nat → Int32) (f : Nat → Nat → Int32) : (Nat → Int32) × (Nat → Nat → Int32) := (upd (upd s 17 0) 18 0, va_up (va_up f 6 (pfx 6 (fun _ => 0) (f 6))) 6 (upd (pfx 6 (fun _ => 0) (f 6)) 0 1000))
set_option maxHeartbeats 4000000 in
set_option maxRecDepth 100000 in
theorem k_X2_becomeAsAtFirst (l : Launch) (D : va_G) (cI cO : ClassId) (a : Nat → Nat) (R : va_W) (s : Nat → Int32) (f : Nat → Nat → Int32) : Mv l yX2_becomeAsAtFirst cX2_becomeAsAtFirst 1 none { frames := 1, cells := 0, slots := 0, locals := 23 } D (kT cI cO) (xW cI cO a s f R) [.ref (a 2)] (xW cI cO a ((o_X2_becomeAsAtFirst s f).1) ((o_X2_becomeAsAtFirst s f).2) R) := by
  intro sz
  refine ent (by decide +kernel) (Nat.le_of_ble_eq_true rfl) ?_
  intro p e st m below meth c ls S hr hlk hnm w hsz hl
  have hl : lv_has ls 1 [(0, .ref (a 2))] := hl
  refine lv_aload_n S.1 S.2.1 dX2_becomeAsAtFirst_0 rfl (lv_at hl 0 rfl) ?_
  refine xr_11 S w lk_RX2_9 dX2_becomeAsAtFirst_1 ?_
  refine lv_iconst (v := 0) S.1 S.2.1 dX2_becomeAsAtFirst_4 (by decide) ?_
  refine x_Sv (As := [.ref (a 11), .int 0]) (rest := []) S w (goodS lk_RX2_13 lt_J7_fill_53178 ln_RJ7 lc_J7_fill_53178) hd_J7_fill_53178 (k_fill6 l D cI cO a R s f) rfl ⟨(Nat.le_of_ble_eq_true rfl), (Nat.le_of_ble_eq_true rfl)⟩ ⟨rfl, rfl⟩ hl.1 rfl (Nat.le_of_ble_eq_true rfl) ⟨Nat.zero_le _, Nat.zero_le _⟩ dX2_becomeAsAtFirst_5 (fun H locs (w : Wd D (kT cI cO) (va_A _ _) _ _ (xW cI cO a s (va_up f 6 (pfx 6 (fun _ => 0) (f 6))) R) H locs) => ?_)
  refine lv_aload_n S.1 S.2.1 dX2_becomeAsAtFirst_8 rfl (lv_at hl 0 rfl) ?_
  refine xr_11 S w lk_RX2_9 dX2_becomeAsAtFirst_9 ?_
  refine lv_iconst (v := 0) S.1 S.2.1 dX2_becomeAsAtFirst_12 (by decide) ?_
  refine lv_sipush (v := 1000) S.1 S.2.1 dX2_becomeAsAtFirst_13 (by decide) ?_
  refine x_iast S w 11 0 (g := pfx 6 (fun _ => 0) (f 6)) 0 (by decide) (rfl) (Nat.le_of_ble_eq_true rfl) (xc_11) rfl (xs_6) dX2_becomeAsAtFirst_16 (fun H locs (w : Wd D (kT cI cO) (va_A _ _) _ _ (xW cI cO a s (va_up (va_up f 6 (pfx 6 (fun _ => 0) (f 6))) 6 (upd (pfx 6 (fun _ => 0) (f 6)) 0 1000)) R) H locs) => ?_)
  refine lv_aload_n S.1 S.2.1 dX2_becomeAsAtFirst_17 rfl (lv_at hl 0 rfl) ?_
  refine lv_iconst (v := 0) S.1 S.2.1 dX2_becomeAsAtFirst_18 (by decide) ?_
  refine xp_17 S w lk_RX2_19 dX2_becomeAsAtFirst_19 (fun H locs (w : Wd D (kT cI cO) (va_A _ _) _ _ (xW cI cO a (upd s 17 0) (va_up (va_up f 6 (pfx 6 (fun _ => 0) (f 6))) 6 (upd (pfx 6 (fun _ => 0) (f 6)) 0 1000)) R) H locs) => ?_)
  refine lv_aload_n S.1 S.2.1 dX2_becomeAsAtFirst_22 rfl (lv_at hl 0 rfl) ?_
  refine lv_iconst (v := 0) S.1 S.2.1 dX2_becomeAsAtFirst_23 (by decide) ?_
  refine xp_18 S w lk_RX2_23 dX2_becomeAsAtFirst_24 (fun H locs (w : Wd D (kT cI cO) (va_A _ _) _ _ (xW cI cO a (upd (upd s 17 0) 18 0) (va_up (va_up f 6 (pfx 6 (fun _ => 0) (f 6))) 6 (upd (pfx 6 (fun _ => 0) (f 6)) 0 1000)) R) H locs) => ?_)
  exact x_retv S w hr hlk dX2_becomeAsAtFirst_27 (show xW cI cO a (upd (upd s 17 0) 18 0) (va_up (va_up f 6 (pfx 6 (fun _ => 0) (f 6))) 6 (upd (pfx 6 (fun _ => 0) (f 6)) 0 1000)) R = xW cI cO a ((o_X2_becomeAsAtFirst s f).1) ((o_X2_becomeAsAtFirst s f).2) R from by simp only [o_X2_becomeAsAtFirst])
def o_X4_startAnew (s : Nat → Int32) (f : Nat → Nat → Int32) (q : Int32) : (Nat → Int32) × (Nat → Nat → Int32) := (upd (upd (upd (upd (upd (upd (upd (upd (upd (upd (upd (upd (upd (upd (upd (upd (upd (upd (upd (upd (upd s 0 q) 1 500) 2 0) 3 0) 4 1) 5 1000000) 6 4) 7 0) 8 10) 9 2) 10 0) 17 0) 18 0) 19 0) 20 0) 11 0) 12 0) 13 0) 14 0) 15 0) 16 0, va_up (va_up (va_up (va_up f 6 (pfx 6 (fun _ => 0) (f 6))) 6 (upd (pfx 6 (fun _ => 0) (f 6)) 0 1000)) 0 (pfx 48 (fun _ => 0) ((va_up (va_up f 6 (pfx 6 (fun _ => 0) (f 6))) 6 (upd (pfx 6 (fun _ => 0) (f 6)) 0 1000)) 0))) 1 (pfx 48 (fun _ => 0) ((va_up (va_up (va_up f 6 (pfx 6 (fun _ => 0) (f 6))) 6 (upd (pfx 6 (fun _ => 0) (f 6)) 0 1000)) 0 (pfx 48 (fun _ => 0) ((va_up (va_up f 6 (pfx 6 (fun _ => 0) (f 6))) 6 (upd (pfx 6 (fun _ => 0) (f 6)) 0 1000)) 0))) 1)))
set_option maxHeartbeats 4000000 in
set_option maxRecDepth 100000 in
theorem k_X4_startAnew (l : Launch) (D : va_G) (cI cO : ClassId) (a : Nat → Nat) (R : va_W) (s : Nat → Int32) (f : Nat → Nat → Int32) (q : Int32) : Mv l yX4_startAnew cX4_startAnew 2 none { frames := 2, cells := 0, slots := 0, locals := 43 } D (kT cI cO) (xW cI cO a s f R) [.ref (a 0), .int q] (xW cI cO a ((o_X4_startAnew s f q).1) ((o_X4_startAnew s f q).2) R) := by
  intro sz
  refine ent (by decide +kernel) (Nat.le_of_ble_eq_true rfl) ?_
  intro p e st m below meth c ls S hr hlk hnm w hsz hl
  have hl : lv_has ls 2 [(0, .ref (a 0)), (1, .int q)] := hl
  refine lv_aload_n S.1 S.2.1 dX4_startAnew_0 rfl (lv_at hl 0 rfl) ?_
  refine xr_1 S w lk_RX4_10 dX4_startAnew_1 ?_
  refine lv_iload_n S.1 S.2.1 dX4_startAnew_4 rfl (lv_at hl 1 rfl) ?_
  refine x_Vv (As := [.int q]) (rest := []) S w (goodV lk_RX4_223 li_X3_becomeAsAtFirst ls_X3_becomeAsAtFirst ln_RX3 lc_X3_becomeAsAtFirst) hV_X3_becomeAsAtFirst (k_X3_becomeAsAtFirst l D cI cO a R s f q) rfl 1 3 rfl rfl xc_1 ⟨(Nat.le_of_ble_eq_true rfl), (Nat.le_of_ble_eq_true rfl)⟩ ⟨rfl, rfl⟩ hl.1 rfl (Nat.le_of_ble_eq_true rfl) ⟨Nat.zero_le _, Nat.zero_le _⟩ dX4_startAnew_5 (fun H locs (w : Wd D (kT cI cO) (va_A _ _) _ _ (xW cI cO a (upd (upd (upd (upd (upd (upd (upd (upd (upd (upd (upd s 0 q) 1 500) 2 0) 3 0) 4 1) 5 1000000) 6 4) 7 0) 8 10) 9 2) 10 0) f R) H locs) => ?_)
  refine lv_aload_n S.1 S.2.1 dX4_startAnew_8 rfl (lv_at hl 0 rfl) ?_
  refine xr_2 S w lk_RX4_19 dX4_startAnew_9 ?_
  refine x_Vv (As := []) (rest := []) S w (goodV lk_RX4_226 li_X2_becomeAsAtFirst ls_X2_becomeAsAtFirst ln_RX2 lc_X2_becomeAsAtFirst) hV_X2_becomeAsAtFirst (k_X2_becomeAsAtFirst l D cI cO a R (upd (upd (upd (upd (upd (upd (upd (upd (upd (upd (upd s 0 q) 1 500) 2 0) 3 0) 4 1) 5 1000000) 6 4) 7 0) 8 10) 9 2) 10 0) f) rfl 2 2 rfl rfl xc_2 ⟨(Nat.le_of_ble_eq_true rfl), (Nat.le_of_ble_eq_true rfl)⟩ ⟨rfl, rfl⟩ hl.1 rfl (Nat.le_of_ble_eq_true rfl) ⟨Nat.zero_le _, Nat.zero_le _⟩ dX4_startAnew_12 (fun H locs (w : Wd D (kT cI cO) (va_A _ _) _ _ (xW cI cO a (upd (upd (upd (upd (upd (upd (upd (upd (upd (upd (upd (upd (upd s 0 q) 1 500) 2 0) 3 0) 4 1) 5 1000000) 6 4) 7 0) 8 10) 9 2) 10 0) 17 0) 18 0) (va_up (va_up f 6 (pfx 6 (fun _ => 0) (f 6))) 6 (upd (pfx 6 (fun _ => 0) (f 6)) 0 1000)) R) H locs) => ?_)
  refine lv_aload_n S.1 S.2.1 dX4_startAnew_15 rfl (lv_at hl 0 rfl) ?_
  refine xr_3 S w lk_RX4_26 dX4_startAnew_16 ?_
  refine lv_iconst (v := 0) S.1 S.2.1 dX4_startAnew_19 (by decide) ?_
  refine xp_19 S w lk_RX4_136 dX4_startAnew_20 (fun H locs (w : Wd D (kT cI cO) (va_A _ _) _ _ (xW cI cO a (upd (upd (upd (upd (upd (upd (upd (upd (upd (upd (upd (upd (upd (upd s 0 q) 1 500) 2 0) 3 0) 4 1) 5 1000000) 6 4) 7 0) 8 10) 9 2) 10 0) 17 0) 18 0) 19 0) (va_up (va_up f 6 (pfx 6 (fun _ => 0) (f 6))) 6 (upd (pfx 6 (fun _ => 0) (f 6)) 0 1000)) R) H locs) => ?_)
  refine lv_aload_n S.1 S.2.1 dX4_startAnew_23 rfl (lv_at hl 0 rfl) ?_
  refine xr_4 S w lk_RX4_33 dX4_startAnew_24 ?_
  refine lv_iconst (v := 0) S.1 S.2.1 dX4_startAnew_27 (by decide) ?_
  refine xp_20 S w (Or.inl rfl) lk_RX4_177 dX4_startAnew_28 (fun H locs (w : Wd D (kT cI cO) (va_A _ _) _ _ (xW cI cO a (upd (upd (upd (upd (upd (upd (upd (upd (upd (upd (upd (upd (upd (upd (upd s 0 q) 1 500) 2 0) 3 0) 4 1) 5 1000000) 6 4) 7 0) 8 10) 9 2) 10 0) 17 0) 18 0) 19 0) 20 0) (va_up (va_up f 6 (pfx 6 (fun _ => 0) (f 6))) 6 (upd (pfx 6 (fun _ => 0) (f 6)) 0 1000)) R) H locs) => ?_)
  refine lv_aload_n S.1 S.2.1 dX4_startAnew_31 rfl (lv_at hl 0 rfl) ?_
  refine xr_5 S w lk_RX4_37 dX4_startAnew_32 ?_
  refine lv_iconst (v := 0) S.1 S.2.1 dX4_startAnew_35 (by decide) ?_
  refine x_Sv (As := [.ref (a 5), .int 0]) (rest := []) S w (goodS lk_RX4_228 lt_J7_fill_53178 ln_RJ7 lc_J7_fill_53178) hd_J7_fill_53178 (k_fill0 l D cI cO a R (upd (upd (upd (upd (upd (upd (upd (upd (upd (upd (upd (upd (upd (upd (upd s 0 q) 1 500) 2 0) 3 0) 4 1) 5 1000000) 6 4) 7 0) 8 10) 9 2) 10 0) 17 0) 18 0) 19 0) 20 0) (va_up (va_up f 6 (pfx 6 (fun _ => 0) (f 6))) 6 (upd (pfx 6 (fun _ => 0) (f 6)) 0 1000))) rfl ⟨(Nat.le_of_ble_eq_true rfl), (Nat.le_of_ble_eq_true rfl)⟩ ⟨rfl, rfl⟩ hl.1 rfl (Nat.le_of_ble_eq_true rfl) ⟨Nat.zero_le _, Nat.zero_le _⟩ dX4_startAnew_36 (fun H locs (w : Wd D (kT cI cO) (va_A _ _) _ _ (xW cI cO a (upd (upd (upd (upd (upd (upd (upd (upd (upd (upd (upd (upd (upd (upd (upd s 0 q) 1 500) 2 0) 3 0) 4 1) 5 1000000) 6 4) 7 0) 8 10) 9 2) 10 0) 17 0) 18 0) 19 0) 20 0) (va_up (va_up (va_up f 6 (pfx 6 (fun _ => 0) (f 6))) 6 (upd (pfx 6 (fun _ => 0) (f 6)) 0 1000)) 0 (pfx 48 (fun _ => 0) ((va_up (va_up f 6 (pfx 6 (fun _ => 0) (f 6))) 6 (upd (pfx 6 (fun _ => 0) (f 6)) 0 1000)) 0))) R) H locs) => ?_)
  refine lv_aload_n S.1 S.2.1 dX4_startAnew_39 rfl (lv_at hl 0 rfl) ?_
  refine xr_6 S w lk_RX4_41 dX4_startAnew_40 ?_
  refine lv_iconst (v := 0) S.1 S.2.1 dX4_startAnew_43 (by decide) ?_
  refine x_Sv (As := [.ref (a 6), .int 0]) (rest := []) S w (goodS lk_RX4_228 lt_J7_fill_53178 ln_RJ7 lc_J7_fill_53178) hd_J7_fill_53178 (k_fill1 l D cI cO a R (upd (upd (upd (upd (upd (upd (upd (upd (upd (upd (upd (upd (upd (upd (upd s 0 q) 1 500) 2 0) 3 0) 4 1) 5 1000000) 6 4) 7 0) 8 10) 9 2) 10 0) 17 0) 18 0) 19 0) 20 0) (va_up (va_up (va_up f 6 (pfx 6 (fun _ => 0) (f 6))) 6 (upd (pfx 6 (fun _ => 0) (f 6)) 0 1000)) 0 (pfx 48 (fun _ => 0) ((va_up (va_up f 6 (pfx 6 (fun _ => 0) (f 6))) 6 (upd (pfx 6 (fun _ => 0) (f 6)) 0 1000)) 0)))) rfl ⟨(Nat.le_of_ble_eq_true rfl), (Nat.le_of_ble_eq_true rfl)⟩ ⟨rfl, rfl⟩ hl.1 rfl (Nat.le_of_ble_eq_true rfl) ⟨Nat.zero_le _, Nat.zero_le _⟩ dX4_startAnew_44 (fun H locs (w : Wd D (kT cI cO) (va_A _ _) _ _ (xW cI cO a (upd (upd (upd (upd (upd (upd (upd (upd (upd (upd (upd (upd (upd (upd (upd s 0 q) 1 500) 2 0) 3 0) 4 1) 5 1000000) 6 4) 7 0) 8 10) 9 2) 10 0) 17 0) 18 0) 19 0) 20 0) (va_up (va_up (va_up (va_up f 6 (pfx 6 (fun _ => 0) (f 6))) 6 (upd (pfx 6 (fun _ => 0) (f 6)) 0 1000)) 0 (pfx 48 (fun _ => 0) ((va_up (va_up f 6 (pfx 6 (fun _ => 0) (f 6))) 6 (upd (pfx 6 (fun _ => 0) (f 6)) 0 1000)) 0))) 1 (pfx 48 (fun _ => 0) ((va_up (va_up (va_up f 6 (pfx 6 (fun _ => 0) (f 6))) 6 (upd (pfx 6 (fun _ => 0) (f 6)) 0 1000)) 0 (pfx 48 (fun _ => 0) ((va_up (va_up f 6 (pfx 6 (fun _ => 0) (f 6))) 6 (upd (pfx 6 (fun _ => 0) (f 6)) 0 1000)) 0))) 1))) R) H locs) => ?_)
  refine lv_aload_n S.1 S.2.1 dX4_startAnew_47 rfl (lv_at hl 0 rfl) ?_
  refine lv_iconst (v := 0) S.1 S.2.1 dX4_startAnew_48 (by decide) ?_
  refine xp_11 S w (Or.inl rfl) lk_RX4_112 dX4_startAnew_49 (fun H locs (w : Wd D (kT cI cO) (va_A _ _) _ _ (xW cI cO a (upd (upd (upd (upd (upd (upd (upd (upd (upd (upd (upd (upd (upd (upd (upd (upd s 0 q) 1 500) 2 0) 3 0) 4 1) 5 1000000) 6 4) 7 0) 8 10) 9 2) 10 0) 17 0) 18 0) 19 0) 20 0) 11 0) (va_up (va_up (va_up (va_up f 6 (pfx 6 (fun _ => 0) (f 6))) 6 (upd (pfx 6 (fun _ => 0) (f 6)) 0 1000)) 0 (pfx 48 (fun _ => 0) ((va_up (va_up f 6 (pfx 6 (fun _ => 0) (f 6))) 6 (upd (pfx 6 (fun _ => 0) (f 6)) 0 1000)) 0))) 1 (pfx 48 (fun _ => 0) ((va_up (va_up (va_up f 6 (pfx 6 (fun _ => 0) (f 6))) 6 (upd (pfx 6 (fun _ => 0) (f 6)) 0 1000)) 0 (pfx 48 (fun _ => 0) ((va_up (va_up f 6 (pfx 6 (fun _ => 0) (f 6))) 6 (upd (pfx 6 (fun _ => 0) (f 6)) 0 1000)) 0))) 1))) R) H locs) => ?_)
  refine lv_aload_n S.1 S.2.1 dX4_startAnew_52 rfl (lv_at hl 0 rfl) ?_
  refine lv_iconst (v := 0) S.1 S.2.1 dX4_startAnew_53 (by decide) ?_
  refine xp_12 S w lk_RX4_126 dX4_startAnew_54 (fun H locs (w : Wd D (kT cI cO) (va_A _ _) _ _ (xW cI cO a (upd (upd (upd (upd (upd (upd (upd (upd (upd (upd (upd (upd (upd (upd (upd (upd (upd s 0 q) 1 500) 2 0) 3 0) 4 1) 5 1000000) 6 4) 7 0) 8 10) 9 2) 10 0) 17 0) 18 0) 19 0) 20 0) 11 0) 12 0) (va_up (va_up (va_up (va_up f 6 (pfx 6 (fun _ => 0) (f 6))) 6 (upd (pfx 6 (fun _ => 0) (f 6)) 0 1000)) 0 (pfx 48 (fun _ => 0) ((va_up (va_up f 6 (pfx 6 (fun _ => 0) (f 6))) 6 (upd (pfx 6 (fun _ => 0) (f 6)) 0 1000)) 0))) 1 (pfx 48 (fun _ => 0) ((va_up (va_up (va_up f 6 (pfx 6 (fun _ => 0) (f 6))) 6 (upd (pfx 6 (fun _ => 0) (f 6)) 0 1000)) 0 (pfx 48 (fun _ => 0) ((va_up (va_up f 6 (pfx 6 (fun _ => 0) (f 6))) 6 (upd (pfx 6 (fun _ => 0) (f 6)) 0 1000)) 0))) 1))) R) H locs) => ?_)
  refine lv_aload_n S.1 S.2.1 dX4_startAnew_57 rfl (lv_at hl 0 rfl) ?_
  refine lv_iconst (v := 0) S.1 S.2.1 dX4_startAnew_58 (by decide) ?_
  refine xp_13 S w lk_RX4_119 dX4_startAnew_59 (fun H locs (w : Wd D (kT cI cO) (va_A _ _) _ _ (xW cI cO a (upd (upd (upd (upd (upd (upd (upd (upd (upd (upd (upd (upd (upd (upd (upd (upd (upd (upd s 0 q) 1 500) 2 0) 3 0) 4 1) 5 1000000) 6 4) 7 0) 8 10) 9 2) 10 0) 17 0) 18 0) 19 0) 20 0) 11 0) 12 0) 13 0) (va_up (va_up (va_up (va_up f 6 (pfx 6 (fun _ => 0) (f 6))) 6 (upd (pfx 6 (fun _ => 0) (f 6)) 0 1000)) 0 (pfx 48 (fun _ => 0) ((va_up (va_up f 6 (pfx 6 (fun _ => 0) (f 6))) 6 (upd (pfx 6 (fun _ => 0) (f 6)) 0 1000)) 0))) 1 (pfx 48 (fun _ => 0) ((va_up (va_up (va_up f 6 (pfx 6 (fun _ => 0) (f 6))) 6 (upd (pfx 6 (fun _ => 0) (f 6)) 0 1000)) 0 (pfx 48 (fun _ => 0) ((va_up (va_up f 6 (pfx 6 (fun _ => 0) (f 6))) 6 (upd (pfx 6 (fun _ => 0) (f 6)) 0 1000)) 0))) 1))) R) H locs) => ?_)
  refine lv_aload_n S.1 S.2.1 dX4_startAnew_62 rfl (lv_at hl 0 rfl) ?_
  refine lv_iconst (v := 0) S.1 S.2.1 dX4_startAnew_63 (by decide) ?_
  refine xp_14 S w lk_RX4_130 dX4_startAnew_64 (fun H locs (w : Wd D (kT cI cO) (va_A _ _) _ _ (xW cI cO a (upd (upd (upd (upd (upd (upd (upd (upd (upd (upd (upd (upd (upd (upd (upd (upd (upd (upd (upd s 0 q) 1 500) 2 0) 3 0) 4 1) 5 1000000) 6 4) 7 0) 8 10) 9 2) 10 0) 17 0) 18 0) 19 0) 20 0) 11 0) 12 0) 13 0) 14 0) (va_up (va_up (va_up (va_up f 6 (pfx 6 (fun _ => 0) (f 6))) 6 (upd (pfx 6 (fun _ => 0) (f 6)) 0 1000)) 0 (pfx 48 (fun _ => 0) ((va_up (va_up f 6 (pfx 6 (fun _ => 0) (f 6))) 6 (upd (pfx 6 (fun _ => 0) (f 6)) 0 1000)) 0))) 1 (pfx 48 (fun _ => 0) ((va_up (va_up (va_up f 6 (pfx 6 (fun _ => 0) (f 6))) 6 (upd (pfx 6 (fun _ => 0) (f 6)) 0 1000)) 0 (pfx 48 (fun _ => 0) ((va_up (va_up f 6 (pfx 6 (fun _ => 0) (f 6))) 6 (upd (pfx 6 (fun _ => 0) (f 6)) 0 1000)) 0))) 1))) R) H locs) => ?_)
  refine lv_aload_n S.1 S.2.1 dX4_startAnew_67 rfl (lv_at hl 0 rfl) ?_
  refine lv_iconst (v := 0) S.1 S.2.1 dX4_startAnew_68 (by decide) ?_
  refine xp_15 S w lk_RX4_139 dX4_startAnew_69 (fun H locs (w : Wd D (kT cI cO) (va_A _ _) _ _ (xW cI cO a (upd (upd (upd (upd (upd (upd (upd (upd (upd (upd (upd (upd (upd (upd (upd (upd (upd (upd (upd (upd s 0 q) 1 500) 2 0) 3 0) 4 1) 5 1000000) 6 4) 7 0) 8 10) 9 2) 10 0) 17 0) 18 0) 19 0) 20 0) 11 0) 12 0) 13 0) 14 0) 15 0) (va_up (va_up (va_up (va_up f 6 (pfx 6 (fun _ => 0) (f 6))) 6 (upd (pfx 6 (fun _ => 0) (f 6)) 0 1000)) 0 (pfx 48 (fun _ => 0) ((va_up (va_up f 6 (pfx 6 (fun _ => 0) (f 6))) 6 (upd (pfx 6 (fun _ => 0) (f 6)) 0 1000)) 0))) 1 (pfx 48 (fun _ => 0) ((va_up (va_up (va_up f 6 (pfx 6 (fun _ => 0) (f 6))) 6 (upd (pfx 6 (fun _ => 0) (f 6)) 0 1000)) 0 (pfx 48 (fun _ => 0) ((va_up (va_up f 6 (pfx 6 (fun _ => 0) (f 6))) 6 (upd (pfx 6 (fun _ => 0) (f 6)) 0 1000)) 0))) 1))) R) H locs) => ?_)
  refine lv_aload_n S.1 S.2.1 dX4_startAnew_72 rfl (lv_at hl 0 rfl) ?_
  refine lv_iconst (v := 0) S.1 S.2.1 dX4_startAnew_73 (by decide) ?_
  refine xp_16 S w lk_RX4_142 dX4_startAnew_74 (fun H locs (w : Wd D (kT cI cO) (va_A _ _) _ _ (xW cI cO a (upd (upd (upd (upd (upd (upd (upd (upd (upd (upd (upd (upd (upd (upd (upd (upd (upd (upd (upd (upd (upd s 0 q) 1 500) 2 0) 3 0) 4 1) 5 1000000) 6 4) 7 0) 8 10) 9 2) 10 0) 17 0) 18 0) 19 0) 20 0) 11 0) 12 0) 13 0) 14 0) 15 0) 16 0) (va_up (va_up (va_up (va_up f 6 (pfx 6 (fun _ => 0) (f 6))) 6 (upd (pfx 6 (fun _ => 0) (f 6)) 0 1000)) 0 (pfx 48 (fun _ => 0) ((va_up (va_up f 6 (pfx 6 (fun _ => 0) (f 6))) 6 (upd (pfx 6 (fun _ => 0) (f 6)) 0 1000)) 0))) 1 (pfx 48 (fun _ => 0) ((va_up (va_up (va_up f 6 (pfx 6 (fun _ => 0) (f 6))) 6 (upd (pfx 6 (fun _ => 0) (f 6)) 0 1000)) 0 (pfx 48 (fun _ => 0) ((va_up (va_up f 6 (pfx 6 (fun _ => 0) (f 6))) 6 (upd (pfx 6 (fun _ => 0) (f 6)) 0 1000)) 0))) 1))) R) H locs) => ?_)
  exact x_retv S w hr hlk dX4_startAnew_77 (show xW cI cO a (upd (upd (upd (upd (upd (upd (upd (upd (upd (upd (upd (upd (upd (upd (upd (upd (upd (upd (upd (upd (upd s 0 q) 1 500) 2 0) 3 0) 4 1) 5 1000000) 6 4) 7 0) 8 10) 9 2) 10 0) 17 0) 18 0) 19 0) 20 0) 11 0) 12 0) 13 0) 14 0) 15 0) 16 0) (va_up (va_up (va_up (va_up f 6 (pfx 6 (fun _ => 0) (f 6))) 6 (upd (pfx 6 (fun _ => 0) (f 6)) 0 1000)) 0 (pfx 48 (fun _ => 0) ((va_up (va_up f 6 (pfx 6 (fun _ => 0) (f 6))) 6 (upd (pfx 6 (fun _ => 0) (f 6)) 0 1000)) 0))) 1 (pfx 48 (fun _ => 0) ((va_up (va_up (va_up f 6 (pfx 6 (fun _ => 0) (f 6))) 6 (upd (pfx 6 (fun _ => 0) (f 6)) 0 1000)) 0 (pfx 48 (fun _ => 0) ((va_up (va_up f 6 (pfx 6 (fun _ => 0) (f 6))) 6 (upd (pfx 6 (fun _ => 0) (f 6)) 0 1000)) 0))) 1))) R = xW cI cO a ((o_X4_startAnew s f q).1) ((o_X4_startAnew s f q).2) R from by simp only [o_X4_startAnew])
def o_X4_reset (s : Nat → Int32) (f : Nat → Nat → Int32) (q : Int32) : Int32 × (Nat → Int32) × (Nat → Nat → Int32) := if (wIn q 4 48) = 0 then ((-2000000001), s, f) else (s 0, upd (upd (upd (upd (upd (upd (upd (upd (upd (upd (upd (upd (upd (upd (upd (upd (upd (upd (upd (upd (upd s 0 q) 1 500) 2 0) 3 0) 4 1) 5 1000000) 6 4) 7 0) 8 10) 9 2) 10 0) 17 0) 18 0) 19 0) 20 0) 11 0) 12 0) 13 0) 14 0) 15 0) 16 0, va_up (va_up (va_up (va_up f 6 (pfx 6 (fun _ => 0) (f 6))) 6 (upd (pfx 6 (fun _ => 0) (f 6)) 0 1000)) 0 (pfx 48 (fun _ => 0) ((va_up (va_up f 6 (pfx 6 (fun _ => 0) (f 6))) 6 (upd (pfx 6 (fun _ => 0) (f 6)) 0 1000)) 0))) 1 (pfx 48 (fun _ => 0) ((va_up (va_up (va_up f 6 (pfx 6 (fun _ => 0) (f 6))) 6 (upd (pfx 6 (fun _ => 0) (f 6)) 0 1000)) 0 (pfx 48 (fun _ => 0) ((va_up (va_up f 6 (pfx 6 (fun _ => 0) (f 6))) 6 (upd (pfx 6 (fun _ => 0) (f 6)) 0 1000)) 0))) 1)))
set_option maxHeartbeats 4000000 in
set_option maxRecDepth 100000 in
theorem k_X4_reset (l : Launch) (D : va_G) (cI cO : ClassId) (a : Nat → Nat) (R : va_W) (s : Nat → Int32) (f : Nat → Nat → Int32) (q : Int32) : Mi l yX4_reset cX4_reset 3 (some .int) { frames := 3, cells := 0, slots := 0, locals := 64 } D (kT cI cO) (xW cI cO a s f R) [.ref (a 0), .int q] (xW cI cO a ((o_X4_reset s f q).2.1) ((o_X4_reset s f q).2.2) R) ((o_X4_reset s f q).1) := by
  intro sz
  refine ent (by decide +kernel) (Nat.le_of_ble_eq_true rfl) ?_
  intro p e st m below meth c ls S hr hlk hnm w hsz hl
  have hl : lv_has ls 3 [(0, .ref (a 0)), (1, .int q)] := hl
  refine lv_iload_n S.1 S.2.1 dX4_reset_0 rfl (lv_at hl 1 rfl) ?_
  refine lv_iconst (v := 4) S.1 S.2.1 dX4_reset_1 (by decide) ?_
  refine lv_bipush (v := 48) S.1 S.2.1 dX4_reset_2 (by decide) ?_
  refine x_Si (As := [.int q, .int 4, .int 48]) (rest := []) S w (goodS lk_RX4_60 lt_X4_isWithin ln_RX4 lc_X4_isWithin) hd_X4_isWithin (k_X4_isWithin l _ _ (xW cI cO a s f R) q 4 48) rfl ⟨(Nat.le_of_ble_eq_true rfl), (Nat.le_of_ble_eq_true rfl)⟩ ⟨rfl, rfl⟩ hl.1 rfl (Nat.le_of_ble_eq_true rfl) ⟨Nat.zero_le _, Nat.zero_le _⟩ dX4_reset_4 (fun H locs (w : Wd D (kT cI cO) (va_A _ _) _ _ (xW cI cO a s f R) H locs) => ?_)
  refine lv_if_ne (tgt := 13) S.1 S.2.1 dX4_reset_7 (by decide) (fun (c_1 : ¬ (wIn q 4 48) = 0) => ?_) (fun (c_1 : (wIn q 4 48) = 0) => ?_)
  · refine lv_aload_n S.1 S.2.1 dX4_reset_13 rfl (lv_at hl 0 rfl) ?_
    refine xr_1 S w lk_RX4_10 dX4_reset_14 ?_
    refine xg_0 S w lk_RX4_65 dX4_reset_17 ?_
    refine lv_istore_n (lv' := [(2, .int (s 0)), (0, .ref (a 0)), (1, .int q)]) S.1 S.2.1 dX4_reset_20 rfl hl (by decide) rfl (fun ls hl => ?_)
    refine lv_aload_n S.1 S.2.1 dX4_reset_21 rfl (lv_at hl 1 rfl) ?_
    refine lv_iload_n S.1 S.2.1 dX4_reset_22 rfl (lv_at hl 2 rfl) ?_
    refine x_Vv (As := [.int q]) (rest := []) S w (goodV lk_RX4_56 li_X4_startAnew ls_X4_startAnew ln_RX4 lc_X4_startAnew) hV_X4_startAnew (k_X4_startAnew l D cI cO a R s f q) rfl 0 4 rfl rfl xc_0 ⟨(Nat.le_of_ble_eq_true rfl), (Nat.le_of_ble_eq_true rfl)⟩ ⟨rfl, rfl⟩ hl.1 rfl (Nat.le_of_ble_eq_true rfl) ⟨Nat.zero_le _, Nat.zero_le _⟩ dX4_reset_23 (fun H locs (w : Wd D (kT cI cO) (va_A _ _) _ _ (xW cI cO a (upd (upd (upd (upd (upd (upd (upd (upd (upd (upd (upd (upd (upd (upd (upd (upd (upd (upd (upd (upd (upd s 0 q) 1 500) 2 0) 3 0) 4 1) 5 1000000) 6 4) 7 0) 8 10) 9 2) 10 0) 17 0) 18 0) 19 0) 20 0) 11 0) 12 0) 13 0) 14 0) 15 0) 16 0) (va_up (va_up (va_up (va_up f 6 (pfx 6 (fun _ => 0) (f 6))) 6 (upd (pfx 6 (fun _ => 0) (f 6)) 0 1000)) 0 (pfx 48 (fun _ => 0) ((va_up (va_up f 6 (pfx 6 (fun _ => 0) (f 6))) 6 (upd (pfx 6 (fun _ => 0) (f 6)) 0 1000)) 0))) 1 (pfx 48 (fun _ => 0) ((va_up (va_up (va_up f 6 (pfx 6 (fun _ => 0) (f 6))) 6 (upd (pfx 6 (fun _ => 0) (f 6)) 0 1000)) 0 (pfx 48 (fun _ => 0) ((va_up (va_up f 6 (pfx 6 (fun _ => 0) (f 6))) 6 (upd (pfx 6 (fun _ => 0) (f 6)) 0 1000)) 0))) 1))) R) H locs) => ?_)
    refine lv_iload_n S.1 S.2.1 dX4_reset_26 rfl (lv_at hl 0 rfl) ?_
    exact x_reti S w hr hlk dX4_reset_27 (show s 0 = (o_X4_reset s f q).1 from by simp only [o_X4_reset, if_neg c_1]) (show xW cI cO a (upd (upd (upd (upd (upd (upd (upd (upd (upd (upd (upd (upd (upd (upd (upd (upd (upd (upd (upd (upd (upd s 0 q) 1 500) 2 0) 3 0) 4 1) 5 1000000) 6 4) 7 0) 8 10) 9 2) 10 0) 17 0) 18 0) 19 0) 20 0) 11 0) 12 0) 13 0) 14 0) 15 0) 16 0) (va_up (va_up (va_up (va_up f 6 (pfx 6 (fun _ => 0) (f 6))) 6 (upd (pfx 6 (fun _ => 0) (f 6)) 0 1000)) 0 (pfx 48 (fun _ => 0) ((va_up (va_up f 6 (pfx 6 (fun _ => 0) (f 6))) 6 (upd (pfx 6 (fun _ => 0) (f 6)) 0 1000)) 0))) 1 (pfx 48 (fun _ => 0) ((va_up (va_up (va_up f 6 (pfx 6 (fun _ => 0) (f 6))) 6 (upd (pfx 6 (fun _ => 0) (f 6)) 0 1000)) 0 (pfx 48 (fun _ => 0) ((va_up (va_up f 6 (pfx 6 (fun _ => 0) (f 6))) 6 (upd (pfx 6 (fun _ => 0) (f 6)) 0 1000)) 0))) 1))) R = xW cI cO a ((o_X4_reset s f q).2.1) ((o_X4_reset s f q).2.2) R from by simp only [o_X4_reset, if_neg c_1])
  · refine x_ldc S lk_RX4_64 dX4_reset_10 ?_
    exact x_reti S w hr hlk dX4_reset_12 (show (-2000000001) = (o_X4_reset s f q).1 from by simp only [o_X4_reset, if_pos c_1]) (show xW cI cO a s f R = xW cI cO a ((o_X4_reset s f q).2.1) ((o_X4_reset s f q).2.2) R from by simp only [o_X4_reset, if_pos c_1])
def stdy (er : Nat → Int32) (tol : Int32) : Nat → Int32
  | 0 => 1
  | n + 1 => if stdy er tol n = 0 then 0 else if iabs (er n) ≤ tol then 1 else 0
theorem stdy_b (er : Nat → Int32) (tol : Int32) (n : Nat) : stdy er tol n = 0 ∨ stdy er tol n = 1 := by
  cases n with
  | zero => exact Or.inr rfl
  | succ n =>
    unfold stdy
    split
    · exact Or.inl rfl
    · split
      · exact Or.inr rfl
      · exact Or.inl rfl
theorem stdy_0 {er : Nat → Int32} {tol : Int32} {i n : Nat} (h : i ≤ n) (h0 : stdy er tol i = 0) : stdy er tol n = 0 := by
  induction n with
  | zero => have : i = 0 := by omega
            subst this; exact h0
  | succ n ih =>
    by_cases h1 : i = n + 1
    · subst h1; exact h0
    · unfold stdy; rw [if_pos (ih (by omega))]
theorem stdy_s1 {er : Nat → Int32} {tol : Int32} {i : Nat} (h : stdy er tol i = 1) (h1 : iabs (er i) ≤ tol) : stdy er tol (i + 1) = 1 := by
  unfold stdy; rw [h, if_neg (by decide), if_pos h1]
theorem stdy_s0 {er : Nat → Int32} {tol : Int32} {i n : Nat} (hn : i < n) (h1 : ¬ iabs (er i) ≤ tol) : stdy er tol n = 0 := by
  refine stdy_0 (i := i + 1) hn ?_
  unfold stdy
  by_cases h2 : stdy er tol i = 0
  · rw [if_pos h2]
  · rw [if_neg h2, if_neg h1]
def o_X1_staysWithin_13 (s : Nat → Int32) (f : Nat → Nat → Int32) (K : Nat) (h : Nat) (k : Int32) (t : Int32) : Int32 := stdy (fun y => f (10 + slt (s 19) (nI y)) (Int32.toNatClampNeg k)) t h
set_option maxHeartbeats 4000000 in
set_option maxRecDepth 100000 in
theorem j_X1_staysWithin_13 {p : Program} {e : Env} {st : State} {m : MethodId} {args : Array Value} {below : List Frame} {meth : Method} {c : Code} {ws0 : va_W} {sz : Nat} (l : Launch) (D : va_G) (cI cO : ClassId) (a : Nat → Nat) (R : va_W) (s : Nat → Int32) (f : Nat → Nat → Int32) (N : Nat) (K : Nat) (h : Nat) (k : Int32) (t : Int32) (hK : s 19 = nI K) (hK2 : K < 1000000) (hh1 : 1 ≤ h) (hh5 : h ≤ 5) (h48 : N ≤ 48) (hj : Int32.toNatClampNeg k < N ∧ k = nI (Int32.toNatClampNeg k)) (S : CallFix p m c cX1_staysWithin 5 st args wsL_law RX1) (hr : meth.sig.returnType = (some .boolean)) (hlk : meth.locks = false) : ∀ (n : Nat) (i : Nat) (H : Heap) (locs : List Loc) (ls : Array Slot), h + 1 ≤ i + n → i ≤ h → h ≤ K → stdy (fun y => f (10 + slt (s 19) (nI y)) (Int32.toNatClampNeg k)) t i = 1 → Wd D (kT cI cO) (va_A ws0 sz) st.heap st (xW cI cO a s f R) H locs → lv_has ls 5 [(0, .ref (a 3)), (1, .int k), (2, .int (nI h)), (3, .int t), (4, .int (nI i))] → W p l e { frames := 3, cells := 0, slots := 0, locals := 64 } st m args below meth c H locs 0 0 (MQ below (mQi D (kT cI cO) ws0 sz (xW cI cO a s f R) (o_X1_staysWithin_13 s f K h k t)) args st 0 0 (va_A ws0 sz)) (F0 m 13 ls []) := by
  intro n
  induction n with
  | zero => intro i H locs ls hfu hi hKh h1 w hl; exact absurd hfu (by omega)
  | succ n ih =>
    intro i H locs ls hfu hi hKh h1 w hl
    refine lv_iload S.1 S.2.1 dX1_staysWithin_13 (lv_at hl 4 rfl) ?_
    refine lv_iload_n S.1 S.2.1 dX1_staysWithin_15 rfl (lv_at hl 2 rfl) ?_
    refine lv_icmp_ge (tgt := 42) S.1 S.2.1 dX1_staysWithin_16 (by decide) (fun (c_1 : (nI h) ≤ (nI i)) => ?_) (fun (c_1 : ¬ ((nI h) ≤ (nI i))) => ?_)
    · have he : i = h := by
        have := (nI_leI (a := h) (b := i) (by omega) (by omega)).mp c_1
        omega
      subst i
      refine lv_iconst (v := 1) S.1 S.2.1 dX1_staysWithin_42 (by decide) ?_
      exact x_retz S w hr hlk dX1_staysWithin_43 (Or.inr rfl) (show 1 = o_X1_staysWithin_13 s f K h k t from by rw [o_X1_staysWithin_13, h1]) (show xW cI cO a s f R = xW cI cO a s f R from rfl)
    · have hlt : i < h := Nat.lt_of_not_le (fun z => c_1 (nI_le z (by omega)))
      refine lv_aload_n S.1 S.2.1 dX1_staysWithin_19 rfl (lv_at hl 0 rfl) ?_
      refine lv_iload S.1 S.2.1 dX1_staysWithin_20 (lv_at hl 4 rfl) ?_
      refine x_Vr (As := [.int (nI i)]) (rest := []) S w (goodV lk_RX1_40 li_X1_errorsOf ls_X1_errorsOf ln_RX1 lc_X1_errorsOf) hV_X1_errorsOf (k_X1_errorsOf l D cI cO a R s f K i (nI i) hK hK2 rfl (by omega)) rfl 3 1 rfl rfl xc_3 ⟨(Nat.le_of_ble_eq_true rfl), (Nat.le_of_ble_eq_true rfl)⟩ ⟨rfl, rfl⟩ hl.1 rfl (Nat.le_of_ble_eq_true rfl) ⟨Nat.zero_le _, Nat.zero_le _⟩ dX1_staysWithin_22 (fun H locs (w : Wd D (kT cI cO) (va_A _ _) _ _ (xW cI cO a s f R) H locs) => ?_)
      refine lv_iload_n S.1 S.2.1 dX1_staysWithin_25 rfl (lv_at hl 1 rfl) ?_
      refine x_iald S w (16 + (slt (s 19) (nI i))) 0 (g := f (10 + (slt (s 19) (nI i)))) (v := (f (10 + (slt (s 19) (nI i)))) (Int32.toNatClampNeg k)) (Int32.toNatClampNeg k) (by have := hj.1; omega) (hj.2) (Nat.le_of_ble_eq_true rfl) (x_row (by first | exact slt_lt _ _ | omega)) rfl (rfl) dX1_staysWithin_26 ?_
      refine x_mabs S lk_RX1_37 hl.1 (Nat.le_of_ble_eq_true rfl) (Nat.le_of_ble_eq_true rfl) (Nat.zero_le _) (Nat.zero_le _) dX1_staysWithin_27 ?_
      refine lv_iload_n S.1 S.2.1 dX1_staysWithin_30 rfl (lv_at hl 3 rfl) ?_
      refine lv_icmp_le (tgt := 36) S.1 S.2.1 dX1_staysWithin_31 (by decide) (fun (c_2 : (iabs ((f (10 + (slt (s 19) (nI i)))) (Int32.toNatClampNeg k))) ≤ t) => ?_) (fun (c_2 : ¬ ((iabs ((f (10 + (slt (s 19) (nI i)))) (Int32.toNatClampNeg k))) ≤ t)) => ?_)
      · have hs1 := stdy_s1 h1 c_2
        refine lv_iinc (v := nI (i + 1)) (lv' := [(4, .int (nI (i + 1))), (0, .ref (a 3)), (1, .int k), (2, .int (nI h)), (3, .int t)]) S.1 S.2.1 dX1_staysWithin_36 hl (k := 4) rfl (x_inc _) (by decide) rfl (fun ls hl => ?_)
        refine lv_goto (tgt := 13) S.1 S.2.1 dX1_staysWithin_39 (by decide) ?_
        exact ih (i + 1) _ _ _ (by omega) (by omega) hKh hs1 w (lv_sub hl [1, 2, 3, 4, 0] rfl)
      · have hs0 : stdy (fun y => f (10 + slt (s 19) (nI y)) (Int32.toNatClampNeg k)) t h = 0 := stdy_s0 hlt c_2
        refine lv_iconst (v := 0) S.1 S.2.1 dX1_staysWithin_34 (by decide) ?_
        exact x_retz S w hr hlk dX1_staysWithin_35 (Or.inl rfl) (show 0 = o_X1_staysWithin_13 s f K h k t from by rw [o_X1_staysWithin_13, hs0]) (show xW cI cO a s f R = xW cI cO a s f R from rfl)
def o_X1_staysWithin (s : Nat → Int32) (f : Nat → Nat → Int32) (K : Nat) (h : Nat) (k : Int32) (t : Int32) : Int32 := if (nI h) ≤ (nI K) then o_X1_staysWithin_13 s f K h k t else 0
set_option maxHeartbeats 4000000 in
set_option maxRecDepth 100000 in
theorem k_X1_staysWithin (l : Launch) (D : va_G) (cI cO : ClassId) (a : Nat → Nat) (R : va_W) (s : Nat → Int32) (f : Nat → Nat → Int32) (N : Nat) (K : Nat) (h : Nat) (k : Int32) (t : Int32) (hK : s 19 = nI K) (hK2 : K < 1000000) (hh1 : 1 ≤ h) (hh5 : h ≤ 5) (h48 : N ≤ 48) (hj : Int32.toNatClampNeg k < N ∧ k = nI (Int32.toNatClampNeg k)) : Mi l yX1_staysWithin cX1_staysWithin 5 (some .boolean) { frames := 3, cells := 0, slots := 0, locals := 64 } D (kT cI cO) (xW cI cO a s f R) [.ref (a 3), .int k, .int (nI h), .int t] (xW cI cO a s f R) (o_X1_staysWithin s f K h k t) := by
  intro sz
  refine ent (by decide +kernel) (Nat.le_of_ble_eq_true rfl) ?_
  intro p e st m below meth c ls S hr hlk hnm w hsz hl
  have hl : lv_has ls 5 [(0, .ref (a 3)), (1, .int k), (2, .int (nI h)), (3, .int t)] := hl
  refine lv_aload_n S.1 S.2.1 dX1_staysWithin_0 rfl (lv_at hl 0 rfl) ?_
  refine xg_19 S w lk_RX1_23 dX1_staysWithin_1 ?_
  refine x_eqi (x := s 19) (y := nI K) (hK) ?_
  refine lv_iload_n S.1 S.2.1 dX1_staysWithin_4 rfl (lv_at hl 2 rfl) ?_
  refine lv_icmp_ge (tgt := 10) S.1 S.2.1 dX1_staysWithin_5 (by decide) (fun (c_3 : (nI h) ≤ (nI K)) => ?_) (fun (c_3 : ¬ ((nI h) ≤ (nI K))) => ?_)
  · have hKh : h ≤ K := Nat.le_of_not_lt (fun z => nI_ge z (by omega) c_3)
    refine lv_iconst (v := 0) S.1 S.2.1 dX1_staysWithin_10 (by decide) ?_
    refine lv_istore (lv' := [(4, .int 0), (0, .ref (a 3)), (1, .int k), (2, .int (nI h)), (3, .int t)]) S.1 S.2.1 dX1_staysWithin_11 hl (by decide) rfl (fun ls hl => ?_)
    refine x_toi (show o_X1_staysWithin_13 s f K h k t = o_X1_staysWithin s f K h k t from by simp only [o_X1_staysWithin, if_pos c_3]) (show xW cI cO a s f R = xW cI cO a s f R from by simp only [o_X1_staysWithin, if_pos c_3]) ?_
    exact j_X1_staysWithin_13 l D cI cO a R s f N K h k t hK hK2 hh1 hh5 h48 hj S hr hlk (h + 1) 0 _ _ _ (by omega) (by omega) hKh rfl w (lv_sub hl [1, 2, 3, 4, 0] rfl)
  · refine lv_iconst (v := 0) S.1 S.2.1 dX1_staysWithin_8 (by decide) ?_
    exact x_retz S w hr hlk dX1_staysWithin_9 (Or.inl rfl) (show 0 = o_X1_staysWithin s f K h k t from by simp only [o_X1_staysWithin, if_neg c_3]) (show xW cI cO a s f R = xW cI cO a s f R from rfl)
theorem staysW_b (s : Nat → Int32) (f : Nat → Nat → Int32) (K h : Nat) (k t : Int32) : o_X1_staysWithin s f K h k t = 0 ∨ o_X1_staysWithin s f K h k t = 1 := by
  unfold o_X1_staysWithin
  split
  · exact stdy_b _ _ _
  · exact Or.inl rfl
def o_X4_hasConverged (s : Nat → Int32) (f : Nat → Nat → Int32) (K : Nat) (h : Nat) (k : Int32) : Int32 := o_X1_staysWithin s f K h k (s 8)
set_option maxHeartbeats 4000000 in
set_option maxRecDepth 100000 in
theorem k_X4_hasConverged (l : Launch) (D : va_G) (cI cO : ClassId) (a : Nat → Nat) (R : va_W) (s : Nat → Int32) (f : Nat → Nat → Int32) (N : Nat) (K : Nat) (h : Nat) (k : Int32) (hK : s 19 = nI K) (hK2 : K < 1000000) (hh1 : 1 ≤ h) (hh5 : h ≤ 5) (hh : s 9 = nI h) (h48 : N ≤ 48) (hj : Int32.toNatClampNeg k < N ∧ k = nI (Int32.toNatClampNeg k)) : Mi l yX4_hasConverged cX4_hasConverged 2 (some .boolean) { frames := 4, cells := 0, slots := 0, locals := 88 } D (kT cI cO) (xW cI cO a s f R) [.ref (a 0), .int k] (xW cI cO a s f R) (o_X4_hasConverged s f K h k) := by
  intro sz
  refine ent (by decide +kernel) (Nat.le_of_ble_eq_true rfl) ?_
  intro p e st m below meth c ls S hr hlk hnm w hsz hl
  have hl : lv_has ls 2 [(0, .ref (a 0)), (1, .int k)] := hl
  refine lv_aload_n S.1 S.2.1 dX4_hasConverged_0 rfl (lv_at hl 0 rfl) ?_
  refine xr_3 S w lk_RX4_26 dX4_hasConverged_1 ?_
  refine lv_iload_n S.1 S.2.1 dX4_hasConverged_4 rfl (lv_at hl 1 rfl) ?_
  refine lv_aload_n S.1 S.2.1 dX4_hasConverged_5 rfl (lv_at hl 0 rfl) ?_
  refine xr_1 S w lk_RX4_10 dX4_hasConverged_6 ?_
  refine xg_9 S w lk_RX4_105 dX4_hasConverged_9 ?_
  refine x_eqi (x := s 9) (y := nI h) (hh) ?_
  refine lv_aload_n S.1 S.2.1 dX4_hasConverged_12 rfl (lv_at hl 0 rfl) ?_
  refine xr_1 S w lk_RX4_10 dX4_hasConverged_13 ?_
  refine xg_8 S w lk_RX4_102 dX4_hasConverged_16 ?_
  refine x_Vi (As := [.int k, .int (nI h), .int (s 8)]) (rest := []) S w (goodV lk_RX4_296 li_X1_staysWithin ls_X1_staysWithin ln_RX1 lc_X1_staysWithin) hV_X1_staysWithin (k_X1_staysWithin l D cI cO a R s f N K h k (s 8) hK hK2 hh1 hh5 h48 hj) rfl 3 1 rfl rfl xc_3 ⟨(Nat.le_of_ble_eq_true rfl), (Nat.le_of_ble_eq_true rfl)⟩ ⟨rfl, rfl⟩ hl.1 rfl (Nat.le_of_ble_eq_true rfl) ⟨Nat.zero_le _, Nat.zero_le _⟩ dX4_hasConverged_19 (fun H locs (w : Wd D (kT cI cO) (va_A _ _) _ _ (xW cI cO a s f R) H locs) => ?_)
  exact x_retz S w hr hlk dX4_hasConverged_22 (staysW_b _ _ _ _ _ _) (show o_X1_staysWithin s f K h k (s 8) = o_X4_hasConverged s f K h k from by simp only [o_X4_hasConverged]) (show xW cI cO a s f R = xW cI cO a s f R from rfl)
theorem rch0_lt {s : Nat → Int32} {f : Nat → Nat → Int32} {K : Nat} (hK : s 19 = nI K) (hK2 : K < 1000000) (h : ¬ o_X1_reaches s f 0 = 0) : 0 < K := rch_lt hK hK2 (A := 0) rfl (by decide) h
def o_X4_state (s : Nat → Int32) (f : Nat → Nat → Int32) (K : Nat) (h : Nat) (k : Int32) : Int32 := if (wIn k 0 ((s 0) - 1)) = 0 then (-2000000001) else if (o_X1_reaches s f 0) = 0 then 0 else if (o_X1_staysWithin s f K h k (s 8)) = 0 then if (o_X1_hasGrown s f K k) = 0 then 3 else 2 else 1
set_option maxHeartbeats 4000000 in
set_option maxRecDepth 100000 in
theorem k_X4_state (l : Launch) (D : va_G) (cI cO : ClassId) (a : Nat → Nat) (R : va_W) (s : Nat → Int32) (f : Nat → Nat → Int32) (N : Nat) (K : Nat) (h : Nat) (k : Int32) (hN : s 0 = nI N) (h4 : 4 ≤ N) (h48 : N ≤ 48) (hK : s 19 = nI K) (hK2 : K < 1000000) (hh1 : 1 ≤ h) (hh5 : h ≤ 5) (hh : s 9 = nI h) : Mi l yX4_state cX4_state 2 (some .int) { frames := 5, cells := 0, slots := 0, locals := 109 } D (kT cI cO) (xW cI cO a s f R) [.ref (a 0), .int k] (xW cI cO a s f R) (o_X4_state s f K h k) := by
  intro sz
  refine ent (by decide +kernel) (Nat.le_of_ble_eq_true rfl) ?_
  intro p e st m below meth c ls S hr hlk hnm w hsz hl
  have hl : lv_has ls 2 [(0, .ref (a 0)), (1, .int k)] := hl
  refine lv_aload_n S.1 S.2.1 dX4_state_0 rfl (lv_at hl 0 rfl) ?_
  refine lv_iload_n S.1 S.2.1 dX4_state_1 rfl (lv_at hl 1 rfl) ?_
  refine x_Vi (As := [.int k]) (rest := []) S w (goodV lk_RX4_69 li_X4_isSample ls_X4_isSample ln_RX4 lc_X4_isSample) hV_X4_isSample (k_X4_isSample l D cI cO a R s f k) rfl 0 4 rfl rfl xc_0 ⟨(Nat.le_of_ble_eq_true rfl), (Nat.le_of_ble_eq_true rfl)⟩ ⟨rfl, rfl⟩ hl.1 rfl (Nat.le_of_ble_eq_true rfl) ⟨Nat.zero_le _, Nat.zero_le _⟩ dX4_state_2 (fun H locs (w : Wd D (kT cI cO) (va_A _ _) _ _ (xW cI cO a s f R) H locs) => ?_)
  refine x_eqi (x := o_X4_isSample s f k) (y := wIn k 0 ((s 0) - 1)) rfl ?_
  refine lv_if_ne (tgt := 11) S.1 S.2.1 dX4_state_5 (by decide) (fun (c_1 : ¬ (wIn k 0 ((s 0) - 1)) = 0) => ?_) (fun (c_1 : (wIn k 0 ((s 0) - 1)) = 0) => ?_)
  · have hj := wIn_j hN h4 h48 c_1
    refine lv_aload_n S.1 S.2.1 dX4_state_11 rfl (lv_at hl 0 rfl) ?_
    refine xr_3 S w lk_RX4_26 dX4_state_12 ?_
    refine lv_iconst (v := 0) S.1 S.2.1 dX4_state_15 (by decide) ?_
    refine x_Vi (As := [.int 0]) (rest := []) S w (goodV lk_RX4_148 li_X1_reaches ls_X1_reaches ln_RX1 lc_X1_reaches) hV_X1_reaches (k_X1_reaches l D cI cO a R s f 0) rfl 3 1 rfl rfl xc_3 ⟨(Nat.le_of_ble_eq_true rfl), (Nat.le_of_ble_eq_true rfl)⟩ ⟨rfl, rfl⟩ hl.1 rfl (Nat.le_of_ble_eq_true rfl) ⟨Nat.zero_le _, Nat.zero_le _⟩ dX4_state_16 (fun H locs (w : Wd D (kT cI cO) (va_A _ _) _ _ (xW cI cO a s f R) H locs) => ?_)
    refine lv_if_ne (tgt := 24) S.1 S.2.1 dX4_state_19 (by decide) (fun (c_2 : ¬ (o_X1_reaches s f 0) = 0) => ?_) (fun (c_2 : (o_X1_reaches s f 0) = 0) => ?_)
    · have h0K := rch0_lt hK hK2 c_2
      refine lv_aload_n S.1 S.2.1 dX4_state_24 rfl (lv_at hl 0 rfl) ?_
      refine lv_iload_n S.1 S.2.1 dX4_state_25 rfl (lv_at hl 1 rfl) ?_
      refine x_Vi (As := [.int k]) (rest := []) S w (goodV lk_RX4_189 li_X4_hasConverged ls_X4_hasConverged ln_RX4 lc_X4_hasConverged) hV_X4_hasConverged (k_X4_hasConverged l D cI cO a R s f N K h k hK hK2 hh1 hh5 hh h48 hj) rfl 0 4 rfl rfl xc_0 ⟨(Nat.le_of_ble_eq_true rfl), (Nat.le_of_ble_eq_true rfl)⟩ ⟨rfl, rfl⟩ hl.1 rfl (Nat.le_of_ble_eq_true rfl) ⟨Nat.zero_le _, Nat.zero_le _⟩ dX4_state_26 (fun H locs (w : Wd D (kT cI cO) (va_A _ _) _ _ (xW cI cO a s f R) H locs) => ?_)
      refine x_eqi (x := o_X4_hasConverged s f K h k) (y := o_X1_staysWithin s f K h k (s 8)) rfl ?_
      refine lv_if_eq (tgt := 34) S.1 S.2.1 dX4_state_29 (by decide) (fun (c_3 : (o_X1_staysWithin s f K h k (s 8)) = 0) => ?_) (fun (c_3 : ¬ ((o_X1_staysWithin s f K h k (s 8)) = 0)) => ?_)
      · refine lv_aload_n S.1 S.2.1 dX4_state_34 rfl (lv_at hl 0 rfl) ?_
        refine xr_3 S w lk_RX4_26 dX4_state_35 ?_
        refine lv_iload_n S.1 S.2.1 dX4_state_38 rfl (lv_at hl 1 rfl) ?_
        refine x_Vi (As := [.int k]) (rest := []) S w (goodV lk_RX4_192 li_X1_hasGrown ls_X1_hasGrown ln_RX1 lc_X1_hasGrown) hV_X1_hasGrown (k_X1_hasGrown l D cI cO a R s f N K k hK hK2 h48 hj) rfl 3 1 rfl rfl xc_3 ⟨(Nat.le_of_ble_eq_true rfl), (Nat.le_of_ble_eq_true rfl)⟩ ⟨rfl, rfl⟩ hl.1 rfl (Nat.le_of_ble_eq_true rfl) ⟨Nat.zero_le _, Nat.zero_le _⟩ dX4_state_39 (fun H locs (w : Wd D (kT cI cO) (va_A _ _) _ _ (xW cI cO a s f R) H locs) => ?_)
        refine lv_if_eq (tgt := 49) S.1 S.2.1 dX4_state_42 (by decide) (fun (c_4 : (o_X1_hasGrown s f K k) = 0) => ?_) (fun (c_4 : ¬ ((o_X1_hasGrown s f K k) = 0)) => ?_)
        · refine lv_iconst (v := 3) S.1 S.2.1 dX4_state_49 (by decide) ?_
          exact x_reti S w hr hlk dX4_state_50 (show 3 = o_X4_state s f K h k from by simp only [o_X4_state, if_neg c_1, if_neg c_2, if_pos c_3, if_pos c_4]) (show xW cI cO a s f R = xW cI cO a s f R from rfl)
        · refine lv_iconst (v := 2) S.1 S.2.1 dX4_state_45 (by decide) ?_
          refine lv_goto (tgt := 50) S.1 S.2.1 dX4_state_46 (by decide) ?_
          exact x_reti S w hr hlk dX4_state_50 (show 2 = o_X4_state s f K h k from by simp only [o_X4_state, if_neg c_1, if_neg c_2, if_pos c_3, if_neg c_4]) (show xW cI cO a s f R = xW cI cO a s f R from rfl)
      · refine lv_iconst (v := 1) S.1 S.2.1 dX4_state_32 (by decide) ?_
        exact x_reti S w hr hlk dX4_state_33 (show 1 = o_X4_state s f K h k from by simp only [o_X4_state, if_neg c_1, if_neg c_2, if_neg c_3]) (show xW cI cO a s f R = xW cI cO a s f R from rfl)
    · refine lv_iconst (v := 0) S.1 S.2.1 dX4_state_22 (by decide) ?_
      exact x_reti S w hr hlk dX4_state_23 (show 0 = o_X4_state s f K h k from by simp only [o_X4_state, if_neg c_1, if_pos c_2]) (show xW cI cO a s f R = xW cI cO a s f R from rfl)
  · refine x_ldc S lk_RX4_64 dX4_state_8 ?_
    exact x_reti S w hr hlk dX4_state_10 (show (-2000000001) = o_X4_state s f K h k from by simp only [o_X4_state, if_pos c_1]) (show xW cI cO a s f R = xW cI cO a s f R from rfl)
def o_X4_convergedCount_4 (s : Nat → Int32) (f : Nat → Nat → Int32) (N : Nat) (K : Nat) (h : Nat) : Int32 := sumI (fun y => onI (o_X1_staysWithin s f K h (nI y) (s 8))) N
set_option maxHeartbeats 4000000 in
set_option maxRecDepth 100000 in
theorem j_X4_convergedCount_4 {p : Program} {e : Env} {st : State} {m : MethodId} {args : Array Value} {below : List Frame} {meth : Method} {c : Code} {ws0 : va_W} {sz : Nat} (l : Launch) (D : va_G) (cI cO : ClassId) (a : Nat → Nat) (R : va_W) (s : Nat → Int32) (f : Nat → Nat → Int32) (N : Nat) (K : Nat) (h : Nat) (hN : s 0 = nI N) (h4 : 4 ≤ N) (h48 : N ≤ 48) (hK : s 19 = nI K) (hK2 : K < 1000000) (hh1 : 1 ≤ h) (hh5 : h ≤ 5) (hh : s 9 = nI h) (S : CallFix p m c cX4_convergedCount 3 st args wsL_law RX4) (hr : meth.sig.returnType = (some .int)) (hlk : meth.locks = false) : ∀ (n : Nat) (i : Nat) (H : Heap) (locs : List Loc) (ls : Array Slot), N + 1 ≤ i + n → i ≤ N → Wd D (kT cI cO) (va_A ws0 sz) st.heap st (xW cI cO a s f R) H locs → lv_has ls 3 [(0, .ref (a 0)), (1, .int (sumI (fun y => onI (o_X1_staysWithin s f K h (nI y) (s 8))) i)), (2, .int (nI i))] → W p l e { frames := 5, cells := 0, slots := 0, locals := 109 } st m args below meth c H locs 0 0 (MQ below (mQi D (kT cI cO) ws0 sz (xW cI cO a s f R) (o_X4_convergedCount_4 s f N K h)) args st 0 0 (va_A ws0 sz)) (F0 m 4 ls []) := by
  intro n
  induction n with
  | zero => intro i H locs ls hfu hi w hl; exact absurd hfu (by omega)
  | succ n ih =>
    intro i H locs ls hfu hi w hl
    refine lv_iload_n S.1 S.2.1 dX4_convergedCount_4 rfl (lv_at hl 2 rfl) ?_
    refine lv_aload_n S.1 S.2.1 dX4_convergedCount_5 rfl (lv_at hl 0 rfl) ?_
    refine xr_1 S w lk_RX4_10 dX4_convergedCount_6 ?_
    refine xg_0 S w lk_RX4_65 dX4_convergedCount_9 ?_
    refine x_eqi (x := s 0) (y := nI N) (hN) ?_
    refine lv_icmp_ge (tgt := 32) S.1 S.2.1 dX4_convergedCount_12 (by decide) (fun (c_1 : (nI N) ≤ (nI i)) => ?_) (fun (c_1 : ¬ ((nI N) ≤ (nI i))) => ?_)
    · have he : i = N := by
        have := (nI_leI (a := N) (b := i) (by omega) (by omega)).mp c_1
        omega
      subst i
      refine lv_iload_n S.1 S.2.1 dX4_convergedCount_32 rfl (lv_at hl 1 rfl) ?_
      exact x_reti S w hr hlk dX4_convergedCount_33 (show sumI (fun y => onI (o_X1_staysWithin s f K h (nI y) (s 8))) N = o_X4_convergedCount_4 s f N K h from by simp only [o_X4_convergedCount_4]) (show xW cI cO a s f R = xW cI cO a s f R from rfl)
    · have hlt : i < N := Nat.lt_of_not_le (fun z => c_1 (nI_le z (by omega)))
      refine lv_aload_n S.1 S.2.1 dX4_convergedCount_15 rfl (lv_at hl 0 rfl) ?_
      refine lv_iload_n S.1 S.2.1 dX4_convergedCount_16 rfl (lv_at hl 2 rfl) ?_
      refine x_Vi (As := [.int (nI i)]) (rest := []) S w (goodV lk_RX4_189 li_X4_hasConverged ls_X4_hasConverged ln_RX4 lc_X4_hasConverged) hV_X4_hasConverged (k_X4_hasConverged l D cI cO a R s f N K h (nI i) hK hK2 hh1 hh5 hh h48 (⟨by rw [nI_clamp (by omega)]; omega, by rw [nI_clamp (by omega)]⟩)) rfl 0 4 rfl rfl xc_0 ⟨(Nat.le_of_ble_eq_true rfl), (Nat.le_of_ble_eq_true rfl)⟩ ⟨rfl, rfl⟩ hl.1 rfl (Nat.le_of_ble_eq_true rfl) ⟨Nat.zero_le _, Nat.zero_le _⟩ dX4_convergedCount_17 (fun H locs (w : Wd D (kT cI cO) (va_A _ _) _ _ (xW cI cO a s f R) H locs) => ?_)
      refine x_eqi (x := o_X4_hasConverged s f K h (nI i)) (y := o_X1_staysWithin s f K h (nI i) (s 8)) rfl ?_
      refine lv_if_eq (tgt := 26) S.1 S.2.1 dX4_convergedCount_20 (by decide) (fun (c_2 : (o_X1_staysWithin s f K h (nI i) (s 8)) = 0) => ?_) (fun (c_2 : ¬ ((o_X1_staysWithin s f K h (nI i) (s 8)) = 0)) => ?_)
      · have hs : sumI (fun y => onI (o_X1_staysWithin s f K h (nI y) (s 8))) i = sumI (fun y => onI (o_X1_staysWithin s f K h (nI y) (s 8))) (i + 1) := by
          show _ = sumI (fun y => onI (o_X1_staysWithin s f K h (nI y) (s 8))) i + onI (o_X1_staysWithin s f K h (nI i) (s 8))
          rw [c_2]; exact (Int32.add_zero _).symm
        refine lv_iinc (v := nI (i + 1)) (lv' := [(2, .int (nI (i + 1))), (0, .ref (a 0)), (1, .int (sumI (fun y => onI (o_X1_staysWithin s f K h (nI y) (s 8))) i))]) S.1 S.2.1 dX4_convergedCount_26 hl (k := 2) rfl (x_inc _) (by decide) rfl (fun ls hl => ?_)
        refine lv_goto (tgt := 4) S.1 S.2.1 dX4_convergedCount_29 (by decide) ?_
        exact ih (i + 1) _ _ _ (by omega) (by omega) w (lv_sub hl [1, 2, 0] (by rw [← hs]; rfl))
      · have hs : sumI (fun y => onI (o_X1_staysWithin s f K h (nI y) (s 8))) i + 1 = sumI (fun y => onI (o_X1_staysWithin s f K h (nI y) (s 8))) (i + 1) := by
          show _ = sumI (fun y => onI (o_X1_staysWithin s f K h (nI y) (s 8))) i + onI (o_X1_staysWithin s f K h (nI i) (s 8))
          rw [onI, if_neg c_2]
        refine lv_iinc (v := sumI (fun y => onI (o_X1_staysWithin s f K h (nI y) (s 8))) i + 1) (lv' := [(1, .int (sumI (fun y => onI (o_X1_staysWithin s f K h (nI y) (s 8))) i + 1)), (0, .ref (a 0)), (2, .int (nI i))]) S.1 S.2.1 dX4_convergedCount_23 hl (k := 1) rfl (rfl) (by decide) rfl (fun ls hl => ?_)
        refine lv_iinc (v := nI (i + 1)) (lv' := [(2, .int (nI (i + 1))), (1, .int (sumI (fun y => onI (o_X1_staysWithin s f K h (nI y) (s 8))) i + 1)), (0, .ref (a 0))]) S.1 S.2.1 dX4_convergedCount_26 hl (k := 2) rfl (x_inc _) (by decide) rfl (fun ls hl => ?_)
        refine lv_goto (tgt := 4) S.1 S.2.1 dX4_convergedCount_29 (by decide) ?_
        exact ih (i + 1) _ _ _ (by omega) (by omega) w (lv_sub hl [2, 1, 0] (by rw [← hs]; rfl))
def o_X4_convergedCount (s : Nat → Int32) (f : Nat → Nat → Int32) (N : Nat) (K : Nat) (h : Nat) : Int32 := o_X4_convergedCount_4 s f N K h
set_option maxHeartbeats 4000000 in
set_option maxRecDepth 100000 in
theorem k_X4_convergedCount (l : Launch) (D : va_G) (cI cO : ClassId) (a : Nat → Nat) (R : va_W) (s : Nat → Int32) (f : Nat → Nat → Int32) (N : Nat) (K : Nat) (h : Nat) (hN : s 0 = nI N) (h4 : 4 ≤ N) (h48 : N ≤ 48) (hK : s 19 = nI K) (hK2 : K < 1000000) (hh1 : 1 ≤ h) (hh5 : h ≤ 5) (hh : s 9 = nI h) : Mi l yX4_convergedCount cX4_convergedCount 3 (some .int) { frames := 5, cells := 0, slots := 0, locals := 109 } D (kT cI cO) (xW cI cO a s f R) [.ref (a 0)] (xW cI cO a s f R) (o_X4_convergedCount s f N K h) := by
  intro sz
  refine ent (by decide +kernel) (Nat.le_of_ble_eq_true rfl) ?_
  intro p e st m below meth c ls S hr hlk hnm w hsz hl
  have hl : lv_has ls 3 [(0, .ref (a 0))] := hl
  refine lv_iconst (v := 0) S.1 S.2.1 dX4_convergedCount_0 (by decide) ?_
  refine lv_istore_n (lv' := [(1, .int 0), (0, .ref (a 0))]) S.1 S.2.1 dX4_convergedCount_1 rfl hl (by decide) rfl (fun ls hl => ?_)
  refine lv_iconst (v := 0) S.1 S.2.1 dX4_convergedCount_2 (by decide) ?_
  refine lv_istore_n (lv' := [(2, .int 0), (1, .int 0), (0, .ref (a 0))]) S.1 S.2.1 dX4_convergedCount_3 rfl hl (by decide) rfl (fun ls hl => ?_)
  refine x_toi (show o_X4_convergedCount_4 s f N K h = o_X4_convergedCount s f N K h from by simp only [o_X4_convergedCount]) (show xW cI cO a s f R = xW cI cO a s f R from by simp only [o_X4_convergedCount]) ?_
  exact j_X4_convergedCount_4 l D cI cO a R s f N K h hN h4 h48 hK hK2 hh1 hh5 hh S hr hlk (N + 1) 0 _ _ _ (by omega) (by omega) w (lv_sub hl [2, 1, 0] rfl)
/-- the sample with the greatest error, of those up to n, the lowest of several -/
def wst (g : Nat → Int32) : Nat → Nat
  | 0 => 0
  | n + 1 => if iabs (g (wst g n)) < iabs (g (n + 1)) then n + 1 else wst g n
theorem wst_le (g : Nat → Int32) (n : Nat) : wst g n ≤ n := by
  induction n with
  | zero => exact Nat.le_refl _
  | succ n ih =>
    unfold wst
    split
    · exact Nat.le_refl _
    · omega
def o_X4_indexOfGreatest_4 (s : Nat → Int32) (f : Nat → Nat → Int32) (N : Nat) (g : Nat → Int32) : Int32 := nI (wst g (N - 1))
set_option maxHeartbeats 4000000 in
set_option maxRecDepth 100000 in
theorem j_X4_indexOfGreatest_4 {p : Program} {e : Env} {st : State} {m : MethodId} {args : Array Value} {below : List Frame} {meth : Method} {c : Code} {ws0 : va_W} {sz : Nat} (l : Launch) (D : va_G) (cI cO : ClassId) (a : Nat → Nat) (R : va_W) (s : Nat → Int32) (f : Nat → Nat → Int32) (N : Nat) (ea : Nat) (iq : Nat) (g : Nat → Int32) (h4 : 4 ≤ N) (h48 : N ≤ 48) (hq : (xW cI cO a s f R)[iq]? = some (ea, .inl (cI, 48, .inl g))) (S : CallFix p m c cX4_indexOfGreatest 4 st args wsL_law RX4) (hr : meth.sig.returnType = (some .int)) (hlk : meth.locks = false) : ∀ (n : Nat) (i : Nat) (H : Heap) (locs : List Loc) (ls : Array Slot), N ≤ i + n → i + 1 ≤ N → Wd D (kT cI cO) (va_A ws0 sz) st.heap st (xW cI cO a s f R) H locs → lv_has ls 4 [(0, .ref ea), (1, .int (nI N)), (2, .int (nI (wst g i))), (3, .int (nI (i + 1)))] → W p l e { frames := 1, cells := 0, slots := 0, locals := 14 } st m args below meth c H locs 0 0 (MQ below (mQi D (kT cI cO) ws0 sz (xW cI cO a s f R) (o_X4_indexOfGreatest_4 s f N g)) args st 0 0 (va_A ws0 sz)) (F0 m 4 ls []) := by
  intro n
  induction n with
  | zero => intro i H locs ls hfu hi w hl; exact absurd hfu (by omega)
  | succ n ih =>
    intro i H locs ls hfu hi w hl
    refine lv_iload_n S.1 S.2.1 dX4_indexOfGreatest_4 rfl (lv_at hl 3 rfl) ?_
    refine lv_iload_n S.1 S.2.1 dX4_indexOfGreatest_5 rfl (lv_at hl 1 rfl) ?_
    refine lv_icmp_ge (tgt := 32) S.1 S.2.1 dX4_indexOfGreatest_6 (by decide) (fun (c_1 : (nI N) ≤ (nI (i + 1))) => ?_) (fun (c_1 : ¬ ((nI N) ≤ (nI (i + 1)))) => ?_)
    · have he : i = N - 1 := by
        have := (nI_leI (a := N) (b := i + 1) (by omega) (by omega)).mp c_1
        omega
      subst i
      refine lv_iload_n S.1 S.2.1 dX4_indexOfGreatest_32 rfl (lv_at hl 2 rfl) ?_
      exact x_reti S w hr hlk dX4_indexOfGreatest_33 (show nI (wst g (N - 1)) = o_X4_indexOfGreatest_4 s f N g from by simp only [o_X4_indexOfGreatest_4]) (show xW cI cO a s f R = xW cI cO a s f R from rfl)
    · have hlt : i + 1 < N := Nat.lt_of_not_le (fun z => c_1 (nI_le z (by omega)))
      have hwl := wst_le g i
      refine lv_aload_n S.1 S.2.1 dX4_indexOfGreatest_9 rfl (lv_at hl 0 rfl) ?_
      refine lv_iload_n S.1 S.2.1 dX4_indexOfGreatest_10 rfl (lv_at hl 3 rfl) ?_
      refine x_iald S w iq 0 (g := g) (v := g (i + 1)) (i + 1) (by omega) (rfl) (Nat.le_of_ble_eq_true rfl) (hq) rfl (rfl) dX4_indexOfGreatest_11 ?_
      refine x_mabs S lk_RX4_269 hl.1 (Nat.le_of_ble_eq_true rfl) (Nat.le_of_ble_eq_true rfl) (Nat.zero_le _) (Nat.zero_le _) dX4_indexOfGreatest_12 ?_
      refine lv_aload_n S.1 S.2.1 dX4_indexOfGreatest_15 rfl (lv_at hl 0 rfl) ?_
      refine lv_iload_n S.1 S.2.1 dX4_indexOfGreatest_16 rfl (lv_at hl 2 rfl) ?_
      refine x_iald S w iq 0 (g := g) (v := g (wst g i)) (wst g i) (by omega) (rfl) (Nat.le_of_ble_eq_true rfl) (hq) rfl (rfl) dX4_indexOfGreatest_17 ?_
      refine x_mabs S lk_RX4_269 hl.1 (Nat.le_of_ble_eq_true rfl) (Nat.le_of_ble_eq_true rfl) (Nat.zero_le _) (Nat.zero_le _) dX4_indexOfGreatest_18 ?_
      refine lv_icmp_le (tgt := 26) S.1 S.2.1 dX4_indexOfGreatest_21 (by decide) (fun (c_2 : (iabs (g (i + 1))) ≤ (iabs (g (wst g i)))) => ?_) (fun (c_2 : ¬ ((iabs (g (i + 1))) ≤ (iabs (g (wst g i))))) => ?_)
      · have hs : wst g i = wst g (i + 1) := by
          rw [wst, if_neg (Int32.not_lt.mpr c_2)]
        refine lv_iinc (v := nI ((i + 1) + 1)) (lv' := [(3, .int (nI ((i + 1) + 1))), (0, .ref ea), (1, .int (nI N)), (2, .int (nI (wst g i)))]) S.1 S.2.1 dX4_indexOfGreatest_26 hl (k := 3) rfl (x_inc _) (by decide) rfl (fun ls hl => ?_)
        refine lv_goto (tgt := 4) S.1 S.2.1 dX4_indexOfGreatest_29 (by decide) ?_
        exact ih (i + 1) _ _ _ (by omega) (by omega) w (lv_sub hl [1, 2, 3, 0] (by rw [← hs]; rfl))
      · have hs : i + 1 = wst g (i + 1) := by
          rw [wst, if_pos (Int32.not_le.mp c_2)]
        refine lv_iload_n S.1 S.2.1 dX4_indexOfGreatest_24 rfl (lv_at hl 3 rfl) ?_
        refine lv_istore_n (lv' := [(2, .int (nI (i + 1))), (0, .ref ea), (1, .int (nI N)), (3, .int (nI (i + 1)))]) S.1 S.2.1 dX4_indexOfGreatest_25 rfl hl (by decide) rfl (fun ls hl => ?_)
        refine lv_iinc (v := nI ((i + 1) + 1)) (lv' := [(3, .int (nI ((i + 1) + 1))), (2, .int (nI (i + 1))), (0, .ref ea), (1, .int (nI N))]) S.1 S.2.1 dX4_indexOfGreatest_26 hl (k := 3) rfl (x_inc _) (by decide) rfl (fun ls hl => ?_)
        refine lv_goto (tgt := 4) S.1 S.2.1 dX4_indexOfGreatest_29 (by decide) ?_
        exact ih (i + 1) _ _ _ (by omega) (by omega) w (lv_sub hl [2, 3, 1, 0] (by rw [← hs]; rfl))
def o_X4_indexOfGreatest (s : Nat → Int32) (f : Nat → Nat → Int32) (N : Nat) (g : Nat → Int32) : Int32 := o_X4_indexOfGreatest_4 s f N g
set_option maxHeartbeats 4000000 in
set_option maxRecDepth 100000 in
theorem k_X4_indexOfGreatest (l : Launch) (D : va_G) (cI cO : ClassId) (a : Nat → Nat) (R : va_W) (s : Nat → Int32) (f : Nat → Nat → Int32) (N : Nat) (ea : Nat) (iq : Nat) (g : Nat → Int32) (h4 : 4 ≤ N) (h48 : N ≤ 48) (hq : (xW cI cO a s f R)[iq]? = some (ea, .inl (cI, 48, .inl g))) : Mi l yX4_indexOfGreatest cX4_indexOfGreatest 4 (some .int) { frames := 1, cells := 0, slots := 0, locals := 14 } D (kT cI cO) (xW cI cO a s f R) [.ref ea, .int (nI N)] (xW cI cO a s f R) (o_X4_indexOfGreatest s f N g) := by
  intro sz
  refine ent (by decide +kernel) (Nat.le_of_ble_eq_true rfl) ?_
  intro p e st m below meth c ls S hr hlk hnm w hsz hl
  have hl : lv_has ls 4 [(0, .ref ea), (1, .int (nI N))] := hl
  refine lv_iconst (v := 0) S.1 S.2.1 dX4_indexOfGreatest_0 (by decide) ?_
  refine lv_istore_n (lv' := [(2, .int 0), (0, .ref ea), (1, .int (nI N))]) S.1 S.2.1 dX4_indexOfGreatest_1 rfl hl (by decide) rfl (fun ls hl => ?_)
  refine lv_iconst (v := 1) S.1 S.2.1 dX4_indexOfGreatest_2 (by decide) ?_
  refine lv_istore_n (lv' := [(3, .int 1), (2, .int 0), (0, .ref ea), (1, .int (nI N))]) S.1 S.2.1 dX4_indexOfGreatest_3 rfl hl (by decide) rfl (fun ls hl => ?_)
  refine x_toi (show o_X4_indexOfGreatest_4 s f N g = o_X4_indexOfGreatest s f N g from by simp only [o_X4_indexOfGreatest]) (show xW cI cO a s f R = xW cI cO a s f R from by simp only [o_X4_indexOfGreatest]) ?_
  exact j_X4_indexOfGreatest_4 l D cI cO a R s f N ea iq g h4 h48 hq S hr hlk N 0 _ _ _ (by omega) (by omega) w (lv_sub hl [2, 3, 1, 0] rfl)
def o_X4_sumOfSquares_5 (s : Nat → Int32) (f : Nat → Nat → Int32) (N : Nat) (g : Nat → Int32) : Int64 := sumL (fun y => Int32.toInt64 (g y) * Int32.toInt64 (g y)) N
set_option maxHeartbeats 4000000 in
set_option maxRecDepth 100000 in
theorem j_X4_sumOfSquares_5 {p : Program} {e : Env} {st : State} {m : MethodId} {args : Array Value} {below : List Frame} {meth : Method} {c : Code} {ws0 : va_W} {sz : Nat} (l : Launch) (D : va_G) (cI cO : ClassId) (a : Nat → Nat) (R : va_W) (s : Nat → Int32) (f : Nat → Nat → Int32) (N : Nat) (ea : Nat) (iq : Nat) (g : Nat → Int32) (h4 : 4 ≤ N) (h48 : N ≤ 48) (hq : (xW cI cO a s f R)[iq]? = some (ea, .inl (cI, 48, .inl g))) (S : CallFix p m c cX4_sumOfSquares 5 st args wsL_law RX4) (hr : meth.sig.returnType = (some .long)) (hlk : meth.locks = false) : ∀ (n : Nat) (i : Nat) (H : Heap) (locs : List Loc) (ls : Array Slot), N + 1 ≤ i + n → i ≤ N → Wd D (kT cI cO) (va_A ws0 sz) st.heap st (xW cI cO a s f R) H locs → lv_has ls 5 [(0, .ref ea), (1, .int (nI N)), (2, .long (sumL (fun y => Int32.toInt64 (g y) * Int32.toInt64 (g y)) i)), (4, .int (nI i))] → W p l e { frames := 0, cells := 0, slots := 0, locals := 0 } st m args below meth c H locs 0 0 (MQ below (mQl D (kT cI cO) ws0 sz (xW cI cO a s f R) (o_X4_sumOfSquares_5 s f N g)) args st 0 0 (va_A ws0 sz)) (F0 m 5 ls []) := by
  intro n
  induction n with
  | zero => intro i H locs ls hfu hi w hl; exact absurd hfu (by omega)
  | succ n ih =>
    intro i H locs ls hfu hi w hl
    refine lv_iload S.1 S.2.1 dX4_sumOfSquares_5 (lv_at hl 3 rfl) ?_
    refine lv_iload_n S.1 S.2.1 dX4_sumOfSquares_7 rfl (lv_at hl 1 rfl) ?_
    refine lv_icmp_ge (tgt := 31) S.1 S.2.1 dX4_sumOfSquares_8 (by decide) (fun (c_1 : (nI N) ≤ (nI i)) => ?_) (fun (c_1 : ¬ ((nI N) ≤ (nI i))) => ?_)
    · have he : i = N := by
        have := (nI_leI (a := N) (b := i) (by omega) (by omega)).mp c_1
        omega
      subst i
      refine lv_lload_n S.1 S.2.1 dX4_sumOfSquares_31 rfl (lv_at hl 2 rfl) ?_
      exact x_retl S w hr hlk dX4_sumOfSquares_32 (show sumL (fun y => Int32.toInt64 (g y) * Int32.toInt64 (g y)) N = o_X4_sumOfSquares_5 s f N g from by simp only [o_X4_sumOfSquares_5]) (show xW cI cO a s f R = xW cI cO a s f R from rfl)
    · have hlt : i < N := Nat.lt_of_not_le (fun z => c_1 (nI_le z (by omega)))
      refine lv_lload_n S.1 S.2.1 dX4_sumOfSquares_11 rfl (lv_at hl 2 rfl) ?_
      refine lv_aload_n S.1 S.2.1 dX4_sumOfSquares_12 rfl (lv_at hl 0 rfl) ?_
      refine lv_iload S.1 S.2.1 dX4_sumOfSquares_13 (lv_at hl 3 rfl) ?_
      refine x_iald S w iq 0 (g := g) (v := g i) i (by omega) (rfl) (Nat.le_of_ble_eq_true rfl) (hq) rfl (rfl) dX4_sumOfSquares_15 ?_
      refine lv_i2l S.1 S.2.1 dX4_sumOfSquares_16 rfl ?_
      refine lv_aload_n S.1 S.2.1 dX4_sumOfSquares_17 rfl (lv_at hl 0 rfl) ?_
      refine lv_iload S.1 S.2.1 dX4_sumOfSquares_18 (lv_at hl 3 rfl) ?_
      refine x_iald S w iq 0 (g := g) (v := g i) i (by omega) (rfl) (Nat.le_of_ble_eq_true rfl) (hq) rfl (rfl) dX4_sumOfSquares_20 ?_
      refine lv_i2l S.1 S.2.1 dX4_sumOfSquares_21 rfl ?_
      refine lv_lmul S.1 S.2.1 dX4_sumOfSquares_22 ?_
      refine lv_ladd S.1 S.2.1 dX4_sumOfSquares_23 ?_
      refine lv_lstore_n (lv' := [(2, .long ((sumL (fun y => Int32.toInt64 (g y) * Int32.toInt64 (g y)) i) + ((Int32.toInt64 (g i)) * (Int32.toInt64 (g i))))), (0, .ref ea), (1, .int (nI N)), (4, .int (nI i))]) S.1 S.2.1 dX4_sumOfSquares_24 rfl hl (by decide) rfl (fun ls hl => ?_)
      refine lv_iinc (v := nI (i + 1)) (lv' := [(4, .int (nI (i + 1))), (2, .long ((sumL (fun y => Int32.toInt64 (g y) * Int32.toInt64 (g y)) i) + ((Int32.toInt64 (g i)) * (Int32.toInt64 (g i))))), (0, .ref ea), (1, .int (nI N))]) S.1 S.2.1 dX4_sumOfSquares_25 hl (k := 3) rfl (x_inc _) (by decide) rfl (fun ls hl => ?_)
      refine lv_goto (tgt := 5) S.1 S.2.1 dX4_sumOfSquares_28 (by decide) ?_
      exact ih (i + 1) _ _ _ (by omega) (by omega) w (lv_sub hl [2, 3, 1, 0] rfl)
def o_X4_sumOfSquares (s : Nat → Int32) (f : Nat → Nat → Int32) (N : Nat) (g : Nat → Int32) : Int64 := o_X4_sumOfSquares_5 s f N g
set_option maxHeartbeats 4000000 in
set_option maxRecDepth 100000 in
theorem k_X4_sumOfSquares (l : Launch) (D : va_G) (cI cO : ClassId) (a : Nat → Nat) (R : va_W) (s : Nat → Int32) (f : Nat → Nat → Int32) (N : Nat) (ea : Nat) (iq : Nat) (g : Nat → Int32) (h4 : 4 ≤ N) (h48 : N ≤ 48) (hq : (xW cI cO a s f R)[iq]? = some (ea, .inl (cI, 48, .inl g))) : Ml l yX4_sumOfSquares cX4_sumOfSquares 5 (some .long) { frames := 0, cells := 0, slots := 0, locals := 0 } D (kT cI cO) (xW cI cO a s f R) [.ref ea, .int (nI N)] (xW cI cO a s f R) (o_X4_sumOfSquares s f N g) := by
  intro sz
  refine ent (by decide +kernel) (Nat.le_of_ble_eq_true rfl) ?_
  intro p e st m below meth c ls S hr hlk hnm w hsz hl
  have hl : lv_has ls 5 [(0, .ref ea), (1, .int (nI N))] := hl
  refine lv_lconst (v := 0) S.1 S.2.1 dX4_sumOfSquares_0 (by decide) ?_
  refine lv_lstore_n (lv' := [(2, .long 0), (0, .ref ea), (1, .int (nI N))]) S.1 S.2.1 dX4_sumOfSquares_1 rfl hl (by decide) rfl (fun ls hl => ?_)
  refine lv_iconst (v := 0) S.1 S.2.1 dX4_sumOfSquares_2 (by decide) ?_
  refine lv_istore (lv' := [(4, .int 0), (2, .long 0), (0, .ref ea), (1, .int (nI N))]) S.1 S.2.1 dX4_sumOfSquares_3 hl (by decide) rfl (fun ls hl => ?_)
  refine x_tol (show o_X4_sumOfSquares_5 s f N g = o_X4_sumOfSquares s f N g from by simp only [o_X4_sumOfSquares]) (show xW cI cO a s f R = xW cI cO a s f R from by simp only [o_X4_sumOfSquares]) ?_
  exact j_X4_sumOfSquares_5 l D cI cO a R s f N ea iq g h4 h48 hq S hr hlk (N + 1) 0 _ _ _ (by omega) (by omega) w (lv_sub hl [2, 3, 1, 0] rfl)
def o_X4_worstSample (s : Nat → Int32) (f : Nat → Nat → Int32) (N : Nat) (g : Int32) : Int32 := if (wIn g 0 4) = 0 then (-2000000001) else if (o_X1_reaches s f g) = 0 then (-2000000004) else nI (wst (f (10 + slt (s 19) g)) (N - 1))
set_option maxHeartbeats 4000000 in
set_option maxRecDepth 100000 in
theorem k_X4_worstSample (l : Launch) (D : va_G) (cI cO : ClassId) (a : Nat → Nat) (R : va_W) (s : Nat → Int32) (f : Nat → Nat → Int32) (N : Nat) (K : Nat) (g : Int32) (hN : s 0 = nI N) (h4 : 4 ≤ N) (h48 : N ≤ 48) (hK : s 19 = nI K) (hK2 : K < 1000000) : Mi l yX4_worstSample cX4_worstSample 2 (some .int) { frames := 3, cells := 0, slots := 0, locals := 64 } D (kT cI cO) (xW cI cO a s f R) [.ref (a 0), .int g] (xW cI cO a s f R) (o_X4_worstSample s f N g) := by
  intro sz
  refine ent (by decide +kernel) (Nat.le_of_ble_eq_true rfl) ?_
  intro p e st m below meth c ls S hr hlk hnm w hsz hl
  have hl : lv_has ls 2 [(0, .ref (a 0)), (1, .int g)] := hl
  refine lv_iload_n S.1 S.2.1 dX4_worstSample_0 rfl (lv_at hl 1 rfl) ?_
  refine x_Si (As := [.int g]) (rest := []) S w (goodS lk_RX4_145 lt_X4_isAge ln_RX4 lc_X4_isAge) hd_X4_isAge (k_X4_isAge l _ _ (xW cI cO a s f R) g) rfl ⟨(Nat.le_of_ble_eq_true rfl), (Nat.le_of_ble_eq_true rfl)⟩ ⟨rfl, rfl⟩ hl.1 rfl (Nat.le_of_ble_eq_true rfl) ⟨Nat.zero_le _, Nat.zero_le _⟩ dX4_worstSample_1 (fun H locs (w : Wd D (kT cI cO) (va_A _ _) _ _ (xW cI cO a s f R) H locs) => ?_)
  refine x_eqi (x := o_X4_isAge g) (y := wIn g 0 4) rfl ?_
  refine lv_if_ne (tgt := 10) S.1 S.2.1 dX4_worstSample_4 (by decide) (fun (c_1 : ¬ (wIn g 0 4) = 0) => ?_) (fun (c_1 : (wIn g 0 4) = 0) => ?_)
  · have hg := wIn_ix (n := 4) (by decide) rfl c_1
    refine lv_aload_n S.1 S.2.1 dX4_worstSample_10 rfl (lv_at hl 0 rfl) ?_
    refine xr_3 S w lk_RX4_26 dX4_worstSample_11 ?_
    refine lv_iload_n S.1 S.2.1 dX4_worstSample_14 rfl (lv_at hl 1 rfl) ?_
    refine x_Vi (As := [.int g]) (rest := []) S w (goodV lk_RX4_148 li_X1_reaches ls_X1_reaches ln_RX1 lc_X1_reaches) hV_X1_reaches (k_X1_reaches l D cI cO a R s f g) rfl 3 1 rfl rfl xc_3 ⟨(Nat.le_of_ble_eq_true rfl), (Nat.le_of_ble_eq_true rfl)⟩ ⟨rfl, rfl⟩ hl.1 rfl (Nat.le_of_ble_eq_true rfl) ⟨Nat.zero_le _, Nat.zero_le _⟩ dX4_worstSample_15 (fun H locs (w : Wd D (kT cI cO) (va_A _ _) _ _ (xW cI cO a s f R) H locs) => ?_)
    refine lv_if_eq (tgt := 42) S.1 S.2.1 dX4_worstSample_18 (by decide) (fun (c_2 : (o_X1_reaches s f g) = 0) => ?_) (fun (c_2 : ¬ ((o_X1_reaches s f g) = 0)) => ?_)
    · refine x_ldc S lk_RX4_129 dX4_worstSample_42 ?_
      exact x_reti S w hr hlk dX4_worstSample_44 (show (-2000000004) = o_X4_worstSample s f N g from by simp only [o_X4_worstSample, if_neg c_1, if_pos c_2]) (show xW cI cO a s f R = xW cI cO a s f R from rfl)
    · have hlt := rch_lt hK hK2 hg.2 (by have := hg.1; omega) c_2
      refine lv_aload_n S.1 S.2.1 dX4_worstSample_21 rfl (lv_at hl 0 rfl) ?_
      refine xr_3 S w lk_RX4_26 dX4_worstSample_22 ?_
      refine lv_iload_n S.1 S.2.1 dX4_worstSample_25 rfl (lv_at hl 1 rfl) ?_
      refine x_Vr (As := [.int g]) (rest := []) S w (goodV lk_RX4_151 li_X1_errorsOf ls_X1_errorsOf ln_RX1 lc_X1_errorsOf) hV_X1_errorsOf (k_X1_errorsOf l D cI cO a R s f K (Int32.toNatClampNeg g) g hK hK2 hg.2 hlt) rfl 3 1 rfl rfl xc_3 ⟨(Nat.le_of_ble_eq_true rfl), (Nat.le_of_ble_eq_true rfl)⟩ ⟨rfl, rfl⟩ hl.1 rfl (Nat.le_of_ble_eq_true rfl) ⟨Nat.zero_le _, Nat.zero_le _⟩ dX4_worstSample_26 (fun H locs (w : Wd D (kT cI cO) (va_A _ _) _ _ (xW cI cO a s f R) H locs) => ?_)
      refine lv_aload_n S.1 S.2.1 dX4_worstSample_29 rfl (lv_at hl 0 rfl) ?_
      refine xr_1 S w lk_RX4_10 dX4_worstSample_30 ?_
      refine xg_0 S w lk_RX4_65 dX4_worstSample_33 ?_
      refine x_eqi (x := s 0) (y := nI N) (hN) ?_
      refine x_Si (As := [.ref (a (16 + (slt (s 19) g))), .int (nI N)]) (rest := []) S w (goodS lk_RX4_165 lt_X4_indexOfGreatest ln_RX4 lc_X4_indexOfGreatest) hd_X4_indexOfGreatest (k_X4_indexOfGreatest l D cI cO a R s f N (a (16 + slt (s 19) g)) (16 + slt (s 19) g) (f (10 + slt (s 19) g)) h4 h48 (x_row (slt_lt _ _))) rfl ⟨(Nat.le_of_ble_eq_true rfl), (Nat.le_of_ble_eq_true rfl)⟩ ⟨rfl, rfl⟩ hl.1 rfl (Nat.le_of_ble_eq_true rfl) ⟨Nat.zero_le _, Nat.zero_le _⟩ dX4_worstSample_36 (fun H locs (w : Wd D (kT cI cO) (va_A _ _) _ _ (xW cI cO a s f R) H locs) => ?_)
      refine x_eqi (x := o_X4_indexOfGreatest s f N (f (10 + slt (s 19) g))) (y := nI (wst (f (10 + slt (s 19) g)) (N - 1))) rfl ?_
      refine lv_goto (tgt := 44) S.1 S.2.1 dX4_worstSample_39 (by decide) ?_
      exact x_reti S w hr hlk dX4_worstSample_44 (show nI (wst (f (10 + slt (s 19) g)) (N - 1)) = o_X4_worstSample s f N g from by simp only [o_X4_worstSample, if_neg c_1, if_neg c_2]) (show xW cI cO a s f R = xW cI cO a s f R from rfl)
  · refine x_ldc S lk_RX4_64 dX4_worstSample_7 ?_
    exact x_reti S w hr hlk dX4_worstSample_9 (show (-2000000001) = o_X4_worstSample s f N g from by simp only [o_X4_worstSample, if_pos c_1]) (show xW cI cO a s f R = xW cI cO a s f R from rfl)
def o_X4_energy (s : Nat → Int32) (f : Nat → Nat → Int32) (N : Nat) (g : Int32) : Int64 := if (wIn g 0 4) = 0 then (-1) else if (o_X1_reaches s f g) = 0 then (-2) else sumL (fun y => Int32.toInt64 ((f (10 + slt (s 19) g)) y) * Int32.toInt64 ((f (10 + slt (s 19) g)) y)) N
set_option maxHeartbeats 4000000 in
set_option maxRecDepth 100000 in
theorem k_X4_energy (l : Launch) (D : va_G) (cI cO : ClassId) (a : Nat → Nat) (R : va_W) (s : Nat → Int32) (f : Nat → Nat → Int32) (N : Nat) (K : Nat) (g : Int32) (hN : s 0 = nI N) (h4 : 4 ≤ N) (h48 : N ≤ 48) (hK : s 19 = nI K) (hK2 : K < 1000000) : Ml l yX4_energy cX4_energy 2 (some .long) { frames := 3, cells := 0, slots := 0, locals := 64 } D (kT cI cO) (xW cI cO a s f R) [.ref (a 0), .int g] (xW cI cO a s f R) (o_X4_energy s f N g) := by
  intro sz
  refine ent (by decide +kernel) (Nat.le_of_ble_eq_true rfl) ?_
  intro p e st m below meth c ls S hr hlk hnm w hsz hl
  have hl : lv_has ls 2 [(0, .ref (a 0)), (1, .int g)] := hl
  refine lv_iload_n S.1 S.2.1 dX4_energy_0 rfl (lv_at hl 1 rfl) ?_
  refine x_Si (As := [.int g]) (rest := []) S w (goodS lk_RX4_145 lt_X4_isAge ln_RX4 lc_X4_isAge) hd_X4_isAge (k_X4_isAge l _ _ (xW cI cO a s f R) g) rfl ⟨(Nat.le_of_ble_eq_true rfl), (Nat.le_of_ble_eq_true rfl)⟩ ⟨rfl, rfl⟩ hl.1 rfl (Nat.le_of_ble_eq_true rfl) ⟨Nat.zero_le _, Nat.zero_le _⟩ dX4_energy_1 (fun H locs (w : Wd D (kT cI cO) (va_A _ _) _ _ (xW cI cO a s f R) H locs) => ?_)
  refine x_eqi (x := o_X4_isAge g) (y := wIn g 0 4) rfl ?_
  refine lv_if_ne (tgt := 11) S.1 S.2.1 dX4_energy_4 (by decide) (fun (c_1 : ¬ (wIn g 0 4) = 0) => ?_) (fun (c_1 : (wIn g 0 4) = 0) => ?_)
  · have hg := wIn_ix (n := 4) (by decide) rfl c_1
    refine lv_aload_n S.1 S.2.1 dX4_energy_11 rfl (lv_at hl 0 rfl) ?_
    refine xr_3 S w lk_RX4_26 dX4_energy_12 ?_
    refine lv_iload_n S.1 S.2.1 dX4_energy_15 rfl (lv_at hl 1 rfl) ?_
    refine x_Vi (As := [.int g]) (rest := []) S w (goodV lk_RX4_148 li_X1_reaches ls_X1_reaches ln_RX1 lc_X1_reaches) hV_X1_reaches (k_X1_reaches l D cI cO a R s f g) rfl 3 1 rfl rfl xc_3 ⟨(Nat.le_of_ble_eq_true rfl), (Nat.le_of_ble_eq_true rfl)⟩ ⟨rfl, rfl⟩ hl.1 rfl (Nat.le_of_ble_eq_true rfl) ⟨Nat.zero_le _, Nat.zero_le _⟩ dX4_energy_16 (fun H locs (w : Wd D (kT cI cO) (va_A _ _) _ _ (xW cI cO a s f R) H locs) => ?_)
    refine lv_if_eq (tgt := 43) S.1 S.2.1 dX4_energy_19 (by decide) (fun (c_2 : (o_X1_reaches s f g) = 0) => ?_) (fun (c_2 : ¬ ((o_X1_reaches s f g) = 0)) => ?_)
    · refine x_ldc2 S lk_RX4_175 dX4_energy_43 ?_
      exact x_retl S w hr hlk dX4_energy_46 (show (-2) = o_X4_energy s f N g from by simp only [o_X4_energy, if_neg c_1, if_pos c_2]) (show xW cI cO a s f R = xW cI cO a s f R from rfl)
    · have hlt := rch_lt hK hK2 hg.2 (by have := hg.1; omega) c_2
      refine lv_aload_n S.1 S.2.1 dX4_energy_22 rfl (lv_at hl 0 rfl) ?_
      refine xr_3 S w lk_RX4_26 dX4_energy_23 ?_
      refine lv_iload_n S.1 S.2.1 dX4_energy_26 rfl (lv_at hl 1 rfl) ?_
      refine x_Vr (As := [.int g]) (rest := []) S w (goodV lk_RX4_151 li_X1_errorsOf ls_X1_errorsOf ln_RX1 lc_X1_errorsOf) hV_X1_errorsOf (k_X1_errorsOf l D cI cO a R s f K (Int32.toNatClampNeg g) g hK hK2 hg.2 hlt) rfl 3 1 rfl rfl xc_3 ⟨(Nat.le_of_ble_eq_true rfl), (Nat.le_of_ble_eq_true rfl)⟩ ⟨rfl, rfl⟩ hl.1 rfl (Nat.le_of_ble_eq_true rfl) ⟨Nat.zero_le _, Nat.zero_le _⟩ dX4_energy_27 (fun H locs (w : Wd D (kT cI cO) (va_A _ _) _ _ (xW cI cO a s f R) H locs) => ?_)
      refine lv_aload_n S.1 S.2.1 dX4_energy_30 rfl (lv_at hl 0 rfl) ?_
      refine xr_1 S w lk_RX4_10 dX4_energy_31 ?_
      refine xg_0 S w lk_RX4_65 dX4_energy_34 ?_
      refine x_eqi (x := s 0) (y := nI N) (hN) ?_
      refine x_Sl (As := [.ref (a (16 + (slt (s 19) g))), .int (nI N)]) (rest := []) S w (goodS lk_RX4_171 lt_X4_sumOfSquares ln_RX4 lc_X4_sumOfSquares) hd_X4_sumOfSquares (k_X4_sumOfSquares l D cI cO a R s f N (a (16 + slt (s 19) g)) (16 + slt (s 19) g) (f (10 + slt (s 19) g)) h4 h48 (x_row (slt_lt _ _))) rfl ⟨(Nat.le_of_ble_eq_true rfl), (Nat.le_of_ble_eq_true rfl)⟩ ⟨rfl, rfl⟩ hl.1 rfl (Nat.le_of_ble_eq_true rfl) ⟨Nat.zero_le _, Nat.zero_le _⟩ dX4_energy_37 (fun H locs (w : Wd D (kT cI cO) (va_A _ _) _ _ (xW cI cO a s f R) H locs) => ?_)
      refine x_eql (x := o_X4_sumOfSquares s f N (f (10 + slt (s 19) g))) (y := sumL (fun y => Int32.toInt64 ((f (10 + slt (s 19) g)) y) * Int32.toInt64 ((f (10 + slt (s 19) g)) y)) N) rfl ?_
      refine lv_goto (tgt := 46) S.1 S.2.1 dX4_energy_40 (by decide) ?_
      exact x_retl S w hr hlk dX4_energy_46 (show sumL (fun y => Int32.toInt64 ((f (10 + slt (s 19) g)) y) * Int32.toInt64 ((f (10 + slt (s 19) g)) y)) N = o_X4_energy s f N g from by simp only [o_X4_energy, if_neg c_1, if_neg c_2]) (show xW cI cO a s f R = xW cI cO a s f R from rfl)
  · refine x_ldc2 S lk_RX4_169 dX4_energy_7 ?_
    exact x_retl S w hr hlk dX4_energy_10 (show (-1) = o_X4_energy s f N g from by simp only [o_X4_energy, if_pos c_1]) (show xW cI cO a s f R = xW cI cO a s f R from rfl)
def o_X4_misfit_5 (s : Nat → Int32) (f : Nat → Nat → Int32) (N : Nat) (v : Int32) : Int64 := sumL (fun y => Int32.toInt64 (iabs (f 3 (rix N (nI y + v)) - f 4 y))) N
set_option maxHeartbeats 4000000 in
set_option maxRecDepth 100000 in
theorem j_X4_misfit_5 {p : Program} {e : Env} {st : State} {m : MethodId} {args : Array Value} {below : List Frame} {meth : Method} {c : Code} {ws0 : va_W} {sz : Nat} (l : Launch) (D : va_G) (cI cO : ClassId) (a : Nat → Nat) (R : va_W) (s : Nat → Int32) (f : Nat → Nat → Int32) (N : Nat) (v : Int32) (hN : s 0 = nI N) (h4 : 4 ≤ N) (h48 : N ≤ 48) (S : CallFix p m c cX4_misfit 5 st args wsL_law RX4) (hr : meth.sig.returnType = (some .long)) (hlk : meth.locks = false) : ∀ (n : Nat) (i : Nat) (H : Heap) (locs : List Loc) (ls : Array Slot), N + 1 ≤ i + n → i ≤ N → Wd D (kT cI cO) (va_A ws0 sz) st.heap st (xW cI cO a s f R) H locs → lv_has ls 5 [(0, .ref (a 0)), (1, .int v), (2, .long (sumL (fun y => Int32.toInt64 (iabs (f 3 (rix N (nI y + v)) - f 4 y))) i)), (4, .int (nI i))] → W p l e { frames := 2, cells := 0, slots := 0, locals := 36 } st m args below meth c H locs 0 0 (MQ below (mQl D (kT cI cO) ws0 sz (xW cI cO a s f R) (o_X4_misfit_5 s f N v)) args st 0 0 (va_A ws0 sz)) (F0 m 5 ls []) := by
  intro n
  induction n with
  | zero => intro i H locs ls hfu hi w hl; exact absurd hfu (by omega)
  | succ n ih =>
    intro i H locs ls hfu hi w hl
    refine lv_iload S.1 S.2.1 dX4_misfit_5 (lv_at hl 3 rfl) ?_
    refine lv_aload_n S.1 S.2.1 dX4_misfit_7 rfl (lv_at hl 0 rfl) ?_
    refine xr_1 S w lk_RX4_10 dX4_misfit_8 ?_
    refine xg_0 S w lk_RX4_65 dX4_misfit_11 ?_
    refine x_eqi (x := s 0) (y := nI N) (hN) ?_
    refine lv_icmp_ge (tgt := 46) S.1 S.2.1 dX4_misfit_14 (by decide) (fun (c_1 : (nI N) ≤ (nI i)) => ?_) (fun (c_1 : ¬ ((nI N) ≤ (nI i))) => ?_)
    · have he : i = N := by
        have := (nI_leI (a := N) (b := i) (by omega) (by omega)).mp c_1
        omega
      subst i
      refine lv_lload_n S.1 S.2.1 dX4_misfit_46 rfl (lv_at hl 2 rfl) ?_
      exact x_retl S w hr hlk dX4_misfit_47 (show sumL (fun y => Int32.toInt64 (iabs (f 3 (rix N (nI y + v)) - f 4 y))) N = o_X4_misfit_5 s f N v from by simp only [o_X4_misfit_5]) (show xW cI cO a s f R = xW cI cO a s f R from rfl)
    · have hlt : i < N := Nat.lt_of_not_le (fun z => c_1 (nI_le z (by omega)))
      refine lv_lload_n S.1 S.2.1 dX4_misfit_17 rfl (lv_at hl 2 rfl) ?_
      refine lv_aload_n S.1 S.2.1 dX4_misfit_18 rfl (lv_at hl 0 rfl) ?_
      refine lv_iload S.1 S.2.1 dX4_misfit_19 (lv_at hl 3 rfl) ?_
      refine lv_iload_n S.1 S.2.1 dX4_misfit_21 rfl (lv_at hl 1 rfl) ?_
      refine lv_iadd S.1 S.2.1 dX4_misfit_22 ?_
      refine x_Vi (As := [.int ((nI i) + v)]) (rest := [.long (sumL (fun y => Int32.toInt64 (iabs (f 3 (rix N (nI y + v)) - f 4 y))) i)]) S w (goodV lk_RX4_248 li_X4_rawAt ls_X4_rawAt ln_RX4 lc_X4_rawAt) hV_X4_rawAt (k_X4_rawAt l D cI cO a R s f N ((nI i) + v) hN h4 h48) rfl 0 4 rfl rfl xc_0 ⟨(Nat.le_of_ble_eq_true rfl), (Nat.le_of_ble_eq_true rfl)⟩ ⟨rfl, rfl⟩ hl.1 rfl (Nat.le_of_ble_eq_true rfl) ⟨Nat.zero_le _, Nat.zero_le _⟩ dX4_misfit_23 (fun H locs (w : Wd D (kT cI cO) (va_A _ _) _ _ (xW cI cO a s f R) H locs) => ?_)
      refine x_eqi (x := o_X4_rawAt s f N ((nI i) + v)) (y := (f 3) (rix N ((nI i) + v))) rfl ?_
      refine lv_aload_n S.1 S.2.1 dX4_misfit_26 rfl (lv_at hl 0 rfl) ?_
      refine xr_9 S w lk_RX4_50 dX4_misfit_27 ?_
      refine lv_iload S.1 S.2.1 dX4_misfit_30 (lv_at hl 3 rfl) ?_
      refine x_iald S w 9 0 (g := f 4) (v := (f 4) i) i (by omega) (rfl) (Nat.le_of_ble_eq_true rfl) (xc_9) rfl (rfl) dX4_misfit_32 ?_
      refine lv_isub S.1 S.2.1 dX4_misfit_33 ?_
      refine x_mabs S lk_RX4_269 hl.1 (Nat.le_of_ble_eq_true rfl) (Nat.le_of_ble_eq_true rfl) (Nat.zero_le _) (Nat.zero_le _) dX4_misfit_34 ?_
      refine lv_i2l S.1 S.2.1 dX4_misfit_37 rfl ?_
      refine lv_ladd S.1 S.2.1 dX4_misfit_38 ?_
      refine lv_lstore_n (lv' := [(2, .long ((sumL (fun y => Int32.toInt64 (iabs (f 3 (rix N (nI y + v)) - f 4 y))) i) + (Int32.toInt64 (iabs (((f 3) (rix N ((nI i) + v))) - ((f 4) i)))))), (0, .ref (a 0)), (1, .int v), (4, .int (nI i))]) S.1 S.2.1 dX4_misfit_39 rfl hl (by decide) rfl (fun ls hl => ?_)
      refine lv_iinc (v := nI (i + 1)) (lv' := [(4, .int (nI (i + 1))), (2, .long ((sumL (fun y => Int32.toInt64 (iabs (f 3 (rix N (nI y + v)) - f 4 y))) i) + (Int32.toInt64 (iabs (((f 3) (rix N ((nI i) + v))) - ((f 4) i)))))), (0, .ref (a 0)), (1, .int v)]) S.1 S.2.1 dX4_misfit_40 hl (k := 3) rfl (x_inc _) (by decide) rfl (fun ls hl => ?_)
      refine lv_goto (tgt := 5) S.1 S.2.1 dX4_misfit_43 (by decide) ?_
      exact ih (i + 1) _ _ _ (by omega) (by omega) w (lv_sub hl [2, 3, 1, 0] rfl)
def o_X4_misfit (s : Nat → Int32) (f : Nat → Nat → Int32) (N : Nat) (v : Int32) : Int64 := o_X4_misfit_5 s f N v
set_option maxHeartbeats 4000000 in
set_option maxRecDepth 100000 in
theorem k_X4_misfit (l : Launch) (D : va_G) (cI cO : ClassId) (a : Nat → Nat) (R : va_W) (s : Nat → Int32) (f : Nat → Nat → Int32) (N : Nat) (v : Int32) (hN : s 0 = nI N) (h4 : 4 ≤ N) (h48 : N ≤ 48) : Ml l yX4_misfit cX4_misfit 5 (some .long) { frames := 2, cells := 0, slots := 0, locals := 36 } D (kT cI cO) (xW cI cO a s f R) [.ref (a 0), .int v] (xW cI cO a s f R) (o_X4_misfit s f N v) := by
  intro sz
  refine ent (by decide +kernel) (Nat.le_of_ble_eq_true rfl) ?_
  intro p e st m below meth c ls S hr hlk hnm w hsz hl
  have hl : lv_has ls 5 [(0, .ref (a 0)), (1, .int v)] := hl
  refine lv_lconst (v := 0) S.1 S.2.1 dX4_misfit_0 (by decide) ?_
  refine lv_lstore_n (lv' := [(2, .long 0), (0, .ref (a 0)), (1, .int v)]) S.1 S.2.1 dX4_misfit_1 rfl hl (by decide) rfl (fun ls hl => ?_)
  refine lv_iconst (v := 0) S.1 S.2.1 dX4_misfit_2 (by decide) ?_
  refine lv_istore (lv' := [(4, .int 0), (2, .long 0), (0, .ref (a 0)), (1, .int v)]) S.1 S.2.1 dX4_misfit_3 hl (by decide) rfl (fun ls hl => ?_)
  refine x_tol (show o_X4_misfit_5 s f N v = o_X4_misfit s f N v from by simp only [o_X4_misfit]) (show xW cI cO a s f R = xW cI cO a s f R from by simp only [o_X4_misfit]) ?_
  exact j_X4_misfit_5 l D cI cO a R s f N v hN h4 h48 S hr hlk (N + 1) 0 _ _ _ (by omega) (by omega) w (lv_sub hl [2, 3, 1, 0] rfl)
/-- how far the outputs, shifted by v, are from the aligned ones before -/
def misf (f : Nat → Nat → Int32) (N : Nat) (v : Int32) : Int64 := sumL (fun y => Int32.toInt64 (iabs (f 3 (rix N (nI y + v)) - f 4 y))) N
theorem misf_eq (s : Nat → Int32) (f : Nat → Nat → Int32) (N : Nat) (v : Int32) : o_X4_misfit s f N v = misf f N v := rfl
def o_X4_bestFittingShift_11 (s : Nat → Int32) (f : Nat → Nat → Int32) (N : Nat) (G : Nat) : Int32 := bst (misf f N) G
set_option maxHeartbeats 4000000 in
set_option maxRecDepth 100000 in
theorem j_X4_bestFittingShift_11 {p : Program} {e : Env} {st : State} {m : MethodId} {args : Array Value} {below : List Frame} {meth : Method} {c : Code} {ws0 : va_W} {sz : Nat} (l : Launch) (D : va_G) (cI cO : ClassId) (a : Nat → Nat) (R : va_W) (s : Nat → Int32) (f : Nat → Nat → Int32) (N : Nat) (G : Nat) (hN : s 0 = nI N) (h4 : 4 ≤ N) (h48 : N ≤ 48) (hG : s 7 = nI G) (hG5 : G ≤ 5) (S : CallFix p m c cX4_bestFittingShift 8 st args wsL_law RX4) (hr : meth.sig.returnType = (some .int)) (hlk : meth.locks = false) : ∀ (n : Nat) (i : Nat) (H : Heap) (locs : List Loc) (ls : Array Slot), G + 1 ≤ i + n → i ≤ G → Wd D (kT cI cO) (va_A ws0 sz) st.heap st (xW cI cO a s f R) H locs → lv_has ls 8 [(0, .ref (a 0)), (1, .int (bst (misf f N) i)), (2, .long (misf f N (bst (misf f N) i))), (4, .int (nI (i + 1)))] → W p l e { frames := 3, cells := 0, slots := 0, locals := 60 } st m args below meth c H locs 0 0 (MQ below (mQi D (kT cI cO) ws0 sz (xW cI cO a s f R) (o_X4_bestFittingShift_11 s f N G)) args st 0 0 (va_A ws0 sz)) (F0 m 11 ls []) := by
  intro n
  induction n with
  | zero => intro i H locs ls hfu hi w hl; exact absurd hfu (by omega)
  | succ n ih =>
    intro i H locs ls hfu hi w hl
    refine lv_iload S.1 S.2.1 dX4_bestFittingShift_11 (lv_at hl 3 rfl) ?_
    refine lv_aload_n S.1 S.2.1 dX4_bestFittingShift_13 rfl (lv_at hl 0 rfl) ?_
    refine xr_1 S w lk_RX4_10 dX4_bestFittingShift_14 ?_
    refine xg_7 S w lk_RX4_99 dX4_bestFittingShift_17 ?_
    refine x_eqi (x := s 7) (y := nI G) (hG) ?_
    refine lv_icmp_gt (tgt := 74) S.1 S.2.1 dX4_bestFittingShift_20 (by decide) (fun (c_1 : (nI G) < (nI (i + 1))) => ?_) (fun (c_1 : ¬ ((nI G) < (nI (i + 1)))) => ?_)
    · have he : i = G := by
        have := (nI_ltI (a := G) (b := i + 1) (by omega) (by omega)).mp c_1
        omega
      subst i
      refine lv_iload_n S.1 S.2.1 dX4_bestFittingShift_74 rfl (lv_at hl 1 rfl) ?_
      exact x_reti S w hr hlk dX4_bestFittingShift_75 (show bst (misf f N) G = o_X4_bestFittingShift_11 s f N G from by simp only [o_X4_bestFittingShift_11]) (show xW cI cO a s f R = xW cI cO a s f R from rfl)
    · have hlt : i < G := Nat.lt_of_not_le (fun z => c_1 (nI_lt (by omega) (by omega)))
      refine lv_iload S.1 S.2.1 dX4_bestFittingShift_23 (lv_at hl 3 rfl) ?_
      refine lv_ineg S.1 S.2.1 dX4_bestFittingShift_25 ?_
      refine lv_istore (lv' := [(5, .int (-(nI (i + 1)))), (0, .ref (a 0)), (1, .int (bst (misf f N) i)), (2, .long (misf f N (bst (misf f N) i))), (4, .int (nI (i + 1)))]) S.1 S.2.1 dX4_bestFittingShift_26 hl (by decide) rfl (fun ls hl => ?_)
      refine lv_iload S.1 S.2.1 dX4_bestFittingShift_28 (lv_at hl 0 rfl) ?_
      refine lv_iload S.1 S.2.1 dX4_bestFittingShift_30 (lv_at hl 4 rfl) ?_
      refine lv_icmp_gt (tgt := 68) S.1 S.2.1 dX4_bestFittingShift_32 (by decide) (fun z => absurd z (neg_le_nI (by omega) : ¬ ((nI (i + 1)) < (-(nI (i + 1)))))) (fun _ => ?_)
      refine lv_aload_n S.1 S.2.1 dX4_bestFittingShift_35 rfl (lv_at hl 1 rfl) ?_
      refine lv_iload S.1 S.2.1 dX4_bestFittingShift_36 (lv_at hl 0 rfl) ?_
      refine x_Vl (As := [.int (-(nI (i + 1)))]) (rest := []) S w (goodV lk_RX4_265 li_X4_misfit ls_X4_misfit ln_RX4 lc_X4_misfit) hV_X4_misfit (k_X4_misfit l D cI cO a R s f N (-(nI (i + 1))) hN h4 h48) rfl 0 4 rfl rfl xc_0 ⟨(Nat.le_of_ble_eq_true rfl), (Nat.le_of_ble_eq_true rfl)⟩ ⟨rfl, rfl⟩ hl.1 rfl (Nat.le_of_ble_eq_true rfl) ⟨Nat.zero_le _, Nat.zero_le _⟩ dX4_bestFittingShift_38 (fun H locs (w : Wd D (kT cI cO) (va_A _ _) _ _ (xW cI cO a s f R) H locs) => ?_)
      refine x_eql (x := o_X4_misfit s f N (-(nI (i + 1)))) (y := sumL (fun y => Int32.toInt64 (iabs (f 3 (rix N (nI y + (-(nI (i + 1))))) - f 4 y))) N) rfl ?_
      refine x_eql (x := sumL (fun y => Int32.toInt64 (iabs (f 3 (rix N (nI y + (-(nI (i + 1))))) - f 4 y))) N) (y := misf f N (-(nI (i + 1)))) (rfl) ?_
      refine lv_lstore (lv' := [(6, .long (misf f N (-(nI (i + 1))))), (5, .int (-(nI (i + 1)))), (0, .ref (a 0)), (1, .int (bst (misf f N) i)), (2, .long (misf f N (bst (misf f N) i))), (4, .int (nI (i + 1)))]) S.1 S.2.1 dX4_bestFittingShift_41 hl (by decide) rfl (fun ls hl => ?_)
      refine lv_lload S.1 S.2.1 dX4_bestFittingShift_43 (lv_at hl 0 rfl) ?_
      refine lv_lload_n S.1 S.2.1 dX4_bestFittingShift_45 rfl (lv_at hl 4 rfl) ?_
      refine x_lif_ge (tgt := 56) S.1 S.2.1 dX4_bestFittingShift_46 dX4_bestFittingShift_47 (by decide) (fun (c_3 : (misf f N (bst (misf f N) i)) ≤ (misf f N (-(nI (i + 1))))) => ?_) (fun (c_3 : ¬ ((misf f N (bst (misf f N) i)) ≤ (misf f N (-(nI (i + 1)))))) => ?_)
      · refine lv_iload S.1 S.2.1 dX4_bestFittingShift_56 (lv_at hl 1 rfl) ?_
        refine lv_iconst (v := 2) S.1 S.2.1 dX4_bestFittingShift_58 (by decide) ?_
        refine lv_iload S.1 S.2.1 dX4_bestFittingShift_59 (lv_at hl 5 rfl) ?_
        refine lv_imul S.1 S.2.1 dX4_bestFittingShift_61 ?_
        refine lv_iadd S.1 S.2.1 dX4_bestFittingShift_62 ?_
        refine x_eqi (x := (-(nI (i + 1))) + (2 * (nI (i + 1)))) (y := nI (i + 1)) (neg_2 _) ?_
        refine lv_istore (lv' := [(5, .int (nI (i + 1))), (6, .long (misf f N (-(nI (i + 1))))), (0, .ref (a 0)), (1, .int (bst (misf f N) i)), (2, .long (misf f N (bst (misf f N) i))), (4, .int (nI (i + 1)))]) S.1 S.2.1 dX4_bestFittingShift_63 hl (by decide) rfl (fun ls hl => ?_)
        refine lv_goto (tgt := 28) S.1 S.2.1 dX4_bestFittingShift_65 (by decide) ?_
        refine lv_iload S.1 S.2.1 dX4_bestFittingShift_28 (lv_at hl 0 rfl) ?_
        refine lv_iload S.1 S.2.1 dX4_bestFittingShift_30 (lv_at hl 5 rfl) ?_
        refine lv_icmp_gt (tgt := 68) S.1 S.2.1 dX4_bestFittingShift_32 (by decide) (fun z => absurd z (fun z9 => Int32.lt_irrefl z9 : ¬ ((nI (i + 1)) < (nI (i + 1))))) (fun _ => ?_)
        refine lv_aload_n S.1 S.2.1 dX4_bestFittingShift_35 rfl (lv_at hl 2 rfl) ?_
        refine lv_iload S.1 S.2.1 dX4_bestFittingShift_36 (lv_at hl 0 rfl) ?_
        refine x_Vl (As := [.int (nI (i + 1))]) (rest := []) S w (goodV lk_RX4_265 li_X4_misfit ls_X4_misfit ln_RX4 lc_X4_misfit) hV_X4_misfit (k_X4_misfit l D cI cO a R s f N (nI (i + 1)) hN h4 h48) rfl 0 4 rfl rfl xc_0 ⟨(Nat.le_of_ble_eq_true rfl), (Nat.le_of_ble_eq_true rfl)⟩ ⟨rfl, rfl⟩ hl.1 rfl (Nat.le_of_ble_eq_true rfl) ⟨Nat.zero_le _, Nat.zero_le _⟩ dX4_bestFittingShift_38 (fun H locs (w : Wd D (kT cI cO) (va_A _ _) _ _ (xW cI cO a s f R) H locs) => ?_)
        refine x_eql (x := o_X4_misfit s f N (nI (i + 1))) (y := sumL (fun y => Int32.toInt64 (iabs (f 3 (rix N (nI y + (nI (i + 1)))) - f 4 y))) N) rfl ?_
        refine x_eql (x := sumL (fun y => Int32.toInt64 (iabs (f 3 (rix N (nI y + (nI (i + 1)))) - f 4 y))) N) (y := misf f N (nI (i + 1))) (rfl) ?_
        refine lv_lstore (lv' := [(6, .long (misf f N (nI (i + 1)))), (5, .int (nI (i + 1))), (0, .ref (a 0)), (1, .int (bst (misf f N) i)), (2, .long (misf f N (bst (misf f N) i))), (4, .int (nI (i + 1)))]) S.1 S.2.1 dX4_bestFittingShift_41 hl (by decide) rfl (fun ls hl => ?_)
        refine lv_lload S.1 S.2.1 dX4_bestFittingShift_43 (lv_at hl 0 rfl) ?_
        refine lv_lload_n S.1 S.2.1 dX4_bestFittingShift_45 rfl (lv_at hl 4 rfl) ?_
        refine x_lif_ge (tgt := 56) S.1 S.2.1 dX4_bestFittingShift_46 dX4_bestFittingShift_47 (by decide) (fun (c_5 : (misf f N (bst (misf f N) i)) ≤ (misf f N (nI (i + 1)))) => ?_) (fun (c_5 : ¬ ((misf f N (bst (misf f N) i)) ≤ (misf f N (nI (i + 1))))) => ?_)
        · refine lv_iload S.1 S.2.1 dX4_bestFittingShift_56 (lv_at hl 1 rfl) ?_
          refine lv_iconst (v := 2) S.1 S.2.1 dX4_bestFittingShift_58 (by decide) ?_
          refine lv_iload S.1 S.2.1 dX4_bestFittingShift_59 (lv_at hl 5 rfl) ?_
          refine lv_imul S.1 S.2.1 dX4_bestFittingShift_61 ?_
          refine lv_iadd S.1 S.2.1 dX4_bestFittingShift_62 ?_
          refine lv_istore (lv' := [(5, .int ((nI (i + 1)) + (2 * (nI (i + 1))))), (6, .long (misf f N (nI (i + 1)))), (0, .ref (a 0)), (1, .int (bst (misf f N) i)), (2, .long (misf f N (bst (misf f N) i))), (4, .int (nI (i + 1)))]) S.1 S.2.1 dX4_bestFittingShift_63 hl (by decide) rfl (fun ls hl => ?_)
          refine lv_goto (tgt := 28) S.1 S.2.1 dX4_bestFittingShift_65 (by decide) ?_
          refine lv_iload S.1 S.2.1 dX4_bestFittingShift_28 (lv_at hl 0 rfl) ?_
          refine lv_iload S.1 S.2.1 dX4_bestFittingShift_30 (lv_at hl 5 rfl) ?_
          refine lv_icmp_gt (tgt := 68) S.1 S.2.1 dX4_bestFittingShift_32 (by decide) (fun _ => ?_) (fun z => absurd (tr_2 (by omega) (by omega) : (nI (i + 1)) < ((nI (i + 1)) + (2 * (nI (i + 1))))) z)
          refine lv_iinc (v := nI ((i + 1) + 1)) (lv' := [(4, .int (nI ((i + 1) + 1))), (5, .int ((nI (i + 1)) + (2 * (nI (i + 1))))), (6, .long (misf f N (nI (i + 1)))), (0, .ref (a 0)), (1, .int (bst (misf f N) i)), (2, .long (misf f N (bst (misf f N) i)))]) S.1 S.2.1 dX4_bestFittingShift_68 hl (k := 5) rfl (x_inc _) (by decide) rfl (fun ls hl => ?_)
          refine lv_goto (tgt := 11) S.1 S.2.1 dX4_bestFittingShift_71 (by decide) ?_
          have hs : bst (misf f N) i = bst (misf f N) (i + 1) := by
            rw [bst, if_neg (Int64.not_lt.mpr c_3), if_neg (Int64.not_lt.mpr c_5)]
          exact ih (i + 1) _ _ _ (by omega) (by omega) w (lv_sub hl [3, 4, 5, 0] (by rw [← hs]; rfl))
        · refine lv_lload S.1 S.2.1 dX4_bestFittingShift_50 (lv_at hl 0 rfl) ?_
          refine lv_lstore_n (lv' := [(2, .long (misf f N (nI (i + 1)))), (6, .long (misf f N (nI (i + 1)))), (5, .int (nI (i + 1))), (0, .ref (a 0)), (1, .int (bst (misf f N) i)), (4, .int (nI (i + 1)))]) S.1 S.2.1 dX4_bestFittingShift_52 rfl hl (by decide) rfl (fun ls hl => ?_)
          refine lv_iload S.1 S.2.1 dX4_bestFittingShift_53 (lv_at hl 2 rfl) ?_
          refine lv_istore_n (lv' := [(1, .int (nI (i + 1))), (2, .long (misf f N (nI (i + 1)))), (6, .long (misf f N (nI (i + 1)))), (5, .int (nI (i + 1))), (0, .ref (a 0)), (4, .int (nI (i + 1)))]) S.1 S.2.1 dX4_bestFittingShift_55 rfl hl (by decide) rfl (fun ls hl => ?_)
          refine lv_iload S.1 S.2.1 dX4_bestFittingShift_56 (lv_at hl 3 rfl) ?_
          refine lv_iconst (v := 2) S.1 S.2.1 dX4_bestFittingShift_58 (by decide) ?_
          refine lv_iload S.1 S.2.1 dX4_bestFittingShift_59 (lv_at hl 5 rfl) ?_
          refine lv_imul S.1 S.2.1 dX4_bestFittingShift_61 ?_
          refine lv_iadd S.1 S.2.1 dX4_bestFittingShift_62 ?_
          refine lv_istore (lv' := [(5, .int ((nI (i + 1)) + (2 * (nI (i + 1))))), (1, .int (nI (i + 1))), (2, .long (misf f N (nI (i + 1)))), (6, .long (misf f N (nI (i + 1)))), (0, .ref (a 0)), (4, .int (nI (i + 1)))]) S.1 S.2.1 dX4_bestFittingShift_63 hl (by decide) rfl (fun ls hl => ?_)
          refine lv_goto (tgt := 28) S.1 S.2.1 dX4_bestFittingShift_65 (by decide) ?_
          refine lv_iload S.1 S.2.1 dX4_bestFittingShift_28 (lv_at hl 0 rfl) ?_
          refine lv_iload S.1 S.2.1 dX4_bestFittingShift_30 (lv_at hl 5 rfl) ?_
          refine lv_icmp_gt (tgt := 68) S.1 S.2.1 dX4_bestFittingShift_32 (by decide) (fun _ => ?_) (fun z => absurd (tr_2 (by omega) (by omega) : (nI (i + 1)) < ((nI (i + 1)) + (2 * (nI (i + 1))))) z)
          refine lv_iinc (v := nI ((i + 1) + 1)) (lv' := [(4, .int (nI ((i + 1) + 1))), (5, .int ((nI (i + 1)) + (2 * (nI (i + 1))))), (1, .int (nI (i + 1))), (2, .long (misf f N (nI (i + 1)))), (6, .long (misf f N (nI (i + 1)))), (0, .ref (a 0))]) S.1 S.2.1 dX4_bestFittingShift_68 hl (k := 5) rfl (x_inc _) (by decide) rfl (fun ls hl => ?_)
          refine lv_goto (tgt := 11) S.1 S.2.1 dX4_bestFittingShift_71 (by decide) ?_
          have hs : nI (i + 1) = bst (misf f N) (i + 1) := by
            rw [bst, if_neg (Int64.not_lt.mpr c_3), if_pos (Int64.not_le.mp c_5)]
          exact ih (i + 1) _ _ _ (by omega) (by omega) w (lv_sub hl [5, 2, 3, 0] (by rw [← hs]; rfl))
      · refine lv_lload S.1 S.2.1 dX4_bestFittingShift_50 (lv_at hl 0 rfl) ?_
        refine lv_lstore_n (lv' := [(2, .long (misf f N (-(nI (i + 1))))), (6, .long (misf f N (-(nI (i + 1))))), (5, .int (-(nI (i + 1)))), (0, .ref (a 0)), (1, .int (bst (misf f N) i)), (4, .int (nI (i + 1)))]) S.1 S.2.1 dX4_bestFittingShift_52 rfl hl (by decide) rfl (fun ls hl => ?_)
        refine lv_iload S.1 S.2.1 dX4_bestFittingShift_53 (lv_at hl 2 rfl) ?_
        refine lv_istore_n (lv' := [(1, .int (-(nI (i + 1)))), (2, .long (misf f N (-(nI (i + 1))))), (6, .long (misf f N (-(nI (i + 1))))), (5, .int (-(nI (i + 1)))), (0, .ref (a 0)), (4, .int (nI (i + 1)))]) S.1 S.2.1 dX4_bestFittingShift_55 rfl hl (by decide) rfl (fun ls hl => ?_)
        refine lv_iload S.1 S.2.1 dX4_bestFittingShift_56 (lv_at hl 3 rfl) ?_
        refine lv_iconst (v := 2) S.1 S.2.1 dX4_bestFittingShift_58 (by decide) ?_
        refine lv_iload S.1 S.2.1 dX4_bestFittingShift_59 (lv_at hl 5 rfl) ?_
        refine lv_imul S.1 S.2.1 dX4_bestFittingShift_61 ?_
        refine lv_iadd S.1 S.2.1 dX4_bestFittingShift_62 ?_
        refine x_eqi (x := (-(nI (i + 1))) + (2 * (nI (i + 1)))) (y := nI (i + 1)) (neg_2 _) ?_
        refine lv_istore (lv' := [(5, .int (nI (i + 1))), (1, .int (-(nI (i + 1)))), (2, .long (misf f N (-(nI (i + 1))))), (6, .long (misf f N (-(nI (i + 1))))), (0, .ref (a 0)), (4, .int (nI (i + 1)))]) S.1 S.2.1 dX4_bestFittingShift_63 hl (by decide) rfl (fun ls hl => ?_)
        refine lv_goto (tgt := 28) S.1 S.2.1 dX4_bestFittingShift_65 (by decide) ?_
        refine lv_iload S.1 S.2.1 dX4_bestFittingShift_28 (lv_at hl 0 rfl) ?_
        refine lv_iload S.1 S.2.1 dX4_bestFittingShift_30 (lv_at hl 5 rfl) ?_
        refine lv_icmp_gt (tgt := 68) S.1 S.2.1 dX4_bestFittingShift_32 (by decide) (fun z => absurd z (fun z9 => Int32.lt_irrefl z9 : ¬ ((nI (i + 1)) < (nI (i + 1))))) (fun _ => ?_)
        refine lv_aload_n S.1 S.2.1 dX4_bestFittingShift_35 rfl (lv_at hl 4 rfl) ?_
        refine lv_iload S.1 S.2.1 dX4_bestFittingShift_36 (lv_at hl 0 rfl) ?_
        refine x_Vl (As := [.int (nI (i + 1))]) (rest := []) S w (goodV lk_RX4_265 li_X4_misfit ls_X4_misfit ln_RX4 lc_X4_misfit) hV_X4_misfit (k_X4_misfit l D cI cO a R s f N (nI (i + 1)) hN h4 h48) rfl 0 4 rfl rfl xc_0 ⟨(Nat.le_of_ble_eq_true rfl), (Nat.le_of_ble_eq_true rfl)⟩ ⟨rfl, rfl⟩ hl.1 rfl (Nat.le_of_ble_eq_true rfl) ⟨Nat.zero_le _, Nat.zero_le _⟩ dX4_bestFittingShift_38 (fun H locs (w : Wd D (kT cI cO) (va_A _ _) _ _ (xW cI cO a s f R) H locs) => ?_)
        refine x_eql (x := o_X4_misfit s f N (nI (i + 1))) (y := sumL (fun y => Int32.toInt64 (iabs (f 3 (rix N (nI y + (nI (i + 1)))) - f 4 y))) N) rfl ?_
        refine x_eql (x := sumL (fun y => Int32.toInt64 (iabs (f 3 (rix N (nI y + (nI (i + 1)))) - f 4 y))) N) (y := misf f N (nI (i + 1))) (rfl) ?_
        refine lv_lstore (lv' := [(6, .long (misf f N (nI (i + 1)))), (5, .int (nI (i + 1))), (1, .int (-(nI (i + 1)))), (2, .long (misf f N (-(nI (i + 1))))), (0, .ref (a 0)), (4, .int (nI (i + 1)))]) S.1 S.2.1 dX4_bestFittingShift_41 hl (by decide) rfl (fun ls hl => ?_)
        refine lv_lload S.1 S.2.1 dX4_bestFittingShift_43 (lv_at hl 0 rfl) ?_
        refine lv_lload_n S.1 S.2.1 dX4_bestFittingShift_45 rfl (lv_at hl 3 rfl) ?_
        refine x_lif_ge (tgt := 56) S.1 S.2.1 dX4_bestFittingShift_46 dX4_bestFittingShift_47 (by decide) (fun (c_9 : (misf f N (-(nI (i + 1)))) ≤ (misf f N (nI (i + 1)))) => ?_) (fun (c_9 : ¬ ((misf f N (-(nI (i + 1)))) ≤ (misf f N (nI (i + 1))))) => ?_)
        · refine lv_iload S.1 S.2.1 dX4_bestFittingShift_56 (lv_at hl 1 rfl) ?_
          refine lv_iconst (v := 2) S.1 S.2.1 dX4_bestFittingShift_58 (by decide) ?_
          refine lv_iload S.1 S.2.1 dX4_bestFittingShift_59 (lv_at hl 5 rfl) ?_
          refine lv_imul S.1 S.2.1 dX4_bestFittingShift_61 ?_
          refine lv_iadd S.1 S.2.1 dX4_bestFittingShift_62 ?_
          refine lv_istore (lv' := [(5, .int ((nI (i + 1)) + (2 * (nI (i + 1))))), (6, .long (misf f N (nI (i + 1)))), (1, .int (-(nI (i + 1)))), (2, .long (misf f N (-(nI (i + 1))))), (0, .ref (a 0)), (4, .int (nI (i + 1)))]) S.1 S.2.1 dX4_bestFittingShift_63 hl (by decide) rfl (fun ls hl => ?_)
          refine lv_goto (tgt := 28) S.1 S.2.1 dX4_bestFittingShift_65 (by decide) ?_
          refine lv_iload S.1 S.2.1 dX4_bestFittingShift_28 (lv_at hl 0 rfl) ?_
          refine lv_iload S.1 S.2.1 dX4_bestFittingShift_30 (lv_at hl 5 rfl) ?_
          refine lv_icmp_gt (tgt := 68) S.1 S.2.1 dX4_bestFittingShift_32 (by decide) (fun _ => ?_) (fun z => absurd (tr_2 (by omega) (by omega) : (nI (i + 1)) < ((nI (i + 1)) + (2 * (nI (i + 1))))) z)
          refine lv_iinc (v := nI ((i + 1) + 1)) (lv' := [(4, .int (nI ((i + 1) + 1))), (5, .int ((nI (i + 1)) + (2 * (nI (i + 1))))), (6, .long (misf f N (nI (i + 1)))), (1, .int (-(nI (i + 1)))), (2, .long (misf f N (-(nI (i + 1))))), (0, .ref (a 0))]) S.1 S.2.1 dX4_bestFittingShift_68 hl (k := 5) rfl (x_inc _) (by decide) rfl (fun ls hl => ?_)
          refine lv_goto (tgt := 11) S.1 S.2.1 dX4_bestFittingShift_71 (by decide) ?_
          have hs : -(nI (i + 1)) = bst (misf f N) (i + 1) := by
            rw [bst, if_pos (Int64.not_le.mp c_3), if_neg (Int64.not_lt.mpr c_9)]
          exact ih (i + 1) _ _ _ (by omega) (by omega) w (lv_sub hl [5, 3, 4, 0] (by rw [← hs]; rfl))
        · refine lv_lload S.1 S.2.1 dX4_bestFittingShift_50 (lv_at hl 0 rfl) ?_
          refine lv_lstore_n (lv' := [(2, .long (misf f N (nI (i + 1)))), (6, .long (misf f N (nI (i + 1)))), (5, .int (nI (i + 1))), (1, .int (-(nI (i + 1)))), (0, .ref (a 0)), (4, .int (nI (i + 1)))]) S.1 S.2.1 dX4_bestFittingShift_52 rfl hl (by decide) rfl (fun ls hl => ?_)
          refine lv_iload S.1 S.2.1 dX4_bestFittingShift_53 (lv_at hl 2 rfl) ?_
          refine lv_istore_n (lv' := [(1, .int (nI (i + 1))), (2, .long (misf f N (nI (i + 1)))), (6, .long (misf f N (nI (i + 1)))), (5, .int (nI (i + 1))), (0, .ref (a 0)), (4, .int (nI (i + 1)))]) S.1 S.2.1 dX4_bestFittingShift_55 rfl hl (by decide) rfl (fun ls hl => ?_)
          refine lv_iload S.1 S.2.1 dX4_bestFittingShift_56 (lv_at hl 3 rfl) ?_
          refine lv_iconst (v := 2) S.1 S.2.1 dX4_bestFittingShift_58 (by decide) ?_
          refine lv_iload S.1 S.2.1 dX4_bestFittingShift_59 (lv_at hl 5 rfl) ?_
          refine lv_imul S.1 S.2.1 dX4_bestFittingShift_61 ?_
          refine lv_iadd S.1 S.2.1 dX4_bestFittingShift_62 ?_
          refine lv_istore (lv' := [(5, .int ((nI (i + 1)) + (2 * (nI (i + 1))))), (1, .int (nI (i + 1))), (2, .long (misf f N (nI (i + 1)))), (6, .long (misf f N (nI (i + 1)))), (0, .ref (a 0)), (4, .int (nI (i + 1)))]) S.1 S.2.1 dX4_bestFittingShift_63 hl (by decide) rfl (fun ls hl => ?_)
          refine lv_goto (tgt := 28) S.1 S.2.1 dX4_bestFittingShift_65 (by decide) ?_
          refine lv_iload S.1 S.2.1 dX4_bestFittingShift_28 (lv_at hl 0 rfl) ?_
          refine lv_iload S.1 S.2.1 dX4_bestFittingShift_30 (lv_at hl 5 rfl) ?_
          refine lv_icmp_gt (tgt := 68) S.1 S.2.1 dX4_bestFittingShift_32 (by decide) (fun _ => ?_) (fun z => absurd (tr_2 (by omega) (by omega) : (nI (i + 1)) < ((nI (i + 1)) + (2 * (nI (i + 1))))) z)
          refine lv_iinc (v := nI ((i + 1) + 1)) (lv' := [(4, .int (nI ((i + 1) + 1))), (5, .int ((nI (i + 1)) + (2 * (nI (i + 1))))), (1, .int (nI (i + 1))), (2, .long (misf f N (nI (i + 1)))), (6, .long (misf f N (nI (i + 1)))), (0, .ref (a 0))]) S.1 S.2.1 dX4_bestFittingShift_68 hl (k := 5) rfl (x_inc _) (by decide) rfl (fun ls hl => ?_)
          refine lv_goto (tgt := 11) S.1 S.2.1 dX4_bestFittingShift_71 (by decide) ?_
          have hs : nI (i + 1) = bst (misf f N) (i + 1) := by
            rw [bst, if_pos (Int64.not_le.mp c_3), if_pos (Int64.not_le.mp c_9)]
          exact ih (i + 1) _ _ _ (by omega) (by omega) w (lv_sub hl [5, 2, 3, 0] (by rw [← hs]; rfl))
def o_X4_bestFittingShift (s : Nat → Int32) (f : Nat → Nat → Int32) (N : Nat) (G : Nat) : Int32 := o_X4_bestFittingShift_11 s f N G
set_option maxHeartbeats 4000000 in
set_option maxRecDepth 100000 in
theorem k_X4_bestFittingShift (l : Launch) (D : va_G) (cI cO : ClassId) (a : Nat → Nat) (R : va_W) (s : Nat → Int32) (f : Nat → Nat → Int32) (N : Nat) (G : Nat) (hN : s 0 = nI N) (h4 : 4 ≤ N) (h48 : N ≤ 48) (hG : s 7 = nI G) (hG5 : G ≤ 5) : Mi l yX4_bestFittingShift cX4_bestFittingShift 8 (some .int) { frames := 3, cells := 0, slots := 0, locals := 60 } D (kT cI cO) (xW cI cO a s f R) [.ref (a 0)] (xW cI cO a s f R) (o_X4_bestFittingShift s f N G) := by
  intro sz
  refine ent (by decide +kernel) (Nat.le_of_ble_eq_true rfl) ?_
  intro p e st m below meth c ls S hr hlk hnm w hsz hl
  have hl : lv_has ls 8 [(0, .ref (a 0))] := hl
  refine lv_iconst (v := 0) S.1 S.2.1 dX4_bestFittingShift_0 (by decide) ?_
  refine lv_istore_n (lv' := [(1, .int 0), (0, .ref (a 0))]) S.1 S.2.1 dX4_bestFittingShift_1 rfl hl (by decide) rfl (fun ls hl => ?_)
  refine lv_aload_n S.1 S.2.1 dX4_bestFittingShift_2 rfl (lv_at hl 1 rfl) ?_
  refine lv_iconst (v := 0) S.1 S.2.1 dX4_bestFittingShift_3 (by decide) ?_
  refine x_Vl (As := [.int 0]) (rest := []) S w (goodV lk_RX4_265 li_X4_misfit ls_X4_misfit ln_RX4 lc_X4_misfit) hV_X4_misfit (k_X4_misfit l D cI cO a R s f N 0 hN h4 h48) rfl 0 4 rfl rfl xc_0 ⟨(Nat.le_of_ble_eq_true rfl), (Nat.le_of_ble_eq_true rfl)⟩ ⟨rfl, rfl⟩ hl.1 rfl (Nat.le_of_ble_eq_true rfl) ⟨Nat.zero_le _, Nat.zero_le _⟩ dX4_bestFittingShift_4 (fun H locs (w : Wd D (kT cI cO) (va_A _ _) _ _ (xW cI cO a s f R) H locs) => ?_)
  refine x_eql (x := o_X4_misfit s f N 0) (y := sumL (fun y => Int32.toInt64 (iabs (f 3 (rix N (nI y + 0)) - f 4 y))) N) rfl ?_
  refine x_eql (x := sumL (fun y => Int32.toInt64 (iabs (f 3 (rix N (nI y + 0)) - f 4 y))) N) (y := misf f N 0) (rfl) ?_
  refine lv_lstore_n (lv' := [(2, .long (misf f N 0)), (1, .int 0), (0, .ref (a 0))]) S.1 S.2.1 dX4_bestFittingShift_7 rfl hl (by decide) rfl (fun ls hl => ?_)
  refine lv_iconst (v := 1) S.1 S.2.1 dX4_bestFittingShift_8 (by decide) ?_
  refine lv_istore (lv' := [(4, .int 1), (2, .long (misf f N 0)), (1, .int 0), (0, .ref (a 0))]) S.1 S.2.1 dX4_bestFittingShift_9 hl (by decide) rfl (fun ls hl => ?_)
  refine x_toi (show o_X4_bestFittingShift_11 s f N G = o_X4_bestFittingShift s f N G from by simp only [o_X4_bestFittingShift]) (show xW cI cO a s f R = xW cI cO a s f R from by simp only [o_X4_bestFittingShift]) ?_
  exact j_X4_bestFittingShift_11 l D cI cO a R s f N G hN h4 h48 hG hG5 S hr hlk (G + 1) 0 _ _ _ (by omega) (by omega) w (lv_sub hl [3, 2, 1, 0] rfl)
end
