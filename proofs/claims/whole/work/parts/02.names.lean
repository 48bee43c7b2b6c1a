def RX0 : String := "BuildDesk$Crew"
def TX0 : u_T := fun k => match k with
  | 0 => ("BuildDesk$Crew", "busy", "[Z", true)
  | 1 => ("BuildDesk$Crew", "workerOf", "[I", true)
  | 2 => ("BuildDesk$Crew", "endOf", "[I", true)
  | 3 => ("BuildDesk$Crew", "running", "J", false)
  | _ => ("BuildDesk$Crew", "done", "J", false)
def tyX0 : Nat → FieldType := fun k => match k with
  | 0 => .array .boolean
  | 1 => .array .int
  | 2 => .array .int
  | 3 => .long
  | _ => .long
theorem nmX0 : ∀ a, a < 5 → ∀ b, b < 5 → a ≠ b → (TX0 a).2.1 ≠ (TX0 b).2.1 := by decide +kernel
theorem tyX0_ok : ∀ k, k < 5 → parseFieldDescriptor (TX0 k).2.2.1 = some (tyX0 k) := by decide +kernel
def RX1 : String := "BuildDesk$FileTable"
def TX1 : u_T := fun k => match k with
  | 0 => ("BuildDesk$FileTable", "contents", "[I", true)
  | 1 => ("BuildDesk$FileTable", "filled", "[Z", true)
  | _ => ("BuildDesk$FileTable", "makers", "[I", true)
def tyX1 : Nat → FieldType := fun k => match k with
  | 0 => .array .int
  | 1 => .array .boolean
  | _ => .array .int
theorem nmX1 : ∀ a, a < 3 → ∀ b, b < 3 → a ≠ b → (TX1 a).2.1 ≠ (TX1 b).2.1 := by decide +kernel
theorem tyX1_ok : ∀ k, k < 3 → parseFieldDescriptor (TX1 k).2.2.1 = some (tyX1 k) := by decide +kernel
def RX2 : String := "BuildDesk$Plan"
def TX2 : u_T := fun k => match k with
  | 0 => ("BuildDesk$Plan", "waits", "[J", true)
  | 1 => ("BuildDesk$Plan", "line", "[I", true)
  | 2 => ("BuildDesk$Plan", "lined", "I", false)
  | 3 => ("BuildDesk$Plan", "rank", "[I", true)
  | _ => ("BuildDesk$Plan", "needed", "J", false)
def tyX2 : Nat → FieldType := fun k => match k with
  | 0 => .array .long
  | 1 => .array .int
  | 2 => .int
  | 3 => .array .int
  | _ => .long
theorem nmX2 : ∀ a, a < 5 → ∀ b, b < 5 → a ≠ b → (TX2 a).2.1 ≠ (TX2 b).2.1 := by decide +kernel
theorem tyX2_ok : ∀ k, k < 5 → parseFieldDescriptor (TX2 k).2.2.1 = some (tyX2 k) := by decide +kernel
def RX3 : String := "BuildDesk$Report"
def TX3 : u_T := fun k => match k with
  | 0 => ("BuildDesk$Report", "needed", "I", false)
  | 1 => ("BuildDesk$Report", "begun", "I", false)
  | 2 => ("BuildDesk$Report", "busyTime", "I", false)
  | 3 => ("BuildDesk$Report", "greatestRank", "I", false)
  | _ => ("BuildDesk$Report", "cells", "[I", true)
def tyX3 : Nat → FieldType := fun k => match k with
  | 0 => .int
  | 1 => .int
  | 2 => .int
  | 3 => .int
  | _ => .array .int
theorem nmX3 : ∀ a, a < 5 → ∀ b, b < 5 → a ≠ b → (TX3 a).2.1 ≠ (TX3 b).2.1 := by decide +kernel
theorem tyX3_ok : ∀ k, k < 5 → parseFieldDescriptor (TX3 k).2.2.1 = some (tyX3 k) := by decide +kernel
def RX4 : String := "BuildDesk$Round"
def TX4 : u_T := fun k => match k with
  | 0 => ("BuildDesk$Round", "members", "[I", true)
  | 1 => ("BuildDesk$Round", "length", "I", false)
  | _ => ("BuildDesk$Round", "near", "[J", true)
def tyX4 : Nat → FieldType := fun k => match k with
  | 0 => .array .int
  | 1 => .int
  | _ => .array .long
theorem nmX4 : ∀ a, a < 3 → ∀ b, b < 3 → a ≠ b → (TX4 a).2.1 ≠ (TX4 b).2.1 := by decide +kernel
theorem tyX4_ok : ∀ k, k < 3 → parseFieldDescriptor (TX4 k).2.2.1 = some (tyX4 k) := by decide +kernel
def RX5 : String := "BuildDesk$Step"
def TX5 : u_T := fun k => match k with
  | 0 => ("BuildDesk$Step", "there", "Z", false)
  | 1 => ("BuildDesk$Step", "recipe", "I", false)
  | 2 => ("BuildDesk$Step", "mask", "I", false)
  | 3 => ("BuildDesk$Step", "duration", "I", false)
  | 4 => ("BuildDesk$Step", "inputs", "[I", true)
  | 5 => ("BuildDesk$Step", "inputCount", "I", false)
  | 6 => ("BuildDesk$Step", "outputs", "[I", true)
  | 7 => ("BuildDesk$Step", "outputCount", "I", false)
  | 8 => ("BuildDesk$Step", "made", "Z", false)
  | 9 => ("BuildDesk$Step", "madeRecipe", "I", false)
  | 10 => ("BuildDesk$Step", "madeMask", "I", false)
  | 11 => ("BuildDesk$Step", "madeInputCount", "I", false)
  | 12 => ("BuildDesk$Step", "madeOutputCount", "I", false)
  | _ => ("BuildDesk$Step", "madeContents", "[I", true)
def tyX5 : Nat → FieldType := fun k => match k with
  | 0 => .boolean
  | 1 => .int
  | 2 => .int
  | 3 => .int
  | 4 => .array .int
  | 5 => .int
  | 6 => .array .int
  | 7 => .int
  | 8 => .boolean
  | 9 => .int
  | 10 => .int
  | 11 => .int
  | 12 => .int
  | _ => .array .int
theorem nmX5 : ∀ a, a < 14 → ∀ b, b < 14 → a ≠ b → (TX5 a).2.1 ≠ (TX5 b).2.1 := by decide +kernel
theorem tyX5_ok : ∀ k, k < 14 → parseFieldDescriptor (TX5 k).2.2.1 = some (tyX5 k) := by decide +kernel
def RX6 : String := "BuildDesk"
def TX6 : u_T := fun k => match k with
  | 0 => ("BuildDesk", "files", "LBuildDesk$FileTable;", true)
  | 1 => ("BuildDesk", "steps", "[LBuildDesk$Step;", true)
  | 2 => ("BuildDesk", "plan", "LBuildDesk$Plan;", true)
  | 3 => ("BuildDesk", "crew", "LBuildDesk$Crew;", true)
  | 4 => ("BuildDesk", "report", "LBuildDesk$Report;", true)
  | _ => ("BuildDesk", "round", "LBuildDesk$Round;", true)
def tyX6 : Nat → FieldType := fun k => match k with
  | 0 => .object "BuildDesk$FileTable"
  | 1 => .array (.object "BuildDesk$Step")
  | 2 => .object "BuildDesk$Plan"
  | 3 => .object "BuildDesk$Crew"
  | 4 => .object "BuildDesk$Report"
  | _ => .object "BuildDesk$Round"
theorem nmX6 : ∀ a, a < 6 → ∀ b, b < 6 → a ≠ b → (TX6 a).2.1 ≠ (TX6 b).2.1 := by decide +kernel
theorem tyX6_ok : ∀ k, k < 6 → parseFieldDescriptor (TX6 k).2.2.1 = some (tyX6 k) := by decide +kernel
def RX7 : String := "BuildDeskModel"
def TX7 : u_T := fun k => match k with
  | 0 => ("BuildDeskModel", "thrown", "I", false)
  | 1 => ("BuildDeskModel", "has", "[Z", true)
  | 2 => ("BuildDeskModel", "contents", "[I", true)
  | 3 => ("BuildDeskModel", "maker", "[I", true)
  | 4 => ("BuildDeskModel", "there", "[Z", true)
  | 5 => ("BuildDeskModel", "recipe", "[I", true)
  | 6 => ("BuildDeskModel", "mask", "[I", true)
  | 7 => ("BuildDeskModel", "duration", "[I", true)
  | 8 => ("BuildDeskModel", "inputs", "[I", true)
  | 9 => ("BuildDeskModel", "outputs", "[I", true)
  | 10 => ("BuildDeskModel", "ins", "[I", true)
  | 11 => ("BuildDeskModel", "outs", "[I", true)
  | 12 => ("BuildDeskModel", "made", "[Z", true)
  | 13 => ("BuildDeskModel", "oldRecipe", "[I", true)
  | 14 => ("BuildDeskModel", "oldMask", "[I", true)
  | 15 => ("BuildDeskModel", "oldInputs", "[I", true)
  | 16 => ("BuildDeskModel", "oldOutputs", "[I", true)
  | 17 => ("BuildDeskModel", "oldIns", "[I", true)
  | 18 => ("BuildDeskModel", "oldOuts", "[I", true)
  | 19 => ("BuildDeskModel", "oldContents", "[I", true)
  | 20 => ("BuildDeskModel", "needed", "[Z", true)
  | 21 => ("BuildDeskModel", "rank", "[I", true)
  | 22 => ("BuildDeskModel", "state", "[I", true)
  | 23 => ("BuildDeskModel", "ends", "[I", true)
  | 24 => ("BuildDeskModel", "mixed", "[I", true)
  | 25 => ("BuildDeskModel", "worker", "[I", true)
  | 26 => ("BuildDeskModel", "busy", "[Z", true)
  | 27 => ("BuildDeskModel", "now", "I", false)
  | 28 => ("BuildDeskModel", "told", "I", false)
  | 29 => ("BuildDeskModel", "neededMany", "I", false)
  | 30 => ("BuildDeskModel", "busyTime", "I", false)
  | 31 => ("BuildDeskModel", "greatest", "I", false)
  | 32 => ("BuildDeskModel", "toldStep", "[I", true)
  | 33 => ("BuildDeskModel", "toldBegin", "[I", true)
  | 34 => ("BuildDeskModel", "toldEnd", "[I", true)
  | 35 => ("BuildDeskModel", "toldWorker", "[I", true)
  | 36 => ("BuildDeskModel", "toldReason", "[I", true)
  | 37 => ("BuildDeskModel", "roundLong", "I", false)
  | 38 => ("BuildDeskModel", "round", "[I", true)
  | _ => ("BuildDeskModel", "far", "[I", true)
def tyX7 : Nat → FieldType := fun k => match k with
  | 0 => .int
  | 1 => .array .boolean
  | 2 => .array .int
  | 3 => .array .int
  | 4 => .array .boolean
  | 5 => .array .int
  | 6 => .array .int
  | 7 => .array .int
  | 8 => .array .int
  | 9 => .array .int
  | 10 => .array .int
  | 11 => .array .int
  | 12 => .array .boolean
  | 13 => .array .int
  | 14 => .array .int
  | 15 => .array .int
  | 16 => .array .int
  | 17 => .array .int
  | 18 => .array .int
  | 19 => .array .int
  | 20 => .array .boolean
  | 21 => .array .int
  | 22 => .array .int
  | 23 => .array .int
  | 24 => .array .int
  | 25 => .array .int
  | 26 => .array .boolean
  | 27 => .int
  | 28 => .int
  | 29 => .int
  | 30 => .int
  | 31 => .int
  | 32 => .array .int
  | 33 => .array .int
  | 34 => .array .int
  | 35 => .array .int
  | 36 => .array .int
  | 37 => .int
  | 38 => .array .int
  | _ => .array .int
theorem nmX7 : ∀ a, a < 40 → ∀ b, b < 40 → a ≠ b → (TX7 a).2.1 ≠ (TX7 b).2.1 := by decide +kernel
theorem tyX7_ok : ∀ k, k < 40 → parseFieldDescriptor (TX7 k).2.2.1 = some (tyX7 k) := by decide +kernel
def RL : String := "BuildDeskLaw"
abbrev cX0_init : ByteArray := prog_2_method_1_code
def yX0_init : MethodName := ⟨RX0, "<init>", "()V"⟩
abbrev cX0_comeIn : ByteArray := prog_2_method_2_code
def yX0_comeIn : MethodName := ⟨RX0, "comeIn", "()V"⟩
abbrev cX0_isBusy : ByteArray := prog_2_method_3_code
def yX0_isBusy : MethodName := ⟨RX0, "isBusy", "(I)Z"⟩
abbrev cX0_isOpen : ByteArray := prog_2_method_4_code
def yX0_isOpen : MethodName := ⟨RX0, "isOpen", "(I)Z"⟩
abbrev cX0_areDone : ByteArray := prog_2_method_5_code
def yX0_areDone : MethodName := ⟨RX0, "areDone", "(J)Z"⟩
abbrev cX0_passOver : ByteArray := prog_2_method_6_code
def yX0_passOver : MethodName := ⟨RX0, "passOver", "(I)V"⟩
abbrev cX0_begin : ByteArray := prog_2_method_7_code
def yX0_begin : MethodName := ⟨RX0, "begin", "(III)V"⟩
abbrev cX0_endsAt : ByteArray := prog_2_method_8_code
def yX0_endsAt : MethodName := ⟨RX0, "endsAt", "(II)Z"⟩
abbrev cX0_end : ByteArray := prog_2_method_9_code
def yX0_end : MethodName := ⟨RX0, "end", "(I)V"⟩
abbrev cX0_nextEnd : ByteArray := prog_2_method_10_code
def yX0_nextEnd : MethodName := ⟨RX0, "nextEnd", "()I"⟩
abbrev cX1_init : ByteArray := prog_3_method_1_code
def yX1_init : MethodName := ⟨RX1, "<init>", "()V"⟩
abbrev cX1_makerOf : ByteArray := prog_3_method_2_code
def yX1_makerOf : MethodName := ⟨RX1, "makerOf", "(I)I"⟩
abbrev cX1_setMaker : ByteArray := prog_3_method_3_code
def yX1_setMaker : MethodName := ⟨RX1, "setMaker", "(II)V"⟩
abbrev cX1_isFilled : ByteArray := prog_3_method_4_code
def yX1_isFilled : MethodName := ⟨RX1, "isFilled", "(I)Z"⟩
abbrev cX1_contentOf : ByteArray := prog_3_method_5_code
def yX1_contentOf : MethodName := ⟨RX1, "contentOf", "(I)I"⟩
abbrev cX1_fill : ByteArray := prog_3_method_6_code
def yX1_fill : MethodName := ⟨RX1, "fill", "(II)V"⟩
abbrev cX1_empty : ByteArray := prog_3_method_7_code
def yX1_empty : MethodName := ⟨RX1, "empty", "(I)Z"⟩
abbrev cX1_lacksSource : ByteArray := prog_3_method_8_code
def yX1_lacksSource : MethodName := ⟨RX1, "lacksSource", "(I)Z"⟩
abbrev cX1_countFilled : ByteArray := prog_3_method_9_code
def yX1_countFilled : MethodName := ⟨RX1, "countFilled", "()I"⟩
abbrev cX2_init : ByteArray := prog_4_method_1_code
def yX2_init : MethodName := ⟨RX2, "<init>", "()V"⟩
abbrev cX2_findNeeded : ByteArray := prog_4_method_2_code
def yX2_findNeeded : MethodName := ⟨RX2, "findNeeded", "(I[LBuildDesk$Step;LBuildDesk$FileTable;)V"⟩
abbrev cX2_lineUp : ByteArray := prog_4_method_3_code
def yX2_lineUp : MethodName := ⟨RX2, "lineUp", "()Z"⟩
abbrev cX2_rankSteps : ByteArray := prog_4_method_4_code
def yX2_rankSteps : MethodName := ⟨RX2, "rankSteps", "([LBuildDesk$Step;)V"⟩
abbrev cX2_greatestRank : ByteArray := prog_4_method_5_code
def yX2_greatestRank : MethodName := ⟨RX2, "greatestRank", "()I"⟩
abbrev cX2_waitingFor : ByteArray := prog_4_method_6_code
def yX2_waitingFor : MethodName := ⟨RX2, "waitingFor", "(J)J"⟩
abbrev cX3_init : ByteArray := prog_5_method_1_code
def yX3_init : MethodName := ⟨RX3, "<init>", "()V"⟩
abbrev cX3_open : ByteArray := prog_5_method_2_code
def yX3_open : MethodName := ⟨RX3, "open", "(LBuildDesk$Plan;)V"⟩
abbrev cX3_add : ByteArray := prog_5_method_3_code
def yX3_add : MethodName := ⟨RX3, "add", "(IIIII)V"⟩
abbrev cX3_cell : ByteArray := prog_5_method_4_code
def yX3_cell : MethodName := ⟨RX3, "cell", "(II)I"⟩
abbrev cX4_init : ByteArray := prog_6_method_1_code
def yX4_init : MethodName := ⟨RX4, "<init>", "()V"⟩
abbrev cX4_find : ByteArray := prog_6_method_2_code
def yX4_find : MethodName := ⟨RX4, "find", "(LBuildDesk$Plan;)V"⟩
abbrev cX4_measure : ByteArray := prog_6_method_3_code
def yX4_measure : MethodName := ⟨RX4, "measure", "(ILBuildDesk$Plan;)I"⟩
abbrev cX4_walk : ByteArray := prog_6_method_4_code
def yX4_walk : MethodName := ⟨RX4, "walk", "(IILBuildDesk$Plan;)V"⟩
abbrev cX4_least : ByteArray := prog_6_method_5_code
def yX4_least : MethodName := ⟨RX4, "least", "(JI)I"⟩
abbrev cX5_init : ByteArray := prog_7_method_1_code
def yX5_init : MethodName := ⟨RX5, "<init>", "()V"⟩
abbrev cX5_tell : ByteArray := prog_7_method_2_code
def yX5_tell : MethodName := ⟨RX5, "tell", "(III)V"⟩
abbrev cX5_addInput : ByteArray := prog_7_method_3_code
def yX5_addInput : MethodName := ⟨RX5, "addInput", "(I)Z"⟩
abbrev cX5_addOutput : ByteArray := prog_7_method_4_code
def yX5_addOutput : MethodName := ⟨RX5, "addOutput", "(I)Z"⟩
abbrev cX5_leave : ByteArray := prog_7_method_5_code
def yX5_leave : MethodName := ⟨RX5, "leave", "(LBuildDesk$FileTable;)V"⟩
abbrev cX5_waitsFor : ByteArray := prog_7_method_6_code
def yX5_waitsFor : MethodName := ⟨RX5, "waitsFor", "(LBuildDesk$FileTable;)J"⟩
abbrev cX5_lacksSource : ByteArray := prog_7_method_7_code
def yX5_lacksSource : MethodName := ⟨RX5, "lacksSource", "(LBuildDesk$FileTable;)Z"⟩
abbrev cX5_whyDue : ByteArray := prog_7_method_8_code
def yX5_whyDue : MethodName := ⟨RX5, "whyDue", "(LBuildDesk$FileTable;)I"⟩
abbrev cX5_isToldOtherwise : ByteArray := prog_7_method_9_code
def yX5_isToldOtherwise : MethodName := ⟨RX5, "isToldOtherwise", "()Z"⟩
abbrev cX5_outputLacks : ByteArray := prog_7_method_10_code
def yX5_outputLacks : MethodName := ⟨RX5, "outputLacks", "(LBuildDesk$FileTable;)Z"⟩
abbrev cX5_inputDiffers : ByteArray := prog_7_method_11_code
def yX5_inputDiffers : MethodName := ⟨RX5, "inputDiffers", "(LBuildDesk$FileTable;)Z"⟩
abbrev cX5_make : ByteArray := prog_7_method_12_code
def yX5_make : MethodName := ⟨RX5, "make", "(LBuildDesk$FileTable;)V"⟩
abbrev cX6_init : ByteArray := prog_1_method_1_code
def yX6_init : MethodName := ⟨RX6, "<init>", "()V"⟩
abbrev cX6_step : ByteArray := prog_1_method_2_code
def yX6_step : MethodName := ⟨RX6, "step", "(IIII)Z"⟩
abbrev cX6_input : ByteArray := prog_1_method_3_code
def yX6_input : MethodName := ⟨RX6, "input", "(II)Z"⟩
abbrev cX6_output : ByteArray := prog_1_method_4_code
def yX6_output : MethodName := ⟨RX6, "output", "(II)Z"⟩
abbrev cX6_drop : ByteArray := prog_1_method_5_code
def yX6_drop : MethodName := ⟨RX6, "drop", "(I)Z"⟩
abbrev cX6_source : ByteArray := prog_1_method_6_code
def yX6_source : MethodName := ⟨RX6, "source", "(II)Z"⟩
abbrev cX6_spoil : ByteArray := prog_1_method_7_code
def yX6_spoil : MethodName := ⟨RX6, "spoil", "(I)Z"⟩
abbrev cX6_build : ByteArray := prog_1_method_8_code
def yX6_build : MethodName := ⟨RX6, "build", "(II)I"⟩
abbrev cX6_count : ByteArray := prog_1_method_9_code
def yX6_count : MethodName := ⟨RX6, "count", "(I)I"⟩
abbrev cX6_begun : ByteArray := prog_1_method_10_code
def yX6_begun : MethodName := ⟨RX6, "begun", "(II)I"⟩
abbrev cX6_cycle : ByteArray := prog_1_method_11_code
def yX6_cycle : MethodName := ⟨RX6, "cycle", "(I)I"⟩
abbrev cX6_content : ByteArray := prog_1_method_12_code
def yX6_content : MethodName := ⟨RX6, "content", "(I)I"⟩
abbrev cX6_reason : ByteArray := prog_1_method_13_code
def yX6_reason : MethodName := ⟨RX6, "reason", "(I)I"⟩
abbrev cX6_isFile : ByteArray := prog_1_method_14_code
def yX6_isFile : MethodName := ⟨RX6, "isFile", "(I)Z"⟩
abbrev cX6_isStepNumber : ByteArray := prog_1_method_15_code
def yX6_isStepNumber : MethodName := ⟨RX6, "isStepNumber", "(I)Z"⟩
abbrev cX6_bit : ByteArray := prog_1_method_16_code
def yX6_bit : MethodName := ⟨RX6, "bit", "(I)J"⟩
abbrev cX6_isIn : ByteArray := prog_1_method_17_code
def yX6_isIn : MethodName := ⟨RX6, "isIn", "(JI)Z"⟩
abbrev cX6_isThere : ByteArray := prog_1_method_18_code
def yX6_isThere : MethodName := ⟨RX6, "isThere", "(I)Z"⟩
abbrev cX6_isSource : ByteArray := prog_1_method_19_code
def yX6_isSource : MethodName := ⟨RX6, "isSource", "(I)Z"⟩
abbrev cX6_countSteps : ByteArray := prog_1_method_20_code
def yX6_countSteps : MethodName := ⟨RX6, "countSteps", "()I"⟩
abbrev cX6_sourceLacks : ByteArray := prog_1_method_21_code
def yX6_sourceLacks : MethodName := ⟨RX6, "sourceLacks", "(I)Z"⟩
abbrev cX6_makeNeeded : ByteArray := prog_1_method_22_code
def yX6_makeNeeded : MethodName := ⟨RX6, "makeNeeded", "(I)I"⟩
abbrev cX6_endSteps : ByteArray := prog_1_method_23_code
def yX6_endSteps : MethodName := ⟨RX6, "endSteps", "(I)V"⟩
abbrev cX6_passOverSteps : ByteArray := prog_1_method_24_code
def yX6_passOverSteps : MethodName := ⟨RX6, "passOverSteps", "()V"⟩
abbrev cX6_beginSteps : ByteArray := prog_1_method_25_code
def yX6_beginSteps : MethodName := ⟨RX6, "beginSteps", "(II)V"⟩
abbrev cX6_nextToBegin : ByteArray := prog_1_method_26_code
def yX6_nextToBegin : MethodName := ⟨RX6, "nextToBegin", "()I"⟩
abbrev cX6_isReady : ByteArray := prog_1_method_27_code
def yX6_isReady : MethodName := ⟨RX6, "isReady", "(I)Z"⟩
abbrev cX7_init : ByteArray := prog_9_method_1_code
def yX7_init : MethodName := ⟨RX7, "<init>", "()V"⟩
abbrev cX7_thrown : ByteArray := prog_9_method_2_code
def yX7_thrown : MethodName := ⟨RX7, "thrown", "()I"⟩
abbrev cX7_raise : ByteArray := prog_9_method_3_code
def yX7_raise : MethodName := ⟨RX7, "raise", "(I)I"⟩
abbrev cX7_isFile : ByteArray := prog_9_method_4_code
def yX7_isFile : MethodName := ⟨RX7, "isFile", "(I)Z"⟩
abbrev cX7_isStep : ByteArray := prog_9_method_5_code
def yX7_isStep : MethodName := ⟨RX7, "isStep", "(I)Z"⟩
abbrev cX7_step : ByteArray := prog_9_method_6_code
def yX7_step : MethodName := ⟨RX7, "step", "(IIII)Z"⟩
abbrev cX7_input : ByteArray := prog_9_method_7_code
def yX7_input : MethodName := ⟨RX7, "input", "(II)Z"⟩
abbrev cX7_output : ByteArray := prog_9_method_8_code
def yX7_output : MethodName := ⟨RX7, "output", "(II)Z"⟩
abbrev cX7_drop : ByteArray := prog_9_method_9_code
def yX7_drop : MethodName := ⟨RX7, "drop", "(I)Z"⟩
abbrev cX7_source : ByteArray := prog_9_method_10_code
def yX7_source : MethodName := ⟨RX7, "source", "(II)Z"⟩
abbrev cX7_spoil : ByteArray := prog_9_method_11_code
def yX7_spoil : MethodName := ⟨RX7, "spoil", "(I)Z"⟩
abbrev cX7_isOther : ByteArray := prog_9_method_12_code
def yX7_isOther : MethodName := ⟨RX7, "isOther", "(I)Z"⟩
abbrev cX7_why : ByteArray := prog_9_method_13_code
def yX7_why : MethodName := ⟨RX7, "why", "(I)I"⟩
abbrev cX7_reason : ByteArray := prog_9_method_14_code
def yX7_reason : MethodName := ⟨RX7, "reason", "(I)I"⟩
abbrev cX7_takes : ByteArray := prog_9_method_15_code
def yX7_takes : MethodName := ⟨RX7, "takes", "(II)Z"⟩
abbrev cX7_spread : ByteArray := prog_9_method_16_code
def yX7_spread : MethodName := ⟨RX7, "spread", "(I)V"⟩
abbrev cX7_measure : ByteArray := prog_9_method_17_code
def yX7_measure : MethodName := ⟨RX7, "measure", "(I)V"⟩
abbrev cX7_nearest : ByteArray := prog_9_method_18_code
def yX7_nearest : MethodName := ⟨RX7, "nearest", "(I)I"⟩
abbrev cX7_isRound : ByteArray := prog_9_method_19_code
def yX7_isRound : MethodName := ⟨RX7, "isRound", "()Z"⟩
abbrev cX7_isLacking : ByteArray := prog_9_method_20_code
def yX7_isLacking : MethodName := ⟨RX7, "isLacking", "(I)Z"⟩
abbrev cX7_order : ByteArray := prog_9_method_21_code
def yX7_order : MethodName := ⟨RX7, "order", "()V"⟩
abbrev cX7_isReady : ByteArray := prog_9_method_22_code
def yX7_isReady : MethodName := ⟨RX7, "isReady", "(I)Z"⟩
abbrev cX7_end : ByteArray := prog_9_method_23_code
def yX7_end : MethodName := ⟨RX7, "end", "(I)V"⟩
abbrev cX7_pass : ByteArray := prog_9_method_24_code
def yX7_pass : MethodName := ⟨RX7, "pass", "()V"⟩
abbrev cX7_start : ByteArray := prog_9_method_25_code
def yX7_start : MethodName := ⟨RX7, "start", "(II)V"⟩
abbrev cX7_hire : ByteArray := prog_9_method_26_code
def yX7_hire : MethodName := ⟨RX7, "hire", "(I)V"⟩
abbrev cX7_build : ByteArray := prog_9_method_27_code
def yX7_build : MethodName := ⟨RX7, "build", "(II)I"⟩
abbrev cX7_count : ByteArray := prog_9_method_28_code
def yX7_count : MethodName := ⟨RX7, "count", "(I)I"⟩
abbrev cX7_begun : ByteArray := prog_9_method_29_code
def yX7_begun : MethodName := ⟨RX7, "begun", "(II)I"⟩
abbrev cX7_cycle : ByteArray := prog_9_method_30_code
def yX7_cycle : MethodName := ⟨RX7, "cycle", "(I)I"⟩
abbrev cX7_content : ByteArray := prog_9_method_31_code
def yX7_content : MethodName := ⟨RX7, "content", "(I)I"⟩
abbrev cL_build : ByteArray := method_3_code
def yL_build : MethodName := ⟨RL, "build", "(LBuildDesk;II[J)I"⟩
abbrev cL_begun : ByteArray := method_4_code
def yL_begun : MethodName := ⟨RL, "begun", "(LBuildDesk;II[J)I"⟩
abbrev cL_cycle : ByteArray := method_5_code
def yL_cycle : MethodName := ⟨RL, "cycle", "(LBuildDesk;I[J)I"⟩
abbrev cL_content : ByteArray := method_6_code
def yL_content : MethodName := ⟨RL, "content", "(LBuildDesk;I[J)I"⟩
abbrev cL_law : ByteArray := code
def yL_law : MethodName := ⟨RL, "law", "([I)Z"⟩
abbrev vwCl : List vw_C := [(RX0, TX0, 5), (RX1, TX1, 3), (RX2, TX2, 5), (RX3, TX3, 5), (RX4, TX4, 3), (RX5, TX5, 14), (RX6, TX6, 6), (RX7, TX7, 40)]
def tyS : List FieldType := [.int, .boolean, .long, .object "BuildDesk$Step"]
/-! the words that every method takes along -/
def wsG_0 : List Cond := [
  .selects RX6 yX6_isThere yX6_isThere,
  .selects RX6 yX6_isSource yX6_isSource,
  .selects RX6 yX6_countSteps yX6_countSteps,
  .selects RX5 yX5_isToldOtherwise yX5_isToldOtherwise,
  .selects RX5 yX5_outputLacks yX5_outputLacks,
  .selects RX5 yX5_inputDiffers yX5_inputDiffers,
  .selects "java/lang/Throwable" ⟨"java/lang/Throwable", "fillInStackTrace", "(I)Ljava/lang/Throwable;"⟩ ⟨"java/lang/Throwable", "fillInStackTrace", "(I)Ljava/lang/Throwable;"⟩,
  .selects RX4 yX4_measure yX4_measure,
  .selects RX4 yX4_walk yX4_walk,
  .selects RX6 yX6_sourceLacks yX6_sourceLacks,
  .selects RX6 yX6_makeNeeded yX6_makeNeeded,
  .selects RX6 yX6_endSteps yX6_endSteps,
  .selects RX6 yX6_passOverSteps yX6_passOverSteps,
  .selects RX6 yX6_isReady yX6_isReady,
  .selects RX6 yX6_beginSteps yX6_beginSteps,
  .selects RX6 yX6_nextToBegin yX6_nextToBegin,
  .selects RX7 yX7_isStep yX7_isStep,
  .selects RX7 yX7_why yX7_why,
  .selects RX7 yX7_isOther yX7_isOther,
  .selects RX7 yX7_raise yX7_raise,
  .selects RX7 yX7_spread yX7_spread,
  .selects RX7 yX7_takes yX7_takes,
  .selects RX7 yX7_isRound yX7_isRound,
  .selects RX7 yX7_measure yX7_measure,
  .selects RX7 yX7_nearest yX7_nearest]
def wsG_1 : List Cond := [
  .selects RX7 yX7_isLacking yX7_isLacking,
  .selects RX7 yX7_order yX7_order,
  .selects RX7 yX7_end yX7_end,
  .selects RX7 yX7_pass yX7_pass,
  .selects RX7 yX7_isReady yX7_isReady,
  .selects RX7 yX7_hire yX7_hire,
  .selects RX7 yX7_start yX7_start]
def wsG_2 : List Cond := [
  .initialized RL,
  .initialized RX6,
  .initialized RX1,
  .initialized RX5,
  .initialized RX2,
  .initialized RX0,
  .initialized RX3,
  .initialized RX4,
  .initialized RX7,
  .initialized "java/lang/Throwable",
  .initialized "java/lang/Exception",
  .initialized "java/lang/RuntimeException",
  .initialized "java/lang/IllegalArgumentException",
  .initialized "java/lang/IllegalStateException",
  .initialized "java/lang/Math",
  .initialized "java/util/NoSuchElementException",
  .classLink RL 8 RX6,
  .instantiable RX6 6,
  .methodLink RL 29 yX6_init,
  .instanceMethod yX6_init,
  .code yX6_init cX6_init 2 none,
  .methodLink RX6 1 objectInit,
  .instanceMethod objectInit,
  .code objectInit ⟨#[0xb1]⟩ 1 none,
  .classLink RX6 7 RX1]
def wsG_3 : List Cond := [
  .instantiable RX1 3,
  .methodLink RX6 9 yX1_init,
  .instanceMethod yX1_init,
  .code yX1_init cX1_init 2 none,
  .methodLink RX1 3 objectInit,
  .fieldLink RX1 9 "BuildDesk$FileTable" "contents" "[I",
  .fieldLink RX1 15 "BuildDesk$FileTable" "filled" "[Z",
  .fieldLink RX1 19 "BuildDesk$FileTable" "makers" "[I",
  .laysFinal RX1 "BuildDesk$FileTable" "contents" "[I",
  .laysFinal RX1 "BuildDesk$FileTable" "filled" "[Z",
  .laysFinal RX1 "BuildDesk$FileTable" "makers" "[I",
  .superclass "BuildDesk$FileTable" "java/lang/Object",
  .arrayClass .int,
  .arrayClass .boolean,
  .classLink RX6 16 RX5,
  .instantiable RX5 14,
  .instanceMethod yX5_init,
  .code yX5_init cX5_init 1 none,
  .methodLink RX5 3 objectInit,
  .fieldLink RX5 21 "BuildDesk$Step" "there" "Z",
  .fieldLink RX5 25 "BuildDesk$Step" "recipe" "I",
  .fieldLink RX5 29 "BuildDesk$Step" "mask" "I",
  .fieldLink RX5 32 "BuildDesk$Step" "duration" "I",
  .fieldLink RX5 9 "BuildDesk$Step" "inputs" "[I",
  .fieldLink RX5 35 "BuildDesk$Step" "inputCount" "I"]
def wsG_4 : List Cond := [
  .fieldLink RX5 15 "BuildDesk$Step" "outputs" "[I",
  .fieldLink RX5 38 "BuildDesk$Step" "outputCount" "I",
  .fieldLink RX5 47 "BuildDesk$Step" "made" "Z",
  .fieldLink RX5 73 "BuildDesk$Step" "madeRecipe" "I",
  .fieldLink RX5 76 "BuildDesk$Step" "madeMask" "I",
  .fieldLink RX5 79 "BuildDesk$Step" "madeInputCount" "I",
  .fieldLink RX5 82 "BuildDesk$Step" "madeOutputCount" "I",
  .fieldLink RX5 18 "BuildDesk$Step" "madeContents" "[I",
  .lays RX5 "BuildDesk$Step" "there" "Z",
  .lays RX5 "BuildDesk$Step" "recipe" "I",
  .lays RX5 "BuildDesk$Step" "mask" "I",
  .lays RX5 "BuildDesk$Step" "duration" "I",
  .laysFinal RX5 "BuildDesk$Step" "inputs" "[I",
  .lays RX5 "BuildDesk$Step" "inputCount" "I",
  .laysFinal RX5 "BuildDesk$Step" "outputs" "[I",
  .lays RX5 "BuildDesk$Step" "outputCount" "I",
  .lays RX5 "BuildDesk$Step" "made" "Z",
  .lays RX5 "BuildDesk$Step" "madeRecipe" "I",
  .lays RX5 "BuildDesk$Step" "madeMask" "I",
  .lays RX5 "BuildDesk$Step" "madeInputCount" "I",
  .lays RX5 "BuildDesk$Step" "madeOutputCount" "I",
  .laysFinal RX5 "BuildDesk$Step" "madeContents" "[I",
  .superclass "BuildDesk$Step" "java/lang/Object",
  .classLink RX6 23 RX2,
  .instantiable RX2 5]
def wsG_5 : List Cond := [
  .instanceMethod yX2_init,
  .code yX2_init cX2_init 1 none,
  .methodLink RX2 3 objectInit,
  .fieldLink RX2 9 "BuildDesk$Plan" "waits" "[J",
  .fieldLink RX2 15 "BuildDesk$Plan" "line" "[I",
  .fieldLink RX2 40 "BuildDesk$Plan" "lined" "I",
  .fieldLink RX2 19 "BuildDesk$Plan" "rank" "[I",
  .fieldLink RX2 32 "BuildDesk$Plan" "needed" "J",
  .laysFinal RX2 "BuildDesk$Plan" "waits" "[J",
  .laysFinal RX2 "BuildDesk$Plan" "line" "[I",
  .lays RX2 "BuildDesk$Plan" "lined" "I",
  .laysFinal RX2 "BuildDesk$Plan" "rank" "[I",
  .lays RX2 "BuildDesk$Plan" "needed" "J",
  .superclass "BuildDesk$Plan" "java/lang/Object",
  .arrayClass .long,
  .classLink RX6 30 RX0,
  .instantiable RX0 5,
  .instanceMethod yX0_init,
  .code yX0_init cX0_init 1 none,
  .methodLink RX0 3 objectInit,
  .fieldLink RX0 9 "BuildDesk$Crew" "busy" "[Z",
  .fieldLink RX0 15 "BuildDesk$Crew" "workerOf" "[I",
  .fieldLink RX0 19 "BuildDesk$Crew" "endOf" "[I",
  .fieldLink RX0 22 "BuildDesk$Crew" "running" "J",
  .fieldLink RX0 26 "BuildDesk$Crew" "done" "J"]
def wsG_6 : List Cond := [
  .laysFinal RX0 "BuildDesk$Crew" "busy" "[Z",
  .laysFinal RX0 "BuildDesk$Crew" "workerOf" "[I",
  .laysFinal RX0 "BuildDesk$Crew" "endOf" "[I",
  .lays RX0 "BuildDesk$Crew" "running" "J",
  .lays RX0 "BuildDesk$Crew" "done" "J",
  .superclass "BuildDesk$Crew" "java/lang/Object",
  .classLink RX6 37 RX3,
  .instantiable RX3 5,
  .instanceMethod yX3_init,
  .code yX3_init cX3_init 1 none,
  .methodLink RX3 3 objectInit,
  .fieldLink RX3 21 "BuildDesk$Report" "needed" "I",
  .fieldLink RX3 24 "BuildDesk$Report" "begun" "I",
  .fieldLink RX3 27 "BuildDesk$Report" "busyTime" "I",
  .fieldLink RX3 34 "BuildDesk$Report" "greatestRank" "I",
  .fieldLink RX3 11 "BuildDesk$Report" "cells" "[I",
  .lays RX3 "BuildDesk$Report" "needed" "I",
  .lays RX3 "BuildDesk$Report" "begun" "I",
  .lays RX3 "BuildDesk$Report" "busyTime" "I",
  .lays RX3 "BuildDesk$Report" "greatestRank" "I",
  .laysFinal RX3 "BuildDesk$Report" "cells" "[I",
  .superclass "BuildDesk$Report" "java/lang/Object",
  .classLink RX6 44 RX4,
  .instantiable RX4 3,
  .instanceMethod yX4_init]
def wsG_7 : List Cond := [
  .code yX4_init cX4_init 1 none,
  .methodLink RX4 3 objectInit,
  .fieldLink RX4 9 "BuildDesk$Round" "members" "[I",
  .fieldLink RX4 52 "BuildDesk$Round" "length" "I",
  .fieldLink RX4 15 "BuildDesk$Round" "near" "[J",
  .laysFinal RX4 "BuildDesk$Round" "members" "[I",
  .lays RX4 "BuildDesk$Round" "length" "I",
  .laysFinal RX4 "BuildDesk$Round" "near" "[J",
  .superclass "BuildDesk$Round" "java/lang/Object",
  .fieldLink RX6 10 "BuildDesk" "files" "LBuildDesk$FileTable;",
  .fieldLink RX6 18 "BuildDesk" "steps" "[LBuildDesk$Step;",
  .fieldLink RX6 26 "BuildDesk" "plan" "LBuildDesk$Plan;",
  .fieldLink RX6 33 "BuildDesk" "crew" "LBuildDesk$Crew;",
  .fieldLink RX6 40 "BuildDesk" "report" "LBuildDesk$Report;",
  .fieldLink RX6 47 "BuildDesk" "round" "LBuildDesk$Round;",
  .laysFinal RX6 "BuildDesk" "files" "LBuildDesk$FileTable;",
  .laysFinal RX6 "BuildDesk" "steps" "[LBuildDesk$Step;",
  .laysFinal RX6 "BuildDesk" "plan" "LBuildDesk$Plan;",
  .laysFinal RX6 "BuildDesk" "crew" "LBuildDesk$Crew;",
  .laysFinal RX6 "BuildDesk" "report" "LBuildDesk$Report;",
  .laysFinal RX6 "BuildDesk" "round" "LBuildDesk$Round;",
  .superclass "BuildDesk" "java/lang/Object",
  .methodLink RL 33 yX6_step,
  .instanceMethod yX6_step,
  .selects RX6 yX6_step yX6_step]
def wsG_8 : List Cond := [
  .code yX6_step cX6_step 5 (some .boolean),
  .methodLink RX6 51 yX6_isStepNumber,
  .static yX6_isStepNumber,
  .code yX6_isStepNumber cX6_isStepNumber 1 (some .boolean),
  .methodLink RX6 55 yX5_tell,
  .instanceMethod yX5_tell,
  .selects RX5 yX5_tell yX5_tell,
  .code yX5_tell cX5_tell 4 none,
  .methodLink RL 38 yX6_input,
  .instanceMethod yX6_input,
  .selects RX6 yX6_input yX6_input,
  .code yX6_input cX6_input 3 (some .boolean),
  .methodLink RX6 59 yX6_isThere,
  .instanceMethod yX6_isThere,
  .code yX6_isThere cX6_isThere 2 (some .boolean),
  .methodLink RX6 62 yX6_isFile,
  .static yX6_isFile,
  .code yX6_isFile cX6_isFile 1 (some .boolean),
  .methodLink RX6 65 yX5_addInput,
  .instanceMethod yX5_addInput,
  .selects RX5 yX5_addInput yX5_addInput,
  .code yX5_addInput cX5_addInput 2 (some .boolean),
  .methodLink RL 43 yX6_output,
  .instanceMethod yX6_output,
  .selects RX6 yX6_output yX6_output]
def wsG_9 : List Cond := [
  .code yX6_output cX6_output 3 (some .boolean),
  .methodLink RX6 68 yX6_isSource]
def wsG_10 : List Cond := [
  .instanceMethod yX6_isSource,
  .code yX6_isSource cX6_isSource 2 (some .boolean),
  .methodLink RX6 97 yX1_makerOf,
  .instanceMethod yX1_makerOf,
  .selects RX1 yX1_makerOf yX1_makerOf,
  .code yX1_makerOf cX1_makerOf 2 (some .int),
  .methodLink RX6 71 yX5_addOutput,
  .instanceMethod yX5_addOutput,
  .selects RX5 yX5_addOutput yX5_addOutput,
  .code yX5_addOutput cX5_addOutput 2 (some .boolean),
  .methodLink RX6 74 yX1_setMaker,
  .instanceMethod yX1_setMaker,
  .selects RX1 yX1_setMaker yX1_setMaker,
  .code yX1_setMaker cX1_setMaker 3 none,
  .methodLink RL 47 yX6_drop,
  .instanceMethod yX6_drop,
  .selects RX6 yX6_drop yX6_drop,
  .code yX6_drop cX6_drop 2 (some .boolean),
  .methodLink RX6 78 yX5_leave,
  .instanceMethod yX5_leave,
  .selects RX5 yX5_leave yX5_leave,
  .code yX5_leave cX5_leave 3 none,
  .methodLink RX5 41 yX1_setMaker,
  .methodLink RL 52 yX6_source,
  .instanceMethod yX6_source]
def wsG_11 : List Cond := [
  .selects RX6 yX6_source yX6_source,
  .code yX6_source cX6_source 3 (some .boolean),
  .methodLink RX6 82 yX1_fill,
  .instanceMethod yX1_fill,
  .selects RX1 yX1_fill yX1_fill,
  .code yX1_fill cX1_fill 3 none,
  .methodLink RL 56 yX6_spoil,
  .instanceMethod yX6_spoil,
  .selects RX6 yX6_spoil yX6_spoil,
  .code yX6_spoil cX6_spoil 2 (some .boolean),
  .methodLink RX6 85 yX1_empty,
  .instanceMethod yX1_empty,
  .selects RX1 yX1_empty yX1_empty,
  .code yX1_empty cX1_empty 3 (some .boolean),
  .methodLink RL 70 yX6_count,
  .instanceMethod yX6_count,
  .selects RX6 yX6_count yX6_count,
  .code yX6_count cX6_count 2 (some .int),
  .methodLink RX6 146 yX1_countFilled,
  .instanceMethod yX1_countFilled,
  .selects RX1 yX1_countFilled yX1_countFilled,
  .code yX1_countFilled cX1_countFilled 3 (some .int),
  .methodLink RX6 150 yX6_countSteps,
  .instanceMethod yX6_countSteps,
  .code yX6_countSteps cX6_countSteps 3 (some .int)]
def wsG_12 : List Cond := [
  .methodLink RL 84 yX6_reason,
  .instanceMethod yX6_reason,
  .selects RX6 yX6_reason yX6_reason,
  .code yX6_reason cX6_reason 2 (some .int),
  .methodLink RX6 179 yX5_whyDue,
  .instanceMethod yX5_whyDue,
  .selects RX5 yX5_whyDue yX5_whyDue,
  .code yX5_whyDue cX5_whyDue 2 (some .int),
  .methodLink RX5 62 yX5_isToldOtherwise,
  .instanceMethod yX5_isToldOtherwise,
  .code yX5_isToldOtherwise cX5_isToldOtherwise 1 (some .boolean),
  .methodLink RX5 66 yX5_outputLacks,
  .instanceMethod yX5_outputLacks,
  .code yX5_outputLacks cX5_outputLacks 3 (some .boolean),
  .methodLink RX5 85 yX1_isFilled,
  .instanceMethod yX1_isFilled,
  .selects RX1 yX1_isFilled yX1_isFilled,
  .code yX1_isFilled cX1_isFilled 2 (some .boolean),
  .methodLink RX5 70 yX5_inputDiffers,
  .instanceMethod yX5_inputDiffers,
  .code yX5_inputDiffers cX5_inputDiffers 4 (some .boolean),
  .methodLink RX5 88 yX1_contentOf,
  .instanceMethod yX1_contentOf,
  .selects RX1 yX1_contentOf yX1_contentOf,
  .code yX1_contentOf cX1_contentOf 2 (some .int)]
def wsG_13 : List Cond := [
  .methodLink RL 60 yL_build,
  .static yL_build,
  .codeWith yL_build cL_build 5 (some .int) [(0, 10, 13, 13), (0, 10, 17, 15)],
  .classLink RL 13 "java/lang/IllegalArgumentException",
  .classLink RL 15 "java/lang/IllegalStateException",
  .methodLink RL 7 yX6_build,
  .instanceMethod yX6_build,
  .selects RX6 yX6_build yX6_build,
  .code yX6_build cX6_build 3 (some .int),
  .classLink RX6 88 "java/lang/IllegalArgumentException",
  .instantiable "java/lang/IllegalArgumentException" 6,
  .selects "java/lang/IllegalArgumentException" ⟨"java/lang/Throwable", "fillInStackTrace", "(I)Ljava/lang/Throwable;"⟩ ⟨"java/lang/Throwable", "fillInStackTrace", "(I)Ljava/lang/Throwable;"⟩,
  .selects "java/lang/IllegalArgumentException" ⟨"java/lang/Throwable", "fillInStackTrace", "()Ljava/lang/Throwable;"⟩ ⟨"java/lang/Throwable", "fillInStackTrace", "()Ljava/lang/Throwable;"⟩,
  .lays "java/lang/IllegalArgumentException" "java/lang/Throwable" "cause" "Ljava/lang/Throwable;",
  .lays "java/lang/Throwable" "java/lang/Throwable" "cause" "Ljava/lang/Throwable;",
  .lays "java/lang/IllegalArgumentException" "java/lang/Throwable" "stackTrace" "[Ljava/lang/StackTraceElement;",
  .lays "java/lang/Throwable" "java/lang/Throwable" "stackTrace" "[Ljava/lang/StackTraceElement;",
  .lays "java/lang/IllegalArgumentException" "java/lang/Throwable" "suppressedExceptions" "Ljava/util/List;",
  .lays "java/lang/Throwable" "java/lang/Throwable" "suppressedExceptions" "Ljava/util/List;",
  .lays "java/lang/IllegalArgumentException" "java/lang/Throwable" "detailMessage" "Ljava/lang/String;",
  .lays "java/lang/Throwable" "java/lang/Throwable" "detailMessage" "Ljava/lang/String;",
  .lays "java/lang/IllegalArgumentException" "java/lang/Throwable" "backtrace" "Ljava/lang/Object;",
  .lays "java/lang/Throwable" "java/lang/Throwable" "backtrace" "Ljava/lang/Object;",
  .fieldLink "java/lang/Throwable" 198 "java/lang/Throwable" "backtrace" "Ljava/lang/Object;",
  .superclass "java/lang/Throwable" "java/lang/Object"]
def wsG_14 : List Cond := [
  .instanceMethod ⟨"java/lang/Throwable", "<init>", "()V"⟩,
  .code ⟨"java/lang/Throwable", "<init>", "()V"⟩ prog_16_method_1_code 1 none,
  .methodLink "java/lang/Throwable" 1 objectInit,
  .fieldLink "java/lang/Throwable" 13 "java/lang/Throwable" "UNASSIGNED_STACK" "[Ljava/lang/StackTraceElement;",
  .fieldLink "java/lang/Throwable" 20 "java/lang/Throwable" "SUPPRESSED_SENTINEL" "Ljava/util/List;",
  .methodLink "java/lang/Throwable" 27 ⟨"java/lang/Throwable", "fillInStackTrace", "()Ljava/lang/Throwable;"⟩,
  .instanceMethod ⟨"java/lang/Throwable", "fillInStackTrace", "()Ljava/lang/Throwable;"⟩,
  .selects "java/lang/IllegalStateException" ⟨"java/lang/Throwable", "fillInStackTrace", "()Ljava/lang/Throwable;"⟩ ⟨"java/lang/Throwable", "fillInStackTrace", "()Ljava/lang/Throwable;"⟩,
  .selects "java/util/NoSuchElementException" ⟨"java/lang/Throwable", "fillInStackTrace", "()Ljava/lang/Throwable;"⟩ ⟨"java/lang/Throwable", "fillInStackTrace", "()Ljava/lang/Throwable;"⟩,
  .codeSync ⟨"java/lang/Throwable", "fillInStackTrace", "()Ljava/lang/Throwable;"⟩ prog_16_method_18_code 1 (some (.object "java/lang/Throwable")),
  .methodLink "java/lang/Throwable" 202 ⟨"java/lang/Throwable", "fillInStackTrace", "(I)Ljava/lang/Throwable;"⟩,
  .instanceMethod ⟨"java/lang/Throwable", "fillInStackTrace", "(I)Ljava/lang/Throwable;"⟩,
  .instantiable "java/lang/Throwable" 6,
  .native ⟨"java/lang/Throwable", "fillInStackTrace", "(I)Ljava/lang/Throwable;"⟩,
  .methodLink RX6 92 ⟨"java/lang/IllegalArgumentException", "<init>", "(Ljava/lang/String;)V"⟩,
  .instanceMethod ⟨"java/lang/IllegalArgumentException", "<init>", "(Ljava/lang/String;)V"⟩,
  .code ⟨"java/lang/IllegalArgumentException", "<init>", "(Ljava/lang/String;)V"⟩ prog_11_method_2_code 2 none,
  .methodLink "java/lang/IllegalArgumentException" 7 ⟨"java/lang/RuntimeException", "<init>", "(Ljava/lang/String;)V"⟩,
  .instanceMethod ⟨"java/lang/RuntimeException", "<init>", "(Ljava/lang/String;)V"⟩,
  .code ⟨"java/lang/RuntimeException", "<init>", "(Ljava/lang/String;)V"⟩ prog_14_method_2_code 2 none,
  .methodLink "java/lang/RuntimeException" 7 ⟨"java/lang/Exception", "<init>", "(Ljava/lang/String;)V"⟩,
  .instanceMethod ⟨"java/lang/Exception", "<init>", "(Ljava/lang/String;)V"⟩,
  .code ⟨"java/lang/Exception", "<init>", "(Ljava/lang/String;)V"⟩ prog_10_method_2_code 2 none,
  .methodLink "java/lang/Exception" 7 ⟨"java/lang/Throwable", "<init>", "(Ljava/lang/String;)V"⟩,
  .instanceMethod ⟨"java/lang/Throwable", "<init>", "(Ljava/lang/String;)V"⟩]
def wsG_15 : List Cond := [
  .code ⟨"java/lang/Throwable", "<init>", "(Ljava/lang/String;)V"⟩ prog_16_method_2_code 2 none,
  .fieldLink "java/lang/Throwable" 31 "java/lang/Throwable" "detailMessage" "Ljava/lang/String;",
  .fieldLink "java/lang/Throwable" 7 "java/lang/Throwable" "cause" "Ljava/lang/Throwable;",
  .fieldLink "java/lang/Throwable" 17 "java/lang/Throwable" "stackTrace" "[Ljava/lang/StackTraceElement;",
  .fieldLink "java/lang/Throwable" 24 "java/lang/Throwable" "suppressedExceptions" "Ljava/util/List;",
  .lays "java/lang/IllegalArgumentException" "java/lang/Throwable" "depth" "I",
  .superclass "java/lang/IllegalArgumentException" "java/lang/RuntimeException",
  .arrayClass .byte,
  .methodLink RX6 101 yX2_findNeeded,
  .instanceMethod yX2_findNeeded,
  .selects RX2 yX2_findNeeded yX2_findNeeded,
  .code yX2_findNeeded cX2_findNeeded 9 none,
  .methodLink RX2 22 yX5_waitsFor,
  .instanceMethod yX5_waitsFor,
  .selects RX5 yX5_waitsFor yX5_waitsFor,
  .code yX5_waitsFor cX5_waitsFor 6 (some .long),
  .methodLink RX5 50 yX1_makerOf,
  .static yX6_bit,
  .code yX6_bit cX6_bit 1 (some .long),
  .static yX6_isIn,
  .code yX6_isIn cX6_isIn 3 (some .boolean),
  .methodLink RX6 183 yX6_bit,
  .methodLink RX6 105 yX2_lineUp,
  .instanceMethod yX2_lineUp,
  .selects RX2 yX2_lineUp yX2_lineUp]
def wsG_16 : List Cond := [
  .code yX2_lineUp cX2_lineUp 5 (some .boolean),
  .constantLong RX2 44 (-1),
  .methodLink RX6 109 yX4_find,
  .instanceMethod yX4_find,
  .selects RX4 yX4_find yX4_find,
  .code yX4_find cX4_find 4 none,
  .methodLink RX4 29 yX4_measure,
  .instanceMethod yX4_measure,
  .code yX4_measure cX4_measure 4 (some .int),
  .methodLink RX4 41 yX2_waitingFor,
  .instanceMethod yX2_waitingFor,
  .selects RX2 yX2_waitingFor yX2_waitingFor,
  .code yX2_waitingFor cX2_waitingFor 6 (some .long),
  .methodLink RX4 33 yX4_walk,
  .instanceMethod yX4_walk,
  .code yX4_walk cX4_walk 6 none,
  .methodLink RX4 48 yX4_least,
  .static yX4_least,
  .code yX4_least cX4_least 4 (some .int),
  .classLink RX6 113 "java/lang/IllegalStateException",
  .instantiable "java/lang/IllegalStateException" 6,
  .selects "java/lang/IllegalStateException" ⟨"java/lang/Throwable", "fillInStackTrace", "(I)Ljava/lang/Throwable;"⟩ ⟨"java/lang/Throwable", "fillInStackTrace", "(I)Ljava/lang/Throwable;"⟩,
  .lays "java/lang/IllegalStateException" "java/lang/Throwable" "cause" "Ljava/lang/Throwable;",
  .lays "java/lang/IllegalStateException" "java/lang/Throwable" "stackTrace" "[Ljava/lang/StackTraceElement;",
  .lays "java/lang/IllegalStateException" "java/lang/Throwable" "suppressedExceptions" "Ljava/util/List;"]
def wsG_17 : List Cond := [
  .lays "java/lang/IllegalStateException" "java/lang/Throwable" "detailMessage" "Ljava/lang/String;",
  .lays "java/lang/IllegalStateException" "java/lang/Throwable" "backtrace" "Ljava/lang/Object;",
  .methodLink RX6 117 ⟨"java/lang/IllegalStateException", "<init>", "(Ljava/lang/String;)V"⟩,
  .instanceMethod ⟨"java/lang/IllegalStateException", "<init>", "(Ljava/lang/String;)V"⟩,
  .code ⟨"java/lang/IllegalStateException", "<init>", "(Ljava/lang/String;)V"⟩ prog_12_method_2_code 2 none,
  .methodLink "java/lang/IllegalStateException" 7 ⟨"java/lang/RuntimeException", "<init>", "(Ljava/lang/String;)V"⟩,
  .lays "java/lang/IllegalStateException" "java/lang/Throwable" "depth" "I",
  .superclass "java/lang/IllegalStateException" "java/lang/RuntimeException",
  .methodLink RX6 118 yX6_sourceLacks,
  .instanceMethod yX6_sourceLacks,
  .code yX6_sourceLacks cX6_sourceLacks 3 (some .boolean),
  .methodLink RX6 191 yX1_lacksSource,
  .instanceMethod yX1_lacksSource,
  .selects RX1 yX1_lacksSource yX1_lacksSource,
  .code yX1_lacksSource cX1_lacksSource 2 (some .boolean),
  .methodLink RX6 197 yX6_isIn,
  .methodLink RX6 201 yX5_lacksSource,
  .instanceMethod yX5_lacksSource,
  .selects RX5 yX5_lacksSource yX5_lacksSource,
  .code yX5_lacksSource cX5_lacksSource 3 (some .boolean),
  .methodLink RX5 58 yX1_lacksSource,
  .methodLink RX6 123 yX2_rankSteps,
  .instanceMethod yX2_rankSteps,
  .selects RX2 yX2_rankSteps yX2_rankSteps,
  .code yX2_rankSteps cX2_rankSteps 5 none]
def wsG_18 : List Cond := [
  .methodLink RX2 49 Lib.Math.max.name,
  .static Lib.Math.max.name,
  .code Lib.Math.max.name Lib.Math.max.code 2 (some .int),
  .methodLink RX6 127 yX3_open]
def wsG_19 : List Cond := [
  .instanceMethod yX3_open,
  .selects RX3 yX3_open yX3_open,
  .code yX3_open cX3_open 2 none,
  .methodLink RX3 30 yX2_greatestRank,
  .instanceMethod yX2_greatestRank,
  .selects RX2 yX2_greatestRank yX2_greatestRank,
  .code yX2_greatestRank cX2_greatestRank 3 (some .int),
  .methodLink RX6 130 yX6_makeNeeded,
  .instanceMethod yX6_makeNeeded,
  .code yX6_makeNeeded cX6_makeNeeded 5 (some .int),
  .methodLink RX6 204 yX0_comeIn,
  .instanceMethod yX0_comeIn,
  .selects RX0 yX0_comeIn yX0_comeIn,
  .code yX0_comeIn cX0_comeIn 2 none,
  .methodLink RX6 207 yX6_endSteps,
  .instanceMethod yX6_endSteps,
  .code yX6_endSteps cX6_endSteps 3 none,
  .methodLink RX6 220 yX0_endsAt,
  .instanceMethod yX0_endsAt,
  .selects RX0 yX0_endsAt yX0_endsAt,
  .code yX0_endsAt cX0_endsAt 3 (some .boolean),
  .methodLink RX6 224 yX5_make,
  .instanceMethod yX5_make,
  .selects RX5 yX5_make yX5_make,
  .code yX5_make cX5_make 5 none]
def wsG_20 : List Cond := [
  .constant RX5 91 16777619,
  .methodLink RX5 92 yX1_fill,
  .methodLink RX6 227 yX0_end,
  .instanceMethod yX0_end,
  .selects RX0 yX0_end yX0_end,
  .code yX0_end cX0_end 2 none,
  .constantLong RX0 33 (-1),
  .methodLink RX6 211 yX6_passOverSteps,
  .instanceMethod yX6_passOverSteps,
  .code yX6_passOverSteps cX6_passOverSteps 4 none,
  .methodLink RX6 230 yX6_isReady,
  .instanceMethod yX6_isReady,
  .code yX6_isReady cX6_isReady 2 (some .boolean),
  .methodLink RX6 255 yX0_isOpen,
  .instanceMethod yX0_isOpen,
  .selects RX0 yX0_isOpen yX0_isOpen,
  .code yX0_isOpen cX0_isOpen 2 (some .boolean),
  .methodLink RX6 262 yX0_areDone,
  .instanceMethod yX0_areDone,
  .selects RX0 yX0_areDone yX0_areDone,
  .code yX0_areDone cX0_areDone 3 (some .boolean),
  .methodLink RX6 233 yX0_passOver,
  .instanceMethod yX0_passOver,
  .selects RX0 yX0_passOver yX0_passOver,
  .code yX0_passOver cX0_passOver 2 none]
def wsG_21 : List Cond := [
  .methodLink RX6 214 yX6_beginSteps,
  .instanceMethod yX6_beginSteps,
  .code yX6_beginSteps cX6_beginSteps 6 none,
  .methodLink RX6 236 yX0_isBusy,
  .instanceMethod yX0_isBusy,
  .selects RX0 yX0_isBusy yX0_isBusy,
  .code yX0_isBusy cX0_isBusy 2 (some .boolean),
  .methodLink RX6 239 yX6_nextToBegin,
  .instanceMethod yX6_nextToBegin,
  .code yX6_nextToBegin cX6_nextToBegin 4 (some .int),
  .methodLink RX6 245 yX3_add,
  .instanceMethod yX3_add,
  .selects RX3 yX3_add yX3_add,
  .code yX3_add cX3_add 7 none,
  .methodLink RX6 249 yX0_begin,
  .instanceMethod yX0_begin,
  .selects RX0 yX0_begin yX0_begin,
  .code yX0_begin cX0_begin 4 none,
  .methodLink RX6 217 yX0_nextEnd,
  .instanceMethod yX0_nextEnd,
  .selects RX0 yX0_nextEnd yX0_nextEnd,
  .code yX0_nextEnd cX0_nextEnd 3 (some .int),
  .methodLink RL 74 yL_begun,
  .static yL_begun,
  .codeWith yL_begun cL_begun 5 (some .int) [(0, 10, 13, 20)]]
def wsG_22 : List Cond := [
  .classLink RL 20 "java/util/NoSuchElementException",
  .methodLink RL 17 yX6_begun,
  .instanceMethod yX6_begun,
  .selects RX6 yX6_begun yX6_begun,
  .code yX6_begun cX6_begun 3 (some .int),
  .classLink RX6 153 "java/util/NoSuchElementException",
  .instantiable "java/util/NoSuchElementException" 6,
  .selects "java/util/NoSuchElementException" ⟨"java/lang/Throwable", "fillInStackTrace", "(I)Ljava/lang/Throwable;"⟩ ⟨"java/lang/Throwable", "fillInStackTrace", "(I)Ljava/lang/Throwable;"⟩,
  .lays "java/util/NoSuchElementException" "java/lang/Throwable" "cause" "Ljava/lang/Throwable;",
  .lays "java/util/NoSuchElementException" "java/lang/Throwable" "stackTrace" "[Ljava/lang/StackTraceElement;",
  .lays "java/util/NoSuchElementException" "java/lang/Throwable" "suppressedExceptions" "Ljava/util/List;",
  .lays "java/util/NoSuchElementException" "java/lang/Throwable" "detailMessage" "Ljava/lang/String;",
  .lays "java/util/NoSuchElementException" "java/lang/Throwable" "backtrace" "Ljava/lang/Object;",
  .methodLink RX6 157 ⟨"java/util/NoSuchElementException", "<init>", "(Ljava/lang/String;)V"⟩,
  .instanceMethod ⟨"java/util/NoSuchElementException", "<init>", "(Ljava/lang/String;)V"⟩,
  .code ⟨"java/util/NoSuchElementException", "<init>", "(Ljava/lang/String;)V"⟩ prog_17_method_4_code 2 none,
  .methodLink "java/util/NoSuchElementException" 13 ⟨"java/lang/RuntimeException", "<init>", "(Ljava/lang/String;)V"⟩,
  .lays "java/util/NoSuchElementException" "java/lang/Throwable" "depth" "I",
  .superclass "java/util/NoSuchElementException" "java/lang/RuntimeException",
  .methodLink RX6 158 yX3_cell,
  .instanceMethod yX3_cell,
  .selects RX3 yX3_cell yX3_cell,
  .code yX3_cell cX3_cell 3 (some .int),
  .methodLink RL 77 yL_cycle,
  .static yL_cycle]
def wsG_23 : List Cond := [
  .codeWith yL_cycle cL_cycle 4 (some .int) [(0, 9, 12, 20)],
  .methodLink RL 22 yX6_cycle,
  .instanceMethod yX6_cycle,
  .selects RX6 yX6_cycle yX6_cycle,
  .code yX6_cycle cX6_cycle 2 (some .int),
  .methodLink RL 81 yL_content,
  .static yL_content,
  .codeWith yL_content cL_content 4 (some .int) [(0, 9, 12, 20)],
  .methodLink RL 26 yX6_content,
  .instanceMethod yX6_content,
  .selects RX6 yX6_content yX6_content,
  .code yX6_content cX6_content 2 (some .int),
  .methodLink RX6 171 yX1_isFilled,
  .methodLink RX6 176 yX1_contentOf,
  .classLink RL 30 RX7,
  .instantiable RX7 40,
  .methodLink RL 32 yX7_init,
  .instanceMethod yX7_init,
  .code yX7_init cX7_init 2 none,
  .methodLink RX7 1 objectInit,
  .fieldLink RX7 110 "BuildDeskModel" "thrown" "I",
  .fieldLink RX7 7 "BuildDeskModel" "has" "[Z",
  .fieldLink RX7 13 "BuildDeskModel" "contents" "[I",
  .fieldLink RX7 17 "BuildDeskModel" "maker" "[I",
  .fieldLink RX7 20 "BuildDeskModel" "there" "[Z"]
def wsG_24 : List Cond := [
  .fieldLink RX7 23 "BuildDeskModel" "recipe" "[I",
  .fieldLink RX7 26 "BuildDeskModel" "mask" "[I",
  .fieldLink RX7 29 "BuildDeskModel" "duration" "[I",
  .fieldLink RX7 32 "BuildDeskModel" "inputs" "[I",
  .fieldLink RX7 35 "BuildDeskModel" "outputs" "[I",
  .fieldLink RX7 38 "BuildDeskModel" "ins" "[I",
  .fieldLink RX7 41 "BuildDeskModel" "outs" "[I",
  .fieldLink RX7 44 "BuildDeskModel" "made" "[Z",
  .fieldLink RX7 47 "BuildDeskModel" "oldRecipe" "[I",
  .fieldLink RX7 50 "BuildDeskModel" "oldMask" "[I",
  .fieldLink RX7 53 "BuildDeskModel" "oldInputs" "[I",
  .fieldLink RX7 56 "BuildDeskModel" "oldOutputs" "[I",
  .fieldLink RX7 59 "BuildDeskModel" "oldIns" "[I",
  .fieldLink RX7 62 "BuildDeskModel" "oldOuts" "[I",
  .fieldLink RX7 65 "BuildDeskModel" "oldContents" "[I",
  .fieldLink RX7 68 "BuildDeskModel" "needed" "[Z",
  .fieldLink RX7 71 "BuildDeskModel" "rank" "[I",
  .fieldLink RX7 74 "BuildDeskModel" "state" "[I",
  .fieldLink RX7 77 "BuildDeskModel" "ends" "[I",
  .fieldLink RX7 80 "BuildDeskModel" "mixed" "[I",
  .fieldLink RX7 83 "BuildDeskModel" "worker" "[I",
  .fieldLink RX7 86 "BuildDeskModel" "busy" "[Z",
  .fieldLink RX7 149 "BuildDeskModel" "now" "I",
  .fieldLink RX7 146 "BuildDeskModel" "told" "I",
  .fieldLink RX7 175 "BuildDeskModel" "neededMany" "I"]
def wsG_25 : List Cond := [
  .fieldLink RX7 152 "BuildDeskModel" "busyTime" "I",
  .fieldLink RX7 178 "BuildDeskModel" "greatest" "I",
  .fieldLink RX7 89 "BuildDeskModel" "toldStep" "[I",
  .fieldLink RX7 92 "BuildDeskModel" "toldBegin" "[I",
  .fieldLink RX7 95 "BuildDeskModel" "toldEnd" "[I",
  .fieldLink RX7 98 "BuildDeskModel" "toldWorker" "[I",
  .fieldLink RX7 101 "BuildDeskModel" "toldReason" "[I",
  .fieldLink RX7 139 "BuildDeskModel" "roundLong" "I",
  .fieldLink RX7 104 "BuildDeskModel" "round" "[I",
  .fieldLink RX7 107 "BuildDeskModel" "far" "[I",
  .lays RX7 "BuildDeskModel" "thrown" "I",
  .laysFinal RX7 "BuildDeskModel" "has" "[Z",
  .laysFinal RX7 "BuildDeskModel" "contents" "[I",
  .laysFinal RX7 "BuildDeskModel" "maker" "[I",
  .laysFinal RX7 "BuildDeskModel" "there" "[Z",
  .laysFinal RX7 "BuildDeskModel" "recipe" "[I",
  .laysFinal RX7 "BuildDeskModel" "mask" "[I",
  .laysFinal RX7 "BuildDeskModel" "duration" "[I",
  .laysFinal RX7 "BuildDeskModel" "inputs" "[I",
  .laysFinal RX7 "BuildDeskModel" "outputs" "[I",
  .laysFinal RX7 "BuildDeskModel" "ins" "[I",
  .laysFinal RX7 "BuildDeskModel" "outs" "[I",
  .laysFinal RX7 "BuildDeskModel" "made" "[Z",
  .laysFinal RX7 "BuildDeskModel" "oldRecipe" "[I",
  .laysFinal RX7 "BuildDeskModel" "oldMask" "[I"]
def wsG_26 : List Cond := [
  .laysFinal RX7 "BuildDeskModel" "oldInputs" "[I",
  .laysFinal RX7 "BuildDeskModel" "oldOutputs" "[I",
  .laysFinal RX7 "BuildDeskModel" "oldIns" "[I",
  .laysFinal RX7 "BuildDeskModel" "oldOuts" "[I",
  .laysFinal RX7 "BuildDeskModel" "oldContents" "[I",
  .laysFinal RX7 "BuildDeskModel" "needed" "[Z",
  .laysFinal RX7 "BuildDeskModel" "rank" "[I",
  .laysFinal RX7 "BuildDeskModel" "state" "[I",
  .laysFinal RX7 "BuildDeskModel" "ends" "[I",
  .laysFinal RX7 "BuildDeskModel" "mixed" "[I",
  .laysFinal RX7 "BuildDeskModel" "worker" "[I",
  .laysFinal RX7 "BuildDeskModel" "busy" "[Z",
  .lays RX7 "BuildDeskModel" "now" "I",
  .lays RX7 "BuildDeskModel" "told" "I",
  .lays RX7 "BuildDeskModel" "neededMany" "I",
  .lays RX7 "BuildDeskModel" "busyTime" "I",
  .lays RX7 "BuildDeskModel" "greatest" "I",
  .laysFinal RX7 "BuildDeskModel" "toldStep" "[I",
  .laysFinal RX7 "BuildDeskModel" "toldBegin" "[I"]
def wsG_27 : List Cond := [
  .laysFinal RX7 "BuildDeskModel" "toldEnd" "[I",
  .laysFinal RX7 "BuildDeskModel" "toldWorker" "[I",
  .laysFinal RX7 "BuildDeskModel" "toldReason" "[I",
  .lays RX7 "BuildDeskModel" "roundLong" "I",
  .laysFinal RX7 "BuildDeskModel" "round" "[I",
  .laysFinal RX7 "BuildDeskModel" "far" "[I",
  .superclass "BuildDeskModel" "java/lang/Object",
  .methodLink RL 66 yX7_thrown,
  .instanceMethod yX7_thrown,
  .selects RX7 yX7_thrown yX7_thrown,
  .code yX7_thrown cX7_thrown 1 (some .int),
  .methodLink RL 37 yX7_step,
  .instanceMethod yX7_step,
  .selects RX7 yX7_step yX7_step,
  .code yX7_step cX7_step 5 (some .boolean),
  .methodLink RL 42 yX7_input,
  .instanceMethod yX7_input,
  .selects RX7 yX7_input yX7_input,
  .code yX7_input cX7_input 3 (some .boolean),
  .methodLink RX7 114 yX7_isStep,
  .instanceMethod yX7_isStep,
  .code yX7_isStep cX7_isStep 2 (some .boolean),
  .methodLink RX7 118 yX7_isFile,
  .static yX7_isFile,
  .code yX7_isFile cX7_isFile 1 (some .boolean)]
def wsG_28 : List Cond := [
  .methodLink RL 46 yX7_output,
  .instanceMethod yX7_output,
  .selects RX7 yX7_output yX7_output,
  .code yX7_output cX7_output 3 (some .boolean),
  .methodLink RL 51 yX7_drop,
  .instanceMethod yX7_drop,
  .selects RX7 yX7_drop yX7_drop,
  .code yX7_drop cX7_drop 3 (some .boolean),
  .methodLink RL 55 yX7_source,
  .instanceMethod yX7_source,
  .selects RX7 yX7_source yX7_source,
  .code yX7_source cX7_source 3 (some .boolean),
  .methodLink RL 59 yX7_spoil,
  .instanceMethod yX7_spoil,
  .selects RX7 yX7_spoil yX7_spoil,
  .code yX7_spoil cX7_spoil 2 (some .boolean),
  .methodLink RL 87 yX7_reason,
  .instanceMethod yX7_reason,
  .selects RX7 yX7_reason yX7_reason,
  .code yX7_reason cX7_reason 2 (some .int),
  .methodLink RX7 124 yX7_why,
  .instanceMethod yX7_why,
  .code yX7_why cX7_why 6 (some .int),
  .methodLink RX7 121 yX7_isOther,
  .instanceMethod yX7_isOther]
def wsG_29 : List Cond := [
  .code yX7_isOther cX7_isOther 4 (some .boolean),
  .methodLink RL 65 yX7_build,
  .instanceMethod yX7_build,
  .selects RX7 yX7_build yX7_build,
  .code yX7_build cX7_build 6 (some .int),
  .methodLink RX7 159 yX7_raise,
  .instanceMethod yX7_raise,
  .code yX7_raise cX7_raise 2 (some .int),
  .methodLink RX7 162 yX7_spread,
  .instanceMethod yX7_spread,
  .code yX7_spread cX7_spread 6 none,
  .methodLink RX7 128 yX7_takes,
  .instanceMethod yX7_takes,
  .code yX7_takes cX7_takes 5 (some .boolean),
  .methodLink RX7 165 yX7_isRound,
  .instanceMethod yX7_isRound,
  .code yX7_isRound cX7_isRound 3 (some .boolean),
  .methodLink RX7 132 yX7_measure,
  .instanceMethod yX7_measure,
  .code yX7_measure cX7_measure 5 none,
  .methodLink RX7 136 yX7_nearest,
  .instanceMethod yX7_nearest,
  .code yX7_nearest cX7_nearest 4 (some .int),
  .methodLink RX7 169 yX7_isLacking,
  .instanceMethod yX7_isLacking]
def wsG_30 : List Cond := [
  .code yX7_isLacking cX7_isLacking 6 (some .boolean),
  .methodLink RX7 172 yX7_order,
  .instanceMethod yX7_order,
  .code yX7_order cX7_order 4 none,
  .methodLink RX7 181 yX7_end,
  .instanceMethod yX7_end,
  .code yX7_end cX7_end 4 none,
  .methodLink RX7 184 yX7_pass,
  .instanceMethod yX7_pass,
  .code yX7_pass cX7_pass 3 none,
  .methodLink RX7 142 yX7_isReady,
  .instanceMethod yX7_isReady,
  .code yX7_isReady cX7_isReady 5 (some .boolean),
  .methodLink RX7 187 yX7_hire,
  .instanceMethod yX7_hire,
  .code yX7_hire cX7_hire 5 none,
  .methodLink RX7 155 yX7_start,
  .instanceMethod yX7_start,
  .code yX7_start cX7_start 6 none,
  .constant RX7 145 16777619,
  .methodLink RL 73 yX7_count,
  .instanceMethod yX7_count,
  .selects RX7 yX7_count yX7_count,
  .code yX7_count cX7_count 4 (some .int),
  .methodLink RL 76 yX7_begun]
def wsG_31 : List Cond := [
  .instanceMethod yX7_begun,
  .selects RX7 yX7_begun yX7_begun,
  .code yX7_begun cX7_begun 3 (some .int),
  .methodLink RL 80 yX7_cycle,
  .instanceMethod yX7_cycle,
  .selects RX7 yX7_cycle yX7_cycle,
  .code yX7_cycle cX7_cycle 2 (some .int),
  .methodLink RL 83 yX7_content,
  .instanceMethod yX7_content,
  .selects RX7 yX7_content yX7_content,
  .code yX7_content cX7_content 2 (some .int)]
def wsG : List Cond := wsG_0 ++ (wsG_1 ++ (wsG_2 ++ (wsG_3 ++ (wsG_4 ++ (wsG_5 ++ (wsG_6 ++ (wsG_7 ++ (wsG_8 ++ (wsG_9 ++ (wsG_10 ++ (wsG_11 ++ (wsG_12 ++ (wsG_13 ++ (wsG_14 ++ (wsG_15 ++ (wsG_16 ++ (wsG_17 ++ (wsG_18 ++ (wsG_19 ++ (wsG_20 ++ (wsG_21 ++ (wsG_22 ++ (wsG_23 ++ (wsG_24 ++ (wsG_25 ++ (wsG_26 ++ (wsG_27 ++ (wsG_28 ++ (wsG_29 ++ (wsG_30 ++ (wsG_31)))))))))))))))))))))))))))))))
theorem wsG_s0 : ∀ w ∈ wsG_0, w ∈ wsG := fun w h => List.mem_append_left _ (h)
theorem wsG_s1 : ∀ w ∈ wsG_1, w ∈ wsG := fun w h => List.mem_append_right _ (List.mem_append_left _ (h))
theorem wsG_s2 : ∀ w ∈ wsG_2, w ∈ wsG := fun w h => List.mem_append_right _ (List.mem_append_right _ (List.mem_append_left _ (h)))
theorem wsG_s3 : ∀ w ∈ wsG_3, w ∈ wsG := fun w h => List.mem_append_right _ (List.mem_append_right _ (List.mem_append_right _ (List.mem_append_left _ (h))))
theorem wsG_s4 : ∀ w ∈ wsG_4, w ∈ wsG := fun w h => List.mem_append_right _ (List.mem_append_right _ (List.mem_append_right _ (List.mem_append_right _ (List.mem_append_left _ (h)))))
theorem wsG_s5 : ∀ w ∈ wsG_5, w ∈ wsG := fun w h => List.mem_append_right _ (List.mem_append_right _ (List.mem_append_right _ (List.mem_append_right _ (List.mem_append_right _ (List.mem_append_left _ (h))))))
theorem wsG_s6 : ∀ w ∈ wsG_6, w ∈ wsG := fun w h => List.mem_append_right _ (List.mem_append_right _ (List.mem_append_right _ (List.mem_append_right _ (List.mem_append_right _ (List.mem_append_right _ (List.mem_append_left _ (h)))))))
theorem wsG_s7 : ∀ w ∈ wsG_7, w ∈ wsG := fun w h => List.mem_append_right _ (List.mem_append_right _ (List.mem_append_right _ (List.mem_append_right _ (List.mem_append_right _ (List.mem_append_right _ (List.mem_append_right _ (List.mem_append_left _ (h))))))))
theorem wsG_s8 : ∀ w ∈ wsG_8, w ∈ wsG := fun w h => List.mem_append_right _ (List.mem_append_right _ (List.mem_append_right _ (List.mem_append_right _ (List.mem_append_right _ (List.mem_append_right _ (List.mem_append_right _ (List.mem_append_right _ (List.mem_append_left _ (h)))))))))
theorem wsG_s9 : ∀ w ∈ wsG_9, w ∈ wsG := fun w h => List.mem_append_right _ (List.mem_append_right _ (List.mem_append_right _ (List.mem_append_right _ (List.mem_append_right _ (List.mem_append_right _ (List.mem_append_right _ (List.mem_append_right _ (List.mem_append_right _ (List.mem_append_left _ (h))))))))))
theorem wsG_s10 : ∀ w ∈ wsG_10, w ∈ wsG := fun w h => List.mem_append_right _ (List.mem_append_right _ (List.mem_append_right _ (List.mem_append_right _ (List.mem_append_right _ (List.mem_append_right _ (List.mem_append_right _ (List.mem_append_right _ (List.mem_append_right _ (List.mem_append_right _ (List.mem_append_left _ (h)))))))))))
theorem wsG_s11 : ∀ w ∈ wsG_11, w ∈ wsG := fun w h => List.mem_append_right _ (List.mem_append_right _ (List.mem_append_right _ (List.mem_append_right _ (List.mem_append_right _ (List.mem_append_right _ (List.mem_append_right _ (List.mem_append_right _ (List.mem_append_right _ (List.mem_append_right _ (List.mem_append_right _ (List.mem_append_left _ (h))))))))))))
theorem wsG_s12 : ∀ w ∈ wsG_12, w ∈ wsG := fun w h => List.mem_append_right _ (List.mem_append_right _ (List.mem_append_right _ (List.mem_append_right _ (List.mem_append_right _ (List.mem_append_right _ (List.mem_append_right _ (List.mem_append_right _ (List.mem_append_right _ (List.mem_append_right _ (List.mem_append_right _ (List.mem_append_right _ (List.mem_append_left _ (h)))))))))))))
theorem wsG_s13 : ∀ w ∈ wsG_13, w ∈ wsG := fun w h => List.mem_append_right _ (List.mem_append_right _ (List.mem_append_right _ (List.mem_append_right _ (List.mem_append_right _ (List.mem_append_right _ (List.mem_append_right _ (List.mem_append_right _ (List.mem_append_right _ (List.mem_append_right _ (List.mem_append_right _ (List.mem_append_right _ (List.mem_append_right _ (List.mem_append_left _ (h))))))))))))))
theorem wsG_s14 : ∀ w ∈ wsG_14, w ∈ wsG := fun w h => List.mem_append_right _ (List.mem_append_right _ (List.mem_append_right _ (List.mem_append_right _ (List.mem_append_right _ (List.mem_append_right _ (List.mem_append_right _ (List.mem_append_right _ (List.mem_append_right _ (List.mem_append_right _ (List.mem_append_right _ (List.mem_append_right _ (List.mem_append_right _ (List.mem_append_right _ (List.mem_append_left _ (h)))))))))))))))
theorem wsG_s15 : ∀ w ∈ wsG_15, w ∈ wsG := fun w h => List.mem_append_right _ (List.mem_append_right _ (List.mem_append_right _ (List.mem_append_right _ (List.mem_append_right _ (List.mem_append_right _ (List.mem_append_right _ (List.mem_append_right _ (List.mem_append_right _ (List.mem_append_right _ (List.mem_append_right _ (List.mem_append_right _ (List.mem_append_right _ (List.mem_append_right _ (List.mem_append_right _ (List.mem_append_left _ (h))))))))))))))))
theorem wsG_s16 : ∀ w ∈ wsG_16, w ∈ wsG := fun w h => List.mem_append_right _ (List.mem_append_right _ (List.mem_append_right _ (List.mem_append_right _ (List.mem_append_right _ (List.mem_append_right _ (List.mem_append_right _ (List.mem_append_right _ (List.mem_append_right _ (List.mem_append_right _ (List.mem_append_right _ (List.mem_append_right _ (List.mem_append_right _ (List.mem_append_right _ (List.mem_append_right _ (List.mem_append_right _ (List.mem_append_left _ (h)))))))))))))))))
theorem wsG_s17 : ∀ w ∈ wsG_17, w ∈ wsG := fun w h => List.mem_append_right _ (List.mem_append_right _ (List.mem_append_right _ (List.mem_append_right _ (List.mem_append_right _ (List.mem_append_right _ (List.mem_append_right _ (List.mem_append_right _ (List.mem_append_right _ (List.mem_append_right _ (List.mem_append_right _ (List.mem_append_right _ (List.mem_append_right _ (List.mem_append_right _ (List.mem_append_right _ (List.mem_append_right _ (List.mem_append_right _ (List.mem_append_left _ (h))))))))))))))))))
theorem wsG_s18 : ∀ w ∈ wsG_18, w ∈ wsG := fun w h => List.mem_append_right _ (List.mem_append_right _ (List.mem_append_right _ (List.mem_append_right _ (List.mem_append_right _ (List.mem_append_right _ (List.mem_append_right _ (List.mem_append_right _ (List.mem_append_right _ (List.mem_append_right _ (List.mem_append_right _ (List.mem_append_right _ (List.mem_append_right _ (List.mem_append_right _ (List.mem_append_right _ (List.mem_append_right _ (List.mem_append_right _ (List.mem_append_right _ (List.mem_append_left _ (h)))))))))))))))))))
theorem wsG_s19 : ∀ w ∈ wsG_19, w ∈ wsG := fun w h => List.mem_append_right _ (List.mem_append_right _ (List.mem_append_right _ (List.mem_append_right _ (List.mem_append_right _ (List.mem_append_right _ (List.mem_append_right _ (List.mem_append_right _ (List.mem_append_right _ (List.mem_append_right _ (List.mem_append_right _ (List.mem_append_right _ (List.mem_append_right _ (List.mem_append_right _ (List.mem_append_right _ (List.mem_append_right _ (List.mem_append_right _ (List.mem_append_right _ (List.mem_append_right _ (List.mem_append_left _ (h))))))))))))))))))))
theorem wsG_s20 : ∀ w ∈ wsG_20, w ∈ wsG := fun w h => List.mem_append_right _ (List.mem_append_right _ (List.mem_append_right _ (List.mem_append_right _ (List.mem_append_right _ (List.mem_append_right _ (List.mem_append_right _ (List.mem_append_right _ (List.mem_append_right _ (List.mem_append_right _ (List.mem_append_right _ (List.mem_append_right _ (List.mem_append_right _ (List.mem_append_right _ (List.mem_append_right _ (List.mem_append_right _ (List.mem_append_right _ (List.mem_append_right _ (List.mem_append_right _ (List.mem_append_right _ (List.mem_append_left _ (h)))))))))))))))))))))
theorem wsG_s21 : ∀ w ∈ wsG_21, w ∈ wsG := fun w h => List.mem_append_right _ (List.mem_append_right _ (List.mem_append_right _ (List.mem_append_right _ (List.mem_append_right _ (List.mem_append_right _ (List.mem_append_right _ (List.mem_append_right _ (List.mem_append_right _ (List.mem_append_right _ (List.mem_append_right _ (List.mem_append_right _ (List.mem_append_right _ (List.mem_append_right _ (List.mem_append_right _ (List.mem_append_right _ (List.mem_append_right _ (List.mem_append_right _ (List.mem_append_right _ (List.mem_append_right _ (List.mem_append_right _ (List.mem_append_left _ (h))))))))))))))))))))))
theorem wsG_s22 : ∀ w ∈ wsG_22, w ∈ wsG := fun w h => List.mem_append_right _ (List.mem_append_right _ (List.mem_append_right _ (List.mem_append_right _ (List.mem_append_right _ (List.mem_append_right _ (List.mem_append_right _ (List.mem_append_right _ (List.mem_append_right _ (List.mem_append_right _ (List.mem_append_right _ (List.mem_append_right _ (List.mem_append_right _ (List.mem_append_right _ (List.mem_append_right _ (List.mem_append_right _ (List.mem_append_right _ (List.mem_append_right _ (List.mem_append_right _ (List.mem_append_right _ (List.mem_append_right _ (List.mem_append_right _ (List.mem_append_left _ (h)))))))))))))))))))))))
theorem wsG_s23 : ∀ w ∈ wsG_23, w ∈ wsG := fun w h => List.mem_append_right _ (List.mem_append_right _ (List.mem_append_right _ (List.mem_append_right _ (List.mem_append_right _ (List.mem_append_right _ (List.mem_append_right _ (List.mem_append_right _ (List.mem_append_right _ (List.mem_append_right _ (List.mem_append_right _ (List.mem_append_right _ (List.mem_append_right _ (List.mem_append_right _ (List.mem_append_right _ (List.mem_append_right _ (List.mem_append_right _ (List.mem_append_right _ (List.mem_append_right _ (List.mem_append_right _ (List.mem_append_right _ (List.mem_append_right _ (List.mem_append_right _ (List.mem_append_left _ (h))))))))))))))))))))))))
theorem wsG_s24 : ∀ w ∈ wsG_24, w ∈ wsG := fun w h => List.mem_append_right _ (List.mem_append_right _ (List.mem_append_right _ (List.mem_append_right _ (List.mem_append_right _ (List.mem_append_right _ (List.mem_append_right _ (List.mem_append_right _ (List.mem_append_right _ (List.mem_append_right _ (List.mem_append_right _ (List.mem_append_right _ (List.mem_append_right _ (List.mem_append_right _ (List.mem_append_right _ (List.mem_append_right _ (List.mem_append_right _ (List.mem_append_right _ (List.mem_append_right _ (List.mem_append_right _ (List.mem_append_right _ (List.mem_append_right _ (List.mem_append_right _ (List.mem_append_right _ (List.mem_append_left _ (h)))))))))))))))))))))))))
theorem wsG_s25 : ∀ w ∈ wsG_25, w ∈ wsG := fun w h => List.mem_append_right _ (List.mem_append_right _ (List.mem_append_right _ (List.mem_append_right _ (List.mem_append_right _ (List.mem_append_right _ (List.mem_append_right _ (List.mem_append_right _ (List.mem_append_right _ (List.mem_append_right _ (List.mem_append_right _ (List.mem_append_right _ (List.mem_append_right _ (List.mem_append_right _ (List.mem_append_right _ (List.mem_append_right _ (List.mem_append_right _ (List.mem_append_right _ (List.mem_append_right _ (List.mem_append_right _ (List.mem_append_right _ (List.mem_append_right _ (List.mem_append_right _ (List.mem_append_right _ (List.mem_append_right _ (List.mem_append_left _ (h))))))))))))))))))))))))))
theorem wsG_s26 : ∀ w ∈ wsG_26, w ∈ wsG := fun w h => List.mem_append_right _ (List.mem_append_right _ (List.mem_append_right _ (List.mem_append_right _ (List.mem_append_right _ (List.mem_append_right _ (List.mem_append_right _ (List.mem_append_right _ (List.mem_append_right _ (List.mem_append_right _ (List.mem_append_right _ (List.mem_append_right _ (List.mem_append_right _ (List.mem_append_right _ (List.mem_append_right _ (List.mem_append_right _ (List.mem_append_right _ (List.mem_append_right _ (List.mem_append_right _ (List.mem_append_right _ (List.mem_append_right _ (List.mem_append_right _ (List.mem_append_right _ (List.mem_append_right _ (List.mem_append_right _ (List.mem_append_right _ (List.mem_append_left _ (h)))))))))))))))))))))))))))
theorem wsG_s27 : ∀ w ∈ wsG_27, w ∈ wsG := fun w h => List.mem_append_right _ (List.mem_append_right _ (List.mem_append_right _ (List.mem_append_right _ (List.mem_append_right _ (List.mem_append_right _ (List.mem_append_right _ (List.mem_append_right _ (List.mem_append_right _ (List.mem_append_right _ (List.mem_append_right _ (List.mem_append_right _ (List.mem_append_right _ (List.mem_append_right _ (List.mem_append_right _ (List.mem_append_right _ (List.mem_append_right _ (List.mem_append_right _ (List.mem_append_right _ (List.mem_append_right _ (List.mem_append_right _ (List.mem_append_right _ (List.mem_append_right _ (List.mem_append_right _ (List.mem_append_right _ (List.mem_append_right _ (List.mem_append_right _ (List.mem_append_left _ (h))))))))))))))))))))))))))))
theorem wsG_s28 : ∀ w ∈ wsG_28, w ∈ wsG := fun w h => List.mem_append_right _ (List.mem_append_right _ (List.mem_append_right _ (List.mem_append_right _ (List.mem_append_right _ (List.mem_append_right _ (List.mem_append_right _ (List.mem_append_right _ (List.mem_append_right _ (List.mem_append_right _ (List.mem_append_right _ (List.mem_append_right _ (List.mem_append_right _ (List.mem_append_right _ (List.mem_append_right _ (List.mem_append_right _ (List.mem_append_right _ (List.mem_append_right _ (List.mem_append_right _ (List.mem_append_right _ (List.mem_append_right _ (List.mem_append_right _ (List.mem_append_right _ (List.mem_append_right _ (List.mem_append_right _ (List.mem_append_right _ (List.mem_append_right _ (List.mem_append_right _ (List.mem_append_left _ (h)))))))))))))))))))))))))))))
theorem wsG_s29 : ∀ w ∈ wsG_29, w ∈ wsG := fun w h => List.mem_append_right _ (List.mem_append_right _ (List.mem_append_right _ (List.mem_append_right _ (List.mem_append_right _ (List.mem_append_right _ (List.mem_append_right _ (List.mem_append_right _ (List.mem_append_right _ (List.mem_append_right _ (List.mem_append_right _ (List.mem_append_right _ (List.mem_append_right _ (List.mem_append_right _ (List.mem_append_right _ (List.mem_append_right _ (List.mem_append_right _ (List.mem_append_right _ (List.mem_append_right _ (List.mem_append_right _ (List.mem_append_right _ (List.mem_append_right _ (List.mem_append_right _ (List.mem_append_right _ (List.mem_append_right _ (List.mem_append_right _ (List.mem_append_right _ (List.mem_append_right _ (List.mem_append_right _ (List.mem_append_left _ (h))))))))))))))))))))))))))))))
theorem wsG_s30 : ∀ w ∈ wsG_30, w ∈ wsG := fun w h => List.mem_append_right _ (List.mem_append_right _ (List.mem_append_right _ (List.mem_append_right _ (List.mem_append_right _ (List.mem_append_right _ (List.mem_append_right _ (List.mem_append_right _ (List.mem_append_right _ (List.mem_append_right _ (List.mem_append_right _ (List.mem_append_right _ (List.mem_append_right _ (List.mem_append_right _ (List.mem_append_right _ (List.mem_append_right _ (List.mem_append_right _ (List.mem_append_right _ (List.mem_append_right _ (List.mem_append_right _ (List.mem_append_right _ (List.mem_append_right _ (List.mem_append_right _ (List.mem_append_right _ (List.mem_append_right _ (List.mem_append_right _ (List.mem_append_right _ (List.mem_append_right _ (List.mem_append_right _ (List.mem_append_right _ (List.mem_append_left _ (h)))))))))))))))))))))))))))))))
theorem wsG_s31 : ∀ w ∈ wsG_31, w ∈ wsG := fun w h => List.mem_append_right _ (List.mem_append_right _ (List.mem_append_right _ (List.mem_append_right _ (List.mem_append_right _ (List.mem_append_right _ (List.mem_append_right _ (List.mem_append_right _ (List.mem_append_right _ (List.mem_append_right _ (List.mem_append_right _ (List.mem_append_right _ (List.mem_append_right _ (List.mem_append_right _ (List.mem_append_right _ (List.mem_append_right _ (List.mem_append_right _ (List.mem_append_right _ (List.mem_append_right _ (List.mem_append_right _ (List.mem_append_right _ (List.mem_append_right _ (List.mem_append_right _ (List.mem_append_right _ (List.mem_append_right _ (List.mem_append_right _ (List.mem_append_right _ (List.mem_append_right _ (List.mem_append_right _ (List.mem_append_right _ (List.mem_append_right _ (h)))))))))))))))))))))))))))))))
theorem wsG_a0 : wsG_0 = ([0, 1, 2, 3, 4, 5, 6, 7, 8, 9, 10, 11, 12, 13, 14, 15, 16, 17, 18, 19, 20, 21, 22, 23, 24] : List Nat).filterMap (fun i => (k2_sels lw_privs)[i]?) := by decide +kernel
theorem wsG_g0 : wsG_0.all goodWord = true := by decide +kernel
theorem wsG_i0 : ∀ w ∈ wsG_0, w ∈ lw_tbl ∧ goodWord w = true := by
  intro w hw
  refine ⟨?_, List.all_eq_true.mp wsG_g0 w hw⟩
  rw [wsG_a0] at hw
  obtain ⟨i, -, hi⟩ := List.mem_filterMap.mp hw
  have h := List.mem_of_getElem? hi
  exact List.mem_append_left _ h
theorem wsG_a1 : wsG_1 = ([25, 26, 27, 28, 29, 30, 31] : List Nat).filterMap (fun i => (k2_sels lw_privs)[i]?) := by decide +kernel
theorem wsG_g1 : wsG_1.all goodWord = true := by decide +kernel
theorem wsG_i1 : ∀ w ∈ wsG_1, w ∈ lw_tbl ∧ goodWord w = true := by
  intro w hw
  refine ⟨?_, List.all_eq_true.mp wsG_g1 w hw⟩
  rw [wsG_a1] at hw
  obtain ⟨i, -, hi⟩ := List.mem_filterMap.mp hw
  have h := List.mem_of_getElem? hi
  exact List.mem_append_left _ h
theorem wsG_a2 : wsG_2 = ([0, 1, 2, 3, 4, 5, 6, 7, 8, 9, 10, 11, 12, 13, 14, 15, 16, 17, 18, 19, 20, 21, 22, 23, 24] : List Nat).filterMap (fun i => tables_1_1[i]?) := by decide +kernel
theorem wsG_g2 : wsG_2.all goodWord = true := by decide +kernel
theorem wsG_i2 : ∀ w ∈ wsG_2, w ∈ lw_tbl ∧ goodWord w = true := by
  intro w hw
  refine ⟨?_, List.all_eq_true.mp wsG_g2 w hw⟩
  rw [wsG_a2] at hw
  obtain ⟨i, -, hi⟩ := List.mem_filterMap.mp hw
  have h := List.mem_of_getElem? hi
  exact List.mem_append_right _ (List.mem_append_left _ h)
theorem wsG_a3 : wsG_3 = ([25, 26, 27, 28, 29, 30, 31, 32, 33, 35, 37, 39, 40, 41, 42, 44, 46, 47, 48, 49, 51, 52, 53, 56, 57] : List Nat).filterMap (fun i => tables_1_1[i]?) := by decide +kernel
theorem wsG_g3 : wsG_3.all goodWord = true := by decide +kernel
theorem wsG_i3 : ∀ w ∈ wsG_3, w ∈ lw_tbl ∧ goodWord w = true := by
  intro w hw
  refine ⟨?_, List.all_eq_true.mp wsG_g3 w hw⟩
  rw [wsG_a3] at hw
  obtain ⟨i, -, hi⟩ := List.mem_filterMap.mp hw
  have h := List.mem_of_getElem? hi
  exact List.mem_append_right _ (List.mem_append_left _ h)
theorem wsG_a4 : wsG_4 = ([58, 59, 60, 61, 62, 63, 64, 65, 66, 68, 70, 72, 74, 76, 78, 80, 82, 84, 86, 88, 90, 92, 94, 95, 96] : List Nat).filterMap (fun i => tables_1_1[i]?) := by decide +kernel
theorem wsG_g4 : wsG_4.all goodWord = true := by decide +kernel
theorem wsG_i4 : ∀ w ∈ wsG_4, w ∈ lw_tbl ∧ goodWord w = true := by
  intro w hw
  refine ⟨?_, List.all_eq_true.mp wsG_g4 w hw⟩
  rw [wsG_a4] at hw
  obtain ⟨i, -, hi⟩ := List.mem_filterMap.mp hw
  have h := List.mem_of_getElem? hi
  exact List.mem_append_right _ (List.mem_append_left _ h)
theorem wsG_a5 : wsG_5 = ([98, 99, 100, 101, 104, 106, 107, 110, 112, 114, 116, 118, 120, 122, 123, 124, 125, 127, 128, 129, 130, 131, 132, 133, 134] : List Nat).filterMap (fun i => tables_1_1[i]?) := by decide +kernel
theorem wsG_g5 : wsG_5.all goodWord = true := by decide +kernel
theorem wsG_i5 : ∀ w ∈ wsG_5, w ∈ lw_tbl ∧ goodWord w = true := by
  intro w hw
  refine ⟨?_, List.all_eq_true.mp wsG_g5 w hw⟩
  rw [wsG_a5] at hw
  obtain ⟨i, -, hi⟩ := List.mem_filterMap.mp hw
  have h := List.mem_of_getElem? hi
  exact List.mem_append_right _ (List.mem_append_left _ h)
theorem wsG_a6 : wsG_6 = ([135, 137, 139, 141, 143, 145, 146, 147, 149, 150, 151, 152, 154, 156, 158, 160, 161, 163, 165, 167, 169, 171, 172, 173, 175] : List Nat).filterMap (fun i => tables_1_1[i]?) := by decide +kernel
theorem wsG_g6 : wsG_6.all goodWord = true := by decide +kernel
theorem wsG_i6 : ∀ w ∈ wsG_6, w ∈ lw_tbl ∧ goodWord w = true := by
  intro w hw
  refine ⟨?_, List.all_eq_true.mp wsG_g6 w hw⟩
  rw [wsG_a6] at hw
  obtain ⟨i, -, hi⟩ := List.mem_filterMap.mp hw
  have h := List.mem_of_getElem? hi
  exact List.mem_append_right _ (List.mem_append_left _ h)
theorem wsG_a7 : wsG_7 = ([176, 177, 178, 180, 182, 183, 185, 187, 189, 190, 191, 192, 193, 194, 195, 196, 198, 200, 202, 204, 206, 208, 209, 210, 211] : List Nat).filterMap (fun i => tables_1_1[i]?) := by decide +kernel
theorem wsG_g7 : wsG_7.all goodWord = true := by decide +kernel
theorem wsG_i7 : ∀ w ∈ wsG_7, w ∈ lw_tbl ∧ goodWord w = true := by
  intro w hw
  refine ⟨?_, List.all_eq_true.mp wsG_g7 w hw⟩
  rw [wsG_a7] at hw
  obtain ⟨i, -, hi⟩ := List.mem_filterMap.mp hw
  have h := List.mem_of_getElem? hi
  exact List.mem_append_right _ (List.mem_append_left _ h)
theorem wsG_a8 : wsG_8 = ([212, 213, 214, 215, 216, 217, 218, 219, 220, 221, 222, 223, 224, 226, 227, 228, 229, 230, 231, 232, 233, 234, 235, 236, 237] : List Nat).filterMap (fun i => tables_1_1[i]?) := by decide +kernel
theorem wsG_g8 : wsG_8.all goodWord = true := by decide +kernel
theorem wsG_i8 : ∀ w ∈ wsG_8, w ∈ lw_tbl ∧ goodWord w = true := by
  intro w hw
  refine ⟨?_, List.all_eq_true.mp wsG_g8 w hw⟩
  rw [wsG_a8] at hw
  obtain ⟨i, -, hi⟩ := List.mem_filterMap.mp hw
  have h := List.mem_of_getElem? hi
  exact List.mem_append_right _ (List.mem_append_left _ h)
theorem wsG_a9 : wsG_9 = ([238, 239] : List Nat).filterMap (fun i => tables_1_1[i]?) := by decide +kernel
theorem wsG_g9 : wsG_9.all goodWord = true := by decide +kernel
theorem wsG_i9 : ∀ w ∈ wsG_9, w ∈ lw_tbl ∧ goodWord w = true := by
  intro w hw
  refine ⟨?_, List.all_eq_true.mp wsG_g9 w hw⟩
  rw [wsG_a9] at hw
  obtain ⟨i, -, hi⟩ := List.mem_filterMap.mp hw
  have h := List.mem_of_getElem? hi
  exact List.mem_append_right _ (List.mem_append_left _ h)
theorem wsG_a10 : wsG_10 = ([1, 2, 3, 4, 5, 6, 7, 8, 9, 10, 11, 12, 13, 14, 15, 16, 17, 18, 19, 20, 21, 22, 23, 24, 25] : List Nat).filterMap (fun i => tables_1_2[i]?) := by decide +kernel
theorem wsG_g10 : wsG_10.all goodWord = true := by decide +kernel
theorem wsG_i10 : ∀ w ∈ wsG_10, w ∈ lw_tbl ∧ goodWord w = true := by
  intro w hw
  refine ⟨?_, List.all_eq_true.mp wsG_g10 w hw⟩
  rw [wsG_a10] at hw
  obtain ⟨i, -, hi⟩ := List.mem_filterMap.mp hw
  have h := List.mem_of_getElem? hi
  exact List.mem_append_right _ (List.mem_append_right _ (List.mem_append_left _ h))
theorem wsG_a11 : wsG_11 = ([26, 27, 28, 29, 30, 31, 32, 33, 34, 35, 36, 37, 38, 39, 40, 41, 42, 43, 44, 45, 46, 47, 48, 50, 51] : List Nat).filterMap (fun i => tables_1_2[i]?) := by decide +kernel
theorem wsG_g11 : wsG_11.all goodWord = true := by decide +kernel
theorem wsG_i11 : ∀ w ∈ wsG_11, w ∈ lw_tbl ∧ goodWord w = true := by
  intro w hw
  refine ⟨?_, List.all_eq_true.mp wsG_g11 w hw⟩
  rw [wsG_a11] at hw
  obtain ⟨i, -, hi⟩ := List.mem_filterMap.mp hw
  have h := List.mem_of_getElem? hi
  exact List.mem_append_right _ (List.mem_append_right _ (List.mem_append_left _ h))
theorem wsG_a12 : wsG_12 = ([52, 53, 54, 55, 56, 57, 58, 59, 60, 62, 63, 64, 66, 67, 68, 69, 70, 71, 72, 74, 75, 76, 77, 78, 79] : List Nat).filterMap (fun i => tables_1_2[i]?) := by decide +kernel
theorem wsG_g12 : wsG_12.all goodWord = true := by decide +kernel
theorem wsG_i12 : ∀ w ∈ wsG_12, w ∈ lw_tbl ∧ goodWord w = true := by
  intro w hw
  refine ⟨?_, List.all_eq_true.mp wsG_g12 w hw⟩
  rw [wsG_a12] at hw
  obtain ⟨i, -, hi⟩ := List.mem_filterMap.mp hw
  have h := List.mem_of_getElem? hi
  exact List.mem_append_right _ (List.mem_append_right _ (List.mem_append_left _ h))
theorem wsG_a13 : wsG_13 = ([80, 81, 82, 83, 84, 85, 86, 87, 88, 89, 90, 98, 99, 100, 101, 102, 103, 104, 105, 106, 107, 108, 109, 110, 111] : List Nat).filterMap (fun i => tables_1_2[i]?) := by decide +kernel
theorem wsG_g13 : wsG_13.all goodWord = true := by decide +kernel
theorem wsG_i13 : ∀ w ∈ wsG_13, w ∈ lw_tbl ∧ goodWord w = true := by
  intro w hw
  refine ⟨?_, List.all_eq_true.mp wsG_g13 w hw⟩
  rw [wsG_a13] at hw
  obtain ⟨i, -, hi⟩ := List.mem_filterMap.mp hw
  have h := List.mem_of_getElem? hi
  exact List.mem_append_right _ (List.mem_append_right _ (List.mem_append_left _ h))
theorem wsG_a14 : wsG_14 = ([112, 113, 114, 115, 117, 119, 120, 122, 123, 124, 125, 127, 128, 129, 131, 132, 133, 134, 135, 136, 137, 138, 139, 140, 141] : List Nat).filterMap (fun i => tables_1_2[i]?) := by decide +kernel
theorem wsG_g14 : wsG_14.all goodWord = true := by decide +kernel
theorem wsG_i14 : ∀ w ∈ wsG_14, w ∈ lw_tbl ∧ goodWord w = true := by
  intro w hw
  refine ⟨?_, List.all_eq_true.mp wsG_g14 w hw⟩
  rw [wsG_a14] at hw
  obtain ⟨i, -, hi⟩ := List.mem_filterMap.mp hw
  have h := List.mem_of_getElem? hi
  exact List.mem_append_right _ (List.mem_append_right _ (List.mem_append_left _ h))
theorem wsG_a15 : wsG_15 = ([142, 144, 145, 146, 147, 152, 155, 156, 158, 159, 160, 161, 162, 163, 164, 165, 166, 168, 169, 172, 173, 174, 175, 176, 177] : List Nat).filterMap (fun i => tables_1_2[i]?) := by decide +kernel
theorem wsG_g15 : wsG_15.all goodWord = true := by decide +kernel
theorem wsG_i15 : ∀ w ∈ wsG_15, w ∈ lw_tbl ∧ goodWord w = true := by
  intro w hw
  refine ⟨?_, List.all_eq_true.mp wsG_g15 w hw⟩
  rw [wsG_a15] at hw
  obtain ⟨i, -, hi⟩ := List.mem_filterMap.mp hw
  have h := List.mem_of_getElem? hi
  exact List.mem_append_right _ (List.mem_append_right _ (List.mem_append_left _ h))
theorem wsG_a16 : wsG_16 = ([178, 179, 180, 181, 182, 183, 185, 187, 188, 190, 191, 192, 193, 194, 196, 197, 198, 199, 200, 201, 202, 204, 205, 206, 207] : List Nat).filterMap (fun i => tables_1_2[i]?) := by decide +kernel
theorem wsG_g16 : wsG_16.all goodWord = true := by decide +kernel
theorem wsG_i16 : ∀ w ∈ wsG_16, w ∈ lw_tbl ∧ goodWord w = true := by
  intro w hw
  refine ⟨?_, List.all_eq_true.mp wsG_g16 w hw⟩
  rw [wsG_a16] at hw
  obtain ⟨i, -, hi⟩ := List.mem_filterMap.mp hw
  have h := List.mem_of_getElem? hi
  exact List.mem_append_right _ (List.mem_append_right _ (List.mem_append_left _ h))
theorem wsG_a17 : wsG_17 = ([208, 209, 211, 212, 213, 214, 215, 216, 217, 219, 220, 221, 222, 223, 224, 225, 226, 227, 228, 229, 230, 232, 233, 234, 235] : List Nat).filterMap (fun i => tables_1_2[i]?) := by decide +kernel
theorem wsG_g17 : wsG_17.all goodWord = true := by decide +kernel
theorem wsG_i17 : ∀ w ∈ wsG_17, w ∈ lw_tbl ∧ goodWord w = true := by
  intro w hw
  refine ⟨?_, List.all_eq_true.mp wsG_g17 w hw⟩
  rw [wsG_a17] at hw
  obtain ⟨i, -, hi⟩ := List.mem_filterMap.mp hw
  have h := List.mem_of_getElem? hi
  exact List.mem_append_right _ (List.mem_append_right _ (List.mem_append_left _ h))
theorem wsG_a18 : wsG_18 = ([236, 237, 238, 239] : List Nat).filterMap (fun i => tables_1_2[i]?) := by decide +kernel
theorem wsG_g18 : wsG_18.all goodWord = true := by decide +kernel
theorem wsG_i18 : ∀ w ∈ wsG_18, w ∈ lw_tbl ∧ goodWord w = true := by
  intro w hw
  refine ⟨?_, List.all_eq_true.mp wsG_g18 w hw⟩
  rw [wsG_a18] at hw
  obtain ⟨i, -, hi⟩ := List.mem_filterMap.mp hw
  have h := List.mem_of_getElem? hi
  exact List.mem_append_right _ (List.mem_append_right _ (List.mem_append_left _ h))
theorem wsG_a19 : wsG_19 = ([0, 1, 2, 3, 4, 5, 6, 7, 9, 10, 11, 12, 13, 14, 15, 17, 18, 19, 20, 21, 22, 24, 25, 26, 27] : List Nat).filterMap (fun i => tables_1_3[i]?) := by decide +kernel
theorem wsG_g19 : wsG_19.all goodWord = true := by decide +kernel
theorem wsG_i19 : ∀ w ∈ wsG_19, w ∈ lw_tbl ∧ goodWord w = true := by
  intro w hw
  refine ⟨?_, List.all_eq_true.mp wsG_g19 w hw⟩
  rw [wsG_a19] at hw
  obtain ⟨i, -, hi⟩ := List.mem_filterMap.mp hw
  have h := List.mem_of_getElem? hi
  exact List.mem_append_right _ (List.mem_append_right _ (List.mem_append_right _ (List.mem_append_left _ h)))
theorem wsG_a20 : wsG_20 = ([28, 29, 30, 31, 32, 33, 35, 36, 38, 39, 40, 42, 43, 44, 45, 46, 47, 48, 49, 50, 51, 52, 53, 54, 55] : List Nat).filterMap (fun i => tables_1_3[i]?) := by decide +kernel
theorem wsG_g20 : wsG_20.all goodWord = true := by decide +kernel
theorem wsG_i20 : ∀ w ∈ wsG_20, w ∈ lw_tbl ∧ goodWord w = true := by
  intro w hw
  refine ⟨?_, List.all_eq_true.mp wsG_g20 w hw⟩
  rw [wsG_a20] at hw
  obtain ⟨i, -, hi⟩ := List.mem_filterMap.mp hw
  have h := List.mem_of_getElem? hi
  exact List.mem_append_right _ (List.mem_append_right _ (List.mem_append_right _ (List.mem_append_left _ h)))
theorem wsG_a21 : wsG_21 = ([56, 58, 59, 60, 61, 62, 63, 64, 66, 67, 68, 69, 70, 71, 72, 73, 74, 75, 76, 77, 78, 79, 80, 81, 82] : List Nat).filterMap (fun i => tables_1_3[i]?) := by decide +kernel
theorem wsG_g21 : wsG_21.all goodWord = true := by decide +kernel
theorem wsG_i21 : ∀ w ∈ wsG_21, w ∈ lw_tbl ∧ goodWord w = true := by
  intro w hw
  refine ⟨?_, List.all_eq_true.mp wsG_g21 w hw⟩
  rw [wsG_a21] at hw
  obtain ⟨i, -, hi⟩ := List.mem_filterMap.mp hw
  have h := List.mem_of_getElem? hi
  exact List.mem_append_right _ (List.mem_append_right _ (List.mem_append_right _ (List.mem_append_left _ h)))
theorem wsG_a22 : wsG_22 = ([83, 84, 85, 86, 87, 88, 89, 91, 92, 93, 94, 95, 96, 98, 99, 100, 101, 102, 103, 104, 105, 106, 107, 108, 109] : List Nat).filterMap (fun i => tables_1_3[i]?) := by decide +kernel
theorem wsG_g22 : wsG_22.all goodWord = true := by decide +kernel
theorem wsG_i22 : ∀ w ∈ wsG_22, w ∈ lw_tbl ∧ goodWord w = true := by
  intro w hw
  refine ⟨?_, List.all_eq_true.mp wsG_g22 w hw⟩
  rw [wsG_a22] at hw
  obtain ⟨i, -, hi⟩ := List.mem_filterMap.mp hw
  have h := List.mem_of_getElem? hi
  exact List.mem_append_right _ (List.mem_append_right _ (List.mem_append_right _ (List.mem_append_left _ h)))
theorem wsG_a23 : wsG_23 = ([110, 111, 112, 113, 114, 116, 117, 118, 119, 120, 121, 122, 123, 125, 126, 127, 128, 129, 130, 131, 132, 133, 134, 135, 136] : List Nat).filterMap (fun i => tables_1_3[i]?) := by decide +kernel
theorem wsG_g23 : wsG_23.all goodWord = true := by decide +kernel
theorem wsG_i23 : ∀ w ∈ wsG_23, w ∈ lw_tbl ∧ goodWord w = true := by
  intro w hw
  refine ⟨?_, List.all_eq_true.mp wsG_g23 w hw⟩
  rw [wsG_a23] at hw
  obtain ⟨i, -, hi⟩ := List.mem_filterMap.mp hw
  have h := List.mem_of_getElem? hi
  exact List.mem_append_right _ (List.mem_append_right _ (List.mem_append_right _ (List.mem_append_left _ h)))
theorem wsG_a24 : wsG_24 = ([137, 138, 139, 140, 141, 142, 143, 144, 145, 146, 147, 148, 149, 150, 151, 152, 153, 154, 155, 156, 157, 158, 159, 160, 161] : List Nat).filterMap (fun i => tables_1_3[i]?) := by decide +kernel
theorem wsG_g24 : wsG_24.all goodWord = true := by decide +kernel
theorem wsG_i24 : ∀ w ∈ wsG_24, w ∈ lw_tbl ∧ goodWord w = true := by
  intro w hw
  refine ⟨?_, List.all_eq_true.mp wsG_g24 w hw⟩
  rw [wsG_a24] at hw
  obtain ⟨i, -, hi⟩ := List.mem_filterMap.mp hw
  have h := List.mem_of_getElem? hi
  exact List.mem_append_right _ (List.mem_append_right _ (List.mem_append_right _ (List.mem_append_left _ h)))
theorem wsG_a25 : wsG_25 = ([162, 163, 164, 165, 166, 167, 168, 169, 170, 171, 172, 174, 176, 178, 180, 182, 184, 186, 188, 190, 192, 194, 196, 198, 200] : List Nat).filterMap (fun i => tables_1_3[i]?) := by decide +kernel
theorem wsG_g25 : wsG_25.all goodWord = true := by decide +kernel
theorem wsG_i25 : ∀ w ∈ wsG_25, w ∈ lw_tbl ∧ goodWord w = true := by
  intro w hw
  refine ⟨?_, List.all_eq_true.mp wsG_g25 w hw⟩
  rw [wsG_a25] at hw
  obtain ⟨i, -, hi⟩ := List.mem_filterMap.mp hw
  have h := List.mem_of_getElem? hi
  exact List.mem_append_right _ (List.mem_append_right _ (List.mem_append_right _ (List.mem_append_left _ h)))
theorem wsG_a26 : wsG_26 = ([202, 204, 206, 208, 210, 212, 214, 216, 218, 220, 222, 224, 226, 228, 230, 232, 234, 236, 238] : List Nat).filterMap (fun i => tables_1_3[i]?) := by decide +kernel
theorem wsG_g26 : wsG_26.all goodWord = true := by decide +kernel
theorem wsG_i26 : ∀ w ∈ wsG_26, w ∈ lw_tbl ∧ goodWord w = true := by
  intro w hw
  refine ⟨?_, List.all_eq_true.mp wsG_g26 w hw⟩
  rw [wsG_a26] at hw
  obtain ⟨i, -, hi⟩ := List.mem_filterMap.mp hw
  have h := List.mem_of_getElem? hi
  exact List.mem_append_right _ (List.mem_append_right _ (List.mem_append_right _ (List.mem_append_left _ h)))
theorem wsG_a27 : wsG_27 = ([0, 2, 4, 6, 8, 10, 12, 13, 14, 15, 16, 17, 18, 19, 20, 21, 22, 23, 24, 25, 27, 28, 29, 30, 31] : List Nat).filterMap (fun i => tables_1_4[i]?) := by decide +kernel
theorem wsG_g27 : wsG_27.all goodWord = true := by decide +kernel
theorem wsG_i27 : ∀ w ∈ wsG_27, w ∈ lw_tbl ∧ goodWord w = true := by
  intro w hw
  refine ⟨?_, List.all_eq_true.mp wsG_g27 w hw⟩
  rw [wsG_a27] at hw
  obtain ⟨i, -, hi⟩ := List.mem_filterMap.mp hw
  have h := List.mem_of_getElem? hi
  exact List.mem_append_right _ (List.mem_append_right _ (List.mem_append_right _ (List.mem_append_right _ (h))))
theorem wsG_a28 : wsG_28 = ([32, 33, 34, 35, 36, 37, 38, 39, 40, 41, 42, 43, 44, 45, 46, 47, 48, 49, 50, 51, 52, 54, 55, 56, 58] : List Nat).filterMap (fun i => tables_1_4[i]?) := by decide +kernel
theorem wsG_g28 : wsG_28.all goodWord = true := by decide +kernel
theorem wsG_i28 : ∀ w ∈ wsG_28, w ∈ lw_tbl ∧ goodWord w = true := by
  intro w hw
  refine ⟨?_, List.all_eq_true.mp wsG_g28 w hw⟩
  rw [wsG_a28] at hw
  obtain ⟨i, -, hi⟩ := List.mem_filterMap.mp hw
  have h := List.mem_of_getElem? hi
  exact List.mem_append_right _ (List.mem_append_right _ (List.mem_append_right _ (List.mem_append_right _ (h))))
theorem wsG_a29 : wsG_29 = ([59, 60, 61, 62, 63, 64, 66, 67, 68, 70, 71, 72, 74, 75, 76, 78, 79, 80, 82, 83, 84, 86, 87, 88, 90] : List Nat).filterMap (fun i => tables_1_4[i]?) := by decide +kernel
theorem wsG_g29 : wsG_29.all goodWord = true := by decide +kernel
theorem wsG_i29 : ∀ w ∈ wsG_29, w ∈ lw_tbl ∧ goodWord w = true := by
  intro w hw
  refine ⟨?_, List.all_eq_true.mp wsG_g29 w hw⟩
  rw [wsG_a29] at hw
  obtain ⟨i, -, hi⟩ := List.mem_filterMap.mp hw
  have h := List.mem_of_getElem? hi
  exact List.mem_append_right _ (List.mem_append_right _ (List.mem_append_right _ (List.mem_append_right _ (h))))
theorem wsG_a30 : wsG_30 = ([91, 92, 94, 95, 96, 98, 99, 100, 102, 103, 104, 106, 107, 108, 110, 111, 112, 114, 115, 116, 117, 118, 119, 120, 121] : List Nat).filterMap (fun i => tables_1_4[i]?) := by decide +kernel
theorem wsG_g30 : wsG_30.all goodWord = true := by decide +kernel
theorem wsG_i30 : ∀ w ∈ wsG_30, w ∈ lw_tbl ∧ goodWord w = true := by
  intro w hw
  refine ⟨?_, List.all_eq_true.mp wsG_g30 w hw⟩
  rw [wsG_a30] at hw
  obtain ⟨i, -, hi⟩ := List.mem_filterMap.mp hw
  have h := List.mem_of_getElem? hi
  exact List.mem_append_right _ (List.mem_append_right _ (List.mem_append_right _ (List.mem_append_right _ (h))))
theorem wsG_a31 : wsG_31 = ([122, 123, 124, 125, 126, 127, 128, 129, 130, 131, 132] : List Nat).filterMap (fun i => tables_1_4[i]?) := by decide +kernel
theorem wsG_g31 : wsG_31.all goodWord = true := by decide +kernel
theorem wsG_i31 : ∀ w ∈ wsG_31, w ∈ lw_tbl ∧ goodWord w = true := by
  intro w hw
  refine ⟨?_, List.all_eq_true.mp wsG_g31 w hw⟩
  rw [wsG_a31] at hw
  obtain ⟨i, -, hi⟩ := List.mem_filterMap.mp hw
  have h := List.mem_of_getElem? hi
  exact List.mem_append_right _ (List.mem_append_right _ (List.mem_append_right _ (List.mem_append_right _ (h))))
theorem wsG_all : ∀ w ∈ wsG, w ∈ lw_tbl ∧ goodWord w = true := by
  intro w hw
  rcases List.mem_append.mp hw with hw | hw
  · exact wsG_i0 w hw
  rcases List.mem_append.mp hw with hw | hw
  · exact wsG_i1 w hw
  rcases List.mem_append.mp hw with hw | hw
  · exact wsG_i2 w hw
  rcases List.mem_append.mp hw with hw | hw
  · exact wsG_i3 w hw
  rcases List.mem_append.mp hw with hw | hw
  · exact wsG_i4 w hw
  rcases List.mem_append.mp hw with hw | hw
  · exact wsG_i5 w hw
  rcases List.mem_append.mp hw with hw | hw
  · exact wsG_i6 w hw
  rcases List.mem_append.mp hw with hw | hw
  · exact wsG_i7 w hw
  rcases List.mem_append.mp hw with hw | hw
  · exact wsG_i8 w hw
  rcases List.mem_append.mp hw with hw | hw
  · exact wsG_i9 w hw
  rcases List.mem_append.mp hw with hw | hw
  · exact wsG_i10 w hw
  rcases List.mem_append.mp hw with hw | hw
  · exact wsG_i11 w hw
  rcases List.mem_append.mp hw with hw | hw
  · exact wsG_i12 w hw
  rcases List.mem_append.mp hw with hw | hw
  · exact wsG_i13 w hw
  rcases List.mem_append.mp hw with hw | hw
  · exact wsG_i14 w hw
  rcases List.mem_append.mp hw with hw | hw
  · exact wsG_i15 w hw
  rcases List.mem_append.mp hw with hw | hw
  · exact wsG_i16 w hw
  rcases List.mem_append.mp hw with hw | hw
  · exact wsG_i17 w hw
  rcases List.mem_append.mp hw with hw | hw
  · exact wsG_i18 w hw
  rcases List.mem_append.mp hw with hw | hw
  · exact wsG_i19 w hw
  rcases List.mem_append.mp hw with hw | hw
  · exact wsG_i20 w hw
  rcases List.mem_append.mp hw with hw | hw
  · exact wsG_i21 w hw
  rcases List.mem_append.mp hw with hw | hw
  · exact wsG_i22 w hw
  rcases List.mem_append.mp hw with hw | hw
  · exact wsG_i23 w hw
  rcases List.mem_append.mp hw with hw | hw
  · exact wsG_i24 w hw
  rcases List.mem_append.mp hw with hw | hw
  · exact wsG_i25 w hw
  rcases List.mem_append.mp hw with hw | hw
  · exact wsG_i26 w hw
  rcases List.mem_append.mp hw with hw | hw
  · exact wsG_i27 w hw
  rcases List.mem_append.mp hw with hw | hw
  · exact wsG_i28 w hw
  rcases List.mem_append.mp hw with hw | hw
  · exact wsG_i29 w hw
  rcases List.mem_append.mp hw with hw | hw
  · exact wsG_i30 w hw
  exact wsG_i31 w hw
theorem wsG_in : ∀ w ∈ wsG, w ∈ lw_tbl := fun w hw => (wsG_all w hw).1
theorem gdA : GoodIn wsG wsG := fun w hw => ⟨hw, good_of_word (wsG_all w hw).2⟩
theorem gdC {w : Cond} (h : w ∈ wsG) : GoodIn wsG (w :: wsG) := fun u hu => (List.mem_cons.mp hu).elim (fun e => e ▸ gdA _ h) (gdA u)
theorem gdV {own C : String} {index : Nat} {y : MethodName} {w : Cond} (h1 : Cond.methodLink own index y ∈ wsG) (h2 : Cond.instanceMethod y ∈ wsG) (h3 : Cond.selects C y y ∈ wsG) (h4 : Cond.initialized C ∈ wsG) (h5 : w ∈ wsG) : GoodIn wsG (wsV own index C y (w :: wsG)) := by
  intro u hu
  unfold wsV at hu
  rcases List.mem_append.mp hu with hu | hu
  · simp only [List.mem_cons, List.not_mem_nil, or_false] at hu
    rcases hu with rfl | rfl | rfl | rfl
    · exact gdA _ h1
    · exact gdA _ h2
    · exact gdA _ h3
    · exact gdA _ h4
  · exact gdC h5 u hu
theorem gdS {own : String} {index : Nat} {y : MethodName} {w : Cond} (h1 : Cond.methodLink own index y ∈ wsG) (h2 : Cond.static y ∈ wsG) (h4 : Cond.initialized own ∈ wsG) (h5 : w ∈ wsG) : GoodIn wsG (wsS own index y (w :: wsG)) := by
  intro u hu
  unfold wsS at hu
  rcases List.mem_append.mp hu with hu | hu
  · simp only [List.mem_cons, List.not_mem_nil, or_false] at hu
    rcases hu with rfl | rfl | rfl
    · exact gdA _ h1
    · exact gdA _ h2
    · exact gdA _ h4
  · exact gdC h5 u hu
def nwL : List Cond := [
  .methodLinkNest RX6 22 yX5_init "BuildDesk",
  .fieldLinkNest RX6 187 "BuildDesk$Step" "there" "Z" "BuildDesk",
  .fieldLinkNest RX2 46 "BuildDesk$Step" "duration" "I" "BuildDesk",
  .fieldLinkNest RX6 242 "BuildDesk$Step" "duration" "I" "BuildDesk",
  .methodLinkNest RX6 25 yX2_init "BuildDesk",
  .fieldLinkNest RX4 45 "BuildDesk$Plan" "waits" "[J" "BuildDesk",
  .fieldLinkNest RX6 258 "BuildDesk$Plan" "waits" "[J" "BuildDesk",
  .fieldLinkNest RX3 15 "BuildDesk$Plan" "lined" "I" "BuildDesk",
  .fieldLinkNest RX6 252 "BuildDesk$Plan" "rank" "[I" "BuildDesk",
  .fieldLinkNest RX4 19 "BuildDesk$Plan" "needed" "J" "BuildDesk",
  .fieldLinkNest RX6 194 "BuildDesk$Plan" "needed" "J" "BuildDesk",
  .methodLinkNest RX6 32 yX0_init "BuildDesk",
  .methodLinkNest RX6 39 yX3_init "BuildDesk",
  .fieldLinkNest RX6 133 "BuildDesk$Report" "needed" "I" "BuildDesk",
  .fieldLinkNest RX6 137 "BuildDesk$Report" "begun" "I" "BuildDesk",
  .fieldLinkNest RX6 140 "BuildDesk$Report" "busyTime" "I" "BuildDesk",
  .fieldLinkNest RX6 143 "BuildDesk$Report" "greatestRank" "I" "BuildDesk",
  .methodLinkNest RX6 46 yX4_init "BuildDesk",
  .fieldLinkNest RX6 167 "BuildDesk$Round" "members" "[I" "BuildDesk",
  .fieldLinkNest RX6 162 "BuildDesk$Round" "length" "I" "BuildDesk",
  .methodLinkNest RX5 54 yX6_bit "BuildDesk",
  .methodLinkNest RX2 28 yX6_bit "BuildDesk",
  .methodLinkNest RX2 36 yX6_isIn "BuildDesk",
  .methodLinkNest RX4 25 yX6_isIn "BuildDesk",
  .methodLinkNest RX4 37 yX6_bit "BuildDesk",
  .methodLinkNest RX0 29 yX6_isIn "BuildDesk",
  .methodLinkNest RX0 35 yX6_bit "BuildDesk"]
def nwLp : List Nat := [77, 82, 86, 87, 129, 134, 135, 137, 140, 141, 143, 158, 180, 185, 187, 189, 191, 206, 211, 213, 439, 442, 443, 456, 461, 535, 546]
theorem nwL_at : nwL = nwLp.filterMap (fun i => lw_tbl[i]?) := by decide +kernel
def aoL : List String := ["BuildDesk$Step"]
/-! the words on private members of nest mates, and on arrays of objects: carried through every contract -/
def nwS (U : State) : Prop := (∀ w ∈ nwL, va_Nw w U) ∧ ∀ C ∈ aoL, va_AO C U
def nwK (w : Cond) : Bool := match w with
  | .fieldLinkNest _ _ _ _ _ _ => true
  | .methodLinkNest _ _ _ _ => true
  | _ => false
theorem nwL_t : ∀ w ∈ nwL, w.onTables = true := by decide +kernel
theorem nwL_k : ∀ w ∈ nwL, nwK w = true := by decide +kernel
theorem nwS_same {u U : State} (h : u.vm = U.vm) (hN : nwS u) : nwS U := ⟨fun w hw => va_Nw.same (nwL_t w hw) h (hN.1 w hw), fun C hC => va_AO.moved (by rw [h]; exact Vm.Alike.refl _) (hN.2 C hC)⟩
theorem nwS_warm {s U : State} (hW : s.WarmedH U.vm) (hN : nwS s) : nwS U := by
  refine ⟨fun w hw => ?_, fun C hC => va_AO.moved hW.alike (hN.2 C hC)⟩
  have hk := nwL_k w hw
  have h := hN.1 w hw
  unfold nwK at hk
  split at hk
  · exact va_Nw.warmF hW h
  · exact va_Nw.warmM hW h
  · cases hk
