section
-- ===== PART A: goes FIRST, ahead of the names: the tables' words, and 'selects' of the private methods out of them =====
/-- a private method of a class that the tables say can be made, by its rows of tables_1 -/
def lw_okq (q : MethodName × Nat) : Prop := (q.1.cls ≠ "java/lang/invoke/MethodHandle" ∧ q.1.cls ≠ "java/lang/invoke/VarHandle") ∧ Cond.instantiable q.1.cls q.2 ∈ tables_1 ∧ Cond.privateMethod q.1 ∈ tables_1 ∧ Cond.instanceMethod q.1 ∈ tables_1
theorem lw_p0 : lw_okq (⟨"BuildDesk", "isThere", "(I)Z"⟩, 6) := ⟨⟨by decide +kernel, by decide +kernel⟩, List.mem_of_getElem? (i := 17) (by decide +kernel), List.mem_of_getElem? (i := 225) (by decide +kernel), List.mem_of_getElem? (i := 226) (by decide +kernel)⟩
theorem lw_p1 : lw_okq (⟨"BuildDesk", "isSource", "(I)Z"⟩, 6) := ⟨⟨by decide +kernel, by decide +kernel⟩, List.mem_of_getElem? (i := 17) (by decide +kernel), List.mem_of_getElem? (i := 240) (by decide +kernel), List.mem_of_getElem? (i := 241) (by decide +kernel)⟩
theorem lw_p2 : lw_okq (⟨"BuildDesk", "countSteps", "()I"⟩, 6) := ⟨⟨by decide +kernel, by decide +kernel⟩, List.mem_of_getElem? (i := 17) (by decide +kernel), List.mem_of_getElem? (i := 289) (by decide +kernel), List.mem_of_getElem? (i := 290) (by decide +kernel)⟩
theorem lw_p3 : lw_okq (⟨"BuildDesk$Step", "isToldOtherwise", "()Z"⟩, 14) := ⟨⟨by decide +kernel, by decide +kernel⟩, List.mem_of_getElem? (i := 44) (by decide +kernel), List.mem_of_getElem? (i := 301) (by decide +kernel), List.mem_of_getElem? (i := 302) (by decide +kernel)⟩
theorem lw_p4 : lw_okq (⟨"BuildDesk$Step", "outputLacks", "(LBuildDesk$FileTable;)Z"⟩, 14) := ⟨⟨by decide +kernel, by decide +kernel⟩, List.mem_of_getElem? (i := 44) (by decide +kernel), List.mem_of_getElem? (i := 305) (by decide +kernel), List.mem_of_getElem? (i := 306) (by decide +kernel)⟩
theorem lw_p5 : lw_okq (⟨"BuildDesk$Step", "inputDiffers", "(LBuildDesk$FileTable;)Z"⟩, 14) := ⟨⟨by decide +kernel, by decide +kernel⟩, List.mem_of_getElem? (i := 44) (by decide +kernel), List.mem_of_getElem? (i := 313) (by decide +kernel), List.mem_of_getElem? (i := 314) (by decide +kernel)⟩
theorem lw_p6 : lw_okq (⟨"java/lang/Throwable", "fillInStackTrace", "(I)Ljava/lang/Throwable;"⟩, 6) := ⟨⟨by decide +kernel, by decide +kernel⟩, List.mem_of_getElem? (i := 368) (by decide +kernel), List.mem_of_getElem? (i := 366) (by decide +kernel), List.mem_of_getElem? (i := 367) (by decide +kernel)⟩
theorem lw_p7 : lw_okq (⟨"BuildDesk$Round", "measure", "(ILBuildDesk$Plan;)I"⟩, 3) := ⟨⟨by decide +kernel, by decide +kernel⟩, List.mem_of_getElem? (i := 173) (by decide +kernel), List.mem_of_getElem? (i := 426) (by decide +kernel), List.mem_of_getElem? (i := 427) (by decide +kernel)⟩
theorem lw_p8 : lw_okq (⟨"BuildDesk$Round", "walk", "(IILBuildDesk$Plan;)V"⟩, 3) := ⟨⟨by decide +kernel, by decide +kernel⟩, List.mem_of_getElem? (i := 173) (by decide +kernel), List.mem_of_getElem? (i := 435) (by decide +kernel), List.mem_of_getElem? (i := 436) (by decide +kernel)⟩
theorem lw_p9 : lw_okq (⟨"BuildDesk", "sourceLacks", "(I)Z"⟩, 6) := ⟨⟨by decide +kernel, by decide +kernel⟩, List.mem_of_getElem? (i := 17) (by decide +kernel), List.mem_of_getElem? (i := 458) (by decide +kernel), List.mem_of_getElem? (i := 459) (by decide +kernel)⟩
theorem lw_p10 : lw_okq (⟨"BuildDesk", "makeNeeded", "(I)I"⟩, 6) := ⟨⟨by decide +kernel, by decide +kernel⟩, List.mem_of_getElem? (i := 17) (by decide +kernel), List.mem_of_getElem? (i := 488) (by decide +kernel), List.mem_of_getElem? (i := 489) (by decide +kernel)⟩
theorem lw_p11 : lw_okq (⟨"BuildDesk", "endSteps", "(I)V"⟩, 6) := ⟨⟨by decide +kernel, by decide +kernel⟩, List.mem_of_getElem? (i := 17) (by decide +kernel), List.mem_of_getElem? (i := 496) (by decide +kernel), List.mem_of_getElem? (i := 497) (by decide +kernel)⟩
theorem lw_p12 : lw_okq (⟨"BuildDesk", "passOverSteps", "()V"⟩, 6) := ⟨⟨by decide +kernel, by decide +kernel⟩, List.mem_of_getElem? (i := 17) (by decide +kernel), List.mem_of_getElem? (i := 517) (by decide +kernel), List.mem_of_getElem? (i := 518) (by decide +kernel)⟩
theorem lw_p13 : lw_okq (⟨"BuildDesk", "isReady", "(I)Z"⟩, 6) := ⟨⟨by decide +kernel, by decide +kernel⟩, List.mem_of_getElem? (i := 17) (by decide +kernel), List.mem_of_getElem? (i := 521) (by decide +kernel), List.mem_of_getElem? (i := 522) (by decide +kernel)⟩
theorem lw_p14 : lw_okq (⟨"BuildDesk", "beginSteps", "(II)V"⟩, 6) := ⟨⟨by decide +kernel, by decide +kernel⟩, List.mem_of_getElem? (i := 17) (by decide +kernel), List.mem_of_getElem? (i := 537) (by decide +kernel), List.mem_of_getElem? (i := 538) (by decide +kernel)⟩
theorem lw_p15 : lw_okq (⟨"BuildDesk", "nextToBegin", "()I"⟩, 6) := ⟨⟨by decide +kernel, by decide +kernel⟩, List.mem_of_getElem? (i := 17) (by decide +kernel), List.mem_of_getElem? (i := 545) (by decide +kernel), List.mem_of_getElem? (i := 546) (by decide +kernel)⟩
def lw_privs_1 : List (MethodName × Nat) := [(⟨"BuildDesk", "isThere", "(I)Z"⟩, 6), (⟨"BuildDesk", "isSource", "(I)Z"⟩, 6), (⟨"BuildDesk", "countSteps", "()I"⟩, 6), (⟨"BuildDesk$Step", "isToldOtherwise", "()Z"⟩, 14), (⟨"BuildDesk$Step", "outputLacks", "(LBuildDesk$FileTable;)Z"⟩, 14), (⟨"BuildDesk$Step", "inputDiffers", "(LBuildDesk$FileTable;)Z"⟩, 14), (⟨"java/lang/Throwable", "fillInStackTrace", "(I)Ljava/lang/Throwable;"⟩, 6), (⟨"BuildDesk$Round", "measure", "(ILBuildDesk$Plan;)I"⟩, 3), (⟨"BuildDesk$Round", "walk", "(IILBuildDesk$Plan;)V"⟩, 3), (⟨"BuildDesk", "sourceLacks", "(I)Z"⟩, 6), (⟨"BuildDesk", "makeNeeded", "(I)I"⟩, 6), (⟨"BuildDesk", "endSteps", "(I)V"⟩, 6), (⟨"BuildDesk", "passOverSteps", "()V"⟩, 6), (⟨"BuildDesk", "isReady", "(I)Z"⟩, 6), (⟨"BuildDesk", "beginSteps", "(II)V"⟩, 6), (⟨"BuildDesk", "nextToBegin", "()I"⟩, 6)]
theorem lw_r1 : ∀ q ∈ lw_privs_1, lw_okq q := List.forall_mem_cons.mpr ⟨lw_p0, List.forall_mem_cons.mpr ⟨lw_p1, List.forall_mem_cons.mpr ⟨lw_p2, List.forall_mem_cons.mpr ⟨lw_p3, List.forall_mem_cons.mpr ⟨lw_p4, List.forall_mem_cons.mpr ⟨lw_p5, List.forall_mem_cons.mpr ⟨lw_p6, List.forall_mem_cons.mpr ⟨lw_p7, List.forall_mem_cons.mpr ⟨lw_p8, List.forall_mem_cons.mpr ⟨lw_p9, List.forall_mem_cons.mpr ⟨lw_p10, List.forall_mem_cons.mpr ⟨lw_p11, List.forall_mem_cons.mpr ⟨lw_p12, List.forall_mem_cons.mpr ⟨lw_p13, List.forall_mem_cons.mpr ⟨lw_p14, List.forall_mem_cons.mpr ⟨lw_p15, fun _ h => absurd h List.not_mem_nil⟩⟩⟩⟩⟩⟩⟩⟩⟩⟩⟩⟩⟩⟩⟩⟩
theorem lw_p16 : lw_okq (⟨"BuildDeskModel", "isStep", "(I)Z"⟩, 40) := ⟨⟨by decide +kernel, by decide +kernel⟩, List.mem_of_getElem? (i := 607) (by decide +kernel), List.mem_of_getElem? (i := 746) (by decide +kernel), List.mem_of_getElem? (i := 747) (by decide +kernel)⟩
theorem lw_p17 : lw_okq (⟨"BuildDeskModel", "why", "(I)I"⟩, 40) := ⟨⟨by decide +kernel, by decide +kernel⟩, List.mem_of_getElem? (i := 607) (by decide +kernel), List.mem_of_getElem? (i := 773) (by decide +kernel), List.mem_of_getElem? (i := 774) (by decide +kernel)⟩
theorem lw_p18 : lw_okq (⟨"BuildDeskModel", "isOther", "(I)Z"⟩, 40) := ⟨⟨by decide +kernel, by decide +kernel⟩, List.mem_of_getElem? (i := 607) (by decide +kernel), List.mem_of_getElem? (i := 777) (by decide +kernel), List.mem_of_getElem? (i := 778) (by decide +kernel)⟩
theorem lw_p19 : lw_okq (⟨"BuildDeskModel", "raise", "(I)I"⟩, 40) := ⟨⟨by decide +kernel, by decide +kernel⟩, List.mem_of_getElem? (i := 607) (by decide +kernel), List.mem_of_getElem? (i := 785) (by decide +kernel), List.mem_of_getElem? (i := 786) (by decide +kernel)⟩
theorem lw_p20 : lw_okq (⟨"BuildDeskModel", "spread", "(I)V"⟩, 40) := ⟨⟨by decide +kernel, by decide +kernel⟩, List.mem_of_getElem? (i := 607) (by decide +kernel), List.mem_of_getElem? (i := 789) (by decide +kernel), List.mem_of_getElem? (i := 790) (by decide +kernel)⟩
theorem lw_p21 : lw_okq (⟨"BuildDeskModel", "takes", "(II)Z"⟩, 40) := ⟨⟨by decide +kernel, by decide +kernel⟩, List.mem_of_getElem? (i := 607) (by decide +kernel), List.mem_of_getElem? (i := 793) (by decide +kernel), List.mem_of_getElem? (i := 794) (by decide +kernel)⟩
theorem lw_p22 : lw_okq (⟨"BuildDeskModel", "isRound", "()Z"⟩, 40) := ⟨⟨by decide +kernel, by decide +kernel⟩, List.mem_of_getElem? (i := 607) (by decide +kernel), List.mem_of_getElem? (i := 797) (by decide +kernel), List.mem_of_getElem? (i := 798) (by decide +kernel)⟩
theorem lw_p23 : lw_okq (⟨"BuildDeskModel", "measure", "(I)V"⟩, 40) := ⟨⟨by decide +kernel, by decide +kernel⟩, List.mem_of_getElem? (i := 607) (by decide +kernel), List.mem_of_getElem? (i := 801) (by decide +kernel), List.mem_of_getElem? (i := 802) (by decide +kernel)⟩
theorem lw_p24 : lw_okq (⟨"BuildDeskModel", "nearest", "(I)I"⟩, 40) := ⟨⟨by decide +kernel, by decide +kernel⟩, List.mem_of_getElem? (i := 607) (by decide +kernel), List.mem_of_getElem? (i := 805) (by decide +kernel), List.mem_of_getElem? (i := 806) (by decide +kernel)⟩
theorem lw_p25 : lw_okq (⟨"BuildDeskModel", "isLacking", "(I)Z"⟩, 40) := ⟨⟨by decide +kernel, by decide +kernel⟩, List.mem_of_getElem? (i := 607) (by decide +kernel), List.mem_of_getElem? (i := 809) (by decide +kernel), List.mem_of_getElem? (i := 810) (by decide +kernel)⟩
theorem lw_p26 : lw_okq (⟨"BuildDeskModel", "order", "()V"⟩, 40) := ⟨⟨by decide +kernel, by decide +kernel⟩, List.mem_of_getElem? (i := 607) (by decide +kernel), List.mem_of_getElem? (i := 813) (by decide +kernel), List.mem_of_getElem? (i := 814) (by decide +kernel)⟩
theorem lw_p27 : lw_okq (⟨"BuildDeskModel", "end", "(I)V"⟩, 40) := ⟨⟨by decide +kernel, by decide +kernel⟩, List.mem_of_getElem? (i := 607) (by decide +kernel), List.mem_of_getElem? (i := 817) (by decide +kernel), List.mem_of_getElem? (i := 818) (by decide +kernel)⟩
theorem lw_p28 : lw_okq (⟨"BuildDeskModel", "pass", "()V"⟩, 40) := ⟨⟨by decide +kernel, by decide +kernel⟩, List.mem_of_getElem? (i := 607) (by decide +kernel), List.mem_of_getElem? (i := 821) (by decide +kernel), List.mem_of_getElem? (i := 822) (by decide +kernel)⟩
theorem lw_p29 : lw_okq (⟨"BuildDeskModel", "isReady", "(I)Z"⟩, 40) := ⟨⟨by decide +kernel, by decide +kernel⟩, List.mem_of_getElem? (i := 607) (by decide +kernel), List.mem_of_getElem? (i := 825) (by decide +kernel), List.mem_of_getElem? (i := 826) (by decide +kernel)⟩
theorem lw_p30 : lw_okq (⟨"BuildDeskModel", "hire", "(I)V"⟩, 40) := ⟨⟨by decide +kernel, by decide +kernel⟩, List.mem_of_getElem? (i := 607) (by decide +kernel), List.mem_of_getElem? (i := 829) (by decide +kernel), List.mem_of_getElem? (i := 830) (by decide +kernel)⟩
theorem lw_p31 : lw_okq (⟨"BuildDeskModel", "start", "(II)V"⟩, 40) := ⟨⟨by decide +kernel, by decide +kernel⟩, List.mem_of_getElem? (i := 607) (by decide +kernel), List.mem_of_getElem? (i := 833) (by decide +kernel), List.mem_of_getElem? (i := 834) (by decide +kernel)⟩
def lw_privs_2 : List (MethodName × Nat) := [(⟨"BuildDeskModel", "isStep", "(I)Z"⟩, 40), (⟨"BuildDeskModel", "why", "(I)I"⟩, 40), (⟨"BuildDeskModel", "isOther", "(I)Z"⟩, 40), (⟨"BuildDeskModel", "raise", "(I)I"⟩, 40), (⟨"BuildDeskModel", "spread", "(I)V"⟩, 40), (⟨"BuildDeskModel", "takes", "(II)Z"⟩, 40), (⟨"BuildDeskModel", "isRound", "()Z"⟩, 40), (⟨"BuildDeskModel", "measure", "(I)V"⟩, 40), (⟨"BuildDeskModel", "nearest", "(I)I"⟩, 40), (⟨"BuildDeskModel", "isLacking", "(I)Z"⟩, 40), (⟨"BuildDeskModel", "order", "()V"⟩, 40), (⟨"BuildDeskModel", "end", "(I)V"⟩, 40), (⟨"BuildDeskModel", "pass", "()V"⟩, 40), (⟨"BuildDeskModel", "isReady", "(I)Z"⟩, 40), (⟨"BuildDeskModel", "hire", "(I)V"⟩, 40), (⟨"BuildDeskModel", "start", "(II)V"⟩, 40)]
theorem lw_r2 : ∀ q ∈ lw_privs_2, lw_okq q := List.forall_mem_cons.mpr ⟨lw_p16, List.forall_mem_cons.mpr ⟨lw_p17, List.forall_mem_cons.mpr ⟨lw_p18, List.forall_mem_cons.mpr ⟨lw_p19, List.forall_mem_cons.mpr ⟨lw_p20, List.forall_mem_cons.mpr ⟨lw_p21, List.forall_mem_cons.mpr ⟨lw_p22, List.forall_mem_cons.mpr ⟨lw_p23, List.forall_mem_cons.mpr ⟨lw_p24, List.forall_mem_cons.mpr ⟨lw_p25, List.forall_mem_cons.mpr ⟨lw_p26, List.forall_mem_cons.mpr ⟨lw_p27, List.forall_mem_cons.mpr ⟨lw_p28, List.forall_mem_cons.mpr ⟨lw_p29, List.forall_mem_cons.mpr ⟨lw_p30, List.forall_mem_cons.mpr ⟨lw_p31, fun _ h => absurd h List.not_mem_nil⟩⟩⟩⟩⟩⟩⟩⟩⟩⟩⟩⟩⟩⟩⟩⟩
def lw_privs : List (MethodName × Nat) := lw_privs_1 ++ (lw_privs_2)
def lw_tbl : List Cond := k2_sels lw_privs ++ tables_1
theorem lw_privs_ok : ∀ q ∈ lw_privs, lw_okq q := by
  show ∀ q ∈ lw_privs_1 ++ (lw_privs_2), lw_okq q
  exact List.forall_mem_append.mpr ⟨lw_r1, lw_r2⟩
end
section
def RX0 : String := "BuildDesk$Crew"
def TX0 : u_T := fun k => match k with
  | 0 => ("BuildDesk$Crew", "busy", "[Z", true)
  | 1 => ("BuildDesk$Crew", "workerOf", "[I", true)
  | 2 => ("BuildDesk$Crew", "endOf", "[I", true)
  | 3 => ("BuildDesk$Crew", "running", "J", false)
  | _ => ("BuildDesk$Crew", "done", "J", false)
def tyX0 : Nat → FieldType := fun k => match k with
  | 0 => .array .boolean
  | 1 => .array .int
  | 2 => .array .int
  | 3 => .long
  | _ => .long
theorem nmX0 : ∀ a, a < 5 → ∀ b, b < 5 → a ≠ b → (TX0 a).2.1 ≠ (TX0 b).2.1 := by decide +kernel
theorem tyX0_ok : ∀ k, k < 5 → parseFieldDescriptor (TX0 k).2.2.1 = some (tyX0 k) := by decide +kernel
def RX1 : String := "BuildDesk$FileTable"
def TX1 : u_T := fun k => match k with
  | 0 => ("BuildDesk$FileTable", "contents", "[I", true)
  | 1 => ("BuildDesk$FileTable", "filled", "[Z", true)
  | _ => ("BuildDesk$FileTable", "makers", "[I", true)
def tyX1 : Nat → FieldType := fun k => match k with
  | 0 => .array .int
  | 1 => .array .boolean
  | _ => .array .int
theorem nmX1 : ∀ a, a < 3 → ∀ b, b < 3 → a ≠ b → (TX1 a).2.1 ≠ (TX1 b).2.1 := by decide +kernel
theorem tyX1_ok : ∀ k, k < 3 → parseFieldDescriptor (TX1 k).2.2.1 = some (tyX1 k) := by decide +kernel
def RX2 : String := "BuildDesk$Plan"
def TX2 : u_T := fun k => match k with
  | 0 => ("BuildDesk$Plan", "waits", "[J", true)
  | 1 => ("BuildDesk$Plan", "line", "[I", true)
  | 2 => ("BuildDesk$Plan", "lined", "I", false)
  | 3 => ("BuildDesk$Plan", "rank", "[I", true)
  | _ => ("BuildDesk$Plan", "needed", "J", false)
def tyX2 : Nat → FieldType := fun k => match k with
  | 0 => .array .long
  | 1 => .array .int
  | 2 => .int
  | 3 => .array .int
  | _ => .long
theorem nmX2 : ∀ a, a < 5 → ∀ b, b < 5 → a ≠ b → (TX2 a).2.1 ≠ (TX2 b).2.1 := by decide +kernel
theorem tyX2_ok : ∀ k, k < 5 → parseFieldDescriptor (TX2 k).2.2.1 = some (tyX2 k) := by decide +kernel
def RX3 : String := "BuildDesk$Report"
def TX3 : u_T := fun k => match k with
  | 0 => ("BuildDesk$Report", "needed", "I", false)
  | 1 => ("BuildDesk$Report", "begun", "I", false)
  | 2 => ("BuildDesk$Report", "busyTime", "I", false)
  | 3 => ("BuildDesk$Report", "greatestRank", "I", false)
  | _ => ("BuildDesk$Report", "cells", "[I", true)
def tyX3 : Nat → FieldType := fun k => match k with
  | 0 => .int
  | 1 => .int
  | 2 => .int
  | 3 => .int
  | _ => .array .int
theorem nmX3 : ∀ a, a < 5 → ∀ b, b < 5 → a ≠ b → (TX3 a).2.1 ≠ (TX3 b).2.1 := by decide +kernel
theorem tyX3_ok : ∀ k, k < 5 → parseFieldDescriptor (TX3 k).2.2.1 = some (tyX3 k) := by decide +kernel
def RX4 : String := "BuildDesk$Round"
def TX4 : u_T := fun k => match k with
  | 0 => ("BuildDesk$Round", "members", "[I", true)
  | 1 => ("BuildDesk$Round", "length", "I", false)
  | _ => ("BuildDesk$Round", "near", "[J", true)
def tyX4 : Nat → FieldType := fun k => match k with
  | 0 => .array .int
  | 1 => .int
  | _ => .array .long
theorem nmX4 : ∀ a, a < 3 → ∀ b, b < 3 → a ≠ b → (TX4 a).2.1 ≠ (TX4 b).2.1 := by decide +kernel
theorem tyX4_ok : ∀ k, k < 3 → parseFieldDescriptor (TX4 k).2.2.1 = some (tyX4 k) := by decide +kernel
def RX5 : String := "BuildDesk$Step"
def TX5 : u_T := fun k => match k with
  | 0 => ("BuildDesk$Step", "there", "Z", false)
  | 1 => ("BuildDesk$Step", "recipe", "I", false)
  | 2 => ("BuildDesk$Step", "mask", "I", false)
  | 3 => ("BuildDesk$Step", "duration", "I", false)
  | 4 => ("BuildDesk$Step", "inputs", "[I", true)
  | 5 => ("BuildDesk$Step", "inputCount", "I", false)
  | 6 => ("BuildDesk$Step", "outputs", "[I", true)
  | 7 => ("BuildDesk$Step", "outputCount", "I", false)
  | 8 => ("BuildDesk$Step", "made", "Z", false)
  | 9 => ("BuildDesk$Step", "madeRecipe", "I", false)
  | 10 => ("BuildDesk$Step", "madeMask", "I", false)
  | 11 => ("BuildDesk$Step", "madeInputCount", "I", false)
  | 12 => ("BuildDesk$Step", "madeOutputCount", "I", false)
  | _ => ("BuildDesk$Step", "madeContents", "[I", true)
def tyX5 : Nat → FieldType := fun k => match k with
  | 0 => .boolean
  | 1 => .int
  | 2 => .int
  | 3 => .int
  | 4 => .array .int
  | 5 => .int
  | 6 => .array .int
  | 7 => .int
  | 8 => .boolean
  | 9 => .int
  | 10 => .int
  | 11 => .int
  | 12 => .int
  | _ => .array .int
theorem nmX5 : ∀ a, a < 14 → ∀ b, b < 14 → a ≠ b → (TX5 a).2.1 ≠ (TX5 b).2.1 := by decide +kernel
theorem tyX5_ok : ∀ k, k < 14 → parseFieldDescriptor (TX5 k).2.2.1 = some (tyX5 k) := by decide +kernel
def RX6 : String := "BuildDesk"
def TX6 : u_T := fun k => match k with
  | 0 => ("BuildDesk", "files", "LBuildDesk$FileTable;", true)
  | 1 => ("BuildDesk", "steps", "[LBuildDesk$Step;", true)
  | 2 => ("BuildDesk", "plan", "LBuildDesk$Plan;", true)
  | 3 => ("BuildDesk", "crew", "LBuildDesk$Crew;", true)
  | 4 => ("BuildDesk", "report", "LBuildDesk$Report;", true)
  | _ => ("BuildDesk", "round", "LBuildDesk$Round;", true)
def tyX6 : Nat → FieldType := fun k => match k with
  | 0 => .object "BuildDesk$FileTable"
  | 1 => .array (.object "BuildDesk$Step")
  | 2 => .object "BuildDesk$Plan"
  | 3 => .object "BuildDesk$Crew"
  | 4 => .object "BuildDesk$Report"
  | _ => .object "BuildDesk$Round"
theorem nmX6 : ∀ a, a < 6 → ∀ b, b < 6 → a ≠ b → (TX6 a).2.1 ≠ (TX6 b).2.1 := by decide +kernel
theorem tyX6_ok : ∀ k, k < 6 → parseFieldDescriptor (TX6 k).2.2.1 = some (tyX6 k) := by decide +kernel
def RX7 : String := "BuildDeskModel"
def TX7 : u_T := fun k => match k with
  | 0 => ("BuildDeskModel", "thrown", "I", false)
  | 1 => ("BuildDeskModel", "has", "[Z", true)
  | 2 => ("BuildDeskModel", "contents", "[I", true)
  | 3 => ("BuildDeskModel", "maker", "[I", true)
  | 4 => ("BuildDeskModel", "there", "[Z", true)
  | 5 => ("BuildDeskModel", "recipe", "[I", true)
  | 6 => ("BuildDeskModel", "mask", "[I", true)
  | 7 => ("BuildDeskModel", "duration", "[I", true)
  | 8 => ("BuildDeskModel", "inputs", "[I", true)
  | 9 => ("BuildDeskModel", "outputs", "[I", true)
  | 10 => ("BuildDeskModel", "ins", "[I", true)
  | 11 => ("BuildDeskModel", "outs", "[I", true)
  | 12 => ("BuildDeskModel", "made", "[Z", true)
  | 13 => ("BuildDeskModel", "oldRecipe", "[I", true)
  | 14 => ("BuildDeskModel", "oldMask", "[I", true)
  | 15 => ("BuildDeskModel", "oldInputs", "[I", true)
  | 16 => ("BuildDeskModel", "oldOutputs", "[I", true)
  | 17 => ("BuildDeskModel", "oldIns", "[I", true)
  | 18 => ("BuildDeskModel", "oldOuts", "[I", true)
  | 19 => ("BuildDeskModel", "oldContents", "[I", true)
  | 20 => ("BuildDeskModel", "needed", "[Z", true)
  | 21 => ("BuildDeskModel", "rank", "[I", true)
  | 22 => ("BuildDeskModel", "state", "[I", true)
  | 23 => ("BuildDeskModel", "ends", "[I", true)
  | 24 => ("BuildDeskModel", "mixed", "[I", true)
  | 25 => ("BuildDeskModel", "worker", "[I", true)
  | 26 => ("BuildDeskModel", "busy", "[Z", true)
  | 27 => ("BuildDeskModel", "now", "I", false)
  | 28 => ("BuildDeskModel", "told", "I", false)
  | 29 => ("BuildDeskModel", "neededMany", "I", false)
  | 30 => ("BuildDeskModel", "busyTime", "I", false)
  | 31 => ("BuildDeskModel", "greatest", "I", false)
  | 32 => ("BuildDeskModel", "toldStep", "[I", true)
  | 33 => ("BuildDeskModel", "toldBegin", "[I", true)
  | 34 => ("BuildDeskModel", "toldEnd", "[I", true)
  | 35 => ("BuildDeskModel", "toldWorker", "[I", true)
  | 36 => ("BuildDeskModel", "toldReason", "[I", true)
  | 37 => ("BuildDeskModel", "roundLong", "I", false)
  | 38 => ("BuildDeskModel", "round", "[I", true)
  | _ => ("BuildDeskModel", "far", "[I", true)
def tyX7 : Nat → FieldType := fun k => match k with
  | 0 => .int
  | 1 => .array .boolean
  | 2 => .array .int
  | 3 => .array .int
  | 4 => .array .boolean
  | 5 => .array .int
  | 6 => .array .int
  | 7 => .array .int
  | 8 => .array .int
  | 9 => .array .int
  | 10 => .array .int
  | 11 => .array .int
  | 12 => .array .boolean
  | 13 => .array .int
  | 14 => .array .int
  | 15 => .array .int
  | 16 => .array .int
  | 17 => .array .int
  | 18 => .array .int
  | 19 => .array .int
  | 20 => .array .boolean
  | 21 => .array .int
  | 22 => .array .int
  | 23 => .array .int
  | 24 => .array .int
  | 25 => .array .int
  | 26 => .array .boolean
  | 27 => .int
  | 28 => .int
  | 29 => .int
  | 30 => .int
  | 31 => .int
  | 32 => .array .int
  | 33 => .array .int
  | 34 => .array .int
  | 35 => .array .int
  | 36 => .array .int
  | 37 => .int
  | 38 => .array .int
  | _ => .array .int
theorem nmX7 : ∀ a, a < 40 → ∀ b, b < 40 → a ≠ b → (TX7 a).2.1 ≠ (TX7 b).2.1 := by decide +kernel
theorem tyX7_ok : ∀ k, k < 40 → parseFieldDescriptor (TX7 k).2.2.1 = some (tyX7 k) := by decide +kernel
def RL : String := "BuildDeskLaw"
abbrev cX0_init : ByteArray := prog_2_method_1_code
def yX0_init : MethodName := ⟨RX0, "<init>", "()V"⟩
abbrev cX0_comeIn : ByteArray := prog_2_method_2_code
def yX0_comeIn : MethodName := ⟨RX0, "comeIn", "()V"⟩
abbrev cX0_isBusy : ByteArray := prog_2_method_3_code
def yX0_isBusy : MethodName := ⟨RX0, "isBusy", "(I)Z"⟩
abbrev cX0_isOpen : ByteArray := prog_2_method_4_code
def yX0_isOpen : MethodName := ⟨RX0, "isOpen", "(I)Z"⟩
abbrev cX0_areDone : ByteArray := prog_2_method_5_code
def yX0_areDone : MethodName := ⟨RX0, "areDone", "(J)Z"⟩
abbrev cX0_passOver : ByteArray := prog_2_method_6_code
def yX0_passOver : MethodName := ⟨RX0, "passOver", "(I)V"⟩
abbrev cX0_begin : ByteArray := prog_2_method_7_code
def yX0_begin : MethodName := ⟨RX0, "begin", "(III)V"⟩
abbrev cX0_endsAt : ByteArray := prog_2_method_8_code
def yX0_endsAt : MethodName := ⟨RX0, "endsAt", "(II)Z"⟩
abbrev cX0_end : ByteArray := prog_2_method_9_code
def yX0_end : MethodName := ⟨RX0, "end", "(I)V"⟩
abbrev cX0_nextEnd : ByteArray := prog_2_method_10_code
def yX0_nextEnd : MethodName := ⟨RX0, "nextEnd", "()I"⟩
abbrev cX1_init : ByteArray := prog_3_method_1_code
def yX1_init : MethodName := ⟨RX1, "<init>", "()V"⟩
abbrev cX1_makerOf : ByteArray := prog_3_method_2_code
def yX1_makerOf : MethodName := ⟨RX1, "makerOf", "(I)I"⟩
abbrev cX1_setMaker : ByteArray := prog_3_method_3_code
def yX1_setMaker : MethodName := ⟨RX1, "setMaker", "(II)V"⟩
abbrev cX1_isFilled : ByteArray := prog_3_method_4_code
def yX1_isFilled : MethodName := ⟨RX1, "isFilled", "(I)Z"⟩
abbrev cX1_contentOf : ByteArray := prog_3_method_5_code
def yX1_contentOf : MethodName := ⟨RX1, "contentOf", "(I)I"⟩
abbrev cX1_fill : ByteArray := prog_3_method_6_code
def yX1_fill : MethodName := ⟨RX1, "fill", "(II)V"⟩
abbrev cX1_empty : ByteArray := prog_3_method_7_code
def yX1_empty : MethodName := ⟨RX1, "empty", "(I)Z"⟩
abbrev cX1_lacksSource : ByteArray := prog_3_method_8_code
def yX1_lacksSource : MethodName := ⟨RX1, "lacksSource", "(I)Z"⟩
abbrev cX1_countFilled : ByteArray := prog_3_method_9_code
def yX1_countFilled : MethodName := ⟨RX1, "countFilled", "()I"⟩
abbrev cX2_init : ByteArray := prog_4_method_1_code
def yX2_init : MethodName := ⟨RX2, "<init>", "()V"⟩
abbrev cX2_findNeeded : ByteArray := prog_4_method_2_code
def yX2_findNeeded : MethodName := ⟨RX2, "findNeeded", "(I[LBuildDesk$Step;LBuildDesk$FileTable;)V"⟩
abbrev cX2_lineUp : ByteArray := prog_4_method_3_code
def yX2_lineUp : MethodName := ⟨RX2, "lineUp", "()Z"⟩
abbrev cX2_rankSteps : ByteArray := prog_4_method_4_code
def yX2_rankSteps : MethodName := ⟨RX2, "rankSteps", "([LBuildDesk$Step;)V"⟩
abbrev cX2_greatestRank : ByteArray := prog_4_method_5_code
def yX2_greatestRank : MethodName := ⟨RX2, "greatestRank", "()I"⟩
abbrev cX2_waitingFor : ByteArray := prog_4_method_6_code
def yX2_waitingFor : MethodName := ⟨RX2, "waitingFor", "(J)J"⟩
abbrev cX3_init : ByteArray := prog_5_method_1_code
def yX3_init : MethodName := ⟨RX3, "<init>", "()V"⟩
abbrev cX3_open : ByteArray := prog_5_method_2_code
def yX3_open : MethodName := ⟨RX3, "open", "(LBuildDesk$Plan;)V"⟩
abbrev cX3_add : ByteArray := prog_5_method_3_code
def yX3_add : MethodName := ⟨RX3, "add", "(IIIII)V"⟩
abbrev cX3_cell : ByteArray := prog_5_method_4_code
def yX3_cell : MethodName := ⟨RX3, "cell", "(II)I"⟩
abbrev cX4_init : ByteArray := prog_6_method_1_code
def yX4_init : MethodName := ⟨RX4, "<init>", "()V"⟩
abbrev cX4_find : ByteArray := prog_6_method_2_code
def yX4_find : MethodName := ⟨RX4, "find", "(LBuildDesk$Plan;)V"⟩
abbrev cX4_measure : ByteArray := prog_6_method_3_code
def yX4_measure : MethodName := ⟨RX4, "measure", "(ILBuildDesk$Plan;)I"⟩
abbrev cX4_walk : ByteArray := prog_6_method_4_code
def yX4_walk : MethodName := ⟨RX4, "walk", "(IILBuildDesk$Plan;)V"⟩
abbrev cX4_least : ByteArray := prog_6_method_5_code
def yX4_least : MethodName := ⟨RX4, "least", "(JI)I"⟩
abbrev cX5_init : ByteArray := prog_7_method_1_code
def yX5_init : MethodName := ⟨RX5, "<init>", "()V"⟩
abbrev cX5_tell : ByteArray := prog_7_method_2_code
def yX5_tell : MethodName := ⟨RX5, "tell", "(III)V"⟩
abbrev cX5_addInput : ByteArray := prog_7_method_3_code
def yX5_addInput : MethodName := ⟨RX5, "addInput", "(I)Z"⟩
abbrev cX5_addOutput : ByteArray := prog_7_method_4_code
def yX5_addOutput : MethodName := ⟨RX5, "addOutput", "(I)Z"⟩
abbrev cX5_leave : ByteArray := prog_7_method_5_code
def yX5_leave : MethodName := ⟨RX5, "leave", "(LBuildDesk$FileTable;)V"⟩
abbrev cX5_waitsFor : ByteArray := prog_7_method_6_code
def yX5_waitsFor : MethodName := ⟨RX5, "waitsFor", "(LBuildDesk$FileTable;)J"⟩
abbrev cX5_lacksSource : ByteArray := prog_7_method_7_code
def yX5_lacksSource : MethodName := ⟨RX5, "lacksSource", "(LBuildDesk$FileTable;)Z"⟩
abbrev cX5_whyDue : ByteArray := prog_7_method_8_code
def yX5_whyDue : MethodName := ⟨RX5, "whyDue", "(LBuildDesk$FileTable;)I"⟩
abbrev cX5_isToldOtherwise : ByteArray := prog_7_method_9_code
def yX5_isToldOtherwise : MethodName := ⟨RX5, "isToldOtherwise", "()Z"⟩
abbrev cX5_outputLacks : ByteArray := prog_7_method_10_code
def yX5_outputLacks : MethodName := ⟨RX5, "outputLacks", "(LBuildDesk$FileTable;)Z"⟩
abbrev cX5_inputDiffers : ByteArray := prog_7_method_11_code
def yX5_inputDiffers : MethodName := ⟨RX5, "inputDiffers", "(LBuildDesk$FileTable;)Z"⟩
abbrev cX5_make : ByteArray := prog_7_method_12_code
def yX5_make : MethodName := ⟨RX5, "make", "(LBuildDesk$FileTable;)V"⟩
abbrev cX6_init : ByteArray := prog_1_method_1_code
def yX6_init : MethodName := ⟨RX6, "<init>", "()V"⟩
abbrev cX6_step : ByteArray := prog_1_method_2_code
def yX6_step : MethodName := ⟨RX6, "step", "(IIII)Z"⟩
abbrev cX6_input : ByteArray := prog_1_method_3_code
def yX6_input : MethodName := ⟨RX6, "input", "(II)Z"⟩
abbrev cX6_output : ByteArray := prog_1_method_4_code
def yX6_output : MethodName := ⟨RX6, "output", "(II)Z"⟩
abbrev cX6_drop : ByteArray := prog_1_method_5_code
def yX6_drop : MethodName := ⟨RX6, "drop", "(I)Z"⟩
abbrev cX6_source : ByteArray := prog_1_method_6_code
def yX6_source : MethodName := ⟨RX6, "source", "(II)Z"⟩
abbrev cX6_spoil : ByteArray := prog_1_method_7_code
def yX6_spoil : MethodName := ⟨RX6, "spoil", "(I)Z"⟩
abbrev cX6_build : ByteArray := prog_1_method_8_code
def yX6_build : MethodName := ⟨RX6, "build", "(II)I"⟩
abbrev cX6_count : ByteArray := prog_1_method_9_code
def yX6_count : MethodName := ⟨RX6, "count", "(I)I"⟩
abbrev cX6_begun : ByteArray := prog_1_method_10_code
def yX6_begun : MethodName := ⟨RX6, "begun", "(II)I"⟩
abbrev cX6_cycle : ByteArray := prog_1_method_11_code
def yX6_cycle : MethodName := ⟨RX6, "cycle", "(I)I"⟩
abbrev cX6_content : ByteArray := prog_1_method_12_code
def yX6_content : MethodName := ⟨RX6, "content", "(I)I"⟩
abbrev cX6_reason : ByteArray := prog_1_method_13_code
def yX6_reason : MethodName := ⟨RX6, "reason", "(I)I"⟩
abbrev cX6_isFile : ByteArray := prog_1_method_14_code
def yX6_isFile : MethodName := ⟨RX6, "isFile", "(I)Z"⟩
abbrev cX6_isStepNumber : ByteArray := prog_1_method_15_code
def yX6_isStepNumber : MethodName := ⟨RX6, "isStepNumber", "(I)Z"⟩
abbrev cX6_bit : ByteArray := prog_1_method_16_code
def yX6_bit : MethodName := ⟨RX6, "bit", "(I)J"⟩
abbrev cX6_isIn : ByteArray := prog_1_method_17_code
def yX6_isIn : MethodName := ⟨RX6, "isIn", "(JI)Z"⟩
abbrev cX6_isThere : ByteArray := prog_1_method_18_code
def yX6_isThere : MethodName := ⟨RX6, "isThere", "(I)Z"⟩
abbrev cX6_isSource : ByteArray := prog_1_method_19_code
def yX6_isSource : MethodName := ⟨RX6, "isSource", "(I)Z"⟩
abbrev cX6_countSteps : ByteArray := prog_1_method_20_code
def yX6_countSteps : MethodName := ⟨RX6, "countSteps", "()I"⟩
abbrev cX6_sourceLacks : ByteArray := prog_1_method_21_code
def yX6_sourceLacks : MethodName := ⟨RX6, "sourceLacks", "(I)Z"⟩
abbrev cX6_makeNeeded : ByteArray := prog_1_method_22_code
def yX6_makeNeeded : MethodName := ⟨RX6, "makeNeeded", "(I)I"⟩
abbrev cX6_endSteps : ByteArray := prog_1_method_23_code
def yX6_endSteps : MethodName := ⟨RX6, "endSteps", "(I)V"⟩
abbrev cX6_passOverSteps : ByteArray := prog_1_method_24_code
def yX6_passOverSteps : MethodName := ⟨RX6, "passOverSteps", "()V"⟩
abbrev cX6_beginSteps : ByteArray := prog_1_method_25_code
def yX6_beginSteps : MethodName := ⟨RX6, "beginSteps", "(II)V"⟩
abbrev cX6_nextToBegin : ByteArray := prog_1_method_26_code
def yX6_nextToBegin : MethodName := ⟨RX6, "nextToBegin", "()I"⟩
abbrev cX6_isReady : ByteArray := prog_1_method_27_code
def yX6_isReady : MethodName := ⟨RX6, "isReady", "(I)Z"⟩
abbrev cX7_init : ByteArray := prog_9_method_1_code
def yX7_init : MethodName := ⟨RX7, "<init>", "()V"⟩
abbrev cX7_thrown : ByteArray := prog_9_method_2_code
def yX7_thrown : MethodName := ⟨RX7, "thrown", "()I"⟩
abbrev cX7_raise : ByteArray := prog_9_method_3_code
def yX7_raise : MethodName := ⟨RX7, "raise", "(I)I"⟩
abbrev cX7_isFile : ByteArray := prog_9_method_4_code
def yX7_isFile : MethodName := ⟨RX7, "isFile", "(I)Z"⟩
abbrev cX7_isStep : ByteArray := prog_9_method_5_code
def yX7_isStep : MethodName := ⟨RX7, "isStep", "(I)Z"⟩
abbrev cX7_step : ByteArray := prog_9_method_6_code
def yX7_step : MethodName := ⟨RX7, "step", "(IIII)Z"⟩
abbrev cX7_input : ByteArray := prog_9_method_7_code
def yX7_input : MethodName := ⟨RX7, "input", "(II)Z"⟩
abbrev cX7_output : ByteArray := prog_9_method_8_code
def yX7_output : MethodName := ⟨RX7, "output", "(II)Z"⟩
abbrev cX7_drop : ByteArray := prog_9_method_9_code
def yX7_drop : MethodName := ⟨RX7, "drop", "(I)Z"⟩
abbrev cX7_source : ByteArray := prog_9_method_10_code
def yX7_source : MethodName := ⟨RX7, "source", "(II)Z"⟩
abbrev cX7_spoil : ByteArray := prog_9_method_11_code
def yX7_spoil : MethodName := ⟨RX7, "spoil", "(I)Z"⟩
abbrev cX7_isOther : ByteArray := prog_9_method_12_code
def yX7_isOther : MethodName := ⟨RX7, "isOther", "(I)Z"⟩
abbrev cX7_why : ByteArray := prog_9_method_13_code
def yX7_why : MethodName := ⟨RX7, "why", "(I)I"⟩
abbrev cX7_reason : ByteArray := prog_9_method_14_code
def yX7_reason : MethodName := ⟨RX7, "reason", "(I)I"⟩
abbrev cX7_takes : ByteArray := prog_9_method_15_code
def yX7_takes : MethodName := ⟨RX7, "takes", "(II)Z"⟩
abbrev cX7_spread : ByteArray := prog_9_method_16_code
def yX7_spread : MethodName := ⟨RX7, "spread", "(I)V"⟩
abbrev cX7_measure : ByteArray := prog_9_method_17_code
def yX7_measure : MethodName := ⟨RX7, "measure", "(I)V"⟩
abbrev cX7_nearest : ByteArray := prog_9_method_18_code
def yX7_nearest : MethodName := ⟨RX7, "nearest", "(I)I"⟩
abbrev cX7_isRound : ByteArray := prog_9_method_19_code
def yX7_isRound : MethodName := ⟨RX7, "isRound", "()Z"⟩
abbrev cX7_isLacking : ByteArray := prog_9_method_20_code
def yX7_isLacking : MethodName := ⟨RX7, "isLacking", "(I)Z"⟩
abbrev cX7_order : ByteArray := prog_9_method_21_code
def yX7_order : MethodName := ⟨RX7, "order", "()V"⟩
abbrev cX7_isReady : ByteArray := prog_9_method_22_code
def yX7_isReady : MethodName := ⟨RX7, "isReady", "(I)Z"⟩
abbrev cX7_end : ByteArray := prog_9_method_23_code
def yX7_end : MethodName := ⟨RX7, "end", "(I)V"⟩
abbrev cX7_pass : ByteArray := prog_9_method_24_code
def yX7_pass : MethodName := ⟨RX7, "pass", "()V"⟩
abbrev cX7_start : ByteArray := prog_9_method_25_code
def yX7_start : MethodName := ⟨RX7, "start", "(II)V"⟩
abbrev cX7_hire : ByteArray := prog_9_method_26_code
def yX7_hire : MethodName := ⟨RX7, "hire", "(I)V"⟩
abbrev cX7_build : ByteArray := prog_9_method_27_code
def yX7_build : MethodName := ⟨RX7, "build", "(II)I"⟩
abbrev cX7_count : ByteArray := prog_9_method_28_code
def yX7_count : MethodName := ⟨RX7, "count", "(I)I"⟩
abbrev cX7_begun : ByteArray := prog_9_method_29_code
def yX7_begun : MethodName := ⟨RX7, "begun", "(II)I"⟩
abbrev cX7_cycle : ByteArray := prog_9_method_30_code
def yX7_cycle : MethodName := ⟨RX7, "cycle", "(I)I"⟩
abbrev cX7_content : ByteArray := prog_9_method_31_code
def yX7_content : MethodName := ⟨RX7, "content", "(I)I"⟩
abbrev cL_build : ByteArray := method_3_code
def yL_build : MethodName := ⟨RL, "build", "(LBuildDesk;II[J)I"⟩
abbrev cL_begun : ByteArray := method_4_code
def yL_begun : MethodName := ⟨RL, "begun", "(LBuildDesk;II[J)I"⟩
abbrev cL_cycle : ByteArray := method_5_code
def yL_cycle : MethodName := ⟨RL, "cycle", "(LBuildDesk;I[J)I"⟩
abbrev cL_content : ByteArray := method_6_code
def yL_content : MethodName := ⟨RL, "content", "(LBuildDesk;I[J)I"⟩
abbrev cL_law : ByteArray := code
def yL_law : MethodName := ⟨RL, "law", "([I)Z"⟩
abbrev vwCl : List vw_C := [(RX0, TX0, 5), (RX1, TX1, 3), (RX2, TX2, 5), (RX3, TX3, 5), (RX4, TX4, 3), (RX5, TX5, 14), (RX6, TX6, 6), (RX7, TX7, 40)]
def tyS : List FieldType := [.int, .boolean, .long, .object "BuildDesk$Step"]
/-! the words that every method takes along -/
def wsG_0 : List Cond := [
  .selects RX6 yX6_isThere yX6_isThere,
  .selects RX6 yX6_isSource yX6_isSource,
  .selects RX6 yX6_countSteps yX6_countSteps,
  .selects RX5 yX5_isToldOtherwise yX5_isToldOtherwise,
  .selects RX5 yX5_outputLacks yX5_outputLacks,
  .selects RX5 yX5_inputDiffers yX5_inputDiffers,
  .selects "java/lang/Throwable" ⟨"java/lang/Throwable", "fillInStackTrace", "(I)Ljava/lang/Throwable;"⟩ ⟨"java/lang/Throwable", "fillInStackTrace", "(I)Ljava/lang/Throwable;"⟩,
  .selects RX4 yX4_measure yX4_measure,
  .selects RX4 yX4_walk yX4_walk,
  .selects RX6 yX6_sourceLacks yX6_sourceLacks,
  .selects RX6 yX6_makeNeeded yX6_makeNeeded,
  .selects RX6 yX6_endSteps yX6_endSteps,
  .selects RX6 yX6_passOverSteps yX6_passOverSteps,
  .selects RX6 yX6_isReady yX6_isReady,
  .selects RX6 yX6_beginSteps yX6_beginSteps,
  .selects RX6 yX6_nextToBegin yX6_nextToBegin,
  .selects RX7 yX7_isStep yX7_isStep,
  .selects RX7 yX7_why yX7_why,
  .selects RX7 yX7_isOther yX7_isOther,
  .selects RX7 yX7_raise yX7_raise,
  .selects RX7 yX7_spread yX7_spread,
  .selects RX7 yX7_takes yX7_takes,
  .selects RX7 yX7_isRound yX7_isRound,
  .selects RX7 yX7_measure yX7_measure,
  .selects RX7 yX7_nearest yX7_nearest]
def wsG_1 : List Cond := [
  .selects RX7 yX7_isLacking yX7_isLacking,
  .selects RX7 yX7_order yX7_order,
  .selects RX7 yX7_end yX7_end,
  .selects RX7 yX7_pass yX7_pass,
  .selects RX7 yX7_isReady yX7_isReady,
  .selects RX7 yX7_hire yX7_hire,
  .selects RX7 yX7_start yX7_start]
def wsG_2 : List Cond := [
  .initialized RL,
  .initialized RX6,
  .initialized RX1,
  .initialized RX5,
  .initialized RX2,
  .initialized RX0,
  .initialized RX3,
  .initialized RX4,
  .initialized RX7,
  .initialized "java/lang/Throwable",
  .initialized "java/lang/Exception",
  .initialized "java/lang/RuntimeException",
  .initialized "java/lang/IllegalArgumentException",
  .initialized "java/lang/IllegalStateException",
  .initialized "java/lang/Math",
  .initialized "java/util/NoSuchElementException",
  .classLink RL 8 RX6,
  .instantiable RX6 6,
  .methodLink RL 29 yX6_init,
  .instanceMethod yX6_init,
  .code yX6_init cX6_init 2 none,
  .methodLink RX6 1 objectInit,
  .instanceMethod objectInit,
  .code objectInit ⟨#[0xb1]⟩ 1 none,
  .classLink RX6 7 RX1]
def wsG_3 : List Cond := [
  .instantiable RX1 3,
  .methodLink RX6 9 yX1_init,
  .instanceMethod yX1_init,
  .code yX1_init cX1_init 2 none,
  .methodLink RX1 3 objectInit,
  .fieldLink RX1 9 "BuildDesk$FileTable" "contents" "[I",
  .fieldLink RX1 15 "BuildDesk$FileTable" "filled" "[Z",
  .fieldLink RX1 19 "BuildDesk$FileTable" "makers" "[I",
  .laysFinal RX1 "BuildDesk$FileTable" "contents" "[I",
  .laysFinal RX1 "BuildDesk$FileTable" "filled" "[Z",
  .laysFinal RX1 "BuildDesk$FileTable" "makers" "[I",
  .arrayClass .int,
  .arrayClass .boolean,
  .classLink RX6 16 RX5,
  .instantiable RX5 14,
  .instanceMethod yX5_init,
  .code yX5_init cX5_init 1 none,
  .methodLink RX5 3 objectInit,
  .fieldLink RX5 21 "BuildDesk$Step" "there" "Z",
  .fieldLink RX5 25 "BuildDesk$Step" "recipe" "I",
  .fieldLink RX5 29 "BuildDesk$Step" "mask" "I",
  .fieldLink RX5 32 "BuildDesk$Step" "duration" "I",
  .fieldLink RX5 9 "BuildDesk$Step" "inputs" "[I",
  .fieldLink RX5 35 "BuildDesk$Step" "inputCount" "I",
  .fieldLink RX5 15 "BuildDesk$Step" "outputs" "[I"]
def wsG_4 : List Cond := [
  .fieldLink RX5 38 "BuildDesk$Step" "outputCount" "I",
  .fieldLink RX5 47 "BuildDesk$Step" "made" "Z",
  .fieldLink RX5 73 "BuildDesk$Step" "madeRecipe" "I",
  .fieldLink RX5 76 "BuildDesk$Step" "madeMask" "I",
  .fieldLink RX5 79 "BuildDesk$Step" "madeInputCount" "I",
  .fieldLink RX5 82 "BuildDesk$Step" "madeOutputCount" "I",
  .fieldLink RX5 18 "BuildDesk$Step" "madeContents" "[I",
  .lays RX5 "BuildDesk$Step" "there" "Z",
  .lays RX5 "BuildDesk$Step" "recipe" "I",
  .lays RX5 "BuildDesk$Step" "mask" "I",
  .lays RX5 "BuildDesk$Step" "duration" "I",
  .laysFinal RX5 "BuildDesk$Step" "inputs" "[I",
  .lays RX5 "BuildDesk$Step" "inputCount" "I",
  .laysFinal RX5 "BuildDesk$Step" "outputs" "[I",
  .lays RX5 "BuildDesk$Step" "outputCount" "I",
  .lays RX5 "BuildDesk$Step" "made" "Z",
  .lays RX5 "BuildDesk$Step" "madeRecipe" "I",
  .lays RX5 "BuildDesk$Step" "madeMask" "I",
  .lays RX5 "BuildDesk$Step" "madeInputCount" "I",
  .lays RX5 "BuildDesk$Step" "madeOutputCount" "I",
  .laysFinal RX5 "BuildDesk$Step" "madeContents" "[I",
  .classLink RX6 23 RX2,
  .instantiable RX2 5,
  .instanceMethod yX2_init,
  .code yX2_init cX2_init 1 none]
def wsG_5 : List Cond := [
  .methodLink RX2 3 objectInit,
  .fieldLink RX2 9 "BuildDesk$Plan" "waits" "[J",
  .fieldLink RX2 15 "BuildDesk$Plan" "line" "[I",
  .fieldLink RX2 40 "BuildDesk$Plan" "lined" "I",
  .fieldLink RX2 19 "BuildDesk$Plan" "rank" "[I",
  .fieldLink RX2 32 "BuildDesk$Plan" "needed" "J",
  .laysFinal RX2 "BuildDesk$Plan" "waits" "[J",
  .laysFinal RX2 "BuildDesk$Plan" "line" "[I",
  .lays RX2 "BuildDesk$Plan" "lined" "I",
  .laysFinal RX2 "BuildDesk$Plan" "rank" "[I",
  .lays RX2 "BuildDesk$Plan" "needed" "J",
  .arrayClass .long,
  .classLink RX6 30 RX0,
  .instantiable RX0 5,
  .instanceMethod yX0_init,
  .code yX0_init cX0_init 1 none,
  .methodLink RX0 3 objectInit,
  .fieldLink RX0 9 "BuildDesk$Crew" "busy" "[Z",
  .fieldLink RX0 15 "BuildDesk$Crew" "workerOf" "[I",
  .fieldLink RX0 19 "BuildDesk$Crew" "endOf" "[I",
  .fieldLink RX0 22 "BuildDesk$Crew" "running" "J",
  .fieldLink RX0 26 "BuildDesk$Crew" "done" "J",
  .laysFinal RX0 "BuildDesk$Crew" "busy" "[Z",
  .laysFinal RX0 "BuildDesk$Crew" "workerOf" "[I",
  .laysFinal RX0 "BuildDesk$Crew" "endOf" "[I"]
def wsG_6 : List Cond := [
  .lays RX0 "BuildDesk$Crew" "running" "J",
  .lays RX0 "BuildDesk$Crew" "done" "J",
  .classLink RX6 37 RX3,
  .instantiable RX3 5,
  .instanceMethod yX3_init,
  .code yX3_init cX3_init 1 none,
  .methodLink RX3 3 objectInit,
  .fieldLink RX3 21 "BuildDesk$Report" "needed" "I",
  .fieldLink RX3 24 "BuildDesk$Report" "begun" "I",
  .fieldLink RX3 27 "BuildDesk$Report" "busyTime" "I",
  .fieldLink RX3 34 "BuildDesk$Report" "greatestRank" "I",
  .fieldLink RX3 11 "BuildDesk$Report" "cells" "[I",
  .lays RX3 "BuildDesk$Report" "needed" "I",
  .lays RX3 "BuildDesk$Report" "begun" "I",
  .lays RX3 "BuildDesk$Report" "busyTime" "I",
  .lays RX3 "BuildDesk$Report" "greatestRank" "I",
  .laysFinal RX3 "BuildDesk$Report" "cells" "[I",
  .classLink RX6 44 RX4,
  .instantiable RX4 3,
  .instanceMethod yX4_init,
  .code yX4_init cX4_init 1 none,
  .methodLink RX4 3 objectInit,
  .fieldLink RX4 9 "BuildDesk$Round" "members" "[I",
  .fieldLink RX4 52 "BuildDesk$Round" "length" "I",
  .fieldLink RX4 15 "BuildDesk$Round" "near" "[J"]
def wsG_7 : List Cond := [
  .laysFinal RX4 "BuildDesk$Round" "members" "[I",
  .lays RX4 "BuildDesk$Round" "length" "I",
  .laysFinal RX4 "BuildDesk$Round" "near" "[J",
  .fieldLink RX6 10 "BuildDesk" "files" "LBuildDesk$FileTable;",
  .fieldLink RX6 18 "BuildDesk" "steps" "[LBuildDesk$Step;",
  .fieldLink RX6 26 "BuildDesk" "plan" "LBuildDesk$Plan;",
  .fieldLink RX6 33 "BuildDesk" "crew" "LBuildDesk$Crew;",
  .fieldLink RX6 40 "BuildDesk" "report" "LBuildDesk$Report;",
  .fieldLink RX6 47 "BuildDesk" "round" "LBuildDesk$Round;",
  .laysFinal RX6 "BuildDesk" "files" "LBuildDesk$FileTable;",
  .laysFinal RX6 "BuildDesk" "steps" "[LBuildDesk$Step;",
  .laysFinal RX6 "BuildDesk" "plan" "LBuildDesk$Plan;",
  .laysFinal RX6 "BuildDesk" "crew" "LBuildDesk$Crew;",
  .laysFinal RX6 "BuildDesk" "report" "LBuildDesk$Report;",
  .laysFinal RX6 "BuildDesk" "round" "LBuildDesk$Round;",
  .methodLink RL 33 yX6_step,
  .instanceMethod yX6_step,
  .selects RX6 yX6_step yX6_step,
  .code yX6_step cX6_step 5 (some .boolean),
  .methodLink RX6 51 yX6_isStepNumber,
  .static yX6_isStepNumber,
  .code yX6_isStepNumber cX6_isStepNumber 1 (some .boolean),
  .methodLink RX6 55 yX5_tell,
  .instanceMethod yX5_tell,
  .selects RX5 yX5_tell yX5_tell]
def wsG_8 : List Cond := [
  .code yX5_tell cX5_tell 4 none,
  .methodLink RL 38 yX6_input,
  .instanceMethod yX6_input,
  .selects RX6 yX6_input yX6_input,
  .code yX6_input cX6_input 3 (some .boolean),
  .methodLink RX6 59 yX6_isThere,
  .instanceMethod yX6_isThere,
  .code yX6_isThere cX6_isThere 2 (some .boolean),
  .methodLink RX6 62 yX6_isFile,
  .static yX6_isFile,
  .code yX6_isFile cX6_isFile 1 (some .boolean),
  .methodLink RX6 65 yX5_addInput,
  .instanceMethod yX5_addInput,
  .selects RX5 yX5_addInput yX5_addInput,
  .code yX5_addInput cX5_addInput 2 (some .boolean),
  .methodLink RL 43 yX6_output,
  .instanceMethod yX6_output,
  .selects RX6 yX6_output yX6_output,
  .code yX6_output cX6_output 3 (some .boolean),
  .methodLink RX6 68 yX6_isSource]
def wsG_9 : List Cond := [
  .instanceMethod yX6_isSource,
  .code yX6_isSource cX6_isSource 2 (some .boolean),
  .methodLink RX6 97 yX1_makerOf,
  .instanceMethod yX1_makerOf,
  .selects RX1 yX1_makerOf yX1_makerOf,
  .code yX1_makerOf cX1_makerOf 2 (some .int),
  .methodLink RX6 71 yX5_addOutput,
  .instanceMethod yX5_addOutput,
  .selects RX5 yX5_addOutput yX5_addOutput,
  .code yX5_addOutput cX5_addOutput 2 (some .boolean),
  .methodLink RX6 74 yX1_setMaker,
  .instanceMethod yX1_setMaker,
  .selects RX1 yX1_setMaker yX1_setMaker,
  .code yX1_setMaker cX1_setMaker 3 none,
  .methodLink RL 47 yX6_drop,
  .instanceMethod yX6_drop,
  .selects RX6 yX6_drop yX6_drop,
  .code yX6_drop cX6_drop 2 (some .boolean),
  .methodLink RX6 78 yX5_leave,
  .instanceMethod yX5_leave,
  .selects RX5 yX5_leave yX5_leave,
  .code yX5_leave cX5_leave 3 none,
  .methodLink RX5 41 yX1_setMaker,
  .methodLink RL 52 yX6_source,
  .instanceMethod yX6_source]
def wsG_10 : List Cond := [
  .selects RX6 yX6_source yX6_source,
  .code yX6_source cX6_source 3 (some .boolean),
  .methodLink RX6 82 yX1_fill,
  .instanceMethod yX1_fill,
  .selects RX1 yX1_fill yX1_fill,
  .code yX1_fill cX1_fill 3 none,
  .methodLink RL 56 yX6_spoil,
  .instanceMethod yX6_spoil,
  .selects RX6 yX6_spoil yX6_spoil,
  .code yX6_spoil cX6_spoil 2 (some .boolean),
  .methodLink RX6 85 yX1_empty,
  .instanceMethod yX1_empty,
  .selects RX1 yX1_empty yX1_empty,
  .code yX1_empty cX1_empty 3 (some .boolean),
  .methodLink RL 70 yX6_count,
  .instanceMethod yX6_count,
  .selects RX6 yX6_count yX6_count,
  .code yX6_count cX6_count 2 (some .int),
  .methodLink RX6 146 yX1_countFilled,
  .instanceMethod yX1_countFilled,
  .selects RX1 yX1_countFilled yX1_countFilled,
  .code yX1_countFilled cX1_countFilled 3 (some .int),
  .methodLink RX6 150 yX6_countSteps,
  .instanceMethod yX6_countSteps,
  .code yX6_countSteps cX6_countSteps 3 (some .int)]
def wsG_11 : List Cond := [
  .methodLink RL 84 yX6_reason,
  .instanceMethod yX6_reason,
  .selects RX6 yX6_reason yX6_reason,
  .code yX6_reason cX6_reason 2 (some .int),
  .methodLink RX6 179 yX5_whyDue,
  .instanceMethod yX5_whyDue,
  .selects RX5 yX5_whyDue yX5_whyDue,
  .code yX5_whyDue cX5_whyDue 2 (some .int),
  .methodLink RX5 62 yX5_isToldOtherwise,
  .instanceMethod yX5_isToldOtherwise,
  .code yX5_isToldOtherwise cX5_isToldOtherwise 1 (some .boolean),
  .methodLink RX5 66 yX5_outputLacks,
  .instanceMethod yX5_outputLacks,
  .code yX5_outputLacks cX5_outputLacks 3 (some .boolean),
  .methodLink RX5 85 yX1_isFilled,
  .instanceMethod yX1_isFilled,
  .selects RX1 yX1_isFilled yX1_isFilled,
  .code yX1_isFilled cX1_isFilled 2 (some .boolean),
  .methodLink RX5 70 yX5_inputDiffers,
  .instanceMethod yX5_inputDiffers,
  .code yX5_inputDiffers cX5_inputDiffers 4 (some .boolean),
  .methodLink RX5 88 yX1_contentOf,
  .instanceMethod yX1_contentOf,
  .selects RX1 yX1_contentOf yX1_contentOf,
  .code yX1_contentOf cX1_contentOf 2 (some .int)]
def wsG_12 : List Cond := [
  .methodLink RL 60 yL_build,
  .static yL_build,
  .classLink RL 13 "java/lang/IllegalArgumentException",
  .classLink RL 15 "java/lang/IllegalStateException",
  .methodLink RL 7 yX6_build,
  .instanceMethod yX6_build,
  .selects RX6 yX6_build yX6_build,
  .code yX6_build cX6_build 3 (some .int),
  .classLink RX6 88 "java/lang/IllegalArgumentException",
  .instantiable "java/lang/IllegalArgumentException" 6,
  .selects "java/lang/IllegalArgumentException" ⟨"java/lang/Throwable", "fillInStackTrace", "(I)Ljava/lang/Throwable;"⟩ ⟨"java/lang/Throwable", "fillInStackTrace", "(I)Ljava/lang/Throwable;"⟩,
  .selects "java/lang/IllegalArgumentException" ⟨"java/lang/Throwable", "fillInStackTrace", "()Ljava/lang/Throwable;"⟩ ⟨"java/lang/Throwable", "fillInStackTrace", "()Ljava/lang/Throwable;"⟩,
  .lays "java/lang/IllegalArgumentException" "java/lang/Throwable" "cause" "Ljava/lang/Throwable;",
  .lays "java/lang/Throwable" "java/lang/Throwable" "cause" "Ljava/lang/Throwable;",
  .lays "java/lang/IllegalArgumentException" "java/lang/Throwable" "stackTrace" "[Ljava/lang/StackTraceElement;",
  .lays "java/lang/Throwable" "java/lang/Throwable" "stackTrace" "[Ljava/lang/StackTraceElement;",
  .lays "java/lang/IllegalArgumentException" "java/lang/Throwable" "suppressedExceptions" "Ljava/util/List;",
  .lays "java/lang/Throwable" "java/lang/Throwable" "suppressedExceptions" "Ljava/util/List;",
  .lays "java/lang/IllegalArgumentException" "java/lang/Throwable" "detailMessage" "Ljava/lang/String;",
  .lays "java/lang/Throwable" "java/lang/Throwable" "detailMessage" "Ljava/lang/String;",
  .lays "java/lang/IllegalArgumentException" "java/lang/Throwable" "backtrace" "Ljava/lang/Object;",
  .lays "java/lang/Throwable" "java/lang/Throwable" "backtrace" "Ljava/lang/Object;",
  .fieldLink "java/lang/Throwable" 198 "java/lang/Throwable" "backtrace" "Ljava/lang/Object;",
  .instanceMethod ⟨"java/lang/Throwable", "<init>", "()V"⟩,
  .code ⟨"java/lang/Throwable", "<init>", "()V"⟩ prog_16_method_1_code 1 none]
def wsG_13 : List Cond := [
  .methodLink "java/lang/Throwable" 1 objectInit,
  .fieldLink "java/lang/Throwable" 13 "java/lang/Throwable" "UNASSIGNED_STACK" "[Ljava/lang/StackTraceElement;",
  .fieldLink "java/lang/Throwable" 20 "java/lang/Throwable" "SUPPRESSED_SENTINEL" "Ljava/util/List;",
  .methodLink "java/lang/Throwable" 27 ⟨"java/lang/Throwable", "fillInStackTrace", "()Ljava/lang/Throwable;"⟩,
  .instanceMethod ⟨"java/lang/Throwable", "fillInStackTrace", "()Ljava/lang/Throwable;"⟩,
  .selects "java/lang/IllegalStateException" ⟨"java/lang/Throwable", "fillInStackTrace", "()Ljava/lang/Throwable;"⟩ ⟨"java/lang/Throwable", "fillInStackTrace", "()Ljava/lang/Throwable;"⟩,
  .selects "java/util/NoSuchElementException" ⟨"java/lang/Throwable", "fillInStackTrace", "()Ljava/lang/Throwable;"⟩ ⟨"java/lang/Throwable", "fillInStackTrace", "()Ljava/lang/Throwable;"⟩,
  .methodLink "java/lang/Throwable" 202 ⟨"java/lang/Throwable", "fillInStackTrace", "(I)Ljava/lang/Throwable;"⟩,
  .instanceMethod ⟨"java/lang/Throwable", "fillInStackTrace", "(I)Ljava/lang/Throwable;"⟩,
  .instantiable "java/lang/Throwable" 6,
  .methodLink RX6 92 ⟨"java/lang/IllegalArgumentException", "<init>", "(Ljava/lang/String;)V"⟩,
  .instanceMethod ⟨"java/lang/IllegalArgumentException", "<init>", "(Ljava/lang/String;)V"⟩,
  .code ⟨"java/lang/IllegalArgumentException", "<init>", "(Ljava/lang/String;)V"⟩ prog_11_method_2_code 2 none,
  .methodLink "java/lang/IllegalArgumentException" 7 ⟨"java/lang/RuntimeException", "<init>", "(Ljava/lang/String;)V"⟩,
  .instanceMethod ⟨"java/lang/RuntimeException", "<init>", "(Ljava/lang/String;)V"⟩,
  .code ⟨"java/lang/RuntimeException", "<init>", "(Ljava/lang/String;)V"⟩ prog_14_method_2_code 2 none,
  .methodLink "java/lang/RuntimeException" 7 ⟨"java/lang/Exception", "<init>", "(Ljava/lang/String;)V"⟩,
  .instanceMethod ⟨"java/lang/Exception", "<init>", "(Ljava/lang/String;)V"⟩,
  .code ⟨"java/lang/Exception", "<init>", "(Ljava/lang/String;)V"⟩ prog_10_method_2_code 2 none,
  .methodLink "java/lang/Exception" 7 ⟨"java/lang/Throwable", "<init>", "(Ljava/lang/String;)V"⟩,
  .instanceMethod ⟨"java/lang/Throwable", "<init>", "(Ljava/lang/String;)V"⟩,
  .code ⟨"java/lang/Throwable", "<init>", "(Ljava/lang/String;)V"⟩ prog_16_method_2_code 2 none,
  .fieldLink "java/lang/Throwable" 31 "java/lang/Throwable" "detailMessage" "Ljava/lang/String;",
  .fieldLink "java/lang/Throwable" 7 "java/lang/Throwable" "cause" "Ljava/lang/Throwable;",
  .fieldLink "java/lang/Throwable" 17 "java/lang/Throwable" "stackTrace" "[Ljava/lang/StackTraceElement;"]
def wsG_14 : List Cond := [
  .fieldLink "java/lang/Throwable" 24 "java/lang/Throwable" "suppressedExceptions" "Ljava/util/List;",
  .lays "java/lang/IllegalArgumentException" "java/lang/Throwable" "depth" "I",
  .arrayClass .byte,
  .methodLink RX6 101 yX2_findNeeded,
  .instanceMethod yX2_findNeeded,
  .selects RX2 yX2_findNeeded yX2_findNeeded,
  .code yX2_findNeeded cX2_findNeeded 9 none,
  .methodLink RX2 22 yX5_waitsFor,
  .instanceMethod yX5_waitsFor,
  .selects RX5 yX5_waitsFor yX5_waitsFor,
  .code yX5_waitsFor cX5_waitsFor 6 (some .long),
  .methodLink RX5 50 yX1_makerOf,
  .static yX6_bit,
  .code yX6_bit cX6_bit 1 (some .long),
  .static yX6_isIn,
  .code yX6_isIn cX6_isIn 3 (some .boolean),
  .methodLink RX6 183 yX6_bit,
  .methodLink RX6 105 yX2_lineUp,
  .instanceMethod yX2_lineUp,
  .selects RX2 yX2_lineUp yX2_lineUp,
  .code yX2_lineUp cX2_lineUp 5 (some .boolean),
  .constantLong RX2 44 (-1),
  .methodLink RX6 109 yX4_find,
  .instanceMethod yX4_find,
  .selects RX4 yX4_find yX4_find]
def wsG_15 : List Cond := [
  .code yX4_find cX4_find 4 none,
  .methodLink RX4 29 yX4_measure,
  .instanceMethod yX4_measure,
  .code yX4_measure cX4_measure 4 (some .int),
  .methodLink RX4 41 yX2_waitingFor,
  .instanceMethod yX2_waitingFor,
  .selects RX2 yX2_waitingFor yX2_waitingFor,
  .code yX2_waitingFor cX2_waitingFor 6 (some .long),
  .methodLink RX4 33 yX4_walk,
  .instanceMethod yX4_walk,
  .code yX4_walk cX4_walk 6 none,
  .methodLink RX4 48 yX4_least,
  .static yX4_least,
  .code yX4_least cX4_least 4 (some .int),
  .classLink RX6 113 "java/lang/IllegalStateException",
  .instantiable "java/lang/IllegalStateException" 6,
  .selects "java/lang/IllegalStateException" ⟨"java/lang/Throwable", "fillInStackTrace", "(I)Ljava/lang/Throwable;"⟩ ⟨"java/lang/Throwable", "fillInStackTrace", "(I)Ljava/lang/Throwable;"⟩,
  .lays "java/lang/IllegalStateException" "java/lang/Throwable" "cause" "Ljava/lang/Throwable;",
  .lays "java/lang/IllegalStateException" "java/lang/Throwable" "stackTrace" "[Ljava/lang/StackTraceElement;",
  .lays "java/lang/IllegalStateException" "java/lang/Throwable" "suppressedExceptions" "Ljava/util/List;",
  .lays "java/lang/IllegalStateException" "java/lang/Throwable" "detailMessage" "Ljava/lang/String;",
  .lays "java/lang/IllegalStateException" "java/lang/Throwable" "backtrace" "Ljava/lang/Object;",
  .methodLink RX6 117 ⟨"java/lang/IllegalStateException", "<init>", "(Ljava/lang/String;)V"⟩,
  .instanceMethod ⟨"java/lang/IllegalStateException", "<init>", "(Ljava/lang/String;)V"⟩,
  .code ⟨"java/lang/IllegalStateException", "<init>", "(Ljava/lang/String;)V"⟩ prog_12_method_2_code 2 none]
def wsG_16 : List Cond := [
  .methodLink "java/lang/IllegalStateException" 7 ⟨"java/lang/RuntimeException", "<init>", "(Ljava/lang/String;)V"⟩,
  .lays "java/lang/IllegalStateException" "java/lang/Throwable" "depth" "I",
  .methodLink RX6 118 yX6_sourceLacks,
  .instanceMethod yX6_sourceLacks,
  .code yX6_sourceLacks cX6_sourceLacks 3 (some .boolean),
  .methodLink RX6 191 yX1_lacksSource,
  .instanceMethod yX1_lacksSource,
  .selects RX1 yX1_lacksSource yX1_lacksSource,
  .code yX1_lacksSource cX1_lacksSource 2 (some .boolean),
  .methodLink RX6 197 yX6_isIn,
  .methodLink RX6 201 yX5_lacksSource,
  .instanceMethod yX5_lacksSource,
  .selects RX5 yX5_lacksSource yX5_lacksSource,
  .code yX5_lacksSource cX5_lacksSource 3 (some .boolean),
  .methodLink RX5 58 yX1_lacksSource,
  .methodLink RX6 123 yX2_rankSteps,
  .instanceMethod yX2_rankSteps,
  .selects RX2 yX2_rankSteps yX2_rankSteps,
  .code yX2_rankSteps cX2_rankSteps 5 none,
  .methodLink RX2 49 Lib.Math.max.name,
  .static Lib.Math.max.name,
  .code Lib.Math.max.name Lib.Math.max.code 2 (some .int),
  .methodLink RX6 127 yX3_open]
def wsG_17 : List Cond := [
  .instanceMethod yX3_open,
  .selects RX3 yX3_open yX3_open,
  .code yX3_open cX3_open 2 none,
  .methodLink RX3 30 yX2_greatestRank,
  .instanceMethod yX2_greatestRank,
  .selects RX2 yX2_greatestRank yX2_greatestRank,
  .code yX2_greatestRank cX2_greatestRank 3 (some .int),
  .methodLink RX6 130 yX6_makeNeeded,
  .instanceMethod yX6_makeNeeded,
  .code yX6_makeNeeded cX6_makeNeeded 5 (some .int),
  .methodLink RX6 204 yX0_comeIn,
  .instanceMethod yX0_comeIn,
  .selects RX0 yX0_comeIn yX0_comeIn,
  .code yX0_comeIn cX0_comeIn 2 none,
  .methodLink RX6 207 yX6_endSteps,
  .instanceMethod yX6_endSteps,
  .code yX6_endSteps cX6_endSteps 3 none,
  .methodLink RX6 220 yX0_endsAt,
  .instanceMethod yX0_endsAt,
  .selects RX0 yX0_endsAt yX0_endsAt,
  .code yX0_endsAt cX0_endsAt 3 (some .boolean),
  .methodLink RX6 224 yX5_make,
  .instanceMethod yX5_make,
  .selects RX5 yX5_make yX5_make,
  .code yX5_make cX5_make 5 none]
def wsG_18 : List Cond := [
  .constant RX5 91 16777619,
  .methodLink RX5 92 yX1_fill,
  .methodLink RX6 227 yX0_end,
  .instanceMethod yX0_end,
  .selects RX0 yX0_end yX0_end,
  .code yX0_end cX0_end 2 none,
  .constantLong RX0 33 (-1),
  .methodLink RX6 211 yX6_passOverSteps,
  .instanceMethod yX6_passOverSteps,
  .code yX6_passOverSteps cX6_passOverSteps 4 none,
  .methodLink RX6 230 yX6_isReady,
  .instanceMethod yX6_isReady,
  .code yX6_isReady cX6_isReady 2 (some .boolean),
  .methodLink RX6 255 yX0_isOpen,
  .instanceMethod yX0_isOpen,
  .selects RX0 yX0_isOpen yX0_isOpen,
  .code yX0_isOpen cX0_isOpen 2 (some .boolean),
  .methodLink RX6 262 yX0_areDone,
  .instanceMethod yX0_areDone,
  .selects RX0 yX0_areDone yX0_areDone,
  .code yX0_areDone cX0_areDone 3 (some .boolean),
  .methodLink RX6 233 yX0_passOver,
  .instanceMethod yX0_passOver,
  .selects RX0 yX0_passOver yX0_passOver,
  .code yX0_passOver cX0_passOver 2 none]
def wsG_19 : List Cond := [
  .methodLink RX6 214 yX6_beginSteps,
  .instanceMethod yX6_beginSteps,
  .code yX6_beginSteps cX6_beginSteps 6 none,
  .methodLink RX6 236 yX0_isBusy,
  .instanceMethod yX0_isBusy,
  .selects RX0 yX0_isBusy yX0_isBusy,
  .code yX0_isBusy cX0_isBusy 2 (some .boolean),
  .methodLink RX6 239 yX6_nextToBegin,
  .instanceMethod yX6_nextToBegin,
  .code yX6_nextToBegin cX6_nextToBegin 4 (some .int),
  .methodLink RX6 245 yX3_add,
  .instanceMethod yX3_add,
  .selects RX3 yX3_add yX3_add,
  .code yX3_add cX3_add 7 none,
  .methodLink RX6 249 yX0_begin,
  .instanceMethod yX0_begin,
  .selects RX0 yX0_begin yX0_begin,
  .code yX0_begin cX0_begin 4 none,
  .methodLink RX6 217 yX0_nextEnd,
  .instanceMethod yX0_nextEnd,
  .selects RX0 yX0_nextEnd yX0_nextEnd,
  .code yX0_nextEnd cX0_nextEnd 3 (some .int),
  .methodLink RL 74 yL_begun,
  .static yL_begun,
  .classLink RL 20 "java/util/NoSuchElementException"]
def wsG_20 : List Cond := [
  .methodLink RL 17 yX6_begun,
  .instanceMethod yX6_begun,
  .selects RX6 yX6_begun yX6_begun,
  .code yX6_begun cX6_begun 3 (some .int),
  .classLink RX6 153 "java/util/NoSuchElementException",
  .instantiable "java/util/NoSuchElementException" 6,
  .selects "java/util/NoSuchElementException" ⟨"java/lang/Throwable", "fillInStackTrace", "(I)Ljava/lang/Throwable;"⟩ ⟨"java/lang/Throwable", "fillInStackTrace", "(I)Ljava/lang/Throwable;"⟩,
  .lays "java/util/NoSuchElementException" "java/lang/Throwable" "cause" "Ljava/lang/Throwable;",
  .lays "java/util/NoSuchElementException" "java/lang/Throwable" "stackTrace" "[Ljava/lang/StackTraceElement;",
  .lays "java/util/NoSuchElementException" "java/lang/Throwable" "suppressedExceptions" "Ljava/util/List;",
  .lays "java/util/NoSuchElementException" "java/lang/Throwable" "detailMessage" "Ljava/lang/String;",
  .lays "java/util/NoSuchElementException" "java/lang/Throwable" "backtrace" "Ljava/lang/Object;",
  .methodLink RX6 157 ⟨"java/util/NoSuchElementException", "<init>", "(Ljava/lang/String;)V"⟩,
  .instanceMethod ⟨"java/util/NoSuchElementException", "<init>", "(Ljava/lang/String;)V"⟩,
  .code ⟨"java/util/NoSuchElementException", "<init>", "(Ljava/lang/String;)V"⟩ prog_17_method_4_code 2 none,
  .methodLink "java/util/NoSuchElementException" 13 ⟨"java/lang/RuntimeException", "<init>", "(Ljava/lang/String;)V"⟩,
  .lays "java/util/NoSuchElementException" "java/lang/Throwable" "depth" "I",
  .methodLink RX6 158 yX3_cell,
  .instanceMethod yX3_cell,
  .selects RX3 yX3_cell yX3_cell,
  .code yX3_cell cX3_cell 3 (some .int),
  .methodLink RL 77 yL_cycle,
  .static yL_cycle,
  .methodLink RL 22 yX6_cycle,
  .instanceMethod yX6_cycle]
def wsG_21 : List Cond := [
  .selects RX6 yX6_cycle yX6_cycle,
  .code yX6_cycle cX6_cycle 2 (some .int),
  .methodLink RL 81 yL_content,
  .static yL_content,
  .methodLink RL 26 yX6_content,
  .instanceMethod yX6_content,
  .selects RX6 yX6_content yX6_content,
  .code yX6_content cX6_content 2 (some .int),
  .methodLink RX6 171 yX1_isFilled,
  .methodLink RX6 176 yX1_contentOf,
  .classLink RL 30 RX7,
  .instantiable RX7 40,
  .methodLink RL 32 yX7_init,
  .instanceMethod yX7_init,
  .code yX7_init cX7_init 2 none,
  .methodLink RX7 1 objectInit,
  .fieldLink RX7 110 "BuildDeskModel" "thrown" "I",
  .fieldLink RX7 7 "BuildDeskModel" "has" "[Z",
  .fieldLink RX7 13 "BuildDeskModel" "contents" "[I",
  .fieldLink RX7 17 "BuildDeskModel" "maker" "[I",
  .fieldLink RX7 20 "BuildDeskModel" "there" "[Z",
  .fieldLink RX7 23 "BuildDeskModel" "recipe" "[I",
  .fieldLink RX7 26 "BuildDeskModel" "mask" "[I",
  .fieldLink RX7 29 "BuildDeskModel" "duration" "[I",
  .fieldLink RX7 32 "BuildDeskModel" "inputs" "[I"]
def wsG_22 : List Cond := [
  .fieldLink RX7 35 "BuildDeskModel" "outputs" "[I",
  .fieldLink RX7 38 "BuildDeskModel" "ins" "[I",
  .fieldLink RX7 41 "BuildDeskModel" "outs" "[I",
  .fieldLink RX7 44 "BuildDeskModel" "made" "[Z",
  .fieldLink RX7 47 "BuildDeskModel" "oldRecipe" "[I",
  .fieldLink RX7 50 "BuildDeskModel" "oldMask" "[I",
  .fieldLink RX7 53 "BuildDeskModel" "oldInputs" "[I",
  .fieldLink RX7 56 "BuildDeskModel" "oldOutputs" "[I",
  .fieldLink RX7 59 "BuildDeskModel" "oldIns" "[I",
  .fieldLink RX7 62 "BuildDeskModel" "oldOuts" "[I",
  .fieldLink RX7 65 "BuildDeskModel" "oldContents" "[I",
  .fieldLink RX7 68 "BuildDeskModel" "needed" "[Z",
  .fieldLink RX7 71 "BuildDeskModel" "rank" "[I",
  .fieldLink RX7 74 "BuildDeskModel" "state" "[I",
  .fieldLink RX7 77 "BuildDeskModel" "ends" "[I",
  .fieldLink RX7 80 "BuildDeskModel" "mixed" "[I",
  .fieldLink RX7 83 "BuildDeskModel" "worker" "[I",
  .fieldLink RX7 86 "BuildDeskModel" "busy" "[Z",
  .fieldLink RX7 149 "BuildDeskModel" "now" "I",
  .fieldLink RX7 146 "BuildDeskModel" "told" "I",
  .fieldLink RX7 175 "BuildDeskModel" "neededMany" "I",
  .fieldLink RX7 152 "BuildDeskModel" "busyTime" "I",
  .fieldLink RX7 178 "BuildDeskModel" "greatest" "I",
  .fieldLink RX7 89 "BuildDeskModel" "toldStep" "[I",
  .fieldLink RX7 92 "BuildDeskModel" "toldBegin" "[I"]
def wsG_23 : List Cond := [
  .fieldLink RX7 95 "BuildDeskModel" "toldEnd" "[I",
  .fieldLink RX7 98 "BuildDeskModel" "toldWorker" "[I",
  .fieldLink RX7 101 "BuildDeskModel" "toldReason" "[I",
  .fieldLink RX7 139 "BuildDeskModel" "roundLong" "I",
  .fieldLink RX7 104 "BuildDeskModel" "round" "[I",
  .fieldLink RX7 107 "BuildDeskModel" "far" "[I",
  .lays RX7 "BuildDeskModel" "thrown" "I",
  .laysFinal RX7 "BuildDeskModel" "has" "[Z",
  .laysFinal RX7 "BuildDeskModel" "contents" "[I",
  .laysFinal RX7 "BuildDeskModel" "maker" "[I",
  .laysFinal RX7 "BuildDeskModel" "there" "[Z",
  .laysFinal RX7 "BuildDeskModel" "recipe" "[I",
  .laysFinal RX7 "BuildDeskModel" "mask" "[I",
  .laysFinal RX7 "BuildDeskModel" "duration" "[I",
  .laysFinal RX7 "BuildDeskModel" "inputs" "[I",
  .laysFinal RX7 "BuildDeskModel" "outputs" "[I",
  .laysFinal RX7 "BuildDeskModel" "ins" "[I",
  .laysFinal RX7 "BuildDeskModel" "outs" "[I",
  .laysFinal RX7 "BuildDeskModel" "made" "[Z",
  .laysFinal RX7 "BuildDeskModel" "oldRecipe" "[I",
  .laysFinal RX7 "BuildDeskModel" "oldMask" "[I",
  .laysFinal RX7 "BuildDeskModel" "oldInputs" "[I",
  .laysFinal RX7 "BuildDeskModel" "oldOutputs" "[I",
  .laysFinal RX7 "BuildDeskModel" "oldIns" "[I",
  .laysFinal RX7 "BuildDeskModel" "oldOuts" "[I"]
def wsG_24 : List Cond := [
  .laysFinal RX7 "BuildDeskModel" "oldContents" "[I",
  .laysFinal RX7 "BuildDeskModel" "needed" "[Z",
  .laysFinal RX7 "BuildDeskModel" "rank" "[I",
  .laysFinal RX7 "BuildDeskModel" "state" "[I",
  .laysFinal RX7 "BuildDeskModel" "ends" "[I",
  .laysFinal RX7 "BuildDeskModel" "mixed" "[I",
  .laysFinal RX7 "BuildDeskModel" "worker" "[I",
  .laysFinal RX7 "BuildDeskModel" "busy" "[Z",
  .lays RX7 "BuildDeskModel" "now" "I",
  .lays RX7 "BuildDeskModel" "told" "I",
  .lays RX7 "BuildDeskModel" "neededMany" "I",
  .lays RX7 "BuildDeskModel" "busyTime" "I",
  .lays RX7 "BuildDeskModel" "greatest" "I",
  .laysFinal RX7 "BuildDeskModel" "toldStep" "[I",
  .laysFinal RX7 "BuildDeskModel" "toldBegin" "[I"]
def wsG_25 : List Cond := [
  .laysFinal RX7 "BuildDeskModel" "toldEnd" "[I",
  .laysFinal RX7 "BuildDeskModel" "toldWorker" "[I",
  .laysFinal RX7 "BuildDeskModel" "toldReason" "[I",
  .lays RX7 "BuildDeskModel" "roundLong" "I",
  .laysFinal RX7 "BuildDeskModel" "round" "[I",
  .laysFinal RX7 "BuildDeskModel" "far" "[I",
  .methodLink RL 66 yX7_thrown,
  .instanceMethod yX7_thrown,
  .selects RX7 yX7_thrown yX7_thrown,
  .code yX7_thrown cX7_thrown 1 (some .int),
  .methodLink RL 37 yX7_step,
  .instanceMethod yX7_step,
  .selects RX7 yX7_step yX7_step,
  .code yX7_step cX7_step 5 (some .boolean),
  .methodLink RL 42 yX7_input,
  .instanceMethod yX7_input,
  .selects RX7 yX7_input yX7_input,
  .code yX7_input cX7_input 3 (some .boolean),
  .methodLink RX7 114 yX7_isStep,
  .instanceMethod yX7_isStep,
  .code yX7_isStep cX7_isStep 2 (some .boolean),
  .methodLink RX7 118 yX7_isFile,
  .static yX7_isFile,
  .code yX7_isFile cX7_isFile 1 (some .boolean),
  .methodLink RL 46 yX7_output]
def wsG_26 : List Cond := [
  .instanceMethod yX7_output,
  .selects RX7 yX7_output yX7_output,
  .code yX7_output cX7_output 3 (some .boolean),
  .methodLink RL 51 yX7_drop,
  .instanceMethod yX7_drop,
  .selects RX7 yX7_drop yX7_drop,
  .code yX7_drop cX7_drop 3 (some .boolean),
  .methodLink RL 55 yX7_source,
  .instanceMethod yX7_source,
  .selects RX7 yX7_source yX7_source,
  .code yX7_source cX7_source 3 (some .boolean),
  .methodLink RL 59 yX7_spoil,
  .instanceMethod yX7_spoil,
  .selects RX7 yX7_spoil yX7_spoil,
  .code yX7_spoil cX7_spoil 2 (some .boolean),
  .methodLink RL 87 yX7_reason,
  .instanceMethod yX7_reason,
  .selects RX7 yX7_reason yX7_reason,
  .code yX7_reason cX7_reason 2 (some .int),
  .methodLink RX7 124 yX7_why,
  .instanceMethod yX7_why,
  .code yX7_why cX7_why 6 (some .int),
  .methodLink RX7 121 yX7_isOther,
  .instanceMethod yX7_isOther,
  .code yX7_isOther cX7_isOther 4 (some .boolean)]
def wsG_27 : List Cond := [
  .methodLink RL 65 yX7_build,
  .instanceMethod yX7_build,
  .selects RX7 yX7_build yX7_build,
  .code yX7_build cX7_build 6 (some .int),
  .methodLink RX7 159 yX7_raise,
  .instanceMethod yX7_raise,
  .code yX7_raise cX7_raise 2 (some .int),
  .methodLink RX7 162 yX7_spread,
  .instanceMethod yX7_spread,
  .code yX7_spread cX7_spread 6 none,
  .methodLink RX7 128 yX7_takes,
  .instanceMethod yX7_takes,
  .code yX7_takes cX7_takes 5 (some .boolean),
  .methodLink RX7 165 yX7_isRound,
  .instanceMethod yX7_isRound,
  .code yX7_isRound cX7_isRound 3 (some .boolean),
  .methodLink RX7 132 yX7_measure,
  .instanceMethod yX7_measure,
  .code yX7_measure cX7_measure 5 none,
  .methodLink RX7 136 yX7_nearest,
  .instanceMethod yX7_nearest,
  .code yX7_nearest cX7_nearest 4 (some .int),
  .methodLink RX7 169 yX7_isLacking,
  .instanceMethod yX7_isLacking,
  .code yX7_isLacking cX7_isLacking 6 (some .boolean)]
def wsG_28 : List Cond := [
  .methodLink RX7 172 yX7_order,
  .instanceMethod yX7_order,
  .code yX7_order cX7_order 4 none,
  .methodLink RX7 181 yX7_end,
  .instanceMethod yX7_end,
  .code yX7_end cX7_end 4 none,
  .methodLink RX7 184 yX7_pass,
  .instanceMethod yX7_pass,
  .code yX7_pass cX7_pass 3 none,
  .methodLink RX7 142 yX7_isReady,
  .instanceMethod yX7_isReady,
  .code yX7_isReady cX7_isReady 5 (some .boolean),
  .methodLink RX7 187 yX7_hire,
  .instanceMethod yX7_hire,
  .code yX7_hire cX7_hire 5 none,
  .methodLink RX7 155 yX7_start,
  .instanceMethod yX7_start,
  .code yX7_start cX7_start 6 none,
  .constant RX7 145 16777619,
  .methodLink RL 73 yX7_count,
  .instanceMethod yX7_count,
  .selects RX7 yX7_count yX7_count,
  .code yX7_count cX7_count 4 (some .int),
  .methodLink RL 76 yX7_begun,
  .instanceMethod yX7_begun]
def wsG_29 : List Cond := [
  .selects RX7 yX7_begun yX7_begun,
  .code yX7_begun cX7_begun 3 (some .int),
  .methodLink RL 80 yX7_cycle,
  .instanceMethod yX7_cycle,
  .selects RX7 yX7_cycle yX7_cycle,
  .code yX7_cycle cX7_cycle 2 (some .int),
  .methodLink RL 83 yX7_content,
  .instanceMethod yX7_content,
  .selects RX7 yX7_content yX7_content,
  .code yX7_content cX7_content 2 (some .int)]
def wsG : List Cond := wsG_0 ++ (wsG_1 ++ (wsG_2 ++ (wsG_3 ++ (wsG_4 ++ (wsG_5 ++ (wsG_6 ++ (wsG_7 ++ (wsG_8 ++ (wsG_9 ++ (wsG_10 ++ (wsG_11 ++ (wsG_12 ++ (wsG_13 ++ (wsG_14 ++ (wsG_15 ++ (wsG_16 ++ (wsG_17 ++ (wsG_18 ++ (wsG_19 ++ (wsG_20 ++ (wsG_21 ++ (wsG_22 ++ (wsG_23 ++ (wsG_24 ++ (wsG_25 ++ (wsG_26 ++ (wsG_27 ++ (wsG_28 ++ (wsG_29)))))))))))))))))))))))))))))
theorem wsG_s0 : ∀ w ∈ wsG_0, w ∈ wsG := fun w h => List.mem_append_left _ (h)
theorem wsG_s1 : ∀ w ∈ wsG_1, w ∈ wsG := fun w h => List.mem_append_right _ (List.mem_append_left _ (h))
theorem wsG_s2 : ∀ w ∈ wsG_2, w ∈ wsG := fun w h => List.mem_append_right _ (List.mem_append_right _ (List.mem_append_left _ (h)))
theorem wsG_s3 : ∀ w ∈ wsG_3, w ∈ wsG := fun w h => List.mem_append_right _ (List.mem_append_right _ (List.mem_append_right _ (List.mem_append_left _ (h))))
theorem wsG_s4 : ∀ w ∈ wsG_4, w ∈ wsG := fun w h => List.mem_append_right _ (List.mem_append_right _ (List.mem_append_right _ (List.mem_append_right _ (List.mem_append_left _ (h)))))
theorem wsG_s5 : ∀ w ∈ wsG_5, w ∈ wsG := fun w h => List.mem_append_right _ (List.mem_append_right _ (List.mem_append_right _ (List.mem_append_right _ (List.mem_append_right _ (List.mem_append_left _ (h))))))
theorem wsG_s6 : ∀ w ∈ wsG_6, w ∈ wsG := fun w h => List.mem_append_right _ (List.mem_append_right _ (List.mem_append_right _ (List.mem_append_right _ (List.mem_append_right _ (List.mem_append_right _ (List.mem_append_left _ (h)))))))
theorem wsG_s7 : ∀ w ∈ wsG_7, w ∈ wsG := fun w h => List.mem_append_right _ (List.mem_append_right _ (List.mem_append_right _ (List.mem_append_right _ (List.mem_append_right _ (List.mem_append_right _ (List.mem_append_right _ (List.mem_append_left _ (h))))))))
theorem wsG_s8 : ∀ w ∈ wsG_8, w ∈ wsG := fun w h => List.mem_append_right _ (List.mem_append_right _ (List.mem_append_right _ (List.mem_append_right _ (List.mem_append_right _ (List.mem_append_right _ (List.mem_append_right _ (List.mem_append_right _ (List.mem_append_left _ (h)))))))))
theorem wsG_s9 : ∀ w ∈ wsG_9, w ∈ wsG := fun w h => List.mem_append_right _ (List.mem_append_right _ (List.mem_append_right _ (List.mem_append_right _ (List.mem_append_right _ (List.mem_append_right _ (List.mem_append_right _ (List.mem_append_right _ (List.mem_append_right _ (List.mem_append_left _ (h))))))))))
theorem wsG_s10 : ∀ w ∈ wsG_10, w ∈ wsG := fun w h => List.mem_append_right _ (List.mem_append_right _ (List.mem_append_right _ (List.mem_append_right _ (List.mem_append_right _ (List.mem_append_right _ (List.mem_append_right _ (List.mem_append_right _ (List.mem_append_right _ (List.mem_append_right _ (List.mem_append_left _ (h)))))))))))
theorem wsG_s11 : ∀ w ∈ wsG_11, w ∈ wsG := fun w h => List.mem_append_right _ (List.mem_append_right _ (List.mem_append_right _ (List.mem_append_right _ (List.mem_append_right _ (List.mem_append_right _ (List.mem_append_right _ (List.mem_append_right _ (List.mem_append_right _ (List.mem_append_right _ (List.mem_append_right _ (List.mem_append_left _ (h))))))))))))
theorem wsG_s12 : ∀ w ∈ wsG_12, w ∈ wsG := fun w h => List.mem_append_right _ (List.mem_append_right _ (List.mem_append_right _ (List.mem_append_right _ (List.mem_append_right _ (List.mem_append_right _ (List.mem_append_right _ (List.mem_append_right _ (List.mem_append_right _ (List.mem_append_right _ (List.mem_append_right _ (List.mem_append_right _ (List.mem_append_left _ (h)))))))))))))
theorem wsG_s13 : ∀ w ∈ wsG_13, w ∈ wsG := fun w h => List.mem_append_right _ (List.mem_append_right _ (List.mem_append_right _ (List.mem_append_right _ (List.mem_append_right _ (List.mem_append_right _ (List.mem_append_right _ (List.mem_append_right _ (List.mem_append_right _ (List.mem_append_right _ (List.mem_append_right _ (List.mem_append_right _ (List.mem_append_right _ (List.mem_append_left _ (h))))))))))))))
theorem wsG_s14 : ∀ w ∈ wsG_14, w ∈ wsG := fun w h => List.mem_append_right _ (List.mem_append_right _ (List.mem_append_right _ (List.mem_append_right _ (List.mem_append_right _ (List.mem_append_right _ (List.mem_append_right _ (List.mem_append_right _ (List.mem_append_right _ (List.mem_append_right _ (List.mem_append_right _ (List.mem_append_right _ (List.mem_append_right _ (List.mem_append_right _ (List.mem_append_left _ (h)))))))))))))))
theorem wsG_s15 : ∀ w ∈ wsG_15, w ∈ wsG := fun w h => List.mem_append_right _ (List.mem_append_right _ (List.mem_append_right _ (List.mem_append_right _ (List.mem_append_right _ (List.mem_append_right _ (List.mem_append_right _ (List.mem_append_right _ (List.mem_append_right _ (List.mem_append_right _ (List.mem_append_right _ (List.mem_append_right _ (List.mem_append_right _ (List.mem_append_right _ (List.mem_append_right _ (List.mem_append_left _ (h))))))))))))))))
theorem wsG_s16 : ∀ w ∈ wsG_16, w ∈ wsG := fun w h => List.mem_append_right _ (List.mem_append_right _ (List.mem_append_right _ (List.mem_append_right _ (List.mem_append_right _ (List.mem_append_right _ (List.mem_append_right _ (List.mem_append_right _ (List.mem_append_right _ (List.mem_append_right _ (List.mem_append_right _ (List.mem_append_right _ (List.mem_append_right _ (List.mem_append_right _ (List.mem_append_right _ (List.mem_append_right _ (List.mem_append_left _ (h)))))))))))))))))
theorem wsG_s17 : ∀ w ∈ wsG_17, w ∈ wsG := fun w h => List.mem_append_right _ (List.mem_append_right _ (List.mem_append_right _ (List.mem_append_right _ (List.mem_append_right _ (List.mem_append_right _ (List.mem_append_right _ (List.mem_append_right _ (List.mem_append_right _ (List.mem_append_right _ (List.mem_append_right _ (List.mem_append_right _ (List.mem_append_right _ (List.mem_append_right _ (List.mem_append_right _ (List.mem_append_right _ (List.mem_append_right _ (List.mem_append_left _ (h))))))))))))))))))
theorem wsG_s18 : ∀ w ∈ wsG_18, w ∈ wsG := fun w h => List.mem_append_right _ (List.mem_append_right _ (List.mem_append_right _ (List.mem_append_right _ (List.mem_append_right _ (List.mem_append_right _ (List.mem_append_right _ (List.mem_append_right _ (List.mem_append_right _ (List.mem_append_right _ (List.mem_append_right _ (List.mem_append_right _ (List.mem_append_right _ (List.mem_append_right _ (List.mem_append_right _ (List.mem_append_right _ (List.mem_append_right _ (List.mem_append_right _ (List.mem_append_left _ (h)))))))))))))))))))
theorem wsG_s19 : ∀ w ∈ wsG_19, w ∈ wsG := fun w h => List.mem_append_right _ (List.mem_append_right _ (List.mem_append_right _ (List.mem_append_right _ (List.mem_append_right _ (List.mem_append_right _ (List.mem_append_right _ (List.mem_append_right _ (List.mem_append_right _ (List.mem_append_right _ (List.mem_append_right _ (List.mem_append_right _ (List.mem_append_right _ (List.mem_append_right _ (List.mem_append_right _ (List.mem_append_right _ (List.mem_append_right _ (List.mem_append_right _ (List.mem_append_right _ (List.mem_append_left _ (h))))))))))))))))))))
theorem wsG_s20 : ∀ w ∈ wsG_20, w ∈ wsG := fun w h => List.mem_append_right _ (List.mem_append_right _ (List.mem_append_right _ (List.mem_append_right _ (List.mem_append_right _ (List.mem_append_right _ (List.mem_append_right _ (List.mem_append_right _ (List.mem_append_right _ (List.mem_append_right _ (List.mem_append_right _ (List.mem_append_right _ (List.mem_append_right _ (List.mem_append_right _ (List.mem_append_right _ (List.mem_append_right _ (List.mem_append_right _ (List.mem_append_right _ (List.mem_append_right _ (List.mem_append_right _ (List.mem_append_left _ (h)))))))))))))))))))))
theorem wsG_s21 : ∀ w ∈ wsG_21, w ∈ wsG := fun w h => List.mem_append_right _ (List.mem_append_right _ (List.mem_append_right _ (List.mem_append_right _ (List.mem_append_right _ (List.mem_append_right _ (List.mem_append_right _ (List.mem_append_right _ (List.mem_append_right _ (List.mem_append_right _ (List.mem_append_right _ (List.mem_append_right _ (List.mem_append_right _ (List.mem_append_right _ (List.mem_append_right _ (List.mem_append_right _ (List.mem_append_right _ (List.mem_append_right _ (List.mem_append_right _ (List.mem_append_right _ (List.mem_append_right _ (List.mem_append_left _ (h))))))))))))))))))))))
theorem wsG_s22 : ∀ w ∈ wsG_22, w ∈ wsG := fun w h => List.mem_append_right _ (List.mem_append_right _ (List.mem_append_right _ (List.mem_append_right _ (List.mem_append_right _ (List.mem_append_right _ (List.mem_append_right _ (List.mem_append_right _ (List.mem_append_right _ (List.mem_append_right _ (List.mem_append_right _ (List.mem_append_right _ (List.mem_append_right _ (List.mem_append_right _ (List.mem_append_right _ (List.mem_append_right _ (List.mem_append_right _ (List.mem_append_right _ (List.mem_append_right _ (List.mem_append_right _ (List.mem_append_right _ (List.mem_append_right _ (List.mem_append_left _ (h)))))))))))))))))))))))
theorem wsG_s23 : ∀ w ∈ wsG_23, w ∈ wsG := fun w h => List.mem_append_right _ (List.mem_append_right _ (List.mem_append_right _ (List.mem_append_right _ (List.mem_append_right _ (List.mem_append_right _ (List.mem_append_right _ (List.mem_append_right _ (List.mem_append_right _ (List.mem_append_right _ (List.mem_append_right _ (List.mem_append_right _ (List.mem_append_right _ (List.mem_append_right _ (List.mem_append_right _ (List.mem_append_right _ (List.mem_append_right _ (List.mem_append_right _ (List.mem_append_right _ (List.mem_append_right _ (List.mem_append_right _ (List.mem_append_right _ (List.mem_append_right _ (List.mem_append_left _ (h))))))))))))))))))))))))
theorem wsG_s24 : ∀ w ∈ wsG_24, w ∈ wsG := fun w h => List.mem_append_right _ (List.mem_append_right _ (List.mem_append_right _ (List.mem_append_right _ (List.mem_append_right _ (List.mem_append_right _ (List.mem_append_right _ (List.mem_append_right _ (List.mem_append_right _ (List.mem_append_right _ (List.mem_append_right _ (List.mem_append_right _ (List.mem_append_right _ (List.mem_append_right _ (List.mem_append_right _ (List.mem_append_right _ (List.mem_append_right _ (List.mem_append_right _ (List.mem_append_right _ (List.mem_append_right _ (List.mem_append_right _ (List.mem_append_right _ (List.mem_append_right _ (List.mem_append_right _ (List.mem_append_left _ (h)))))))))))))))))))))))))
theorem wsG_s25 : ∀ w ∈ wsG_25, w ∈ wsG := fun w h => List.mem_append_right _ (List.mem_append_right _ (List.mem_append_right _ (List.mem_append_right _ (List.mem_append_right _ (List.mem_append_right _ (List.mem_append_right _ (List.mem_append_right _ (List.mem_append_right _ (List.mem_append_right _ (List.mem_append_right _ (List.mem_append_right _ (List.mem_append_right _ (List.mem_append_right _ (List.mem_append_right _ (List.mem_append_right _ (List.mem_append_right _ (List.mem_append_right _ (List.mem_append_right _ (List.mem_append_right _ (List.mem_append_right _ (List.mem_append_right _ (List.mem_append_right _ (List.mem_append_right _ (List.mem_append_right _ (List.mem_append_left _ (h))))))))))))))))))))))))))
theorem wsG_s26 : ∀ w ∈ wsG_26, w ∈ wsG := fun w h => List.mem_append_right _ (List.mem_append_right _ (List.mem_append_right _ (List.mem_append_right _ (List.mem_append_right _ (List.mem_append_right _ (List.mem_append_right _ (List.mem_append_right _ (List.mem_append_right _ (List.mem_append_right _ (List.mem_append_right _ (List.mem_append_right _ (List.mem_append_right _ (List.mem_append_right _ (List.mem_append_right _ (List.mem_append_right _ (List.mem_append_right _ (List.mem_append_right _ (List.mem_append_right _ (List.mem_append_right _ (List.mem_append_right _ (List.mem_append_right _ (List.mem_append_right _ (List.mem_append_right _ (List.mem_append_right _ (List.mem_append_right _ (List.mem_append_left _ (h)))))))))))))))))))))))))))
theorem wsG_s27 : ∀ w ∈ wsG_27, w ∈ wsG := fun w h => List.mem_append_right _ (List.mem_append_right _ (List.mem_append_right _ (List.mem_append_right _ (List.mem_append_right _ (List.mem_append_right _ (List.mem_append_right _ (List.mem_append_right _ (List.mem_append_right _ (List.mem_append_right _ (List.mem_append_right _ (List.mem_append_right _ (List.mem_append_right _ (List.mem_append_right _ (List.mem_append_right _ (List.mem_append_right _ (List.mem_append_right _ (List.mem_append_right _ (List.mem_append_right _ (List.mem_append_right _ (List.mem_append_right _ (List.mem_append_right _ (List.mem_append_right _ (List.mem_append_right _ (List.mem_append_right _ (List.mem_append_right _ (List.mem_append_right _ (List.mem_append_left _ (h))))))))))))))))))))))))))))
theorem wsG_s28 : ∀ w ∈ wsG_28, w ∈ wsG := fun w h => List.mem_append_right _ (List.mem_append_right _ (List.mem_append_right _ (List.mem_append_right _ (List.mem_append_right _ (List.mem_append_right _ (List.mem_append_right _ (List.mem_append_right _ (List.mem_append_right _ (List.mem_append_right _ (List.mem_append_right _ (List.mem_append_right _ (List.mem_append_right _ (List.mem_append_right _ (List.mem_append_right _ (List.mem_append_right _ (List.mem_append_right _ (List.mem_append_right _ (List.mem_append_right _ (List.mem_append_right _ (List.mem_append_right _ (List.mem_append_right _ (List.mem_append_right _ (List.mem_append_right _ (List.mem_append_right _ (List.mem_append_right _ (List.mem_append_right _ (List.mem_append_right _ (List.mem_append_left _ (h)))))))))))))))))))))))))))))
theorem wsG_s29 : ∀ w ∈ wsG_29, w ∈ wsG := fun w h => List.mem_append_right _ (List.mem_append_right _ (List.mem_append_right _ (List.mem_append_right _ (List.mem_append_right _ (List.mem_append_right _ (List.mem_append_right _ (List.mem_append_right _ (List.mem_append_right _ (List.mem_append_right _ (List.mem_append_right _ (List.mem_append_right _ (List.mem_append_right _ (List.mem_append_right _ (List.mem_append_right _ (List.mem_append_right _ (List.mem_append_right _ (List.mem_append_right _ (List.mem_append_right _ (List.mem_append_right _ (List.mem_append_right _ (List.mem_append_right _ (List.mem_append_right _ (List.mem_append_right _ (List.mem_append_right _ (List.mem_append_right _ (List.mem_append_right _ (List.mem_append_right _ (List.mem_append_right _ (h)))))))))))))))))))))))))))))
theorem wsG_a0 : wsG_0 = ([0, 1, 2, 3, 4, 5, 6, 7, 8, 9, 10, 11, 12, 13, 14, 15, 16, 17, 18, 19, 20, 21, 22, 23, 24] : List Nat).filterMap (fun i => (k2_sels lw_privs)[i]?) := by decide +kernel
theorem wsG_g0 : wsG_0.all goodWord = true := by decide +kernel
theorem wsG_i0 : ∀ w ∈ wsG_0, w ∈ lw_tbl ∧ goodWord w = true := by
  intro w hw
  refine ⟨?_, List.all_eq_true.mp wsG_g0 w hw⟩
  rw [wsG_a0] at hw
  obtain ⟨i, -, hi⟩ := List.mem_filterMap.mp hw
  have h := List.mem_of_getElem? hi
  exact List.mem_append_left _ h
theorem wsG_a1 : wsG_1 = ([25, 26, 27, 28, 29, 30, 31] : List Nat).filterMap (fun i => (k2_sels lw_privs)[i]?) := by decide +kernel
theorem wsG_g1 : wsG_1.all goodWord = true := by decide +kernel
theorem wsG_i1 : ∀ w ∈ wsG_1, w ∈ lw_tbl ∧ goodWord w = true := by
  intro w hw
  refine ⟨?_, List.all_eq_true.mp wsG_g1 w hw⟩
  rw [wsG_a1] at hw
  obtain ⟨i, -, hi⟩ := List.mem_filterMap.mp hw
  have h := List.mem_of_getElem? hi
  exact List.mem_append_left _ h
theorem wsG_a2 : wsG_2 = ([0, 1, 2, 3, 4, 5, 6, 7, 8, 9, 10, 11, 12, 13, 14, 15, 16, 17, 18, 19, 20, 21, 22, 23, 24] : List Nat).filterMap (fun i => tables_1_1[i]?) := by decide +kernel
theorem wsG_g2 : wsG_2.all goodWord = true := by decide +kernel
theorem wsG_i2 : ∀ w ∈ wsG_2, w ∈ lw_tbl ∧ goodWord w = true := by
  intro w hw
  refine ⟨?_, List.all_eq_true.mp wsG_g2 w hw⟩
  rw [wsG_a2] at hw
  obtain ⟨i, -, hi⟩ := List.mem_filterMap.mp hw
  have h := List.mem_of_getElem? hi
  exact List.mem_append_right _ (List.mem_append_left _ h)
theorem wsG_a3 : wsG_3 = ([25, 26, 27, 28, 29, 30, 31, 32, 33, 35, 37, 40, 41, 42, 44, 46, 47, 48, 49, 51, 52, 53, 56, 57, 58] : List Nat).filterMap (fun i => tables_1_1[i]?) := by decide +kernel
theorem wsG_g3 : wsG_3.all goodWord = true := by decide +kernel
theorem wsG_i3 : ∀ w ∈ wsG_3, w ∈ lw_tbl ∧ goodWord w = true := by
  intro w hw
  refine ⟨?_, List.all_eq_true.mp wsG_g3 w hw⟩
  rw [wsG_a3] at hw
  obtain ⟨i, -, hi⟩ := List.mem_filterMap.mp hw
  have h := List.mem_of_getElem? hi
  exact List.mem_append_right _ (List.mem_append_left _ h)
theorem wsG_a4 : wsG_4 = ([59, 60, 61, 62, 63, 64, 65, 66, 68, 70, 72, 74, 76, 78, 80, 82, 84, 86, 88, 90, 92, 95, 96, 98, 99] : List Nat).filterMap (fun i => tables_1_1[i]?) := by decide +kernel
theorem wsG_g4 : wsG_4.all goodWord = true := by decide +kernel
theorem wsG_i4 : ∀ w ∈ wsG_4, w ∈ lw_tbl ∧ goodWord w = true := by
  intro w hw
  refine ⟨?_, List.all_eq_true.mp wsG_g4 w hw⟩
  rw [wsG_a4] at hw
  obtain ⟨i, -, hi⟩ := List.mem_filterMap.mp hw
  have h := List.mem_of_getElem? hi
  exact List.mem_append_right _ (List.mem_append_left _ h)
theorem wsG_a5 : wsG_5 = ([100, 101, 104, 106, 107, 110, 112, 114, 116, 118, 120, 123, 124, 125, 127, 128, 129, 130, 131, 132, 133, 134, 135, 137, 139] : List Nat).filterMap (fun i => tables_1_1[i]?) := by decide +kernel
theorem wsG_g5 : wsG_5.all goodWord = true := by decide +kernel
theorem wsG_i5 : ∀ w ∈ wsG_5, w ∈ lw_tbl ∧ goodWord w = true := by
  intro w hw
  refine ⟨?_, List.all_eq_true.mp wsG_g5 w hw⟩
  rw [wsG_a5] at hw
  obtain ⟨i, -, hi⟩ := List.mem_filterMap.mp hw
  have h := List.mem_of_getElem? hi
  exact List.mem_append_right _ (List.mem_append_left _ h)
theorem wsG_a6 : wsG_6 = ([141, 143, 146, 147, 149, 150, 151, 152, 154, 156, 158, 160, 161, 163, 165, 167, 169, 172, 173, 175, 176, 177, 178, 180, 182] : List Nat).filterMap (fun i => tables_1_1[i]?) := by decide +kernel
theorem wsG_g6 : wsG_6.all goodWord = true := by decide +kernel
theorem wsG_i6 : ∀ w ∈ wsG_6, w ∈ lw_tbl ∧ goodWord w = true := by
  intro w hw
  refine ⟨?_, List.all_eq_true.mp wsG_g6 w hw⟩
  rw [wsG_a6] at hw
  obtain ⟨i, -, hi⟩ := List.mem_filterMap.mp hw
  have h := List.mem_of_getElem? hi
  exact List.mem_append_right _ (List.mem_append_left _ h)
theorem wsG_a7 : wsG_7 = ([183, 185, 187, 190, 191, 192, 193, 194, 195, 196, 198, 200, 202, 204, 206, 209, 210, 211, 212, 213, 214, 215, 216, 217, 218] : List Nat).filterMap (fun i => tables_1_1[i]?) := by decide +kernel
theorem wsG_g7 : wsG_7.all goodWord = true := by decide +kernel
theorem wsG_i7 : ∀ w ∈ wsG_7, w ∈ lw_tbl ∧ goodWord w = true := by
  intro w hw
  refine ⟨?_, List.all_eq_true.mp wsG_g7 w hw⟩
  rw [wsG_a7] at hw
  obtain ⟨i, -, hi⟩ := List.mem_filterMap.mp hw
  have h := List.mem_of_getElem? hi
  exact List.mem_append_right _ (List.mem_append_left _ h)
theorem wsG_a8 : wsG_8 = ([219, 220, 221, 222, 223, 224, 226, 227, 228, 229, 230, 231, 232, 233, 234, 235, 236, 237, 238, 239] : List Nat).filterMap (fun i => tables_1_1[i]?) := by decide +kernel
theorem wsG_g8 : wsG_8.all goodWord = true := by decide +kernel
theorem wsG_i8 : ∀ w ∈ wsG_8, w ∈ lw_tbl ∧ goodWord w = true := by
  intro w hw
  refine ⟨?_, List.all_eq_true.mp wsG_g8 w hw⟩
  rw [wsG_a8] at hw
  obtain ⟨i, -, hi⟩ := List.mem_filterMap.mp hw
  have h := List.mem_of_getElem? hi
  exact List.mem_append_right _ (List.mem_append_left _ h)
theorem wsG_a9 : wsG_9 = ([1, 2, 3, 4, 5, 6, 7, 8, 9, 10, 11, 12, 13, 14, 15, 16, 17, 18, 19, 20, 21, 22, 23, 24, 25] : List Nat).filterMap (fun i => tables_1_2[i]?) := by decide +kernel
theorem wsG_g9 : wsG_9.all goodWord = true := by decide +kernel
theorem wsG_i9 : ∀ w ∈ wsG_9, w ∈ lw_tbl ∧ goodWord w = true := by
  intro w hw
  refine ⟨?_, List.all_eq_true.mp wsG_g9 w hw⟩
  rw [wsG_a9] at hw
  obtain ⟨i, -, hi⟩ := List.mem_filterMap.mp hw
  have h := List.mem_of_getElem? hi
  exact List.mem_append_right _ (List.mem_append_right _ (List.mem_append_left _ h))
theorem wsG_a10 : wsG_10 = ([26, 27, 28, 29, 30, 31, 32, 33, 34, 35, 36, 37, 38, 39, 40, 41, 42, 43, 44, 45, 46, 47, 48, 50, 51] : List Nat).filterMap (fun i => tables_1_2[i]?) := by decide +kernel
theorem wsG_g10 : wsG_10.all goodWord = true := by decide +kernel
theorem wsG_i10 : ∀ w ∈ wsG_10, w ∈ lw_tbl ∧ goodWord w = true := by
  intro w hw
  refine ⟨?_, List.all_eq_true.mp wsG_g10 w hw⟩
  rw [wsG_a10] at hw
  obtain ⟨i, -, hi⟩ := List.mem_filterMap.mp hw
  have h := List.mem_of_getElem? hi
  exact List.mem_append_right _ (List.mem_append_right _ (List.mem_append_left _ h))
theorem wsG_a11 : wsG_11 = ([52, 53, 54, 55, 56, 57, 58, 59, 60, 62, 63, 64, 66, 67, 68, 69, 70, 71, 72, 74, 75, 76, 77, 78, 79] : List Nat).filterMap (fun i => tables_1_2[i]?) := by decide +kernel
theorem wsG_g11 : wsG_11.all goodWord = true := by decide +kernel
theorem wsG_i11 : ∀ w ∈ wsG_11, w ∈ lw_tbl ∧ goodWord w = true := by
  intro w hw
  refine ⟨?_, List.all_eq_true.mp wsG_g11 w hw⟩
  rw [wsG_a11] at hw
  obtain ⟨i, -, hi⟩ := List.mem_filterMap.mp hw
  have h := List.mem_of_getElem? hi
  exact List.mem_append_right _ (List.mem_append_right _ (List.mem_append_left _ h))
theorem wsG_a12 : wsG_12 = ([80, 81, 83, 84, 85, 86, 87, 88, 89, 90, 98, 99, 100, 101, 102, 103, 104, 105, 106, 107, 108, 109, 110, 112, 113] : List Nat).filterMap (fun i => tables_1_2[i]?) := by decide +kernel
theorem wsG_g12 : wsG_12.all goodWord = true := by decide +kernel
theorem wsG_i12 : ∀ w ∈ wsG_12, w ∈ lw_tbl ∧ goodWord w = true := by
  intro w hw
  refine ⟨?_, List.all_eq_true.mp wsG_g12 w hw⟩
  rw [wsG_a12] at hw
  obtain ⟨i, -, hi⟩ := List.mem_filterMap.mp hw
  have h := List.mem_of_getElem? hi
  exact List.mem_append_right _ (List.mem_append_right _ (List.mem_append_left _ h))
theorem wsG_a13 : wsG_13 = ([114, 115, 117, 119, 120, 122, 123, 125, 127, 128, 131, 132, 133, 134, 135, 136, 137, 138, 139, 140, 141, 142, 144, 145, 146] : List Nat).filterMap (fun i => tables_1_2[i]?) := by decide +kernel
theorem wsG_g13 : wsG_13.all goodWord = true := by decide +kernel
theorem wsG_i13 : ∀ w ∈ wsG_13, w ∈ lw_tbl ∧ goodWord w = true := by
  intro w hw
  refine ⟨?_, List.all_eq_true.mp wsG_g13 w hw⟩
  rw [wsG_a13] at hw
  obtain ⟨i, -, hi⟩ := List.mem_filterMap.mp hw
  have h := List.mem_of_getElem? hi
  exact List.mem_append_right _ (List.mem_append_right _ (List.mem_append_left _ h))
theorem wsG_a14 : wsG_14 = ([147, 152, 156, 158, 159, 160, 161, 162, 163, 164, 165, 166, 168, 169, 172, 173, 174, 175, 176, 177, 178, 179, 180, 181, 182] : List Nat).filterMap (fun i => tables_1_2[i]?) := by decide +kernel
theorem wsG_g14 : wsG_14.all goodWord = true := by decide +kernel
theorem wsG_i14 : ∀ w ∈ wsG_14, w ∈ lw_tbl ∧ goodWord w = true := by
  intro w hw
  refine ⟨?_, List.all_eq_true.mp wsG_g14 w hw⟩
  rw [wsG_a14] at hw
  obtain ⟨i, -, hi⟩ := List.mem_filterMap.mp hw
  have h := List.mem_of_getElem? hi
  exact List.mem_append_right _ (List.mem_append_right _ (List.mem_append_left _ h))
theorem wsG_a15 : wsG_15 = ([183, 185, 187, 188, 190, 191, 192, 193, 194, 196, 197, 198, 199, 200, 201, 202, 204, 205, 206, 207, 208, 209, 211, 212, 213] : List Nat).filterMap (fun i => tables_1_2[i]?) := by decide +kernel
theorem wsG_g15 : wsG_15.all goodWord = true := by decide +kernel
theorem wsG_i15 : ∀ w ∈ wsG_15, w ∈ lw_tbl ∧ goodWord w = true := by
  intro w hw
  refine ⟨?_, List.all_eq_true.mp wsG_g15 w hw⟩
  rw [wsG_a15] at hw
  obtain ⟨i, -, hi⟩ := List.mem_filterMap.mp hw
  have h := List.mem_of_getElem? hi
  exact List.mem_append_right _ (List.mem_append_right _ (List.mem_append_left _ h))
theorem wsG_a16 : wsG_16 = ([214, 215, 217, 219, 220, 221, 222, 223, 224, 225, 226, 227, 228, 229, 230, 232, 233, 234, 235, 236, 237, 238, 239] : List Nat).filterMap (fun i => tables_1_2[i]?) := by decide +kernel
theorem wsG_g16 : wsG_16.all goodWord = true := by decide +kernel
theorem wsG_i16 : ∀ w ∈ wsG_16, w ∈ lw_tbl ∧ goodWord w = true := by
  intro w hw
  refine ⟨?_, List.all_eq_true.mp wsG_g16 w hw⟩
  rw [wsG_a16] at hw
  obtain ⟨i, -, hi⟩ := List.mem_filterMap.mp hw
  have h := List.mem_of_getElem? hi
  exact List.mem_append_right _ (List.mem_append_right _ (List.mem_append_left _ h))
theorem wsG_a17 : wsG_17 = ([0, 1, 2, 3, 4, 5, 6, 7, 9, 10, 11, 12, 13, 14, 15, 17, 18, 19, 20, 21, 22, 24, 25, 26, 27] : List Nat).filterMap (fun i => tables_1_3[i]?) := by decide +kernel
theorem wsG_g17 : wsG_17.all goodWord = true := by decide +kernel
theorem wsG_i17 : ∀ w ∈ wsG_17, w ∈ lw_tbl ∧ goodWord w = true := by
  intro w hw
  refine ⟨?_, List.all_eq_true.mp wsG_g17 w hw⟩
  rw [wsG_a17] at hw
  obtain ⟨i, -, hi⟩ := List.mem_filterMap.mp hw
  have h := List.mem_of_getElem? hi
  exact List.mem_append_right _ (List.mem_append_right _ (List.mem_append_right _ (List.mem_append_left _ h)))
theorem wsG_a18 : wsG_18 = ([28, 29, 30, 31, 32, 33, 35, 36, 38, 39, 40, 42, 43, 44, 45, 46, 47, 48, 49, 50, 51, 52, 53, 54, 55] : List Nat).filterMap (fun i => tables_1_3[i]?) := by decide +kernel
theorem wsG_g18 : wsG_18.all goodWord = true := by decide +kernel
theorem wsG_i18 : ∀ w ∈ wsG_18, w ∈ lw_tbl ∧ goodWord w = true := by
  intro w hw
  refine ⟨?_, List.all_eq_true.mp wsG_g18 w hw⟩
  rw [wsG_a18] at hw
  obtain ⟨i, -, hi⟩ := List.mem_filterMap.mp hw
  have h := List.mem_of_getElem? hi
  exact List.mem_append_right _ (List.mem_append_right _ (List.mem_append_right _ (List.mem_append_left _ h)))
theorem wsG_a19 : wsG_19 = ([56, 58, 59, 60, 61, 62, 63, 64, 66, 67, 68, 69, 70, 71, 72, 73, 74, 75, 76, 77, 78, 79, 80, 81, 83] : List Nat).filterMap (fun i => tables_1_3[i]?) := by decide +kernel
theorem wsG_g19 : wsG_19.all goodWord = true := by decide +kernel
theorem wsG_i19 : ∀ w ∈ wsG_19, w ∈ lw_tbl ∧ goodWord w = true := by
  intro w hw
  refine ⟨?_, List.all_eq_true.mp wsG_g19 w hw⟩
  rw [wsG_a19] at hw
  obtain ⟨i, -, hi⟩ := List.mem_filterMap.mp hw
  have h := List.mem_of_getElem? hi
  exact List.mem_append_right _ (List.mem_append_right _ (List.mem_append_right _ (List.mem_append_left _ h)))
theorem wsG_a20 : wsG_20 = ([84, 85, 86, 87, 88, 89, 91, 92, 93, 94, 95, 96, 98, 99, 100, 101, 102, 104, 105, 106, 107, 108, 109, 111, 112] : List Nat).filterMap (fun i => tables_1_3[i]?) := by decide +kernel
theorem wsG_g20 : wsG_20.all goodWord = true := by decide +kernel
theorem wsG_i20 : ∀ w ∈ wsG_20, w ∈ lw_tbl ∧ goodWord w = true := by
  intro w hw
  refine ⟨?_, List.all_eq_true.mp wsG_g20 w hw⟩
  rw [wsG_a20] at hw
  obtain ⟨i, -, hi⟩ := List.mem_filterMap.mp hw
  have h := List.mem_of_getElem? hi
  exact List.mem_append_right _ (List.mem_append_right _ (List.mem_append_right _ (List.mem_append_left _ h)))
theorem wsG_a21 : wsG_21 = ([113, 114, 116, 117, 119, 120, 121, 122, 123, 125, 126, 127, 128, 129, 130, 131, 132, 133, 134, 135, 136, 137, 138, 139, 140] : List Nat).filterMap (fun i => tables_1_3[i]?) := by decide +kernel
theorem wsG_g21 : wsG_21.all goodWord = true := by decide +kernel
theorem wsG_i21 : ∀ w ∈ wsG_21, w ∈ lw_tbl ∧ goodWord w = true := by
  intro w hw
  refine ⟨?_, List.all_eq_true.mp wsG_g21 w hw⟩
  rw [wsG_a21] at hw
  obtain ⟨i, -, hi⟩ := List.mem_filterMap.mp hw
  have h := List.mem_of_getElem? hi
  exact List.mem_append_right _ (List.mem_append_right _ (List.mem_append_right _ (List.mem_append_left _ h)))
theorem wsG_a22 : wsG_22 = ([141, 142, 143, 144, 145, 146, 147, 148, 149, 150, 151, 152, 153, 154, 155, 156, 157, 158, 159, 160, 161, 162, 163, 164, 165] : List Nat).filterMap (fun i => tables_1_3[i]?) := by decide +kernel
theorem wsG_g22 : wsG_22.all goodWord = true := by decide +kernel
theorem wsG_i22 : ∀ w ∈ wsG_22, w ∈ lw_tbl ∧ goodWord w = true := by
  intro w hw
  refine ⟨?_, List.all_eq_true.mp wsG_g22 w hw⟩
  rw [wsG_a22] at hw
  obtain ⟨i, -, hi⟩ := List.mem_filterMap.mp hw
  have h := List.mem_of_getElem? hi
  exact List.mem_append_right _ (List.mem_append_right _ (List.mem_append_right _ (List.mem_append_left _ h)))
theorem wsG_a23 : wsG_23 = ([166, 167, 168, 169, 170, 171, 172, 174, 176, 178, 180, 182, 184, 186, 188, 190, 192, 194, 196, 198, 200, 202, 204, 206, 208] : List Nat).filterMap (fun i => tables_1_3[i]?) := by decide +kernel
theorem wsG_g23 : wsG_23.all goodWord = true := by decide +kernel
theorem wsG_i23 : ∀ w ∈ wsG_23, w ∈ lw_tbl ∧ goodWord w = true := by
  intro w hw
  refine ⟨?_, List.all_eq_true.mp wsG_g23 w hw⟩
  rw [wsG_a23] at hw
  obtain ⟨i, -, hi⟩ := List.mem_filterMap.mp hw
  have h := List.mem_of_getElem? hi
  exact List.mem_append_right _ (List.mem_append_right _ (List.mem_append_right _ (List.mem_append_left _ h)))
theorem wsG_a24 : wsG_24 = ([210, 212, 214, 216, 218, 220, 222, 224, 226, 228, 230, 232, 234, 236, 238] : List Nat).filterMap (fun i => tables_1_3[i]?) := by decide +kernel
theorem wsG_g24 : wsG_24.all goodWord = true := by decide +kernel
theorem wsG_i24 : ∀ w ∈ wsG_24, w ∈ lw_tbl ∧ goodWord w = true := by
  intro w hw
  refine ⟨?_, List.all_eq_true.mp wsG_g24 w hw⟩
  rw [wsG_a24] at hw
  obtain ⟨i, -, hi⟩ := List.mem_filterMap.mp hw
  have h := List.mem_of_getElem? hi
  exact List.mem_append_right _ (List.mem_append_right _ (List.mem_append_right _ (List.mem_append_left _ h)))
theorem wsG_a25 : wsG_25 = ([0, 2, 4, 6, 8, 10, 13, 14, 15, 16, 17, 18, 19, 20, 21, 22, 23, 24, 25, 27, 28, 29, 30, 31, 32] : List Nat).filterMap (fun i => tables_1_4[i]?) := by decide +kernel
theorem wsG_g25 : wsG_25.all goodWord = true := by decide +kernel
theorem wsG_i25 : ∀ w ∈ wsG_25, w ∈ lw_tbl ∧ goodWord w = true := by
  intro w hw
  refine ⟨?_, List.all_eq_true.mp wsG_g25 w hw⟩
  rw [wsG_a25] at hw
  obtain ⟨i, -, hi⟩ := List.mem_filterMap.mp hw
  have h := List.mem_of_getElem? hi
  exact List.mem_append_right _ (List.mem_append_right _ (List.mem_append_right _ (List.mem_append_right _ (h))))
theorem wsG_a26 : wsG_26 = ([33, 34, 35, 36, 37, 38, 39, 40, 41, 42, 43, 44, 45, 46, 47, 48, 49, 50, 51, 52, 54, 55, 56, 58, 59] : List Nat).filterMap (fun i => tables_1_4[i]?) := by decide +kernel
theorem wsG_g26 : wsG_26.all goodWord = true := by decide +kernel
theorem wsG_i26 : ∀ w ∈ wsG_26, w ∈ lw_tbl ∧ goodWord w = true := by
  intro w hw
  refine ⟨?_, List.all_eq_true.mp wsG_g26 w hw⟩
  rw [wsG_a26] at hw
  obtain ⟨i, -, hi⟩ := List.mem_filterMap.mp hw
  have h := List.mem_of_getElem? hi
  exact List.mem_append_right _ (List.mem_append_right _ (List.mem_append_right _ (List.mem_append_right _ (h))))
theorem wsG_a27 : wsG_27 = ([60, 61, 62, 63, 64, 66, 67, 68, 70, 71, 72, 74, 75, 76, 78, 79, 80, 82, 83, 84, 86, 87, 88, 90, 91] : List Nat).filterMap (fun i => tables_1_4[i]?) := by decide +kernel
theorem wsG_g27 : wsG_27.all goodWord = true := by decide +kernel
theorem wsG_i27 : ∀ w ∈ wsG_27, w ∈ lw_tbl ∧ goodWord w = true := by
  intro w hw
  refine ⟨?_, List.all_eq_true.mp wsG_g27 w hw⟩
  rw [wsG_a27] at hw
  obtain ⟨i, -, hi⟩ := List.mem_filterMap.mp hw
  have h := List.mem_of_getElem? hi
  exact List.mem_append_right _ (List.mem_append_right _ (List.mem_append_right _ (List.mem_append_right _ (h))))
theorem wsG_a28 : wsG_28 = ([92, 94, 95, 96, 98, 99, 100, 102, 103, 104, 106, 107, 108, 110, 111, 112, 114, 115, 116, 117, 118, 119, 120, 121, 122] : List Nat).filterMap (fun i => tables_1_4[i]?) := by decide +kernel
theorem wsG_g28 : wsG_28.all goodWord = true := by decide +kernel
theorem wsG_i28 : ∀ w ∈ wsG_28, w ∈ lw_tbl ∧ goodWord w = true := by
  intro w hw
  refine ⟨?_, List.all_eq_true.mp wsG_g28 w hw⟩
  rw [wsG_a28] at hw
  obtain ⟨i, -, hi⟩ := List.mem_filterMap.mp hw
  have h := List.mem_of_getElem? hi
  exact List.mem_append_right _ (List.mem_append_right _ (List.mem_append_right _ (List.mem_append_right _ (h))))
theorem wsG_a29 : wsG_29 = ([123, 124, 125, 126, 127, 128, 129, 130, 131, 132] : List Nat).filterMap (fun i => tables_1_4[i]?) := by decide +kernel
theorem wsG_g29 : wsG_29.all goodWord = true := by decide +kernel
theorem wsG_i29 : ∀ w ∈ wsG_29, w ∈ lw_tbl ∧ goodWord w = true := by
  intro w hw
  refine ⟨?_, List.all_eq_true.mp wsG_g29 w hw⟩
  rw [wsG_a29] at hw
  obtain ⟨i, -, hi⟩ := List.mem_filterMap.mp hw
  have h := List.mem_of_getElem? hi
  exact List.mem_append_right _ (List.mem_append_right _ (List.mem_append_right _ (List.mem_append_right _ (h))))
theorem wsG_all : ∀ w ∈ wsG, w ∈ lw_tbl ∧ goodWord w = true := by
  intro w hw
  rcases List.mem_append.mp hw with hw | hw
  · exact wsG_i0 w hw
  rcases List.mem_append.mp hw with hw | hw
  · exact wsG_i1 w hw
  rcases List.mem_append.mp hw with hw | hw
  · exact wsG_i2 w hw
  rcases List.mem_append.mp hw with hw | hw
  · exact wsG_i3 w hw
  rcases List.mem_append.mp hw with hw | hw
  · exact wsG_i4 w hw
  rcases List.mem_append.mp hw with hw | hw
  · exact wsG_i5 w hw
  rcases List.mem_append.mp hw with hw | hw
  · exact wsG_i6 w hw
  rcases List.mem_append.mp hw with hw | hw
  · exact wsG_i7 w hw
  rcases List.mem_append.mp hw with hw | hw
  · exact wsG_i8 w hw
  rcases List.mem_append.mp hw with hw | hw
  · exact wsG_i9 w hw
  rcases List.mem_append.mp hw with hw | hw
  · exact wsG_i10 w hw
  rcases List.mem_append.mp hw with hw | hw
  · exact wsG_i11 w hw
  rcases List.mem_append.mp hw with hw | hw
  · exact wsG_i12 w hw
  rcases List.mem_append.mp hw with hw | hw
  · exact wsG_i13 w hw
  rcases List.mem_append.mp hw with hw | hw
  · exact wsG_i14 w hw
  rcases List.mem_append.mp hw with hw | hw
  · exact wsG_i15 w hw
  rcases List.mem_append.mp hw with hw | hw
  · exact wsG_i16 w hw
  rcases List.mem_append.mp hw with hw | hw
  · exact wsG_i17 w hw
  rcases List.mem_append.mp hw with hw | hw
  · exact wsG_i18 w hw
  rcases List.mem_append.mp hw with hw | hw
  · exact wsG_i19 w hw
  rcases List.mem_append.mp hw with hw | hw
  · exact wsG_i20 w hw
  rcases List.mem_append.mp hw with hw | hw
  · exact wsG_i21 w hw
  rcases List.mem_append.mp hw with hw | hw
  · exact wsG_i22 w hw
  rcases List.mem_append.mp hw with hw | hw
  · exact wsG_i23 w hw
  rcases List.mem_append.mp hw with hw | hw
  · exact wsG_i24 w hw
  rcases List.mem_append.mp hw with hw | hw
  · exact wsG_i25 w hw
  rcases List.mem_append.mp hw with hw | hw
  · exact wsG_i26 w hw
  rcases List.mem_append.mp hw with hw | hw
  · exact wsG_i27 w hw
  rcases List.mem_append.mp hw with hw | hw
  · exact wsG_i28 w hw
  exact wsG_i29 w hw
theorem wsG_in : ∀ w ∈ wsG, w ∈ lw_tbl := fun w hw => (wsG_all w hw).1
theorem gdA : GoodIn wsG wsG := fun w hw => ⟨hw, good_of_word (wsG_all w hw).2⟩
theorem gdC {w : Cond} (h : w ∈ wsG) : GoodIn wsG (w :: wsG) := fun u hu => (List.mem_cons.mp hu).elim (fun e => e ▸ gdA _ h) (gdA u)
theorem gdV {own C : String} {index : Nat} {y : MethodName} {w : Cond} (h1 : Cond.methodLink own index y ∈ wsG) (h2 : Cond.instanceMethod y ∈ wsG) (h3 : Cond.selects C y y ∈ wsG) (h4 : Cond.initialized C ∈ wsG) (h5 : w ∈ wsG) : GoodIn wsG (wsV own index C y (w :: wsG)) := by
  intro u hu
  unfold wsV at hu
  rcases List.mem_append.mp hu with hu | hu
  · simp only [List.mem_cons, List.not_mem_nil, or_false] at hu
    rcases hu with rfl | rfl | rfl | rfl
    · exact gdA _ h1
    · exact gdA _ h2
    · exact gdA _ h3
    · exact gdA _ h4
  · exact gdC h5 u hu
theorem gdS {own : String} {index : Nat} {y : MethodName} {w : Cond} (h1 : Cond.methodLink own index y ∈ wsG) (h2 : Cond.static y ∈ wsG) (h4 : Cond.initialized own ∈ wsG) (h5 : w ∈ wsG) : GoodIn wsG (wsS own index y (w :: wsG)) := by
  intro u hu
  unfold wsS at hu
  rcases List.mem_append.mp hu with hu | hu
  · simp only [List.mem_cons, List.not_mem_nil, or_false] at hu
    rcases hu with rfl | rfl | rfl
    · exact gdA _ h1
    · exact gdA _ h2
    · exact gdA _ h4
  · exact gdC h5 u hu
def nwL : List Cond := [
  .methodLinkNest RX6 22 yX5_init "BuildDesk",
  .fieldLinkNest RX6 187 "BuildDesk$Step" "there" "Z" "BuildDesk",
  .fieldLinkNest RX2 46 "BuildDesk$Step" "duration" "I" "BuildDesk",
  .fieldLinkNest RX6 242 "BuildDesk$Step" "duration" "I" "BuildDesk",
  .methodLinkNest RX6 25 yX2_init "BuildDesk",
  .fieldLinkNest RX4 45 "BuildDesk$Plan" "waits" "[J" "BuildDesk",
  .fieldLinkNest RX6 258 "BuildDesk$Plan" "waits" "[J" "BuildDesk",
  .fieldLinkNest RX3 15 "BuildDesk$Plan" "lined" "I" "BuildDesk",
  .fieldLinkNest RX6 252 "BuildDesk$Plan" "rank" "[I" "BuildDesk",
  .fieldLinkNest RX4 19 "BuildDesk$Plan" "needed" "J" "BuildDesk",
  .fieldLinkNest RX6 194 "BuildDesk$Plan" "needed" "J" "BuildDesk",
  .methodLinkNest RX6 32 yX0_init "BuildDesk",
  .methodLinkNest RX6 39 yX3_init "BuildDesk",
  .fieldLinkNest RX6 133 "BuildDesk$Report" "needed" "I" "BuildDesk",
  .fieldLinkNest RX6 137 "BuildDesk$Report" "begun" "I" "BuildDesk",
  .fieldLinkNest RX6 140 "BuildDesk$Report" "busyTime" "I" "BuildDesk",
  .fieldLinkNest RX6 143 "BuildDesk$Report" "greatestRank" "I" "BuildDesk",
  .methodLinkNest RX6 46 yX4_init "BuildDesk",
  .fieldLinkNest RX6 167 "BuildDesk$Round" "members" "[I" "BuildDesk",
  .fieldLinkNest RX6 162 "BuildDesk$Round" "length" "I" "BuildDesk",
  .methodLinkNest RX5 54 yX6_bit "BuildDesk",
  .methodLinkNest RX2 28 yX6_bit "BuildDesk",
  .methodLinkNest RX2 36 yX6_isIn "BuildDesk",
  .methodLinkNest RX4 25 yX6_isIn "BuildDesk",
  .methodLinkNest RX4 37 yX6_bit "BuildDesk",
  .methodLinkNest RX0 29 yX6_isIn "BuildDesk",
  .methodLinkNest RX0 35 yX6_bit "BuildDesk"]
def nwLp : List Nat := [77, 82, 86, 87, 129, 134, 135, 137, 140, 141, 143, 158, 180, 185, 187, 189, 191, 206, 211, 213, 439, 442, 443, 456, 461, 535, 546]
theorem nwL_at : nwL = nwLp.filterMap (fun i => lw_tbl[i]?) := by decide +kernel
def aoL : List String := ["BuildDesk$Step"]
/-! the words on private members of nest mates, and on arrays of objects: carried through every contract -/
def nwS (U : State) : Prop := (∀ w ∈ nwL, va_Nw w U) ∧ ∀ C ∈ aoL, va_AO C U
def nwK (w : Cond) : Bool := match w with
  | .fieldLinkNest _ _ _ _ _ _ => true
  | .methodLinkNest _ _ _ _ => true
  | _ => false
theorem nwL_t : ∀ w ∈ nwL, w.onTables = true := by decide +kernel
theorem nwL_k : ∀ w ∈ nwL, nwK w = true := by decide +kernel
theorem nwS_same {u U : State} (h : u.vm = U.vm) (hN : nwS u) : nwS U := ⟨fun w hw => va_Nw.same (nwL_t w hw) h (hN.1 w hw), fun C hC => va_AO.moved (by rw [h]; exact Vm.Alike.refl _) (hN.2 C hC)⟩
theorem nwS_warm {s U : State} (hW : s.WarmedH U.vm) (hN : nwS s) : nwS U := by
  refine ⟨fun w hw => ?_, fun C hC => va_AO.moved hW.alike (hN.2 C hC)⟩
  have hk := nwL_k w hw
  have h := hN.1 w hw
  unfold nwK at hk
  split at hk
  · exact va_Nw.warmF hW h
  · exact va_Nw.warmM hW h
  · cases hk
end
section
theorem wm_0 : Cond.selects RX6 yX6_isThere yX6_isThere ∈ wsG := wsG_s0 _ (List.mem_of_getElem? (i := 0) rfl)
theorem wm_1 : Cond.selects RX6 yX6_isSource yX6_isSource ∈ wsG := wsG_s0 _ (List.mem_of_getElem? (i := 1) rfl)
theorem wm_2 : Cond.selects RX6 yX6_countSteps yX6_countSteps ∈ wsG := wsG_s0 _ (List.mem_of_getElem? (i := 2) rfl)
theorem wm_3 : Cond.selects RX5 yX5_isToldOtherwise yX5_isToldOtherwise ∈ wsG := wsG_s0 _ (List.mem_of_getElem? (i := 3) rfl)
theorem wm_4 : Cond.selects RX5 yX5_outputLacks yX5_outputLacks ∈ wsG := wsG_s0 _ (List.mem_of_getElem? (i := 4) rfl)
theorem wm_5 : Cond.selects RX5 yX5_inputDiffers yX5_inputDiffers ∈ wsG := wsG_s0 _ (List.mem_of_getElem? (i := 5) rfl)
theorem wm_6 : Cond.selects "java/lang/Throwable" ⟨"java/lang/Throwable", "fillInStackTrace", "(I)Ljava/lang/Throwable;"⟩ ⟨"java/lang/Throwable", "fillInStackTrace", "(I)Ljava/lang/Throwable;"⟩ ∈ wsG := wsG_s0 _ (List.mem_of_getElem? (i := 6) rfl)
theorem wm_7 : Cond.selects RX4 yX4_measure yX4_measure ∈ wsG := wsG_s0 _ (List.mem_of_getElem? (i := 7) rfl)
theorem wm_8 : Cond.selects RX4 yX4_walk yX4_walk ∈ wsG := wsG_s0 _ (List.mem_of_getElem? (i := 8) rfl)
theorem wm_9 : Cond.selects RX6 yX6_sourceLacks yX6_sourceLacks ∈ wsG := wsG_s0 _ (List.mem_of_getElem? (i := 9) rfl)
theorem wm_10 : Cond.selects RX6 yX6_makeNeeded yX6_makeNeeded ∈ wsG := wsG_s0 _ (List.mem_of_getElem? (i := 10) rfl)
theorem wm_11 : Cond.selects RX6 yX6_endSteps yX6_endSteps ∈ wsG := wsG_s0 _ (List.mem_of_getElem? (i := 11) rfl)
theorem wm_12 : Cond.selects RX6 yX6_passOverSteps yX6_passOverSteps ∈ wsG := wsG_s0 _ (List.mem_of_getElem? (i := 12) rfl)
theorem wm_13 : Cond.selects RX6 yX6_isReady yX6_isReady ∈ wsG := wsG_s0 _ (List.mem_of_getElem? (i := 13) rfl)
theorem wm_14 : Cond.selects RX6 yX6_beginSteps yX6_beginSteps ∈ wsG := wsG_s0 _ (List.mem_of_getElem? (i := 14) rfl)
theorem wm_15 : Cond.selects RX6 yX6_nextToBegin yX6_nextToBegin ∈ wsG := wsG_s0 _ (List.mem_of_getElem? (i := 15) rfl)
theorem wm_16 : Cond.selects RX7 yX7_isStep yX7_isStep ∈ wsG := wsG_s0 _ (List.mem_of_getElem? (i := 16) rfl)
theorem wm_17 : Cond.selects RX7 yX7_why yX7_why ∈ wsG := wsG_s0 _ (List.mem_of_getElem? (i := 17) rfl)
theorem wm_18 : Cond.selects RX7 yX7_isOther yX7_isOther ∈ wsG := wsG_s0 _ (List.mem_of_getElem? (i := 18) rfl)
theorem wm_19 : Cond.selects RX7 yX7_raise yX7_raise ∈ wsG := wsG_s0 _ (List.mem_of_getElem? (i := 19) rfl)
theorem wm_20 : Cond.selects RX7 yX7_spread yX7_spread ∈ wsG := wsG_s0 _ (List.mem_of_getElem? (i := 20) rfl)
theorem wm_21 : Cond.selects RX7 yX7_takes yX7_takes ∈ wsG := wsG_s0 _ (List.mem_of_getElem? (i := 21) rfl)
theorem wm_22 : Cond.selects RX7 yX7_isRound yX7_isRound ∈ wsG := wsG_s0 _ (List.mem_of_getElem? (i := 22) rfl)
theorem wm_23 : Cond.selects RX7 yX7_measure yX7_measure ∈ wsG := wsG_s0 _ (List.mem_of_getElem? (i := 23) rfl)
theorem wm_24 : Cond.selects RX7 yX7_nearest yX7_nearest ∈ wsG := wsG_s0 _ (List.mem_of_getElem? (i := 24) rfl)
theorem wm_25 : Cond.selects RX7 yX7_isLacking yX7_isLacking ∈ wsG := wsG_s1 _ (List.mem_of_getElem? (i := 0) rfl)
theorem wm_26 : Cond.selects RX7 yX7_order yX7_order ∈ wsG := wsG_s1 _ (List.mem_of_getElem? (i := 1) rfl)
theorem wm_27 : Cond.selects RX7 yX7_end yX7_end ∈ wsG := wsG_s1 _ (List.mem_of_getElem? (i := 2) rfl)
theorem wm_28 : Cond.selects RX7 yX7_pass yX7_pass ∈ wsG := wsG_s1 _ (List.mem_of_getElem? (i := 3) rfl)
theorem wm_29 : Cond.selects RX7 yX7_isReady yX7_isReady ∈ wsG := wsG_s1 _ (List.mem_of_getElem? (i := 4) rfl)
theorem wm_30 : Cond.selects RX7 yX7_hire yX7_hire ∈ wsG := wsG_s1 _ (List.mem_of_getElem? (i := 5) rfl)
theorem wm_31 : Cond.selects RX7 yX7_start yX7_start ∈ wsG := wsG_s1 _ (List.mem_of_getElem? (i := 6) rfl)
theorem wm_32 : Cond.initialized RL ∈ wsG := wsG_s2 _ (List.mem_of_getElem? (i := 0) rfl)
theorem wm_33 : Cond.initialized RX6 ∈ wsG := wsG_s2 _ (List.mem_of_getElem? (i := 1) rfl)
theorem wm_34 : Cond.initialized RX1 ∈ wsG := wsG_s2 _ (List.mem_of_getElem? (i := 2) rfl)
theorem wm_35 : Cond.initialized RX5 ∈ wsG := wsG_s2 _ (List.mem_of_getElem? (i := 3) rfl)
theorem wm_36 : Cond.initialized RX2 ∈ wsG := wsG_s2 _ (List.mem_of_getElem? (i := 4) rfl)
theorem wm_37 : Cond.initialized RX0 ∈ wsG := wsG_s2 _ (List.mem_of_getElem? (i := 5) rfl)
theorem wm_38 : Cond.initialized RX3 ∈ wsG := wsG_s2 _ (List.mem_of_getElem? (i := 6) rfl)
theorem wm_39 : Cond.initialized RX4 ∈ wsG := wsG_s2 _ (List.mem_of_getElem? (i := 7) rfl)
theorem wm_40 : Cond.initialized RX7 ∈ wsG := wsG_s2 _ (List.mem_of_getElem? (i := 8) rfl)
theorem wm_41 : Cond.initialized "java/lang/Throwable" ∈ wsG := wsG_s2 _ (List.mem_of_getElem? (i := 9) rfl)
theorem wm_42 : Cond.initialized "java/lang/Exception" ∈ wsG := wsG_s2 _ (List.mem_of_getElem? (i := 10) rfl)
theorem wm_43 : Cond.initialized "java/lang/RuntimeException" ∈ wsG := wsG_s2 _ (List.mem_of_getElem? (i := 11) rfl)
theorem wm_44 : Cond.initialized "java/lang/IllegalArgumentException" ∈ wsG := wsG_s2 _ (List.mem_of_getElem? (i := 12) rfl)
theorem wm_45 : Cond.initialized "java/lang/IllegalStateException" ∈ wsG := wsG_s2 _ (List.mem_of_getElem? (i := 13) rfl)
theorem wm_46 : Cond.initialized "java/lang/Math" ∈ wsG := wsG_s2 _ (List.mem_of_getElem? (i := 14) rfl)
theorem wm_47 : Cond.initialized "java/util/NoSuchElementException" ∈ wsG := wsG_s2 _ (List.mem_of_getElem? (i := 15) rfl)
theorem wm_48 : Cond.classLink RL 8 RX6 ∈ wsG := wsG_s2 _ (List.mem_of_getElem? (i := 16) rfl)
theorem wm_49 : Cond.instantiable RX6 6 ∈ wsG := wsG_s2 _ (List.mem_of_getElem? (i := 17) rfl)
theorem wm_50 : Cond.methodLink RL 29 yX6_init ∈ wsG := wsG_s2 _ (List.mem_of_getElem? (i := 18) rfl)
theorem wm_51 : Cond.instanceMethod yX6_init ∈ wsG := wsG_s2 _ (List.mem_of_getElem? (i := 19) rfl)
theorem wm_52 : Cond.code yX6_init cX6_init 2 none ∈ wsG := wsG_s2 _ (List.mem_of_getElem? (i := 20) rfl)
theorem wm_53 : Cond.methodLink RX6 1 objectInit ∈ wsG := wsG_s2 _ (List.mem_of_getElem? (i := 21) rfl)
theorem wm_54 : Cond.instanceMethod objectInit ∈ wsG := wsG_s2 _ (List.mem_of_getElem? (i := 22) rfl)
theorem wm_55 : Cond.code objectInit ⟨#[0xb1]⟩ 1 none ∈ wsG := wsG_s2 _ (List.mem_of_getElem? (i := 23) rfl)
theorem wm_56 : Cond.classLink RX6 7 RX1 ∈ wsG := wsG_s2 _ (List.mem_of_getElem? (i := 24) rfl)
theorem wm_57 : Cond.instantiable RX1 3 ∈ wsG := wsG_s3 _ (List.mem_of_getElem? (i := 0) rfl)
theorem wm_58 : Cond.methodLink RX6 9 yX1_init ∈ wsG := wsG_s3 _ (List.mem_of_getElem? (i := 1) rfl)
theorem wm_59 : Cond.instanceMethod yX1_init ∈ wsG := wsG_s3 _ (List.mem_of_getElem? (i := 2) rfl)
theorem wm_60 : Cond.code yX1_init cX1_init 2 none ∈ wsG := wsG_s3 _ (List.mem_of_getElem? (i := 3) rfl)
theorem wm_61 : Cond.methodLink RX1 3 objectInit ∈ wsG := wsG_s3 _ (List.mem_of_getElem? (i := 4) rfl)
theorem wm_62 : Cond.fieldLink RX1 9 "BuildDesk$FileTable" "contents" "[I" ∈ wsG := wsG_s3 _ (List.mem_of_getElem? (i := 5) rfl)
theorem wm_63 : Cond.fieldLink RX1 15 "BuildDesk$FileTable" "filled" "[Z" ∈ wsG := wsG_s3 _ (List.mem_of_getElem? (i := 6) rfl)
theorem wm_64 : Cond.fieldLink RX1 19 "BuildDesk$FileTable" "makers" "[I" ∈ wsG := wsG_s3 _ (List.mem_of_getElem? (i := 7) rfl)
theorem wm_65 : Cond.laysFinal RX1 "BuildDesk$FileTable" "contents" "[I" ∈ wsG := wsG_s3 _ (List.mem_of_getElem? (i := 8) rfl)
theorem wm_66 : Cond.laysFinal RX1 "BuildDesk$FileTable" "filled" "[Z" ∈ wsG := wsG_s3 _ (List.mem_of_getElem? (i := 9) rfl)
theorem wm_67 : Cond.laysFinal RX1 "BuildDesk$FileTable" "makers" "[I" ∈ wsG := wsG_s3 _ (List.mem_of_getElem? (i := 10) rfl)
theorem wm_68 : Cond.arrayClass .int ∈ wsG := wsG_s3 _ (List.mem_of_getElem? (i := 11) rfl)
theorem wm_69 : Cond.arrayClass .boolean ∈ wsG := wsG_s3 _ (List.mem_of_getElem? (i := 12) rfl)
theorem wm_70 : Cond.classLink RX6 16 RX5 ∈ wsG := wsG_s3 _ (List.mem_of_getElem? (i := 13) rfl)
theorem wm_71 : Cond.instantiable RX5 14 ∈ wsG := wsG_s3 _ (List.mem_of_getElem? (i := 14) rfl)
theorem wm_72 : Cond.instanceMethod yX5_init ∈ wsG := wsG_s3 _ (List.mem_of_getElem? (i := 15) rfl)
theorem wm_73 : Cond.code yX5_init cX5_init 1 none ∈ wsG := wsG_s3 _ (List.mem_of_getElem? (i := 16) rfl)
theorem wm_74 : Cond.methodLink RX5 3 objectInit ∈ wsG := wsG_s3 _ (List.mem_of_getElem? (i := 17) rfl)
theorem wm_75 : Cond.fieldLink RX5 21 "BuildDesk$Step" "there" "Z" ∈ wsG := wsG_s3 _ (List.mem_of_getElem? (i := 18) rfl)
theorem wm_76 : Cond.fieldLink RX5 25 "BuildDesk$Step" "recipe" "I" ∈ wsG := wsG_s3 _ (List.mem_of_getElem? (i := 19) rfl)
theorem wm_77 : Cond.fieldLink RX5 29 "BuildDesk$Step" "mask" "I" ∈ wsG := wsG_s3 _ (List.mem_of_getElem? (i := 20) rfl)
theorem wm_78 : Cond.fieldLink RX5 32 "BuildDesk$Step" "duration" "I" ∈ wsG := wsG_s3 _ (List.mem_of_getElem? (i := 21) rfl)
theorem wm_79 : Cond.fieldLink RX5 9 "BuildDesk$Step" "inputs" "[I" ∈ wsG := wsG_s3 _ (List.mem_of_getElem? (i := 22) rfl)
theorem wm_80 : Cond.fieldLink RX5 35 "BuildDesk$Step" "inputCount" "I" ∈ wsG := wsG_s3 _ (List.mem_of_getElem? (i := 23) rfl)
theorem wm_81 : Cond.fieldLink RX5 15 "BuildDesk$Step" "outputs" "[I" ∈ wsG := wsG_s3 _ (List.mem_of_getElem? (i := 24) rfl)
theorem wm_82 : Cond.fieldLink RX5 38 "BuildDesk$Step" "outputCount" "I" ∈ wsG := wsG_s4 _ (List.mem_of_getElem? (i := 0) rfl)
theorem wm_83 : Cond.fieldLink RX5 47 "BuildDesk$Step" "made" "Z" ∈ wsG := wsG_s4 _ (List.mem_of_getElem? (i := 1) rfl)
theorem wm_84 : Cond.fieldLink RX5 73 "BuildDesk$Step" "madeRecipe" "I" ∈ wsG := wsG_s4 _ (List.mem_of_getElem? (i := 2) rfl)
theorem wm_85 : Cond.fieldLink RX5 76 "BuildDesk$Step" "madeMask" "I" ∈ wsG := wsG_s4 _ (List.mem_of_getElem? (i := 3) rfl)
theorem wm_86 : Cond.fieldLink RX5 79 "BuildDesk$Step" "madeInputCount" "I" ∈ wsG := wsG_s4 _ (List.mem_of_getElem? (i := 4) rfl)
theorem wm_87 : Cond.fieldLink RX5 82 "BuildDesk$Step" "madeOutputCount" "I" ∈ wsG := wsG_s4 _ (List.mem_of_getElem? (i := 5) rfl)
theorem wm_88 : Cond.fieldLink RX5 18 "BuildDesk$Step" "madeContents" "[I" ∈ wsG := wsG_s4 _ (List.mem_of_getElem? (i := 6) rfl)
theorem wm_89 : Cond.lays RX5 "BuildDesk$Step" "there" "Z" ∈ wsG := wsG_s4 _ (List.mem_of_getElem? (i := 7) rfl)
theorem wm_90 : Cond.lays RX5 "BuildDesk$Step" "recipe" "I" ∈ wsG := wsG_s4 _ (List.mem_of_getElem? (i := 8) rfl)
theorem wm_91 : Cond.lays RX5 "BuildDesk$Step" "mask" "I" ∈ wsG := wsG_s4 _ (List.mem_of_getElem? (i := 9) rfl)
theorem wm_92 : Cond.lays RX5 "BuildDesk$Step" "duration" "I" ∈ wsG := wsG_s4 _ (List.mem_of_getElem? (i := 10) rfl)
theorem wm_93 : Cond.laysFinal RX5 "BuildDesk$Step" "inputs" "[I" ∈ wsG := wsG_s4 _ (List.mem_of_getElem? (i := 11) rfl)
theorem wm_94 : Cond.lays RX5 "BuildDesk$Step" "inputCount" "I" ∈ wsG := wsG_s4 _ (List.mem_of_getElem? (i := 12) rfl)
theorem wm_95 : Cond.laysFinal RX5 "BuildDesk$Step" "outputs" "[I" ∈ wsG := wsG_s4 _ (List.mem_of_getElem? (i := 13) rfl)
theorem wm_96 : Cond.lays RX5 "BuildDesk$Step" "outputCount" "I" ∈ wsG := wsG_s4 _ (List.mem_of_getElem? (i := 14) rfl)
theorem wm_97 : Cond.lays RX5 "BuildDesk$Step" "made" "Z" ∈ wsG := wsG_s4 _ (List.mem_of_getElem? (i := 15) rfl)
theorem wm_98 : Cond.lays RX5 "BuildDesk$Step" "madeRecipe" "I" ∈ wsG := wsG_s4 _ (List.mem_of_getElem? (i := 16) rfl)
theorem wm_99 : Cond.lays RX5 "BuildDesk$Step" "madeMask" "I" ∈ wsG := wsG_s4 _ (List.mem_of_getElem? (i := 17) rfl)
theorem wm_100 : Cond.lays RX5 "BuildDesk$Step" "madeInputCount" "I" ∈ wsG := wsG_s4 _ (List.mem_of_getElem? (i := 18) rfl)
theorem wm_101 : Cond.lays RX5 "BuildDesk$Step" "madeOutputCount" "I" ∈ wsG := wsG_s4 _ (List.mem_of_getElem? (i := 19) rfl)
theorem wm_102 : Cond.laysFinal RX5 "BuildDesk$Step" "madeContents" "[I" ∈ wsG := wsG_s4 _ (List.mem_of_getElem? (i := 20) rfl)
theorem wm_103 : Cond.classLink RX6 23 RX2 ∈ wsG := wsG_s4 _ (List.mem_of_getElem? (i := 21) rfl)
theorem wm_104 : Cond.instantiable RX2 5 ∈ wsG := wsG_s4 _ (List.mem_of_getElem? (i := 22) rfl)
theorem wm_105 : Cond.instanceMethod yX2_init ∈ wsG := wsG_s4 _ (List.mem_of_getElem? (i := 23) rfl)
theorem wm_106 : Cond.code yX2_init cX2_init 1 none ∈ wsG := wsG_s4 _ (List.mem_of_getElem? (i := 24) rfl)
theorem wm_107 : Cond.methodLink RX2 3 objectInit ∈ wsG := wsG_s5 _ (List.mem_of_getElem? (i := 0) rfl)
theorem wm_108 : Cond.fieldLink RX2 9 "BuildDesk$Plan" "waits" "[J" ∈ wsG := wsG_s5 _ (List.mem_of_getElem? (i := 1) rfl)
theorem wm_109 : Cond.fieldLink RX2 15 "BuildDesk$Plan" "line" "[I" ∈ wsG := wsG_s5 _ (List.mem_of_getElem? (i := 2) rfl)
theorem wm_110 : Cond.fieldLink RX2 40 "BuildDesk$Plan" "lined" "I" ∈ wsG := wsG_s5 _ (List.mem_of_getElem? (i := 3) rfl)
theorem wm_111 : Cond.fieldLink RX2 19 "BuildDesk$Plan" "rank" "[I" ∈ wsG := wsG_s5 _ (List.mem_of_getElem? (i := 4) rfl)
theorem wm_112 : Cond.fieldLink RX2 32 "BuildDesk$Plan" "needed" "J" ∈ wsG := wsG_s5 _ (List.mem_of_getElem? (i := 5) rfl)
theorem wm_113 : Cond.laysFinal RX2 "BuildDesk$Plan" "waits" "[J" ∈ wsG := wsG_s5 _ (List.mem_of_getElem? (i := 6) rfl)
theorem wm_114 : Cond.laysFinal RX2 "BuildDesk$Plan" "line" "[I" ∈ wsG := wsG_s5 _ (List.mem_of_getElem? (i := 7) rfl)
theorem wm_115 : Cond.lays RX2 "BuildDesk$Plan" "lined" "I" ∈ wsG := wsG_s5 _ (List.mem_of_getElem? (i := 8) rfl)
theorem wm_116 : Cond.laysFinal RX2 "BuildDesk$Plan" "rank" "[I" ∈ wsG := wsG_s5 _ (List.mem_of_getElem? (i := 9) rfl)
theorem wm_117 : Cond.lays RX2 "BuildDesk$Plan" "needed" "J" ∈ wsG := wsG_s5 _ (List.mem_of_getElem? (i := 10) rfl)
theorem wm_118 : Cond.arrayClass .long ∈ wsG := wsG_s5 _ (List.mem_of_getElem? (i := 11) rfl)
theorem wm_119 : Cond.classLink RX6 30 RX0 ∈ wsG := wsG_s5 _ (List.mem_of_getElem? (i := 12) rfl)
theorem wm_120 : Cond.instantiable RX0 5 ∈ wsG := wsG_s5 _ (List.mem_of_getElem? (i := 13) rfl)
theorem wm_121 : Cond.instanceMethod yX0_init ∈ wsG := wsG_s5 _ (List.mem_of_getElem? (i := 14) rfl)
theorem wm_122 : Cond.code yX0_init cX0_init 1 none ∈ wsG := wsG_s5 _ (List.mem_of_getElem? (i := 15) rfl)
theorem wm_123 : Cond.methodLink RX0 3 objectInit ∈ wsG := wsG_s5 _ (List.mem_of_getElem? (i := 16) rfl)
theorem wm_124 : Cond.fieldLink RX0 9 "BuildDesk$Crew" "busy" "[Z" ∈ wsG := wsG_s5 _ (List.mem_of_getElem? (i := 17) rfl)
theorem wm_125 : Cond.fieldLink RX0 15 "BuildDesk$Crew" "workerOf" "[I" ∈ wsG := wsG_s5 _ (List.mem_of_getElem? (i := 18) rfl)
theorem wm_126 : Cond.fieldLink RX0 19 "BuildDesk$Crew" "endOf" "[I" ∈ wsG := wsG_s5 _ (List.mem_of_getElem? (i := 19) rfl)
theorem wm_127 : Cond.fieldLink RX0 22 "BuildDesk$Crew" "running" "J" ∈ wsG := wsG_s5 _ (List.mem_of_getElem? (i := 20) rfl)
theorem wm_128 : Cond.fieldLink RX0 26 "BuildDesk$Crew" "done" "J" ∈ wsG := wsG_s5 _ (List.mem_of_getElem? (i := 21) rfl)
theorem wm_129 : Cond.laysFinal RX0 "BuildDesk$Crew" "busy" "[Z" ∈ wsG := wsG_s5 _ (List.mem_of_getElem? (i := 22) rfl)
theorem wm_130 : Cond.laysFinal RX0 "BuildDesk$Crew" "workerOf" "[I" ∈ wsG := wsG_s5 _ (List.mem_of_getElem? (i := 23) rfl)
theorem wm_131 : Cond.laysFinal RX0 "BuildDesk$Crew" "endOf" "[I" ∈ wsG := wsG_s5 _ (List.mem_of_getElem? (i := 24) rfl)
theorem wm_132 : Cond.lays RX0 "BuildDesk$Crew" "running" "J" ∈ wsG := wsG_s6 _ (List.mem_of_getElem? (i := 0) rfl)
theorem wm_133 : Cond.lays RX0 "BuildDesk$Crew" "done" "J" ∈ wsG := wsG_s6 _ (List.mem_of_getElem? (i := 1) rfl)
theorem wm_134 : Cond.classLink RX6 37 RX3 ∈ wsG := wsG_s6 _ (List.mem_of_getElem? (i := 2) rfl)
theorem wm_135 : Cond.instantiable RX3 5 ∈ wsG := wsG_s6 _ (List.mem_of_getElem? (i := 3) rfl)
theorem wm_136 : Cond.instanceMethod yX3_init ∈ wsG := wsG_s6 _ (List.mem_of_getElem? (i := 4) rfl)
theorem wm_137 : Cond.code yX3_init cX3_init 1 none ∈ wsG := wsG_s6 _ (List.mem_of_getElem? (i := 5) rfl)
theorem wm_138 : Cond.methodLink RX3 3 objectInit ∈ wsG := wsG_s6 _ (List.mem_of_getElem? (i := 6) rfl)
theorem wm_139 : Cond.fieldLink RX3 21 "BuildDesk$Report" "needed" "I" ∈ wsG := wsG_s6 _ (List.mem_of_getElem? (i := 7) rfl)
theorem wm_140 : Cond.fieldLink RX3 24 "BuildDesk$Report" "begun" "I" ∈ wsG := wsG_s6 _ (List.mem_of_getElem? (i := 8) rfl)
theorem wm_141 : Cond.fieldLink RX3 27 "BuildDesk$Report" "busyTime" "I" ∈ wsG := wsG_s6 _ (List.mem_of_getElem? (i := 9) rfl)
theorem wm_142 : Cond.fieldLink RX3 34 "BuildDesk$Report" "greatestRank" "I" ∈ wsG := wsG_s6 _ (List.mem_of_getElem? (i := 10) rfl)
theorem wm_143 : Cond.fieldLink RX3 11 "BuildDesk$Report" "cells" "[I" ∈ wsG := wsG_s6 _ (List.mem_of_getElem? (i := 11) rfl)
theorem wm_144 : Cond.lays RX3 "BuildDesk$Report" "needed" "I" ∈ wsG := wsG_s6 _ (List.mem_of_getElem? (i := 12) rfl)
theorem wm_145 : Cond.lays RX3 "BuildDesk$Report" "begun" "I" ∈ wsG := wsG_s6 _ (List.mem_of_getElem? (i := 13) rfl)
theorem wm_146 : Cond.lays RX3 "BuildDesk$Report" "busyTime" "I" ∈ wsG := wsG_s6 _ (List.mem_of_getElem? (i := 14) rfl)
theorem wm_147 : Cond.lays RX3 "BuildDesk$Report" "greatestRank" "I" ∈ wsG := wsG_s6 _ (List.mem_of_getElem? (i := 15) rfl)
theorem wm_148 : Cond.laysFinal RX3 "BuildDesk$Report" "cells" "[I" ∈ wsG := wsG_s6 _ (List.mem_of_getElem? (i := 16) rfl)
theorem wm_149 : Cond.classLink RX6 44 RX4 ∈ wsG := wsG_s6 _ (List.mem_of_getElem? (i := 17) rfl)
theorem wm_150 : Cond.instantiable RX4 3 ∈ wsG := wsG_s6 _ (List.mem_of_getElem? (i := 18) rfl)
theorem wm_151 : Cond.instanceMethod yX4_init ∈ wsG := wsG_s6 _ (List.mem_of_getElem? (i := 19) rfl)
theorem wm_152 : Cond.code yX4_init cX4_init 1 none ∈ wsG := wsG_s6 _ (List.mem_of_getElem? (i := 20) rfl)
theorem wm_153 : Cond.methodLink RX4 3 objectInit ∈ wsG := wsG_s6 _ (List.mem_of_getElem? (i := 21) rfl)
theorem wm_154 : Cond.fieldLink RX4 9 "BuildDesk$Round" "members" "[I" ∈ wsG := wsG_s6 _ (List.mem_of_getElem? (i := 22) rfl)
theorem wm_155 : Cond.fieldLink RX4 52 "BuildDesk$Round" "length" "I" ∈ wsG := wsG_s6 _ (List.mem_of_getElem? (i := 23) rfl)
theorem wm_156 : Cond.fieldLink RX4 15 "BuildDesk$Round" "near" "[J" ∈ wsG := wsG_s6 _ (List.mem_of_getElem? (i := 24) rfl)
theorem wm_157 : Cond.laysFinal RX4 "BuildDesk$Round" "members" "[I" ∈ wsG := wsG_s7 _ (List.mem_of_getElem? (i := 0) rfl)
theorem wm_158 : Cond.lays RX4 "BuildDesk$Round" "length" "I" ∈ wsG := wsG_s7 _ (List.mem_of_getElem? (i := 1) rfl)
theorem wm_159 : Cond.laysFinal RX4 "BuildDesk$Round" "near" "[J" ∈ wsG := wsG_s7 _ (List.mem_of_getElem? (i := 2) rfl)
theorem wm_160 : Cond.fieldLink RX6 10 "BuildDesk" "files" "LBuildDesk$FileTable;" ∈ wsG := wsG_s7 _ (List.mem_of_getElem? (i := 3) rfl)
theorem wm_161 : Cond.fieldLink RX6 18 "BuildDesk" "steps" "[LBuildDesk$Step;" ∈ wsG := wsG_s7 _ (List.mem_of_getElem? (i := 4) rfl)
theorem wm_162 : Cond.fieldLink RX6 26 "BuildDesk" "plan" "LBuildDesk$Plan;" ∈ wsG := wsG_s7 _ (List.mem_of_getElem? (i := 5) rfl)
theorem wm_163 : Cond.fieldLink RX6 33 "BuildDesk" "crew" "LBuildDesk$Crew;" ∈ wsG := wsG_s7 _ (List.mem_of_getElem? (i := 6) rfl)
theorem wm_164 : Cond.fieldLink RX6 40 "BuildDesk" "report" "LBuildDesk$Report;" ∈ wsG := wsG_s7 _ (List.mem_of_getElem? (i := 7) rfl)
theorem wm_165 : Cond.fieldLink RX6 47 "BuildDesk" "round" "LBuildDesk$Round;" ∈ wsG := wsG_s7 _ (List.mem_of_getElem? (i := 8) rfl)
theorem wm_166 : Cond.laysFinal RX6 "BuildDesk" "files" "LBuildDesk$FileTable;" ∈ wsG := wsG_s7 _ (List.mem_of_getElem? (i := 9) rfl)
theorem wm_167 : Cond.laysFinal RX6 "BuildDesk" "steps" "[LBuildDesk$Step;" ∈ wsG := wsG_s7 _ (List.mem_of_getElem? (i := 10) rfl)
theorem wm_168 : Cond.laysFinal RX6 "BuildDesk" "plan" "LBuildDesk$Plan;" ∈ wsG := wsG_s7 _ (List.mem_of_getElem? (i := 11) rfl)
theorem wm_169 : Cond.laysFinal RX6 "BuildDesk" "crew" "LBuildDesk$Crew;" ∈ wsG := wsG_s7 _ (List.mem_of_getElem? (i := 12) rfl)
theorem wm_170 : Cond.laysFinal RX6 "BuildDesk" "report" "LBuildDesk$Report;" ∈ wsG := wsG_s7 _ (List.mem_of_getElem? (i := 13) rfl)
theorem wm_171 : Cond.laysFinal RX6 "BuildDesk" "round" "LBuildDesk$Round;" ∈ wsG := wsG_s7 _ (List.mem_of_getElem? (i := 14) rfl)
theorem wm_172 : Cond.methodLink RL 33 yX6_step ∈ wsG := wsG_s7 _ (List.mem_of_getElem? (i := 15) rfl)
theorem wm_173 : Cond.instanceMethod yX6_step ∈ wsG := wsG_s7 _ (List.mem_of_getElem? (i := 16) rfl)
theorem wm_174 : Cond.selects RX6 yX6_step yX6_step ∈ wsG := wsG_s7 _ (List.mem_of_getElem? (i := 17) rfl)
theorem wm_175 : Cond.code yX6_step cX6_step 5 (some .boolean) ∈ wsG := wsG_s7 _ (List.mem_of_getElem? (i := 18) rfl)
theorem wm_176 : Cond.methodLink RX6 51 yX6_isStepNumber ∈ wsG := wsG_s7 _ (List.mem_of_getElem? (i := 19) rfl)
theorem wm_177 : Cond.static yX6_isStepNumber ∈ wsG := wsG_s7 _ (List.mem_of_getElem? (i := 20) rfl)
theorem wm_178 : Cond.code yX6_isStepNumber cX6_isStepNumber 1 (some .boolean) ∈ wsG := wsG_s7 _ (List.mem_of_getElem? (i := 21) rfl)
theorem wm_179 : Cond.methodLink RX6 55 yX5_tell ∈ wsG := wsG_s7 _ (List.mem_of_getElem? (i := 22) rfl)
theorem wm_180 : Cond.instanceMethod yX5_tell ∈ wsG := wsG_s7 _ (List.mem_of_getElem? (i := 23) rfl)
theorem wm_181 : Cond.selects RX5 yX5_tell yX5_tell ∈ wsG := wsG_s7 _ (List.mem_of_getElem? (i := 24) rfl)
theorem wm_182 : Cond.code yX5_tell cX5_tell 4 none ∈ wsG := wsG_s8 _ (List.mem_of_getElem? (i := 0) rfl)
theorem wm_183 : Cond.methodLink RL 38 yX6_input ∈ wsG := wsG_s8 _ (List.mem_of_getElem? (i := 1) rfl)
theorem wm_184 : Cond.instanceMethod yX6_input ∈ wsG := wsG_s8 _ (List.mem_of_getElem? (i := 2) rfl)
theorem wm_185 : Cond.selects RX6 yX6_input yX6_input ∈ wsG := wsG_s8 _ (List.mem_of_getElem? (i := 3) rfl)
theorem wm_186 : Cond.code yX6_input cX6_input 3 (some .boolean) ∈ wsG := wsG_s8 _ (List.mem_of_getElem? (i := 4) rfl)
theorem wm_187 : Cond.methodLink RX6 59 yX6_isThere ∈ wsG := wsG_s8 _ (List.mem_of_getElem? (i := 5) rfl)
theorem wm_188 : Cond.instanceMethod yX6_isThere ∈ wsG := wsG_s8 _ (List.mem_of_getElem? (i := 6) rfl)
theorem wm_189 : Cond.code yX6_isThere cX6_isThere 2 (some .boolean) ∈ wsG := wsG_s8 _ (List.mem_of_getElem? (i := 7) rfl)
theorem wm_190 : Cond.methodLink RX6 62 yX6_isFile ∈ wsG := wsG_s8 _ (List.mem_of_getElem? (i := 8) rfl)
theorem wm_191 : Cond.static yX6_isFile ∈ wsG := wsG_s8 _ (List.mem_of_getElem? (i := 9) rfl)
theorem wm_192 : Cond.code yX6_isFile cX6_isFile 1 (some .boolean) ∈ wsG := wsG_s8 _ (List.mem_of_getElem? (i := 10) rfl)
theorem wm_193 : Cond.methodLink RX6 65 yX5_addInput ∈ wsG := wsG_s8 _ (List.mem_of_getElem? (i := 11) rfl)
theorem wm_194 : Cond.instanceMethod yX5_addInput ∈ wsG := wsG_s8 _ (List.mem_of_getElem? (i := 12) rfl)
theorem wm_195 : Cond.selects RX5 yX5_addInput yX5_addInput ∈ wsG := wsG_s8 _ (List.mem_of_getElem? (i := 13) rfl)
theorem wm_196 : Cond.code yX5_addInput cX5_addInput 2 (some .boolean) ∈ wsG := wsG_s8 _ (List.mem_of_getElem? (i := 14) rfl)
theorem wm_197 : Cond.methodLink RL 43 yX6_output ∈ wsG := wsG_s8 _ (List.mem_of_getElem? (i := 15) rfl)
theorem wm_198 : Cond.instanceMethod yX6_output ∈ wsG := wsG_s8 _ (List.mem_of_getElem? (i := 16) rfl)
theorem wm_199 : Cond.selects RX6 yX6_output yX6_output ∈ wsG := wsG_s8 _ (List.mem_of_getElem? (i := 17) rfl)
theorem wm_200 : Cond.code yX6_output cX6_output 3 (some .boolean) ∈ wsG := wsG_s8 _ (List.mem_of_getElem? (i := 18) rfl)
theorem wm_201 : Cond.methodLink RX6 68 yX6_isSource ∈ wsG := wsG_s8 _ (List.mem_of_getElem? (i := 19) rfl)
theorem wm_202 : Cond.instanceMethod yX6_isSource ∈ wsG := wsG_s9 _ (List.mem_of_getElem? (i := 0) rfl)
theorem wm_203 : Cond.code yX6_isSource cX6_isSource 2 (some .boolean) ∈ wsG := wsG_s9 _ (List.mem_of_getElem? (i := 1) rfl)
theorem wm_204 : Cond.methodLink RX6 97 yX1_makerOf ∈ wsG := wsG_s9 _ (List.mem_of_getElem? (i := 2) rfl)
theorem wm_205 : Cond.instanceMethod yX1_makerOf ∈ wsG := wsG_s9 _ (List.mem_of_getElem? (i := 3) rfl)
theorem wm_206 : Cond.selects RX1 yX1_makerOf yX1_makerOf ∈ wsG := wsG_s9 _ (List.mem_of_getElem? (i := 4) rfl)
theorem wm_207 : Cond.code yX1_makerOf cX1_makerOf 2 (some .int) ∈ wsG := wsG_s9 _ (List.mem_of_getElem? (i := 5) rfl)
theorem wm_208 : Cond.methodLink RX6 71 yX5_addOutput ∈ wsG := wsG_s9 _ (List.mem_of_getElem? (i := 6) rfl)
theorem wm_209 : Cond.instanceMethod yX5_addOutput ∈ wsG := wsG_s9 _ (List.mem_of_getElem? (i := 7) rfl)
theorem wm_210 : Cond.selects RX5 yX5_addOutput yX5_addOutput ∈ wsG := wsG_s9 _ (List.mem_of_getElem? (i := 8) rfl)
theorem wm_211 : Cond.code yX5_addOutput cX5_addOutput 2 (some .boolean) ∈ wsG := wsG_s9 _ (List.mem_of_getElem? (i := 9) rfl)
theorem wm_212 : Cond.methodLink RX6 74 yX1_setMaker ∈ wsG := wsG_s9 _ (List.mem_of_getElem? (i := 10) rfl)
theorem wm_213 : Cond.instanceMethod yX1_setMaker ∈ wsG := wsG_s9 _ (List.mem_of_getElem? (i := 11) rfl)
theorem wm_214 : Cond.selects RX1 yX1_setMaker yX1_setMaker ∈ wsG := wsG_s9 _ (List.mem_of_getElem? (i := 12) rfl)
theorem wm_215 : Cond.code yX1_setMaker cX1_setMaker 3 none ∈ wsG := wsG_s9 _ (List.mem_of_getElem? (i := 13) rfl)
theorem wm_216 : Cond.methodLink RL 47 yX6_drop ∈ wsG := wsG_s9 _ (List.mem_of_getElem? (i := 14) rfl)
theorem wm_217 : Cond.instanceMethod yX6_drop ∈ wsG := wsG_s9 _ (List.mem_of_getElem? (i := 15) rfl)
theorem wm_218 : Cond.selects RX6 yX6_drop yX6_drop ∈ wsG := wsG_s9 _ (List.mem_of_getElem? (i := 16) rfl)
theorem wm_219 : Cond.code yX6_drop cX6_drop 2 (some .boolean) ∈ wsG := wsG_s9 _ (List.mem_of_getElem? (i := 17) rfl)
theorem wm_220 : Cond.methodLink RX6 78 yX5_leave ∈ wsG := wsG_s9 _ (List.mem_of_getElem? (i := 18) rfl)
theorem wm_221 : Cond.instanceMethod yX5_leave ∈ wsG := wsG_s9 _ (List.mem_of_getElem? (i := 19) rfl)
theorem wm_222 : Cond.selects RX5 yX5_leave yX5_leave ∈ wsG := wsG_s9 _ (List.mem_of_getElem? (i := 20) rfl)
theorem wm_223 : Cond.code yX5_leave cX5_leave 3 none ∈ wsG := wsG_s9 _ (List.mem_of_getElem? (i := 21) rfl)
theorem wm_224 : Cond.methodLink RX5 41 yX1_setMaker ∈ wsG := wsG_s9 _ (List.mem_of_getElem? (i := 22) rfl)
theorem wm_225 : Cond.methodLink RL 52 yX6_source ∈ wsG := wsG_s9 _ (List.mem_of_getElem? (i := 23) rfl)
theorem wm_226 : Cond.instanceMethod yX6_source ∈ wsG := wsG_s9 _ (List.mem_of_getElem? (i := 24) rfl)
theorem wm_227 : Cond.selects RX6 yX6_source yX6_source ∈ wsG := wsG_s10 _ (List.mem_of_getElem? (i := 0) rfl)
theorem wm_228 : Cond.code yX6_source cX6_source 3 (some .boolean) ∈ wsG := wsG_s10 _ (List.mem_of_getElem? (i := 1) rfl)
theorem wm_229 : Cond.methodLink RX6 82 yX1_fill ∈ wsG := wsG_s10 _ (List.mem_of_getElem? (i := 2) rfl)
theorem wm_230 : Cond.instanceMethod yX1_fill ∈ wsG := wsG_s10 _ (List.mem_of_getElem? (i := 3) rfl)
theorem wm_231 : Cond.selects RX1 yX1_fill yX1_fill ∈ wsG := wsG_s10 _ (List.mem_of_getElem? (i := 4) rfl)
theorem wm_232 : Cond.code yX1_fill cX1_fill 3 none ∈ wsG := wsG_s10 _ (List.mem_of_getElem? (i := 5) rfl)
theorem wm_233 : Cond.methodLink RL 56 yX6_spoil ∈ wsG := wsG_s10 _ (List.mem_of_getElem? (i := 6) rfl)
theorem wm_234 : Cond.instanceMethod yX6_spoil ∈ wsG := wsG_s10 _ (List.mem_of_getElem? (i := 7) rfl)
theorem wm_235 : Cond.selects RX6 yX6_spoil yX6_spoil ∈ wsG := wsG_s10 _ (List.mem_of_getElem? (i := 8) rfl)
theorem wm_236 : Cond.code yX6_spoil cX6_spoil 2 (some .boolean) ∈ wsG := wsG_s10 _ (List.mem_of_getElem? (i := 9) rfl)
theorem wm_237 : Cond.methodLink RX6 85 yX1_empty ∈ wsG := wsG_s10 _ (List.mem_of_getElem? (i := 10) rfl)
theorem wm_238 : Cond.instanceMethod yX1_empty ∈ wsG := wsG_s10 _ (List.mem_of_getElem? (i := 11) rfl)
theorem wm_239 : Cond.selects RX1 yX1_empty yX1_empty ∈ wsG := wsG_s10 _ (List.mem_of_getElem? (i := 12) rfl)
theorem wm_240 : Cond.code yX1_empty cX1_empty 3 (some .boolean) ∈ wsG := wsG_s10 _ (List.mem_of_getElem? (i := 13) rfl)
theorem wm_241 : Cond.methodLink RL 70 yX6_count ∈ wsG := wsG_s10 _ (List.mem_of_getElem? (i := 14) rfl)
theorem wm_242 : Cond.instanceMethod yX6_count ∈ wsG := wsG_s10 _ (List.mem_of_getElem? (i := 15) rfl)
theorem wm_243 : Cond.selects RX6 yX6_count yX6_count ∈ wsG := wsG_s10 _ (List.mem_of_getElem? (i := 16) rfl)
theorem wm_244 : Cond.code yX6_count cX6_count 2 (some .int) ∈ wsG := wsG_s10 _ (List.mem_of_getElem? (i := 17) rfl)
theorem wm_245 : Cond.methodLink RX6 146 yX1_countFilled ∈ wsG := wsG_s10 _ (List.mem_of_getElem? (i := 18) rfl)
theorem wm_246 : Cond.instanceMethod yX1_countFilled ∈ wsG := wsG_s10 _ (List.mem_of_getElem? (i := 19) rfl)
theorem wm_247 : Cond.selects RX1 yX1_countFilled yX1_countFilled ∈ wsG := wsG_s10 _ (List.mem_of_getElem? (i := 20) rfl)
theorem wm_248 : Cond.code yX1_countFilled cX1_countFilled 3 (some .int) ∈ wsG := wsG_s10 _ (List.mem_of_getElem? (i := 21) rfl)
theorem wm_249 : Cond.methodLink RX6 150 yX6_countSteps ∈ wsG := wsG_s10 _ (List.mem_of_getElem? (i := 22) rfl)
theorem wm_250 : Cond.instanceMethod yX6_countSteps ∈ wsG := wsG_s10 _ (List.mem_of_getElem? (i := 23) rfl)
theorem wm_251 : Cond.code yX6_countSteps cX6_countSteps 3 (some .int) ∈ wsG := wsG_s10 _ (List.mem_of_getElem? (i := 24) rfl)
theorem wm_252 : Cond.methodLink RL 84 yX6_reason ∈ wsG := wsG_s11 _ (List.mem_of_getElem? (i := 0) rfl)
theorem wm_253 : Cond.instanceMethod yX6_reason ∈ wsG := wsG_s11 _ (List.mem_of_getElem? (i := 1) rfl)
theorem wm_254 : Cond.selects RX6 yX6_reason yX6_reason ∈ wsG := wsG_s11 _ (List.mem_of_getElem? (i := 2) rfl)
theorem wm_255 : Cond.code yX6_reason cX6_reason 2 (some .int) ∈ wsG := wsG_s11 _ (List.mem_of_getElem? (i := 3) rfl)
theorem wm_256 : Cond.methodLink RX6 179 yX5_whyDue ∈ wsG := wsG_s11 _ (List.mem_of_getElem? (i := 4) rfl)
theorem wm_257 : Cond.instanceMethod yX5_whyDue ∈ wsG := wsG_s11 _ (List.mem_of_getElem? (i := 5) rfl)
theorem wm_258 : Cond.selects RX5 yX5_whyDue yX5_whyDue ∈ wsG := wsG_s11 _ (List.mem_of_getElem? (i := 6) rfl)
theorem wm_259 : Cond.code yX5_whyDue cX5_whyDue 2 (some .int) ∈ wsG := wsG_s11 _ (List.mem_of_getElem? (i := 7) rfl)
theorem wm_260 : Cond.methodLink RX5 62 yX5_isToldOtherwise ∈ wsG := wsG_s11 _ (List.mem_of_getElem? (i := 8) rfl)
theorem wm_261 : Cond.instanceMethod yX5_isToldOtherwise ∈ wsG := wsG_s11 _ (List.mem_of_getElem? (i := 9) rfl)
theorem wm_262 : Cond.code yX5_isToldOtherwise cX5_isToldOtherwise 1 (some .boolean) ∈ wsG := wsG_s11 _ (List.mem_of_getElem? (i := 10) rfl)
theorem wm_263 : Cond.methodLink RX5 66 yX5_outputLacks ∈ wsG := wsG_s11 _ (List.mem_of_getElem? (i := 11) rfl)
theorem wm_264 : Cond.instanceMethod yX5_outputLacks ∈ wsG := wsG_s11 _ (List.mem_of_getElem? (i := 12) rfl)
theorem wm_265 : Cond.code yX5_outputLacks cX5_outputLacks 3 (some .boolean) ∈ wsG := wsG_s11 _ (List.mem_of_getElem? (i := 13) rfl)
theorem wm_266 : Cond.methodLink RX5 85 yX1_isFilled ∈ wsG := wsG_s11 _ (List.mem_of_getElem? (i := 14) rfl)
theorem wm_267 : Cond.instanceMethod yX1_isFilled ∈ wsG := wsG_s11 _ (List.mem_of_getElem? (i := 15) rfl)
theorem wm_268 : Cond.selects RX1 yX1_isFilled yX1_isFilled ∈ wsG := wsG_s11 _ (List.mem_of_getElem? (i := 16) rfl)
theorem wm_269 : Cond.code yX1_isFilled cX1_isFilled 2 (some .boolean) ∈ wsG := wsG_s11 _ (List.mem_of_getElem? (i := 17) rfl)
theorem wm_270 : Cond.methodLink RX5 70 yX5_inputDiffers ∈ wsG := wsG_s11 _ (List.mem_of_getElem? (i := 18) rfl)
theorem wm_271 : Cond.instanceMethod yX5_inputDiffers ∈ wsG := wsG_s11 _ (List.mem_of_getElem? (i := 19) rfl)
theorem wm_272 : Cond.code yX5_inputDiffers cX5_inputDiffers 4 (some .boolean) ∈ wsG := wsG_s11 _ (List.mem_of_getElem? (i := 20) rfl)
theorem wm_273 : Cond.methodLink RX5 88 yX1_contentOf ∈ wsG := wsG_s11 _ (List.mem_of_getElem? (i := 21) rfl)
theorem wm_274 : Cond.instanceMethod yX1_contentOf ∈ wsG := wsG_s11 _ (List.mem_of_getElem? (i := 22) rfl)
theorem wm_275 : Cond.selects RX1 yX1_contentOf yX1_contentOf ∈ wsG := wsG_s11 _ (List.mem_of_getElem? (i := 23) rfl)
theorem wm_276 : Cond.code yX1_contentOf cX1_contentOf 2 (some .int) ∈ wsG := wsG_s11 _ (List.mem_of_getElem? (i := 24) rfl)
theorem wm_277 : Cond.methodLink RL 60 yL_build ∈ wsG := wsG_s12 _ (List.mem_of_getElem? (i := 0) rfl)
theorem wm_278 : Cond.static yL_build ∈ wsG := wsG_s12 _ (List.mem_of_getElem? (i := 1) rfl)
theorem wm_279 : Cond.classLink RL 13 "java/lang/IllegalArgumentException" ∈ wsG := wsG_s12 _ (List.mem_of_getElem? (i := 2) rfl)
theorem wm_280 : Cond.classLink RL 15 "java/lang/IllegalStateException" ∈ wsG := wsG_s12 _ (List.mem_of_getElem? (i := 3) rfl)
theorem wm_281 : Cond.methodLink RL 7 yX6_build ∈ wsG := wsG_s12 _ (List.mem_of_getElem? (i := 4) rfl)
theorem wm_282 : Cond.instanceMethod yX6_build ∈ wsG := wsG_s12 _ (List.mem_of_getElem? (i := 5) rfl)
theorem wm_283 : Cond.selects RX6 yX6_build yX6_build ∈ wsG := wsG_s12 _ (List.mem_of_getElem? (i := 6) rfl)
theorem wm_284 : Cond.code yX6_build cX6_build 3 (some .int) ∈ wsG := wsG_s12 _ (List.mem_of_getElem? (i := 7) rfl)
theorem wm_285 : Cond.classLink RX6 88 "java/lang/IllegalArgumentException" ∈ wsG := wsG_s12 _ (List.mem_of_getElem? (i := 8) rfl)
theorem wm_286 : Cond.instantiable "java/lang/IllegalArgumentException" 6 ∈ wsG := wsG_s12 _ (List.mem_of_getElem? (i := 9) rfl)
theorem wm_287 : Cond.selects "java/lang/IllegalArgumentException" ⟨"java/lang/Throwable", "fillInStackTrace", "(I)Ljava/lang/Throwable;"⟩ ⟨"java/lang/Throwable", "fillInStackTrace", "(I)Ljava/lang/Throwable;"⟩ ∈ wsG := wsG_s12 _ (List.mem_of_getElem? (i := 10) rfl)
theorem wm_288 : Cond.selects "java/lang/IllegalArgumentException" ⟨"java/lang/Throwable", "fillInStackTrace", "()Ljava/lang/Throwable;"⟩ ⟨"java/lang/Throwable", "fillInStackTrace", "()Ljava/lang/Throwable;"⟩ ∈ wsG := wsG_s12 _ (List.mem_of_getElem? (i := 11) rfl)
theorem wm_289 : Cond.lays "java/lang/IllegalArgumentException" "java/lang/Throwable" "cause" "Ljava/lang/Throwable;" ∈ wsG := wsG_s12 _ (List.mem_of_getElem? (i := 12) rfl)
theorem wm_290 : Cond.lays "java/lang/Throwable" "java/lang/Throwable" "cause" "Ljava/lang/Throwable;" ∈ wsG := wsG_s12 _ (List.mem_of_getElem? (i := 13) rfl)
theorem wm_291 : Cond.lays "java/lang/IllegalArgumentException" "java/lang/Throwable" "stackTrace" "[Ljava/lang/StackTraceElement;" ∈ wsG := wsG_s12 _ (List.mem_of_getElem? (i := 14) rfl)
theorem wm_292 : Cond.lays "java/lang/Throwable" "java/lang/Throwable" "stackTrace" "[Ljava/lang/StackTraceElement;" ∈ wsG := wsG_s12 _ (List.mem_of_getElem? (i := 15) rfl)
theorem wm_293 : Cond.lays "java/lang/IllegalArgumentException" "java/lang/Throwable" "suppressedExceptions" "Ljava/util/List;" ∈ wsG := wsG_s12 _ (List.mem_of_getElem? (i := 16) rfl)
theorem wm_294 : Cond.lays "java/lang/Throwable" "java/lang/Throwable" "suppressedExceptions" "Ljava/util/List;" ∈ wsG := wsG_s12 _ (List.mem_of_getElem? (i := 17) rfl)
theorem wm_295 : Cond.lays "java/lang/IllegalArgumentException" "java/lang/Throwable" "detailMessage" "Ljava/lang/String;" ∈ wsG := wsG_s12 _ (List.mem_of_getElem? (i := 18) rfl)
theorem wm_296 : Cond.lays "java/lang/Throwable" "java/lang/Throwable" "detailMessage" "Ljava/lang/String;" ∈ wsG := wsG_s12 _ (List.mem_of_getElem? (i := 19) rfl)
theorem wm_297 : Cond.lays "java/lang/IllegalArgumentException" "java/lang/Throwable" "backtrace" "Ljava/lang/Object;" ∈ wsG := wsG_s12 _ (List.mem_of_getElem? (i := 20) rfl)
theorem wm_298 : Cond.lays "java/lang/Throwable" "java/lang/Throwable" "backtrace" "Ljava/lang/Object;" ∈ wsG := wsG_s12 _ (List.mem_of_getElem? (i := 21) rfl)
theorem wm_299 : Cond.fieldLink "java/lang/Throwable" 198 "java/lang/Throwable" "backtrace" "Ljava/lang/Object;" ∈ wsG := wsG_s12 _ (List.mem_of_getElem? (i := 22) rfl)
theorem wm_300 : Cond.instanceMethod ⟨"java/lang/Throwable", "<init>", "()V"⟩ ∈ wsG := wsG_s12 _ (List.mem_of_getElem? (i := 23) rfl)
theorem wm_301 : Cond.code ⟨"java/lang/Throwable", "<init>", "()V"⟩ prog_16_method_1_code 1 none ∈ wsG := wsG_s12 _ (List.mem_of_getElem? (i := 24) rfl)
theorem wm_302 : Cond.methodLink "java/lang/Throwable" 1 objectInit ∈ wsG := wsG_s13 _ (List.mem_of_getElem? (i := 0) rfl)
theorem wm_303 : Cond.fieldLink "java/lang/Throwable" 13 "java/lang/Throwable" "UNASSIGNED_STACK" "[Ljava/lang/StackTraceElement;" ∈ wsG := wsG_s13 _ (List.mem_of_getElem? (i := 1) rfl)
theorem wm_304 : Cond.fieldLink "java/lang/Throwable" 20 "java/lang/Throwable" "SUPPRESSED_SENTINEL" "Ljava/util/List;" ∈ wsG := wsG_s13 _ (List.mem_of_getElem? (i := 2) rfl)
theorem wm_305 : Cond.methodLink "java/lang/Throwable" 27 ⟨"java/lang/Throwable", "fillInStackTrace", "()Ljava/lang/Throwable;"⟩ ∈ wsG := wsG_s13 _ (List.mem_of_getElem? (i := 3) rfl)
theorem wm_306 : Cond.instanceMethod ⟨"java/lang/Throwable", "fillInStackTrace", "()Ljava/lang/Throwable;"⟩ ∈ wsG := wsG_s13 _ (List.mem_of_getElem? (i := 4) rfl)
theorem wm_307 : Cond.selects "java/lang/IllegalStateException" ⟨"java/lang/Throwable", "fillInStackTrace", "()Ljava/lang/Throwable;"⟩ ⟨"java/lang/Throwable", "fillInStackTrace", "()Ljava/lang/Throwable;"⟩ ∈ wsG := wsG_s13 _ (List.mem_of_getElem? (i := 5) rfl)
theorem wm_308 : Cond.selects "java/util/NoSuchElementException" ⟨"java/lang/Throwable", "fillInStackTrace", "()Ljava/lang/Throwable;"⟩ ⟨"java/lang/Throwable", "fillInStackTrace", "()Ljava/lang/Throwable;"⟩ ∈ wsG := wsG_s13 _ (List.mem_of_getElem? (i := 6) rfl)
theorem wm_309 : Cond.methodLink "java/lang/Throwable" 202 ⟨"java/lang/Throwable", "fillInStackTrace", "(I)Ljava/lang/Throwable;"⟩ ∈ wsG := wsG_s13 _ (List.mem_of_getElem? (i := 7) rfl)
theorem wm_310 : Cond.instanceMethod ⟨"java/lang/Throwable", "fillInStackTrace", "(I)Ljava/lang/Throwable;"⟩ ∈ wsG := wsG_s13 _ (List.mem_of_getElem? (i := 8) rfl)
theorem wm_311 : Cond.instantiable "java/lang/Throwable" 6 ∈ wsG := wsG_s13 _ (List.mem_of_getElem? (i := 9) rfl)
theorem wm_312 : Cond.methodLink RX6 92 ⟨"java/lang/IllegalArgumentException", "<init>", "(Ljava/lang/String;)V"⟩ ∈ wsG := wsG_s13 _ (List.mem_of_getElem? (i := 10) rfl)
theorem wm_313 : Cond.instanceMethod ⟨"java/lang/IllegalArgumentException", "<init>", "(Ljava/lang/String;)V"⟩ ∈ wsG := wsG_s13 _ (List.mem_of_getElem? (i := 11) rfl)
theorem wm_314 : Cond.code ⟨"java/lang/IllegalArgumentException", "<init>", "(Ljava/lang/String;)V"⟩ prog_11_method_2_code 2 none ∈ wsG := wsG_s13 _ (List.mem_of_getElem? (i := 12) rfl)
theorem wm_315 : Cond.methodLink "java/lang/IllegalArgumentException" 7 ⟨"java/lang/RuntimeException", "<init>", "(Ljava/lang/String;)V"⟩ ∈ wsG := wsG_s13 _ (List.mem_of_getElem? (i := 13) rfl)
theorem wm_316 : Cond.instanceMethod ⟨"java/lang/RuntimeException", "<init>", "(Ljava/lang/String;)V"⟩ ∈ wsG := wsG_s13 _ (List.mem_of_getElem? (i := 14) rfl)
theorem wm_317 : Cond.code ⟨"java/lang/RuntimeException", "<init>", "(Ljava/lang/String;)V"⟩ prog_14_method_2_code 2 none ∈ wsG := wsG_s13 _ (List.mem_of_getElem? (i := 15) rfl)
theorem wm_318 : Cond.methodLink "java/lang/RuntimeException" 7 ⟨"java/lang/Exception", "<init>", "(Ljava/lang/String;)V"⟩ ∈ wsG := wsG_s13 _ (List.mem_of_getElem? (i := 16) rfl)
theorem wm_319 : Cond.instanceMethod ⟨"java/lang/Exception", "<init>", "(Ljava/lang/String;)V"⟩ ∈ wsG := wsG_s13 _ (List.mem_of_getElem? (i := 17) rfl)
theorem wm_320 : Cond.code ⟨"java/lang/Exception", "<init>", "(Ljava/lang/String;)V"⟩ prog_10_method_2_code 2 none ∈ wsG := wsG_s13 _ (List.mem_of_getElem? (i := 18) rfl)
theorem wm_321 : Cond.methodLink "java/lang/Exception" 7 ⟨"java/lang/Throwable", "<init>", "(Ljava/lang/String;)V"⟩ ∈ wsG := wsG_s13 _ (List.mem_of_getElem? (i := 19) rfl)
theorem wm_322 : Cond.instanceMethod ⟨"java/lang/Throwable", "<init>", "(Ljava/lang/String;)V"⟩ ∈ wsG := wsG_s13 _ (List.mem_of_getElem? (i := 20) rfl)
theorem wm_323 : Cond.code ⟨"java/lang/Throwable", "<init>", "(Ljava/lang/String;)V"⟩ prog_16_method_2_code 2 none ∈ wsG := wsG_s13 _ (List.mem_of_getElem? (i := 21) rfl)
theorem wm_324 : Cond.fieldLink "java/lang/Throwable" 31 "java/lang/Throwable" "detailMessage" "Ljava/lang/String;" ∈ wsG := wsG_s13 _ (List.mem_of_getElem? (i := 22) rfl)
theorem wm_325 : Cond.fieldLink "java/lang/Throwable" 7 "java/lang/Throwable" "cause" "Ljava/lang/Throwable;" ∈ wsG := wsG_s13 _ (List.mem_of_getElem? (i := 23) rfl)
theorem wm_326 : Cond.fieldLink "java/lang/Throwable" 17 "java/lang/Throwable" "stackTrace" "[Ljava/lang/StackTraceElement;" ∈ wsG := wsG_s13 _ (List.mem_of_getElem? (i := 24) rfl)
theorem wm_327 : Cond.fieldLink "java/lang/Throwable" 24 "java/lang/Throwable" "suppressedExceptions" "Ljava/util/List;" ∈ wsG := wsG_s14 _ (List.mem_of_getElem? (i := 0) rfl)
theorem wm_328 : Cond.lays "java/lang/IllegalArgumentException" "java/lang/Throwable" "depth" "I" ∈ wsG := wsG_s14 _ (List.mem_of_getElem? (i := 1) rfl)
theorem wm_329 : Cond.arrayClass .byte ∈ wsG := wsG_s14 _ (List.mem_of_getElem? (i := 2) rfl)
theorem wm_330 : Cond.methodLink RX6 101 yX2_findNeeded ∈ wsG := wsG_s14 _ (List.mem_of_getElem? (i := 3) rfl)
theorem wm_331 : Cond.instanceMethod yX2_findNeeded ∈ wsG := wsG_s14 _ (List.mem_of_getElem? (i := 4) rfl)
theorem wm_332 : Cond.selects RX2 yX2_findNeeded yX2_findNeeded ∈ wsG := wsG_s14 _ (List.mem_of_getElem? (i := 5) rfl)
theorem wm_333 : Cond.code yX2_findNeeded cX2_findNeeded 9 none ∈ wsG := wsG_s14 _ (List.mem_of_getElem? (i := 6) rfl)
theorem wm_334 : Cond.methodLink RX2 22 yX5_waitsFor ∈ wsG := wsG_s14 _ (List.mem_of_getElem? (i := 7) rfl)
theorem wm_335 : Cond.instanceMethod yX5_waitsFor ∈ wsG := wsG_s14 _ (List.mem_of_getElem? (i := 8) rfl)
theorem wm_336 : Cond.selects RX5 yX5_waitsFor yX5_waitsFor ∈ wsG := wsG_s14 _ (List.mem_of_getElem? (i := 9) rfl)
theorem wm_337 : Cond.code yX5_waitsFor cX5_waitsFor 6 (some .long) ∈ wsG := wsG_s14 _ (List.mem_of_getElem? (i := 10) rfl)
theorem wm_338 : Cond.methodLink RX5 50 yX1_makerOf ∈ wsG := wsG_s14 _ (List.mem_of_getElem? (i := 11) rfl)
theorem wm_339 : Cond.static yX6_bit ∈ wsG := wsG_s14 _ (List.mem_of_getElem? (i := 12) rfl)
theorem wm_340 : Cond.code yX6_bit cX6_bit 1 (some .long) ∈ wsG := wsG_s14 _ (List.mem_of_getElem? (i := 13) rfl)
theorem wm_341 : Cond.static yX6_isIn ∈ wsG := wsG_s14 _ (List.mem_of_getElem? (i := 14) rfl)
theorem wm_342 : Cond.code yX6_isIn cX6_isIn 3 (some .boolean) ∈ wsG := wsG_s14 _ (List.mem_of_getElem? (i := 15) rfl)
theorem wm_343 : Cond.methodLink RX6 183 yX6_bit ∈ wsG := wsG_s14 _ (List.mem_of_getElem? (i := 16) rfl)
theorem wm_344 : Cond.methodLink RX6 105 yX2_lineUp ∈ wsG := wsG_s14 _ (List.mem_of_getElem? (i := 17) rfl)
theorem wm_345 : Cond.instanceMethod yX2_lineUp ∈ wsG := wsG_s14 _ (List.mem_of_getElem? (i := 18) rfl)
theorem wm_346 : Cond.selects RX2 yX2_lineUp yX2_lineUp ∈ wsG := wsG_s14 _ (List.mem_of_getElem? (i := 19) rfl)
theorem wm_347 : Cond.code yX2_lineUp cX2_lineUp 5 (some .boolean) ∈ wsG := wsG_s14 _ (List.mem_of_getElem? (i := 20) rfl)
theorem wm_348 : Cond.constantLong RX2 44 (-1) ∈ wsG := wsG_s14 _ (List.mem_of_getElem? (i := 21) rfl)
theorem wm_349 : Cond.methodLink RX6 109 yX4_find ∈ wsG := wsG_s14 _ (List.mem_of_getElem? (i := 22) rfl)
theorem wm_350 : Cond.instanceMethod yX4_find ∈ wsG := wsG_s14 _ (List.mem_of_getElem? (i := 23) rfl)
theorem wm_351 : Cond.selects RX4 yX4_find yX4_find ∈ wsG := wsG_s14 _ (List.mem_of_getElem? (i := 24) rfl)
theorem wm_352 : Cond.code yX4_find cX4_find 4 none ∈ wsG := wsG_s15 _ (List.mem_of_getElem? (i := 0) rfl)
theorem wm_353 : Cond.methodLink RX4 29 yX4_measure ∈ wsG := wsG_s15 _ (List.mem_of_getElem? (i := 1) rfl)
theorem wm_354 : Cond.instanceMethod yX4_measure ∈ wsG := wsG_s15 _ (List.mem_of_getElem? (i := 2) rfl)
theorem wm_355 : Cond.code yX4_measure cX4_measure 4 (some .int) ∈ wsG := wsG_s15 _ (List.mem_of_getElem? (i := 3) rfl)
theorem wm_356 : Cond.methodLink RX4 41 yX2_waitingFor ∈ wsG := wsG_s15 _ (List.mem_of_getElem? (i := 4) rfl)
theorem wm_357 : Cond.instanceMethod yX2_waitingFor ∈ wsG := wsG_s15 _ (List.mem_of_getElem? (i := 5) rfl)
theorem wm_358 : Cond.selects RX2 yX2_waitingFor yX2_waitingFor ∈ wsG := wsG_s15 _ (List.mem_of_getElem? (i := 6) rfl)
theorem wm_359 : Cond.code yX2_waitingFor cX2_waitingFor 6 (some .long) ∈ wsG := wsG_s15 _ (List.mem_of_getElem? (i := 7) rfl)
theorem wm_360 : Cond.methodLink RX4 33 yX4_walk ∈ wsG := wsG_s15 _ (List.mem_of_getElem? (i := 8) rfl)
theorem wm_361 : Cond.instanceMethod yX4_walk ∈ wsG := wsG_s15 _ (List.mem_of_getElem? (i := 9) rfl)
theorem wm_362 : Cond.code yX4_walk cX4_walk 6 none ∈ wsG := wsG_s15 _ (List.mem_of_getElem? (i := 10) rfl)
theorem wm_363 : Cond.methodLink RX4 48 yX4_least ∈ wsG := wsG_s15 _ (List.mem_of_getElem? (i := 11) rfl)
theorem wm_364 : Cond.static yX4_least ∈ wsG := wsG_s15 _ (List.mem_of_getElem? (i := 12) rfl)
theorem wm_365 : Cond.code yX4_least cX4_least 4 (some .int) ∈ wsG := wsG_s15 _ (List.mem_of_getElem? (i := 13) rfl)
theorem wm_366 : Cond.classLink RX6 113 "java/lang/IllegalStateException" ∈ wsG := wsG_s15 _ (List.mem_of_getElem? (i := 14) rfl)
theorem wm_367 : Cond.instantiable "java/lang/IllegalStateException" 6 ∈ wsG := wsG_s15 _ (List.mem_of_getElem? (i := 15) rfl)
theorem wm_368 : Cond.selects "java/lang/IllegalStateException" ⟨"java/lang/Throwable", "fillInStackTrace", "(I)Ljava/lang/Throwable;"⟩ ⟨"java/lang/Throwable", "fillInStackTrace", "(I)Ljava/lang/Throwable;"⟩ ∈ wsG := wsG_s15 _ (List.mem_of_getElem? (i := 16) rfl)
theorem wm_369 : Cond.lays "java/lang/IllegalStateException" "java/lang/Throwable" "cause" "Ljava/lang/Throwable;" ∈ wsG := wsG_s15 _ (List.mem_of_getElem? (i := 17) rfl)
theorem wm_370 : Cond.lays "java/lang/IllegalStateException" "java/lang/Throwable" "stackTrace" "[Ljava/lang/StackTraceElement;" ∈ wsG := wsG_s15 _ (List.mem_of_getElem? (i := 18) rfl)
theorem wm_371 : Cond.lays "java/lang/IllegalStateException" "java/lang/Throwable" "suppressedExceptions" "Ljava/util/List;" ∈ wsG := wsG_s15 _ (List.mem_of_getElem? (i := 19) rfl)
theorem wm_372 : Cond.lays "java/lang/IllegalStateException" "java/lang/Throwable" "detailMessage" "Ljava/lang/String;" ∈ wsG := wsG_s15 _ (List.mem_of_getElem? (i := 20) rfl)
theorem wm_373 : Cond.lays "java/lang/IllegalStateException" "java/lang/Throwable" "backtrace" "Ljava/lang/Object;" ∈ wsG := wsG_s15 _ (List.mem_of_getElem? (i := 21) rfl)
theorem wm_374 : Cond.methodLink RX6 117 ⟨"java/lang/IllegalStateException", "<init>", "(Ljava/lang/String;)V"⟩ ∈ wsG := wsG_s15 _ (List.mem_of_getElem? (i := 22) rfl)
theorem wm_375 : Cond.instanceMethod ⟨"java/lang/IllegalStateException", "<init>", "(Ljava/lang/String;)V"⟩ ∈ wsG := wsG_s15 _ (List.mem_of_getElem? (i := 23) rfl)
theorem wm_376 : Cond.code ⟨"java/lang/IllegalStateException", "<init>", "(Ljava/lang/String;)V"⟩ prog_12_method_2_code 2 none ∈ wsG := wsG_s15 _ (List.mem_of_getElem? (i := 24) rfl)
theorem wm_377 : Cond.methodLink "java/lang/IllegalStateException" 7 ⟨"java/lang/RuntimeException", "<init>", "(Ljava/lang/String;)V"⟩ ∈ wsG := wsG_s16 _ (List.mem_of_getElem? (i := 0) rfl)
theorem wm_378 : Cond.lays "java/lang/IllegalStateException" "java/lang/Throwable" "depth" "I" ∈ wsG := wsG_s16 _ (List.mem_of_getElem? (i := 1) rfl)
theorem wm_379 : Cond.methodLink RX6 118 yX6_sourceLacks ∈ wsG := wsG_s16 _ (List.mem_of_getElem? (i := 2) rfl)
theorem wm_380 : Cond.instanceMethod yX6_sourceLacks ∈ wsG := wsG_s16 _ (List.mem_of_getElem? (i := 3) rfl)
theorem wm_381 : Cond.code yX6_sourceLacks cX6_sourceLacks 3 (some .boolean) ∈ wsG := wsG_s16 _ (List.mem_of_getElem? (i := 4) rfl)
theorem wm_382 : Cond.methodLink RX6 191 yX1_lacksSource ∈ wsG := wsG_s16 _ (List.mem_of_getElem? (i := 5) rfl)
theorem wm_383 : Cond.instanceMethod yX1_lacksSource ∈ wsG := wsG_s16 _ (List.mem_of_getElem? (i := 6) rfl)
theorem wm_384 : Cond.selects RX1 yX1_lacksSource yX1_lacksSource ∈ wsG := wsG_s16 _ (List.mem_of_getElem? (i := 7) rfl)
theorem wm_385 : Cond.code yX1_lacksSource cX1_lacksSource 2 (some .boolean) ∈ wsG := wsG_s16 _ (List.mem_of_getElem? (i := 8) rfl)
theorem wm_386 : Cond.methodLink RX6 197 yX6_isIn ∈ wsG := wsG_s16 _ (List.mem_of_getElem? (i := 9) rfl)
theorem wm_387 : Cond.methodLink RX6 201 yX5_lacksSource ∈ wsG := wsG_s16 _ (List.mem_of_getElem? (i := 10) rfl)
theorem wm_388 : Cond.instanceMethod yX5_lacksSource ∈ wsG := wsG_s16 _ (List.mem_of_getElem? (i := 11) rfl)
theorem wm_389 : Cond.selects RX5 yX5_lacksSource yX5_lacksSource ∈ wsG := wsG_s16 _ (List.mem_of_getElem? (i := 12) rfl)
theorem wm_390 : Cond.code yX5_lacksSource cX5_lacksSource 3 (some .boolean) ∈ wsG := wsG_s16 _ (List.mem_of_getElem? (i := 13) rfl)
theorem wm_391 : Cond.methodLink RX5 58 yX1_lacksSource ∈ wsG := wsG_s16 _ (List.mem_of_getElem? (i := 14) rfl)
theorem wm_392 : Cond.methodLink RX6 123 yX2_rankSteps ∈ wsG := wsG_s16 _ (List.mem_of_getElem? (i := 15) rfl)
theorem wm_393 : Cond.instanceMethod yX2_rankSteps ∈ wsG := wsG_s16 _ (List.mem_of_getElem? (i := 16) rfl)
theorem wm_394 : Cond.selects RX2 yX2_rankSteps yX2_rankSteps ∈ wsG := wsG_s16 _ (List.mem_of_getElem? (i := 17) rfl)
theorem wm_395 : Cond.code yX2_rankSteps cX2_rankSteps 5 none ∈ wsG := wsG_s16 _ (List.mem_of_getElem? (i := 18) rfl)
theorem wm_396 : Cond.methodLink RX2 49 Lib.Math.max.name ∈ wsG := wsG_s16 _ (List.mem_of_getElem? (i := 19) rfl)
theorem wm_397 : Cond.static Lib.Math.max.name ∈ wsG := wsG_s16 _ (List.mem_of_getElem? (i := 20) rfl)
theorem wm_398 : Cond.code Lib.Math.max.name Lib.Math.max.code 2 (some .int) ∈ wsG := wsG_s16 _ (List.mem_of_getElem? (i := 21) rfl)
theorem wm_399 : Cond.methodLink RX6 127 yX3_open ∈ wsG := wsG_s16 _ (List.mem_of_getElem? (i := 22) rfl)
theorem wm_400 : Cond.instanceMethod yX3_open ∈ wsG := wsG_s17 _ (List.mem_of_getElem? (i := 0) rfl)
theorem wm_401 : Cond.selects RX3 yX3_open yX3_open ∈ wsG := wsG_s17 _ (List.mem_of_getElem? (i := 1) rfl)
theorem wm_402 : Cond.code yX3_open cX3_open 2 none ∈ wsG := wsG_s17 _ (List.mem_of_getElem? (i := 2) rfl)
theorem wm_403 : Cond.methodLink RX3 30 yX2_greatestRank ∈ wsG := wsG_s17 _ (List.mem_of_getElem? (i := 3) rfl)
theorem wm_404 : Cond.instanceMethod yX2_greatestRank ∈ wsG := wsG_s17 _ (List.mem_of_getElem? (i := 4) rfl)
theorem wm_405 : Cond.selects RX2 yX2_greatestRank yX2_greatestRank ∈ wsG := wsG_s17 _ (List.mem_of_getElem? (i := 5) rfl)
theorem wm_406 : Cond.code yX2_greatestRank cX2_greatestRank 3 (some .int) ∈ wsG := wsG_s17 _ (List.mem_of_getElem? (i := 6) rfl)
theorem wm_407 : Cond.methodLink RX6 130 yX6_makeNeeded ∈ wsG := wsG_s17 _ (List.mem_of_getElem? (i := 7) rfl)
theorem wm_408 : Cond.instanceMethod yX6_makeNeeded ∈ wsG := wsG_s17 _ (List.mem_of_getElem? (i := 8) rfl)
theorem wm_409 : Cond.code yX6_makeNeeded cX6_makeNeeded 5 (some .int) ∈ wsG := wsG_s17 _ (List.mem_of_getElem? (i := 9) rfl)
theorem wm_410 : Cond.methodLink RX6 204 yX0_comeIn ∈ wsG := wsG_s17 _ (List.mem_of_getElem? (i := 10) rfl)
theorem wm_411 : Cond.instanceMethod yX0_comeIn ∈ wsG := wsG_s17 _ (List.mem_of_getElem? (i := 11) rfl)
theorem wm_412 : Cond.selects RX0 yX0_comeIn yX0_comeIn ∈ wsG := wsG_s17 _ (List.mem_of_getElem? (i := 12) rfl)
theorem wm_413 : Cond.code yX0_comeIn cX0_comeIn 2 none ∈ wsG := wsG_s17 _ (List.mem_of_getElem? (i := 13) rfl)
theorem wm_414 : Cond.methodLink RX6 207 yX6_endSteps ∈ wsG := wsG_s17 _ (List.mem_of_getElem? (i := 14) rfl)
theorem wm_415 : Cond.instanceMethod yX6_endSteps ∈ wsG := wsG_s17 _ (List.mem_of_getElem? (i := 15) rfl)
theorem wm_416 : Cond.code yX6_endSteps cX6_endSteps 3 none ∈ wsG := wsG_s17 _ (List.mem_of_getElem? (i := 16) rfl)
theorem wm_417 : Cond.methodLink RX6 220 yX0_endsAt ∈ wsG := wsG_s17 _ (List.mem_of_getElem? (i := 17) rfl)
theorem wm_418 : Cond.instanceMethod yX0_endsAt ∈ wsG := wsG_s17 _ (List.mem_of_getElem? (i := 18) rfl)
theorem wm_419 : Cond.selects RX0 yX0_endsAt yX0_endsAt ∈ wsG := wsG_s17 _ (List.mem_of_getElem? (i := 19) rfl)
theorem wm_420 : Cond.code yX0_endsAt cX0_endsAt 3 (some .boolean) ∈ wsG := wsG_s17 _ (List.mem_of_getElem? (i := 20) rfl)
theorem wm_421 : Cond.methodLink RX6 224 yX5_make ∈ wsG := wsG_s17 _ (List.mem_of_getElem? (i := 21) rfl)
theorem wm_422 : Cond.instanceMethod yX5_make ∈ wsG := wsG_s17 _ (List.mem_of_getElem? (i := 22) rfl)
theorem wm_423 : Cond.selects RX5 yX5_make yX5_make ∈ wsG := wsG_s17 _ (List.mem_of_getElem? (i := 23) rfl)
theorem wm_424 : Cond.code yX5_make cX5_make 5 none ∈ wsG := wsG_s17 _ (List.mem_of_getElem? (i := 24) rfl)
theorem wm_425 : Cond.constant RX5 91 16777619 ∈ wsG := wsG_s18 _ (List.mem_of_getElem? (i := 0) rfl)
theorem wm_426 : Cond.methodLink RX5 92 yX1_fill ∈ wsG := wsG_s18 _ (List.mem_of_getElem? (i := 1) rfl)
theorem wm_427 : Cond.methodLink RX6 227 yX0_end ∈ wsG := wsG_s18 _ (List.mem_of_getElem? (i := 2) rfl)
theorem wm_428 : Cond.instanceMethod yX0_end ∈ wsG := wsG_s18 _ (List.mem_of_getElem? (i := 3) rfl)
theorem wm_429 : Cond.selects RX0 yX0_end yX0_end ∈ wsG := wsG_s18 _ (List.mem_of_getElem? (i := 4) rfl)
theorem wm_430 : Cond.code yX0_end cX0_end 2 none ∈ wsG := wsG_s18 _ (List.mem_of_getElem? (i := 5) rfl)
theorem wm_431 : Cond.constantLong RX0 33 (-1) ∈ wsG := wsG_s18 _ (List.mem_of_getElem? (i := 6) rfl)
theorem wm_432 : Cond.methodLink RX6 211 yX6_passOverSteps ∈ wsG := wsG_s18 _ (List.mem_of_getElem? (i := 7) rfl)
theorem wm_433 : Cond.instanceMethod yX6_passOverSteps ∈ wsG := wsG_s18 _ (List.mem_of_getElem? (i := 8) rfl)
theorem wm_434 : Cond.code yX6_passOverSteps cX6_passOverSteps 4 none ∈ wsG := wsG_s18 _ (List.mem_of_getElem? (i := 9) rfl)
theorem wm_435 : Cond.methodLink RX6 230 yX6_isReady ∈ wsG := wsG_s18 _ (List.mem_of_getElem? (i := 10) rfl)
theorem wm_436 : Cond.instanceMethod yX6_isReady ∈ wsG := wsG_s18 _ (List.mem_of_getElem? (i := 11) rfl)
theorem wm_437 : Cond.code yX6_isReady cX6_isReady 2 (some .boolean) ∈ wsG := wsG_s18 _ (List.mem_of_getElem? (i := 12) rfl)
theorem wm_438 : Cond.methodLink RX6 255 yX0_isOpen ∈ wsG := wsG_s18 _ (List.mem_of_getElem? (i := 13) rfl)
theorem wm_439 : Cond.instanceMethod yX0_isOpen ∈ wsG := wsG_s18 _ (List.mem_of_getElem? (i := 14) rfl)
theorem wm_440 : Cond.selects RX0 yX0_isOpen yX0_isOpen ∈ wsG := wsG_s18 _ (List.mem_of_getElem? (i := 15) rfl)
theorem wm_441 : Cond.code yX0_isOpen cX0_isOpen 2 (some .boolean) ∈ wsG := wsG_s18 _ (List.mem_of_getElem? (i := 16) rfl)
theorem wm_442 : Cond.methodLink RX6 262 yX0_areDone ∈ wsG := wsG_s18 _ (List.mem_of_getElem? (i := 17) rfl)
theorem wm_443 : Cond.instanceMethod yX0_areDone ∈ wsG := wsG_s18 _ (List.mem_of_getElem? (i := 18) rfl)
theorem wm_444 : Cond.selects RX0 yX0_areDone yX0_areDone ∈ wsG := wsG_s18 _ (List.mem_of_getElem? (i := 19) rfl)
theorem wm_445 : Cond.code yX0_areDone cX0_areDone 3 (some .boolean) ∈ wsG := wsG_s18 _ (List.mem_of_getElem? (i := 20) rfl)
theorem wm_446 : Cond.methodLink RX6 233 yX0_passOver ∈ wsG := wsG_s18 _ (List.mem_of_getElem? (i := 21) rfl)
theorem wm_447 : Cond.instanceMethod yX0_passOver ∈ wsG := wsG_s18 _ (List.mem_of_getElem? (i := 22) rfl)
theorem wm_448 : Cond.selects RX0 yX0_passOver yX0_passOver ∈ wsG := wsG_s18 _ (List.mem_of_getElem? (i := 23) rfl)
theorem wm_449 : Cond.code yX0_passOver cX0_passOver 2 none ∈ wsG := wsG_s18 _ (List.mem_of_getElem? (i := 24) rfl)
theorem wm_450 : Cond.methodLink RX6 214 yX6_beginSteps ∈ wsG := wsG_s19 _ (List.mem_of_getElem? (i := 0) rfl)
theorem wm_451 : Cond.instanceMethod yX6_beginSteps ∈ wsG := wsG_s19 _ (List.mem_of_getElem? (i := 1) rfl)
theorem wm_452 : Cond.code yX6_beginSteps cX6_beginSteps 6 none ∈ wsG := wsG_s19 _ (List.mem_of_getElem? (i := 2) rfl)
theorem wm_453 : Cond.methodLink RX6 236 yX0_isBusy ∈ wsG := wsG_s19 _ (List.mem_of_getElem? (i := 3) rfl)
theorem wm_454 : Cond.instanceMethod yX0_isBusy ∈ wsG := wsG_s19 _ (List.mem_of_getElem? (i := 4) rfl)
theorem wm_455 : Cond.selects RX0 yX0_isBusy yX0_isBusy ∈ wsG := wsG_s19 _ (List.mem_of_getElem? (i := 5) rfl)
theorem wm_456 : Cond.code yX0_isBusy cX0_isBusy 2 (some .boolean) ∈ wsG := wsG_s19 _ (List.mem_of_getElem? (i := 6) rfl)
theorem wm_457 : Cond.methodLink RX6 239 yX6_nextToBegin ∈ wsG := wsG_s19 _ (List.mem_of_getElem? (i := 7) rfl)
theorem wm_458 : Cond.instanceMethod yX6_nextToBegin ∈ wsG := wsG_s19 _ (List.mem_of_getElem? (i := 8) rfl)
theorem wm_459 : Cond.code yX6_nextToBegin cX6_nextToBegin 4 (some .int) ∈ wsG := wsG_s19 _ (List.mem_of_getElem? (i := 9) rfl)
theorem wm_460 : Cond.methodLink RX6 245 yX3_add ∈ wsG := wsG_s19 _ (List.mem_of_getElem? (i := 10) rfl)
theorem wm_461 : Cond.instanceMethod yX3_add ∈ wsG := wsG_s19 _ (List.mem_of_getElem? (i := 11) rfl)
theorem wm_462 : Cond.selects RX3 yX3_add yX3_add ∈ wsG := wsG_s19 _ (List.mem_of_getElem? (i := 12) rfl)
theorem wm_463 : Cond.code yX3_add cX3_add 7 none ∈ wsG := wsG_s19 _ (List.mem_of_getElem? (i := 13) rfl)
theorem wm_464 : Cond.methodLink RX6 249 yX0_begin ∈ wsG := wsG_s19 _ (List.mem_of_getElem? (i := 14) rfl)
theorem wm_465 : Cond.instanceMethod yX0_begin ∈ wsG := wsG_s19 _ (List.mem_of_getElem? (i := 15) rfl)
theorem wm_466 : Cond.selects RX0 yX0_begin yX0_begin ∈ wsG := wsG_s19 _ (List.mem_of_getElem? (i := 16) rfl)
theorem wm_467 : Cond.code yX0_begin cX0_begin 4 none ∈ wsG := wsG_s19 _ (List.mem_of_getElem? (i := 17) rfl)
theorem wm_468 : Cond.methodLink RX6 217 yX0_nextEnd ∈ wsG := wsG_s19 _ (List.mem_of_getElem? (i := 18) rfl)
theorem wm_469 : Cond.instanceMethod yX0_nextEnd ∈ wsG := wsG_s19 _ (List.mem_of_getElem? (i := 19) rfl)
theorem wm_470 : Cond.selects RX0 yX0_nextEnd yX0_nextEnd ∈ wsG := wsG_s19 _ (List.mem_of_getElem? (i := 20) rfl)
theorem wm_471 : Cond.code yX0_nextEnd cX0_nextEnd 3 (some .int) ∈ wsG := wsG_s19 _ (List.mem_of_getElem? (i := 21) rfl)
theorem wm_472 : Cond.methodLink RL 74 yL_begun ∈ wsG := wsG_s19 _ (List.mem_of_getElem? (i := 22) rfl)
theorem wm_473 : Cond.static yL_begun ∈ wsG := wsG_s19 _ (List.mem_of_getElem? (i := 23) rfl)
theorem wm_474 : Cond.classLink RL 20 "java/util/NoSuchElementException" ∈ wsG := wsG_s19 _ (List.mem_of_getElem? (i := 24) rfl)
theorem wm_475 : Cond.methodLink RL 17 yX6_begun ∈ wsG := wsG_s20 _ (List.mem_of_getElem? (i := 0) rfl)
theorem wm_476 : Cond.instanceMethod yX6_begun ∈ wsG := wsG_s20 _ (List.mem_of_getElem? (i := 1) rfl)
theorem wm_477 : Cond.selects RX6 yX6_begun yX6_begun ∈ wsG := wsG_s20 _ (List.mem_of_getElem? (i := 2) rfl)
theorem wm_478 : Cond.code yX6_begun cX6_begun 3 (some .int) ∈ wsG := wsG_s20 _ (List.mem_of_getElem? (i := 3) rfl)
theorem wm_479 : Cond.classLink RX6 153 "java/util/NoSuchElementException" ∈ wsG := wsG_s20 _ (List.mem_of_getElem? (i := 4) rfl)
theorem wm_480 : Cond.instantiable "java/util/NoSuchElementException" 6 ∈ wsG := wsG_s20 _ (List.mem_of_getElem? (i := 5) rfl)
theorem wm_481 : Cond.selects "java/util/NoSuchElementException" ⟨"java/lang/Throwable", "fillInStackTrace", "(I)Ljava/lang/Throwable;"⟩ ⟨"java/lang/Throwable", "fillInStackTrace", "(I)Ljava/lang/Throwable;"⟩ ∈ wsG := wsG_s20 _ (List.mem_of_getElem? (i := 6) rfl)
theorem wm_482 : Cond.lays "java/util/NoSuchElementException" "java/lang/Throwable" "cause" "Ljava/lang/Throwable;" ∈ wsG := wsG_s20 _ (List.mem_of_getElem? (i := 7) rfl)
theorem wm_483 : Cond.lays "java/util/NoSuchElementException" "java/lang/Throwable" "stackTrace" "[Ljava/lang/StackTraceElement;" ∈ wsG := wsG_s20 _ (List.mem_of_getElem? (i := 8) rfl)
theorem wm_484 : Cond.lays "java/util/NoSuchElementException" "java/lang/Throwable" "suppressedExceptions" "Ljava/util/List;" ∈ wsG := wsG_s20 _ (List.mem_of_getElem? (i := 9) rfl)
theorem wm_485 : Cond.lays "java/util/NoSuchElementException" "java/lang/Throwable" "detailMessage" "Ljava/lang/String;" ∈ wsG := wsG_s20 _ (List.mem_of_getElem? (i := 10) rfl)
theorem wm_486 : Cond.lays "java/util/NoSuchElementException" "java/lang/Throwable" "backtrace" "Ljava/lang/Object;" ∈ wsG := wsG_s20 _ (List.mem_of_getElem? (i := 11) rfl)
theorem wm_487 : Cond.methodLink RX6 157 ⟨"java/util/NoSuchElementException", "<init>", "(Ljava/lang/String;)V"⟩ ∈ wsG := wsG_s20 _ (List.mem_of_getElem? (i := 12) rfl)
theorem wm_488 : Cond.instanceMethod ⟨"java/util/NoSuchElementException", "<init>", "(Ljava/lang/String;)V"⟩ ∈ wsG := wsG_s20 _ (List.mem_of_getElem? (i := 13) rfl)
theorem wm_489 : Cond.code ⟨"java/util/NoSuchElementException", "<init>", "(Ljava/lang/String;)V"⟩ prog_17_method_4_code 2 none ∈ wsG := wsG_s20 _ (List.mem_of_getElem? (i := 14) rfl)
theorem wm_490 : Cond.methodLink "java/util/NoSuchElementException" 13 ⟨"java/lang/RuntimeException", "<init>", "(Ljava/lang/String;)V"⟩ ∈ wsG := wsG_s20 _ (List.mem_of_getElem? (i := 15) rfl)
theorem wm_491 : Cond.lays "java/util/NoSuchElementException" "java/lang/Throwable" "depth" "I" ∈ wsG := wsG_s20 _ (List.mem_of_getElem? (i := 16) rfl)
theorem wm_492 : Cond.methodLink RX6 158 yX3_cell ∈ wsG := wsG_s20 _ (List.mem_of_getElem? (i := 17) rfl)
theorem wm_493 : Cond.instanceMethod yX3_cell ∈ wsG := wsG_s20 _ (List.mem_of_getElem? (i := 18) rfl)
theorem wm_494 : Cond.selects RX3 yX3_cell yX3_cell ∈ wsG := wsG_s20 _ (List.mem_of_getElem? (i := 19) rfl)
theorem wm_495 : Cond.code yX3_cell cX3_cell 3 (some .int) ∈ wsG := wsG_s20 _ (List.mem_of_getElem? (i := 20) rfl)
theorem wm_496 : Cond.methodLink RL 77 yL_cycle ∈ wsG := wsG_s20 _ (List.mem_of_getElem? (i := 21) rfl)
theorem wm_497 : Cond.static yL_cycle ∈ wsG := wsG_s20 _ (List.mem_of_getElem? (i := 22) rfl)
theorem wm_498 : Cond.methodLink RL 22 yX6_cycle ∈ wsG := wsG_s20 _ (List.mem_of_getElem? (i := 23) rfl)
theorem wm_499 : Cond.instanceMethod yX6_cycle ∈ wsG := wsG_s20 _ (List.mem_of_getElem? (i := 24) rfl)
theorem wm_500 : Cond.selects RX6 yX6_cycle yX6_cycle ∈ wsG := wsG_s21 _ (List.mem_of_getElem? (i := 0) rfl)
theorem wm_501 : Cond.code yX6_cycle cX6_cycle 2 (some .int) ∈ wsG := wsG_s21 _ (List.mem_of_getElem? (i := 1) rfl)
theorem wm_502 : Cond.methodLink RL 81 yL_content ∈ wsG := wsG_s21 _ (List.mem_of_getElem? (i := 2) rfl)
theorem wm_503 : Cond.static yL_content ∈ wsG := wsG_s21 _ (List.mem_of_getElem? (i := 3) rfl)
theorem wm_504 : Cond.methodLink RL 26 yX6_content ∈ wsG := wsG_s21 _ (List.mem_of_getElem? (i := 4) rfl)
theorem wm_505 : Cond.instanceMethod yX6_content ∈ wsG := wsG_s21 _ (List.mem_of_getElem? (i := 5) rfl)
theorem wm_506 : Cond.selects RX6 yX6_content yX6_content ∈ wsG := wsG_s21 _ (List.mem_of_getElem? (i := 6) rfl)
theorem wm_507 : Cond.code yX6_content cX6_content 2 (some .int) ∈ wsG := wsG_s21 _ (List.mem_of_getElem? (i := 7) rfl)
theorem wm_508 : Cond.methodLink RX6 171 yX1_isFilled ∈ wsG := wsG_s21 _ (List.mem_of_getElem? (i := 8) rfl)
theorem wm_509 : Cond.methodLink RX6 176 yX1_contentOf ∈ wsG := wsG_s21 _ (List.mem_of_getElem? (i := 9) rfl)
theorem wm_510 : Cond.classLink RL 30 RX7 ∈ wsG := wsG_s21 _ (List.mem_of_getElem? (i := 10) rfl)
theorem wm_511 : Cond.instantiable RX7 40 ∈ wsG := wsG_s21 _ (List.mem_of_getElem? (i := 11) rfl)
theorem wm_512 : Cond.methodLink RL 32 yX7_init ∈ wsG := wsG_s21 _ (List.mem_of_getElem? (i := 12) rfl)
theorem wm_513 : Cond.instanceMethod yX7_init ∈ wsG := wsG_s21 _ (List.mem_of_getElem? (i := 13) rfl)
theorem wm_514 : Cond.code yX7_init cX7_init 2 none ∈ wsG := wsG_s21 _ (List.mem_of_getElem? (i := 14) rfl)
theorem wm_515 : Cond.methodLink RX7 1 objectInit ∈ wsG := wsG_s21 _ (List.mem_of_getElem? (i := 15) rfl)
theorem wm_516 : Cond.fieldLink RX7 110 "BuildDeskModel" "thrown" "I" ∈ wsG := wsG_s21 _ (List.mem_of_getElem? (i := 16) rfl)
theorem wm_517 : Cond.fieldLink RX7 7 "BuildDeskModel" "has" "[Z" ∈ wsG := wsG_s21 _ (List.mem_of_getElem? (i := 17) rfl)
theorem wm_518 : Cond.fieldLink RX7 13 "BuildDeskModel" "contents" "[I" ∈ wsG := wsG_s21 _ (List.mem_of_getElem? (i := 18) rfl)
theorem wm_519 : Cond.fieldLink RX7 17 "BuildDeskModel" "maker" "[I" ∈ wsG := wsG_s21 _ (List.mem_of_getElem? (i := 19) rfl)
theorem wm_520 : Cond.fieldLink RX7 20 "BuildDeskModel" "there" "[Z" ∈ wsG := wsG_s21 _ (List.mem_of_getElem? (i := 20) rfl)
theorem wm_521 : Cond.fieldLink RX7 23 "BuildDeskModel" "recipe" "[I" ∈ wsG := wsG_s21 _ (List.mem_of_getElem? (i := 21) rfl)
theorem wm_522 : Cond.fieldLink RX7 26 "BuildDeskModel" "mask" "[I" ∈ wsG := wsG_s21 _ (List.mem_of_getElem? (i := 22) rfl)
theorem wm_523 : Cond.fieldLink RX7 29 "BuildDeskModel" "duration" "[I" ∈ wsG := wsG_s21 _ (List.mem_of_getElem? (i := 23) rfl)
theorem wm_524 : Cond.fieldLink RX7 32 "BuildDeskModel" "inputs" "[I" ∈ wsG := wsG_s21 _ (List.mem_of_getElem? (i := 24) rfl)
theorem wm_525 : Cond.fieldLink RX7 35 "BuildDeskModel" "outputs" "[I" ∈ wsG := wsG_s22 _ (List.mem_of_getElem? (i := 0) rfl)
theorem wm_526 : Cond.fieldLink RX7 38 "BuildDeskModel" "ins" "[I" ∈ wsG := wsG_s22 _ (List.mem_of_getElem? (i := 1) rfl)
theorem wm_527 : Cond.fieldLink RX7 41 "BuildDeskModel" "outs" "[I" ∈ wsG := wsG_s22 _ (List.mem_of_getElem? (i := 2) rfl)
theorem wm_528 : Cond.fieldLink RX7 44 "BuildDeskModel" "made" "[Z" ∈ wsG := wsG_s22 _ (List.mem_of_getElem? (i := 3) rfl)
theorem wm_529 : Cond.fieldLink RX7 47 "BuildDeskModel" "oldRecipe" "[I" ∈ wsG := wsG_s22 _ (List.mem_of_getElem? (i := 4) rfl)
theorem wm_530 : Cond.fieldLink RX7 50 "BuildDeskModel" "oldMask" "[I" ∈ wsG := wsG_s22 _ (List.mem_of_getElem? (i := 5) rfl)
theorem wm_531 : Cond.fieldLink RX7 53 "BuildDeskModel" "oldInputs" "[I" ∈ wsG := wsG_s22 _ (List.mem_of_getElem? (i := 6) rfl)
theorem wm_532 : Cond.fieldLink RX7 56 "BuildDeskModel" "oldOutputs" "[I" ∈ wsG := wsG_s22 _ (List.mem_of_getElem? (i := 7) rfl)
theorem wm_533 : Cond.fieldLink RX7 59 "BuildDeskModel" "oldIns" "[I" ∈ wsG := wsG_s22 _ (List.mem_of_getElem? (i := 8) rfl)
theorem wm_534 : Cond.fieldLink RX7 62 "BuildDeskModel" "oldOuts" "[I" ∈ wsG := wsG_s22 _ (List.mem_of_getElem? (i := 9) rfl)
theorem wm_535 : Cond.fieldLink RX7 65 "BuildDeskModel" "oldContents" "[I" ∈ wsG := wsG_s22 _ (List.mem_of_getElem? (i := 10) rfl)
theorem wm_536 : Cond.fieldLink RX7 68 "BuildDeskModel" "needed" "[Z" ∈ wsG := wsG_s22 _ (List.mem_of_getElem? (i := 11) rfl)
theorem wm_537 : Cond.fieldLink RX7 71 "BuildDeskModel" "rank" "[I" ∈ wsG := wsG_s22 _ (List.mem_of_getElem? (i := 12) rfl)
theorem wm_538 : Cond.fieldLink RX7 74 "BuildDeskModel" "state" "[I" ∈ wsG := wsG_s22 _ (List.mem_of_getElem? (i := 13) rfl)
theorem wm_539 : Cond.fieldLink RX7 77 "BuildDeskModel" "ends" "[I" ∈ wsG := wsG_s22 _ (List.mem_of_getElem? (i := 14) rfl)
theorem wm_540 : Cond.fieldLink RX7 80 "BuildDeskModel" "mixed" "[I" ∈ wsG := wsG_s22 _ (List.mem_of_getElem? (i := 15) rfl)
theorem wm_541 : Cond.fieldLink RX7 83 "BuildDeskModel" "worker" "[I" ∈ wsG := wsG_s22 _ (List.mem_of_getElem? (i := 16) rfl)
theorem wm_542 : Cond.fieldLink RX7 86 "BuildDeskModel" "busy" "[Z" ∈ wsG := wsG_s22 _ (List.mem_of_getElem? (i := 17) rfl)
theorem wm_543 : Cond.fieldLink RX7 149 "BuildDeskModel" "now" "I" ∈ wsG := wsG_s22 _ (List.mem_of_getElem? (i := 18) rfl)
theorem wm_544 : Cond.fieldLink RX7 146 "BuildDeskModel" "told" "I" ∈ wsG := wsG_s22 _ (List.mem_of_getElem? (i := 19) rfl)
theorem wm_545 : Cond.fieldLink RX7 175 "BuildDeskModel" "neededMany" "I" ∈ wsG := wsG_s22 _ (List.mem_of_getElem? (i := 20) rfl)
theorem wm_546 : Cond.fieldLink RX7 152 "BuildDeskModel" "busyTime" "I" ∈ wsG := wsG_s22 _ (List.mem_of_getElem? (i := 21) rfl)
theorem wm_547 : Cond.fieldLink RX7 178 "BuildDeskModel" "greatest" "I" ∈ wsG := wsG_s22 _ (List.mem_of_getElem? (i := 22) rfl)
theorem wm_548 : Cond.fieldLink RX7 89 "BuildDeskModel" "toldStep" "[I" ∈ wsG := wsG_s22 _ (List.mem_of_getElem? (i := 23) rfl)
theorem wm_549 : Cond.fieldLink RX7 92 "BuildDeskModel" "toldBegin" "[I" ∈ wsG := wsG_s22 _ (List.mem_of_getElem? (i := 24) rfl)
theorem wm_550 : Cond.fieldLink RX7 95 "BuildDeskModel" "toldEnd" "[I" ∈ wsG := wsG_s23 _ (List.mem_of_getElem? (i := 0) rfl)
theorem wm_551 : Cond.fieldLink RX7 98 "BuildDeskModel" "toldWorker" "[I" ∈ wsG := wsG_s23 _ (List.mem_of_getElem? (i := 1) rfl)
theorem wm_552 : Cond.fieldLink RX7 101 "BuildDeskModel" "toldReason" "[I" ∈ wsG := wsG_s23 _ (List.mem_of_getElem? (i := 2) rfl)
theorem wm_553 : Cond.fieldLink RX7 139 "BuildDeskModel" "roundLong" "I" ∈ wsG := wsG_s23 _ (List.mem_of_getElem? (i := 3) rfl)
theorem wm_554 : Cond.fieldLink RX7 104 "BuildDeskModel" "round" "[I" ∈ wsG := wsG_s23 _ (List.mem_of_getElem? (i := 4) rfl)
theorem wm_555 : Cond.fieldLink RX7 107 "BuildDeskModel" "far" "[I" ∈ wsG := wsG_s23 _ (List.mem_of_getElem? (i := 5) rfl)
theorem wm_556 : Cond.lays RX7 "BuildDeskModel" "thrown" "I" ∈ wsG := wsG_s23 _ (List.mem_of_getElem? (i := 6) rfl)
theorem wm_557 : Cond.laysFinal RX7 "BuildDeskModel" "has" "[Z" ∈ wsG := wsG_s23 _ (List.mem_of_getElem? (i := 7) rfl)
theorem wm_558 : Cond.laysFinal RX7 "BuildDeskModel" "contents" "[I" ∈ wsG := wsG_s23 _ (List.mem_of_getElem? (i := 8) rfl)
theorem wm_559 : Cond.laysFinal RX7 "BuildDeskModel" "maker" "[I" ∈ wsG := wsG_s23 _ (List.mem_of_getElem? (i := 9) rfl)
theorem wm_560 : Cond.laysFinal RX7 "BuildDeskModel" "there" "[Z" ∈ wsG := wsG_s23 _ (List.mem_of_getElem? (i := 10) rfl)
theorem wm_561 : Cond.laysFinal RX7 "BuildDeskModel" "recipe" "[I" ∈ wsG := wsG_s23 _ (List.mem_of_getElem? (i := 11) rfl)
theorem wm_562 : Cond.laysFinal RX7 "BuildDeskModel" "mask" "[I" ∈ wsG := wsG_s23 _ (List.mem_of_getElem? (i := 12) rfl)
theorem wm_563 : Cond.laysFinal RX7 "BuildDeskModel" "duration" "[I" ∈ wsG := wsG_s23 _ (List.mem_of_getElem? (i := 13) rfl)
theorem wm_564 : Cond.laysFinal RX7 "BuildDeskModel" "inputs" "[I" ∈ wsG := wsG_s23 _ (List.mem_of_getElem? (i := 14) rfl)
theorem wm_565 : Cond.laysFinal RX7 "BuildDeskModel" "outputs" "[I" ∈ wsG := wsG_s23 _ (List.mem_of_getElem? (i := 15) rfl)
theorem wm_566 : Cond.laysFinal RX7 "BuildDeskModel" "ins" "[I" ∈ wsG := wsG_s23 _ (List.mem_of_getElem? (i := 16) rfl)
theorem wm_567 : Cond.laysFinal RX7 "BuildDeskModel" "outs" "[I" ∈ wsG := wsG_s23 _ (List.mem_of_getElem? (i := 17) rfl)
theorem wm_568 : Cond.laysFinal RX7 "BuildDeskModel" "made" "[Z" ∈ wsG := wsG_s23 _ (List.mem_of_getElem? (i := 18) rfl)
theorem wm_569 : Cond.laysFinal RX7 "BuildDeskModel" "oldRecipe" "[I" ∈ wsG := wsG_s23 _ (List.mem_of_getElem? (i := 19) rfl)
theorem wm_570 : Cond.laysFinal RX7 "BuildDeskModel" "oldMask" "[I" ∈ wsG := wsG_s23 _ (List.mem_of_getElem? (i := 20) rfl)
theorem wm_571 : Cond.laysFinal RX7 "BuildDeskModel" "oldInputs" "[I" ∈ wsG := wsG_s23 _ (List.mem_of_getElem? (i := 21) rfl)
theorem wm_572 : Cond.laysFinal RX7 "BuildDeskModel" "oldOutputs" "[I" ∈ wsG := wsG_s23 _ (List.mem_of_getElem? (i := 22) rfl)
theorem wm_573 : Cond.laysFinal RX7 "BuildDeskModel" "oldIns" "[I" ∈ wsG := wsG_s23 _ (List.mem_of_getElem? (i := 23) rfl)
theorem wm_574 : Cond.laysFinal RX7 "BuildDeskModel" "oldOuts" "[I" ∈ wsG := wsG_s23 _ (List.mem_of_getElem? (i := 24) rfl)
theorem wm_575 : Cond.laysFinal RX7 "BuildDeskModel" "oldContents" "[I" ∈ wsG := wsG_s24 _ (List.mem_of_getElem? (i := 0) rfl)
theorem wm_576 : Cond.laysFinal RX7 "BuildDeskModel" "needed" "[Z" ∈ wsG := wsG_s24 _ (List.mem_of_getElem? (i := 1) rfl)
theorem wm_577 : Cond.laysFinal RX7 "BuildDeskModel" "rank" "[I" ∈ wsG := wsG_s24 _ (List.mem_of_getElem? (i := 2) rfl)
theorem wm_578 : Cond.laysFinal RX7 "BuildDeskModel" "state" "[I" ∈ wsG := wsG_s24 _ (List.mem_of_getElem? (i := 3) rfl)
theorem wm_579 : Cond.laysFinal RX7 "BuildDeskModel" "ends" "[I" ∈ wsG := wsG_s24 _ (List.mem_of_getElem? (i := 4) rfl)
theorem wm_580 : Cond.laysFinal RX7 "BuildDeskModel" "mixed" "[I" ∈ wsG := wsG_s24 _ (List.mem_of_getElem? (i := 5) rfl)
theorem wm_581 : Cond.laysFinal RX7 "BuildDeskModel" "worker" "[I" ∈ wsG := wsG_s24 _ (List.mem_of_getElem? (i := 6) rfl)
theorem wm_582 : Cond.laysFinal RX7 "BuildDeskModel" "busy" "[Z" ∈ wsG := wsG_s24 _ (List.mem_of_getElem? (i := 7) rfl)
theorem wm_583 : Cond.lays RX7 "BuildDeskModel" "now" "I" ∈ wsG := wsG_s24 _ (List.mem_of_getElem? (i := 8) rfl)
theorem wm_584 : Cond.lays RX7 "BuildDeskModel" "told" "I" ∈ wsG := wsG_s24 _ (List.mem_of_getElem? (i := 9) rfl)
theorem wm_585 : Cond.lays RX7 "BuildDeskModel" "neededMany" "I" ∈ wsG := wsG_s24 _ (List.mem_of_getElem? (i := 10) rfl)
theorem wm_586 : Cond.lays RX7 "BuildDeskModel" "busyTime" "I" ∈ wsG := wsG_s24 _ (List.mem_of_getElem? (i := 11) rfl)
theorem wm_587 : Cond.lays RX7 "BuildDeskModel" "greatest" "I" ∈ wsG := wsG_s24 _ (List.mem_of_getElem? (i := 12) rfl)
theorem wm_588 : Cond.laysFinal RX7 "BuildDeskModel" "toldStep" "[I" ∈ wsG := wsG_s24 _ (List.mem_of_getElem? (i := 13) rfl)
theorem wm_589 : Cond.laysFinal RX7 "BuildDeskModel" "toldBegin" "[I" ∈ wsG := wsG_s24 _ (List.mem_of_getElem? (i := 14) rfl)
theorem wm_590 : Cond.laysFinal RX7 "BuildDeskModel" "toldEnd" "[I" ∈ wsG := wsG_s25 _ (List.mem_of_getElem? (i := 0) rfl)
theorem wm_591 : Cond.laysFinal RX7 "BuildDeskModel" "toldWorker" "[I" ∈ wsG := wsG_s25 _ (List.mem_of_getElem? (i := 1) rfl)
theorem wm_592 : Cond.laysFinal RX7 "BuildDeskModel" "toldReason" "[I" ∈ wsG := wsG_s25 _ (List.mem_of_getElem? (i := 2) rfl)
theorem wm_593 : Cond.lays RX7 "BuildDeskModel" "roundLong" "I" ∈ wsG := wsG_s25 _ (List.mem_of_getElem? (i := 3) rfl)
theorem wm_594 : Cond.laysFinal RX7 "BuildDeskModel" "round" "[I" ∈ wsG := wsG_s25 _ (List.mem_of_getElem? (i := 4) rfl)
theorem wm_595 : Cond.laysFinal RX7 "BuildDeskModel" "far" "[I" ∈ wsG := wsG_s25 _ (List.mem_of_getElem? (i := 5) rfl)
theorem wm_596 : Cond.methodLink RL 66 yX7_thrown ∈ wsG := wsG_s25 _ (List.mem_of_getElem? (i := 6) rfl)
theorem wm_597 : Cond.instanceMethod yX7_thrown ∈ wsG := wsG_s25 _ (List.mem_of_getElem? (i := 7) rfl)
theorem wm_598 : Cond.selects RX7 yX7_thrown yX7_thrown ∈ wsG := wsG_s25 _ (List.mem_of_getElem? (i := 8) rfl)
theorem wm_599 : Cond.code yX7_thrown cX7_thrown 1 (some .int) ∈ wsG := wsG_s25 _ (List.mem_of_getElem? (i := 9) rfl)
theorem wm_600 : Cond.methodLink RL 37 yX7_step ∈ wsG := wsG_s25 _ (List.mem_of_getElem? (i := 10) rfl)
theorem wm_601 : Cond.instanceMethod yX7_step ∈ wsG := wsG_s25 _ (List.mem_of_getElem? (i := 11) rfl)
theorem wm_602 : Cond.selects RX7 yX7_step yX7_step ∈ wsG := wsG_s25 _ (List.mem_of_getElem? (i := 12) rfl)
theorem wm_603 : Cond.code yX7_step cX7_step 5 (some .boolean) ∈ wsG := wsG_s25 _ (List.mem_of_getElem? (i := 13) rfl)
theorem wm_604 : Cond.methodLink RL 42 yX7_input ∈ wsG := wsG_s25 _ (List.mem_of_getElem? (i := 14) rfl)
theorem wm_605 : Cond.instanceMethod yX7_input ∈ wsG := wsG_s25 _ (List.mem_of_getElem? (i := 15) rfl)
theorem wm_606 : Cond.selects RX7 yX7_input yX7_input ∈ wsG := wsG_s25 _ (List.mem_of_getElem? (i := 16) rfl)
theorem wm_607 : Cond.code yX7_input cX7_input 3 (some .boolean) ∈ wsG := wsG_s25 _ (List.mem_of_getElem? (i := 17) rfl)
theorem wm_608 : Cond.methodLink RX7 114 yX7_isStep ∈ wsG := wsG_s25 _ (List.mem_of_getElem? (i := 18) rfl)
theorem wm_609 : Cond.instanceMethod yX7_isStep ∈ wsG := wsG_s25 _ (List.mem_of_getElem? (i := 19) rfl)
theorem wm_610 : Cond.code yX7_isStep cX7_isStep 2 (some .boolean) ∈ wsG := wsG_s25 _ (List.mem_of_getElem? (i := 20) rfl)
theorem wm_611 : Cond.methodLink RX7 118 yX7_isFile ∈ wsG := wsG_s25 _ (List.mem_of_getElem? (i := 21) rfl)
theorem wm_612 : Cond.static yX7_isFile ∈ wsG := wsG_s25 _ (List.mem_of_getElem? (i := 22) rfl)
theorem wm_613 : Cond.code yX7_isFile cX7_isFile 1 (some .boolean) ∈ wsG := wsG_s25 _ (List.mem_of_getElem? (i := 23) rfl)
theorem wm_614 : Cond.methodLink RL 46 yX7_output ∈ wsG := wsG_s25 _ (List.mem_of_getElem? (i := 24) rfl)
theorem wm_615 : Cond.instanceMethod yX7_output ∈ wsG := wsG_s26 _ (List.mem_of_getElem? (i := 0) rfl)
theorem wm_616 : Cond.selects RX7 yX7_output yX7_output ∈ wsG := wsG_s26 _ (List.mem_of_getElem? (i := 1) rfl)
theorem wm_617 : Cond.code yX7_output cX7_output 3 (some .boolean) ∈ wsG := wsG_s26 _ (List.mem_of_getElem? (i := 2) rfl)
theorem wm_618 : Cond.methodLink RL 51 yX7_drop ∈ wsG := wsG_s26 _ (List.mem_of_getElem? (i := 3) rfl)
theorem wm_619 : Cond.instanceMethod yX7_drop ∈ wsG := wsG_s26 _ (List.mem_of_getElem? (i := 4) rfl)
theorem wm_620 : Cond.selects RX7 yX7_drop yX7_drop ∈ wsG := wsG_s26 _ (List.mem_of_getElem? (i := 5) rfl)
theorem wm_621 : Cond.code yX7_drop cX7_drop 3 (some .boolean) ∈ wsG := wsG_s26 _ (List.mem_of_getElem? (i := 6) rfl)
theorem wm_622 : Cond.methodLink RL 55 yX7_source ∈ wsG := wsG_s26 _ (List.mem_of_getElem? (i := 7) rfl)
theorem wm_623 : Cond.instanceMethod yX7_source ∈ wsG := wsG_s26 _ (List.mem_of_getElem? (i := 8) rfl)
theorem wm_624 : Cond.selects RX7 yX7_source yX7_source ∈ wsG := wsG_s26 _ (List.mem_of_getElem? (i := 9) rfl)
theorem wm_625 : Cond.code yX7_source cX7_source 3 (some .boolean) ∈ wsG := wsG_s26 _ (List.mem_of_getElem? (i := 10) rfl)
theorem wm_626 : Cond.methodLink RL 59 yX7_spoil ∈ wsG := wsG_s26 _ (List.mem_of_getElem? (i := 11) rfl)
theorem wm_627 : Cond.instanceMethod yX7_spoil ∈ wsG := wsG_s26 _ (List.mem_of_getElem? (i := 12) rfl)
theorem wm_628 : Cond.selects RX7 yX7_spoil yX7_spoil ∈ wsG := wsG_s26 _ (List.mem_of_getElem? (i := 13) rfl)
theorem wm_629 : Cond.code yX7_spoil cX7_spoil 2 (some .boolean) ∈ wsG := wsG_s26 _ (List.mem_of_getElem? (i := 14) rfl)
theorem wm_630 : Cond.methodLink RL 87 yX7_reason ∈ wsG := wsG_s26 _ (List.mem_of_getElem? (i := 15) rfl)
theorem wm_631 : Cond.instanceMethod yX7_reason ∈ wsG := wsG_s26 _ (List.mem_of_getElem? (i := 16) rfl)
theorem wm_632 : Cond.selects RX7 yX7_reason yX7_reason ∈ wsG := wsG_s26 _ (List.mem_of_getElem? (i := 17) rfl)
theorem wm_633 : Cond.code yX7_reason cX7_reason 2 (some .int) ∈ wsG := wsG_s26 _ (List.mem_of_getElem? (i := 18) rfl)
theorem wm_634 : Cond.methodLink RX7 124 yX7_why ∈ wsG := wsG_s26 _ (List.mem_of_getElem? (i := 19) rfl)
theorem wm_635 : Cond.instanceMethod yX7_why ∈ wsG := wsG_s26 _ (List.mem_of_getElem? (i := 20) rfl)
theorem wm_636 : Cond.code yX7_why cX7_why 6 (some .int) ∈ wsG := wsG_s26 _ (List.mem_of_getElem? (i := 21) rfl)
theorem wm_637 : Cond.methodLink RX7 121 yX7_isOther ∈ wsG := wsG_s26 _ (List.mem_of_getElem? (i := 22) rfl)
theorem wm_638 : Cond.instanceMethod yX7_isOther ∈ wsG := wsG_s26 _ (List.mem_of_getElem? (i := 23) rfl)
theorem wm_639 : Cond.code yX7_isOther cX7_isOther 4 (some .boolean) ∈ wsG := wsG_s26 _ (List.mem_of_getElem? (i := 24) rfl)
theorem wm_640 : Cond.methodLink RL 65 yX7_build ∈ wsG := wsG_s27 _ (List.mem_of_getElem? (i := 0) rfl)
theorem wm_641 : Cond.instanceMethod yX7_build ∈ wsG := wsG_s27 _ (List.mem_of_getElem? (i := 1) rfl)
theorem wm_642 : Cond.selects RX7 yX7_build yX7_build ∈ wsG := wsG_s27 _ (List.mem_of_getElem? (i := 2) rfl)
theorem wm_643 : Cond.code yX7_build cX7_build 6 (some .int) ∈ wsG := wsG_s27 _ (List.mem_of_getElem? (i := 3) rfl)
theorem wm_644 : Cond.methodLink RX7 159 yX7_raise ∈ wsG := wsG_s27 _ (List.mem_of_getElem? (i := 4) rfl)
theorem wm_645 : Cond.instanceMethod yX7_raise ∈ wsG := wsG_s27 _ (List.mem_of_getElem? (i := 5) rfl)
theorem wm_646 : Cond.code yX7_raise cX7_raise 2 (some .int) ∈ wsG := wsG_s27 _ (List.mem_of_getElem? (i := 6) rfl)
theorem wm_647 : Cond.methodLink RX7 162 yX7_spread ∈ wsG := wsG_s27 _ (List.mem_of_getElem? (i := 7) rfl)
theorem wm_648 : Cond.instanceMethod yX7_spread ∈ wsG := wsG_s27 _ (List.mem_of_getElem? (i := 8) rfl)
theorem wm_649 : Cond.code yX7_spread cX7_spread 6 none ∈ wsG := wsG_s27 _ (List.mem_of_getElem? (i := 9) rfl)
theorem wm_650 : Cond.methodLink RX7 128 yX7_takes ∈ wsG := wsG_s27 _ (List.mem_of_getElem? (i := 10) rfl)
theorem wm_651 : Cond.instanceMethod yX7_takes ∈ wsG := wsG_s27 _ (List.mem_of_getElem? (i := 11) rfl)
theorem wm_652 : Cond.code yX7_takes cX7_takes 5 (some .boolean) ∈ wsG := wsG_s27 _ (List.mem_of_getElem? (i := 12) rfl)
theorem wm_653 : Cond.methodLink RX7 165 yX7_isRound ∈ wsG := wsG_s27 _ (List.mem_of_getElem? (i := 13) rfl)
theorem wm_654 : Cond.instanceMethod yX7_isRound ∈ wsG := wsG_s27 _ (List.mem_of_getElem? (i := 14) rfl)
theorem wm_655 : Cond.code yX7_isRound cX7_isRound 3 (some .boolean) ∈ wsG := wsG_s27 _ (List.mem_of_getElem? (i := 15) rfl)
theorem wm_656 : Cond.methodLink RX7 132 yX7_measure ∈ wsG := wsG_s27 _ (List.mem_of_getElem? (i := 16) rfl)
theorem wm_657 : Cond.instanceMethod yX7_measure ∈ wsG := wsG_s27 _ (List.mem_of_getElem? (i := 17) rfl)
theorem wm_658 : Cond.code yX7_measure cX7_measure 5 none ∈ wsG := wsG_s27 _ (List.mem_of_getElem? (i := 18) rfl)
theorem wm_659 : Cond.methodLink RX7 136 yX7_nearest ∈ wsG := wsG_s27 _ (List.mem_of_getElem? (i := 19) rfl)
theorem wm_660 : Cond.instanceMethod yX7_nearest ∈ wsG := wsG_s27 _ (List.mem_of_getElem? (i := 20) rfl)
theorem wm_661 : Cond.code yX7_nearest cX7_nearest 4 (some .int) ∈ wsG := wsG_s27 _ (List.mem_of_getElem? (i := 21) rfl)
theorem wm_662 : Cond.methodLink RX7 169 yX7_isLacking ∈ wsG := wsG_s27 _ (List.mem_of_getElem? (i := 22) rfl)
theorem wm_663 : Cond.instanceMethod yX7_isLacking ∈ wsG := wsG_s27 _ (List.mem_of_getElem? (i := 23) rfl)
theorem wm_664 : Cond.code yX7_isLacking cX7_isLacking 6 (some .boolean) ∈ wsG := wsG_s27 _ (List.mem_of_getElem? (i := 24) rfl)
theorem wm_665 : Cond.methodLink RX7 172 yX7_order ∈ wsG := wsG_s28 _ (List.mem_of_getElem? (i := 0) rfl)
theorem wm_666 : Cond.instanceMethod yX7_order ∈ wsG := wsG_s28 _ (List.mem_of_getElem? (i := 1) rfl)
theorem wm_667 : Cond.code yX7_order cX7_order 4 none ∈ wsG := wsG_s28 _ (List.mem_of_getElem? (i := 2) rfl)
theorem wm_668 : Cond.methodLink RX7 181 yX7_end ∈ wsG := wsG_s28 _ (List.mem_of_getElem? (i := 3) rfl)
theorem wm_669 : Cond.instanceMethod yX7_end ∈ wsG := wsG_s28 _ (List.mem_of_getElem? (i := 4) rfl)
theorem wm_670 : Cond.code yX7_end cX7_end 4 none ∈ wsG := wsG_s28 _ (List.mem_of_getElem? (i := 5) rfl)
theorem wm_671 : Cond.methodLink RX7 184 yX7_pass ∈ wsG := wsG_s28 _ (List.mem_of_getElem? (i := 6) rfl)
theorem wm_672 : Cond.instanceMethod yX7_pass ∈ wsG := wsG_s28 _ (List.mem_of_getElem? (i := 7) rfl)
theorem wm_673 : Cond.code yX7_pass cX7_pass 3 none ∈ wsG := wsG_s28 _ (List.mem_of_getElem? (i := 8) rfl)
theorem wm_674 : Cond.methodLink RX7 142 yX7_isReady ∈ wsG := wsG_s28 _ (List.mem_of_getElem? (i := 9) rfl)
theorem wm_675 : Cond.instanceMethod yX7_isReady ∈ wsG := wsG_s28 _ (List.mem_of_getElem? (i := 10) rfl)
theorem wm_676 : Cond.code yX7_isReady cX7_isReady 5 (some .boolean) ∈ wsG := wsG_s28 _ (List.mem_of_getElem? (i := 11) rfl)
theorem wm_677 : Cond.methodLink RX7 187 yX7_hire ∈ wsG := wsG_s28 _ (List.mem_of_getElem? (i := 12) rfl)
theorem wm_678 : Cond.instanceMethod yX7_hire ∈ wsG := wsG_s28 _ (List.mem_of_getElem? (i := 13) rfl)
theorem wm_679 : Cond.code yX7_hire cX7_hire 5 none ∈ wsG := wsG_s28 _ (List.mem_of_getElem? (i := 14) rfl)
theorem wm_680 : Cond.methodLink RX7 155 yX7_start ∈ wsG := wsG_s28 _ (List.mem_of_getElem? (i := 15) rfl)
theorem wm_681 : Cond.instanceMethod yX7_start ∈ wsG := wsG_s28 _ (List.mem_of_getElem? (i := 16) rfl)
theorem wm_682 : Cond.code yX7_start cX7_start 6 none ∈ wsG := wsG_s28 _ (List.mem_of_getElem? (i := 17) rfl)
theorem wm_683 : Cond.constant RX7 145 16777619 ∈ wsG := wsG_s28 _ (List.mem_of_getElem? (i := 18) rfl)
theorem wm_684 : Cond.methodLink RL 73 yX7_count ∈ wsG := wsG_s28 _ (List.mem_of_getElem? (i := 19) rfl)
theorem wm_685 : Cond.instanceMethod yX7_count ∈ wsG := wsG_s28 _ (List.mem_of_getElem? (i := 20) rfl)
theorem wm_686 : Cond.selects RX7 yX7_count yX7_count ∈ wsG := wsG_s28 _ (List.mem_of_getElem? (i := 21) rfl)
theorem wm_687 : Cond.code yX7_count cX7_count 4 (some .int) ∈ wsG := wsG_s28 _ (List.mem_of_getElem? (i := 22) rfl)
theorem wm_688 : Cond.methodLink RL 76 yX7_begun ∈ wsG := wsG_s28 _ (List.mem_of_getElem? (i := 23) rfl)
theorem wm_689 : Cond.instanceMethod yX7_begun ∈ wsG := wsG_s28 _ (List.mem_of_getElem? (i := 24) rfl)
theorem wm_690 : Cond.selects RX7 yX7_begun yX7_begun ∈ wsG := wsG_s29 _ (List.mem_of_getElem? (i := 0) rfl)
theorem wm_691 : Cond.code yX7_begun cX7_begun 3 (some .int) ∈ wsG := wsG_s29 _ (List.mem_of_getElem? (i := 1) rfl)
theorem wm_692 : Cond.methodLink RL 80 yX7_cycle ∈ wsG := wsG_s29 _ (List.mem_of_getElem? (i := 2) rfl)
theorem wm_693 : Cond.instanceMethod yX7_cycle ∈ wsG := wsG_s29 _ (List.mem_of_getElem? (i := 3) rfl)
theorem wm_694 : Cond.selects RX7 yX7_cycle yX7_cycle ∈ wsG := wsG_s29 _ (List.mem_of_getElem? (i := 4) rfl)
theorem wm_695 : Cond.code yX7_cycle cX7_cycle 2 (some .int) ∈ wsG := wsG_s29 _ (List.mem_of_getElem? (i := 5) rfl)
theorem wm_696 : Cond.methodLink RL 83 yX7_content ∈ wsG := wsG_s29 _ (List.mem_of_getElem? (i := 6) rfl)
theorem wm_697 : Cond.instanceMethod yX7_content ∈ wsG := wsG_s29 _ (List.mem_of_getElem? (i := 7) rfl)
theorem wm_698 : Cond.selects RX7 yX7_content yX7_content ∈ wsG := wsG_s29 _ (List.mem_of_getElem? (i := 8) rfl)
theorem wm_699 : Cond.code yX7_content cX7_content 2 (some .int) ∈ wsG := wsG_s29 _ (List.mem_of_getElem? (i := 9) rfl)
theorem wiX0 : ∀ w ∈ u_ws RX0 TX0 5, w ∈ wsG := by
  intro w hw
  obtain ⟨k, hk, rfl⟩ := List.mem_map.mp hw
  have hk : k < 5 := List.mem_range.mp hk
  match k, hk with
  | 0, _ => exact wm_129
  | 1, _ => exact wm_130
  | 2, _ => exact wm_131
  | 3, _ => exact wm_132
  | 4, _ => exact wm_133
  | k + 5, h => exact absurd h (by omega)
theorem wiX1 : ∀ w ∈ u_ws RX1 TX1 3, w ∈ wsG := by
  intro w hw
  obtain ⟨k, hk, rfl⟩ := List.mem_map.mp hw
  have hk : k < 3 := List.mem_range.mp hk
  match k, hk with
  | 0, _ => exact wm_65
  | 1, _ => exact wm_66
  | 2, _ => exact wm_67
  | k + 3, h => exact absurd h (by omega)
theorem wiX2 : ∀ w ∈ u_ws RX2 TX2 5, w ∈ wsG := by
  intro w hw
  obtain ⟨k, hk, rfl⟩ := List.mem_map.mp hw
  have hk : k < 5 := List.mem_range.mp hk
  match k, hk with
  | 0, _ => exact wm_113
  | 1, _ => exact wm_114
  | 2, _ => exact wm_115
  | 3, _ => exact wm_116
  | 4, _ => exact wm_117
  | k + 5, h => exact absurd h (by omega)
theorem wiX3 : ∀ w ∈ u_ws RX3 TX3 5, w ∈ wsG := by
  intro w hw
  obtain ⟨k, hk, rfl⟩ := List.mem_map.mp hw
  have hk : k < 5 := List.mem_range.mp hk
  match k, hk with
  | 0, _ => exact wm_144
  | 1, _ => exact wm_145
  | 2, _ => exact wm_146
  | 3, _ => exact wm_147
  | 4, _ => exact wm_148
  | k + 5, h => exact absurd h (by omega)
theorem wiX4 : ∀ w ∈ u_ws RX4 TX4 3, w ∈ wsG := by
  intro w hw
  obtain ⟨k, hk, rfl⟩ := List.mem_map.mp hw
  have hk : k < 3 := List.mem_range.mp hk
  match k, hk with
  | 0, _ => exact wm_157
  | 1, _ => exact wm_158
  | 2, _ => exact wm_159
  | k + 3, h => exact absurd h (by omega)
theorem wiX5 : ∀ w ∈ u_ws RX5 TX5 14, w ∈ wsG := by
  intro w hw
  obtain ⟨k, hk, rfl⟩ := List.mem_map.mp hw
  have hk : k < 14 := List.mem_range.mp hk
  match k, hk with
  | 0, _ => exact wm_89
  | 1, _ => exact wm_90
  | 2, _ => exact wm_91
  | 3, _ => exact wm_92
  | 4, _ => exact wm_93
  | 5, _ => exact wm_94
  | 6, _ => exact wm_95
  | 7, _ => exact wm_96
  | 8, _ => exact wm_97
  | 9, _ => exact wm_98
  | 10, _ => exact wm_99
  | 11, _ => exact wm_100
  | 12, _ => exact wm_101
  | 13, _ => exact wm_102
  | k + 14, h => exact absurd h (by omega)
theorem wiX6 : ∀ w ∈ u_ws RX6 TX6 6, w ∈ wsG := by
  intro w hw
  obtain ⟨k, hk, rfl⟩ := List.mem_map.mp hw
  have hk : k < 6 := List.mem_range.mp hk
  match k, hk with
  | 0, _ => exact wm_166
  | 1, _ => exact wm_167
  | 2, _ => exact wm_168
  | 3, _ => exact wm_169
  | 4, _ => exact wm_170
  | 5, _ => exact wm_171
  | k + 6, h => exact absurd h (by omega)
theorem wiX7 : ∀ w ∈ u_ws RX7 TX7 40, w ∈ wsG := by
  intro w hw
  obtain ⟨k, hk, rfl⟩ := List.mem_map.mp hw
  have hk : k < 40 := List.mem_range.mp hk
  match k, hk with
  | 0, _ => exact wm_556
  | 1, _ => exact wm_557
  | 2, _ => exact wm_558
  | 3, _ => exact wm_559
  | 4, _ => exact wm_560
  | 5, _ => exact wm_561
  | 6, _ => exact wm_562
  | 7, _ => exact wm_563
  | 8, _ => exact wm_564
  | 9, _ => exact wm_565
  | 10, _ => exact wm_566
  | 11, _ => exact wm_567
  | 12, _ => exact wm_568
  | 13, _ => exact wm_569
  | 14, _ => exact wm_570
  | 15, _ => exact wm_571
  | 16, _ => exact wm_572
  | 17, _ => exact wm_573
  | 18, _ => exact wm_574
  | 19, _ => exact wm_575
  | 20, _ => exact wm_576
  | 21, _ => exact wm_577
  | 22, _ => exact wm_578
  | 23, _ => exact wm_579
  | 24, _ => exact wm_580
  | 25, _ => exact wm_581
  | 26, _ => exact wm_582
  | 27, _ => exact wm_583
  | 28, _ => exact wm_584
  | 29, _ => exact wm_585
  | 30, _ => exact wm_586
  | 31, _ => exact wm_587
  | 32, _ => exact wm_588
  | 33, _ => exact wm_589
  | 34, _ => exact wm_590
  | 35, _ => exact wm_591
  | 36, _ => exact wm_592
  | 37, _ => exact wm_593
  | 38, _ => exact wm_594
  | 39, _ => exact wm_595
  | k + 40, h => exact absurd h (by omega)
end
section
/-! ABSTRACT HEAPS: a size, and at some addresses what lies there: an array (its type's place in tys, length, contents) or an object (its class's place in vwCl, its fields). Every method of the system is a function J_.. over them; the rows rp_.. say that the machine does what the function does. -/
abbrev HE : Type := (Nat × vp_A) ⊕ (Nat × List Value)
abbrev Hp : Type := Nat × (Nat → Option HE)
def hU (M : Nat → Option HE) (a : Nat) (e : HE) : Nat → Option HE := fun q => if q = a then some e else M q
def gO (h : Hp) (ci a : Nat) : Option (List Value) := match h.2 a with
  | some (.inr (c, fs)) => if c = ci then some fs else none
  | _ => none
def gA (h : Hp) (t a : Nat) : Option vp_A := match h.2 a with
  | some (.inl (c, x)) => if c = t then some x else none
  | _ => none
def vI (v : Option Value) : Option Int32 := match v with
  | some (.int x) => some x
  | _ => none
def vJ (v : Option Value) : Option Int64 := match v with
  | some (.long x) => some x
  | _ => none
def vR (v : Option Value) : Option Nat := match v with
  | some (.ref x) => some x
  | _ => none
def fI (h : Hp) (ci a k : Nat) : Option Int32 := (gO h ci a).bind fun fs => vI fs[k]?
def fJ (h : Hp) (ci a k : Nat) : Option Int64 := (gO h ci a).bind fun fs => vJ fs[k]?
def fR (h : Hp) (ci a k : Nat) : Option Nat := (gO h ci a).bind fun fs => vR fs[k]?
def isO (h : Hp) (ci a : Nat) : Option Unit := (gO h ci a).bind fun _ => some ()
def sF (h : Hp) (ci a k : Nat) (v : Value) : Option Hp := (gO h ci a).bind fun fs => if k < fs.length then some (h.1, hU h.2 a (.inr (ci, fs.set k v))) else none
def sZ (h : Hp) (ci a k : Nat) (x : Int32) : Option Hp := if x = 0 ∨ x = 1 then sF h ci a k (.int x) else none
def xI (x : vp_A) : Option (Nat × (Nat → Int32)) := match x with
  | (n, .inl f) => some (n, f)
  | _ => none
def xJ (x : vp_A) : Option (Nat × (Nat → Int64)) := match x with
  | (n, .inr (.inl f)) => some (n, f)
  | _ => none
def xR (x : vp_A) : Option (Nat × (Nat → Option Nat)) := match x with
  | (n, .inr (.inr (.inr (.inr f)))) => some (n, f)
  | _ => none
def iX (i : Int32) (n : Nat) : Option Nat := if i < 0 ∨ n ≤ i.toNatClampNeg then none else some i.toNatClampNeg
def aI (h : Hp) (t a : Nat) (i : Int32) : Option Int32 := ((gA h t a).bind xI).bind fun x => (iX i x.1).bind fun k => some (x.2 k)
def aJ (h : Hp) (t a : Nat) (i : Int32) : Option Int64 := ((gA h t a).bind xJ).bind fun x => (iX i x.1).bind fun k => some (x.2 k)
def aR (h : Hp) (t a : Nat) (i : Int32) : Option Nat := ((gA h t a).bind xR).bind fun x => (iX i x.1).bind fun k => x.2 k
def sI (h : Hp) (t a : Nat) (i x : Int32) : Option Hp := ((gA h t a).bind xI).bind fun y => (iX i y.1).bind fun k => some (h.1, hU h.2 a (.inl (t, y.1, .inl (upd y.2 k x))))
def sB (h : Hp) (t a : Nat) (i x : Int32) : Option Hp := ((gA h t a).bind xI).bind fun y => (iX i y.1).bind fun k => some (h.1, hU h.2 a (.inl (t, y.1, .inl (upd y.2 k (vp_nar .boolean x)))))
def sJ (h : Hp) (t a : Nat) (i : Int32) (x : Int64) : Option Hp := ((gA h t a).bind xJ).bind fun y => (iX i y.1).bind fun k => some (h.1, hU h.2 a (.inl (t, y.1, .inr (.inl (vp_updL y.2 k x)))))
def sR (h : Hp) (t ci a : Nat) (i : Int32) (v : Nat) : Option Hp := ((gA h t a).bind xR).bind fun y => (iX i y.1).bind fun k => (gO h ci v).bind fun _ => some (h.1, hU h.2 a (.inl (t, y.1, .inr (.inr (.inr (.inr (va_up y.2 k (some v))))))))
def nO_ (h : Hp) (ci : Nat) (fs : List Value) : Option (Nat × Hp) := some (h.1, (h.1 + 1, hU h.2 h.1 (.inr (ci, fs))))
def nI_ (h : Hp) (t : Nat) (n : Int32) : Option (Nat × Hp) := if n < 0 ∨ 100000 < n.toNatClampNeg then none else some (h.1, (h.1 + 1, hU h.2 h.1 (.inl (t, n.toNatClampNeg, .inl (fun _ => 0)))))
def nJ_ (h : Hp) (t : Nat) (n : Int32) : Option (Nat × Hp) := if n < 0 ∨ 100000 < n.toNatClampNeg then none else some (h.1, (h.1 + 1, hU h.2 h.1 (.inl (t, n.toNatClampNeg, .inr (.inl (fun _ => 0))))))
def nR_ (h : Hp) (t : Nat) (n : Int32) : Option (Nat × Hp) := if n < 0 ∨ 100000 < n.toNatClampNeg then none else some (h.1, (h.1 + 1, hU h.2 h.1 (.inl (t, n.toNatClampNeg, .inr (.inr (.inr (.inr (fun _ => none))))))))
def zR (v : Int32) (h : Hp) : Option (Int32 × Hp) := if v = 0 ∨ v = 1 then some (v, h) else none
def m_max (a b : Int32) : Int32 := if a < b then b else a
def m_min (a b : Int32) : Int32 := if b < a then b else a
theorem rp_b {α β : Type} {o : Option α} {f : α → Option β} {r : β} (h : o.bind f = some r) : ∃ v, o = some v ∧ f v = some r := by
  cases o with
  | none => cases h
  | some v => exact ⟨v, rfl, h⟩
theorem gO_s {h : Hp} {ci a : Nat} {fs : List Value} (g : gO h ci a = some fs) : h.2 a = some (.inr (ci, fs)) := by
  unfold gO at g
  split at g
  · rename_i c fs' hq
    split at g
    · rename_i hc
      cases g
      rw [hq, hc]
    · cases g
  · cases g
theorem gA_s {h : Hp} {t a : Nat} {x : vp_A} (g : gA h t a = some x) : h.2 a = some (.inl (t, x)) := by
  unfold gA at g
  split at g
  · rename_i c fs' hq
    split at g
    · rename_i hc
      cases g
      rw [hq, hc]
    · cases g
  · cases g
theorem vI_s {v : Option Value} {x : Int32} (g : vI v = some x) : v = some (.int x) := by
  unfold vI at g
  split at g
  · cases g; rfl
  · cases g
theorem vJ_s {v : Option Value} {x : Int64} (g : vJ v = some x) : v = some (.long x) := by
  unfold vJ at g
  split at g
  · cases g; rfl
  · cases g
theorem vR_s {v : Option Value} {x : Nat} (g : vR v = some x) : v = some (.ref x) := by
  unfold vR at g
  split at g
  · cases g; rfl
  · cases g
theorem xI_s {x : vp_A} {n : Nat} {f : Nat → Int32} (g : xI x = some (n, f)) : x = (n, .inl f) := by
  unfold xI at g
  split at g
  · cases g; rfl
  · cases g
theorem xJ_s {x : vp_A} {n : Nat} {f : Nat → Int64} (g : xJ x = some (n, f)) : x = (n, .inr (.inl f)) := by
  unfold xJ at g
  split at g
  · cases g; rfl
  · cases g
theorem xR_s {x : vp_A} {n : Nat} {f : Nat → Option Nat} (g : xR x = some (n, f)) : x = (n, .inr (.inr (.inr (.inr f)))) := by
  unfold xR at g
  split at g
  · cases g; rfl
  · cases g
theorem iX_s {i : Int32} {n k : Nat} (g : iX i n = some k) : vp_in i n ∧ k = i.toNatClampNeg := by
  unfold iX at g
  split at g
  · cases g
  · rename_i hq
    cases g
    exact ⟨hq, rfl⟩
def hC (tys : List (ClassId × FieldType)) (e : HE) : va_E := match e with
  | .inl (t, x) => .inl ((tys.getD t (0, .int)).1, x)
  | .inr o => .inr o
def Rp (D : va_G) (cl : List vw_C) (tys : List (ClassId × FieldType)) (A : Nat → Prop) (h : Hp) (H : Heap) : Prop := H.size = h.1 ∧ ∀ (a : Nat) (e : HE), h.2 a = some e → A a ∧ va_at D cl (a, hC tys e) H
def In (D : va_G) (cl : List vw_C) (tys : List (ClassId × FieldType)) (A : Nat → Prop) (s : State) (h : Hp) (H : Heap) (locs : List Loc) : Prop := Rp D cl tys A h H ∧ va_S A s.heap H locs ∧ ∀ q : Nat, s.heap.size ≤ q → A q
theorem rp_upd {D : va_G} {cl : List vw_C} {tys : List (ClassId × FieldType)} {A : Nat → Prop} {s : State} {h : Hp} {H H1 : Heap} {locs : List Loc} {a k : Nat} {e : HE} (I : In D cl tys A s h H locs) (ha : A a) (he : va_at D cl (a, hC tys e) H1) (hz : H1.size = H.size) (oq : ∀ q : Nat, q ≠ a → H1[q]? = H[q]?) : In D cl tys A s (h.1, hU h.2 a e) H1 (locs ++ [⟨a, k⟩]) := by
  obtain ⟨⟨R1, R2⟩, S, hA⟩ := I
  refine ⟨⟨by rw [hz]; exact R1, fun b e' hb => ?_⟩, S.put hz oq ha, hA⟩
  dsimp only [hU] at hb
  split at hb
  · rename_i hq
    cases hb
    subst hq
    exact ⟨ha, he⟩
  · rename_i hq
    obtain ⟨x, y⟩ := R2 b e' hb
    exact ⟨x, y.kept (oq b hq)⟩
theorem rp_push {D : va_G} {cl : List vw_C} {tys : List (ClassId × FieldType)} {A : Nat → Prop} {s : State} {h : Hp} {H H1 : Heap} {locs : List Loc} {e : HE} (I : In D cl tys A s h H locs) (he : va_at D cl (h.1, hC tys e) H1) (hz : H1.size = h.1 + 1) (oq : ∀ q : Nat, q < h.1 → H1[q]? = H[q]?) : In D cl tys A s (h.1 + 1, hU h.2 h.1 e) H1 locs := by
  obtain ⟨⟨R1, R2⟩, S, hA⟩ := I
  refine ⟨⟨hz, fun b e' hb => ?_⟩, ⟨?_, fun q h1 h2 => ?_, S.2.2⟩, hA⟩
  · dsimp only [hU] at hb
    split at hb
    · rename_i hq
      cases hb
      subst hq
      exact ⟨hA _ (by rw [← R1]; exact S.1), he⟩
    · obtain ⟨x, y⟩ := R2 b e' hb
      have hl := y.lt
      dsimp only at hl
      exact ⟨x, y.kept (oq b (by rw [← R1]; exact hl))⟩
  · have := S.1
    omega
  · rw [oq q (by have := S.1; omega)]
    exact S.2.1 q h1 h2
section RP
variable {p : Program} {l : Launch} {e : Env} {R : Room} {s : State} {m : MethodId} {args : Array Value} {below : List Frame} {meth : Method} {c : Code} {H : Heap} {locs : List Loc} {cells slots : Nat} {Q : State → Prop}
variable {cc : ByteArray} {pc nL : Nat} {ls : Array Slot} {rest : List Value} {D : va_G} {cl : List vw_C} {A : Nat → Prop} {a : Nat} {tys : List (ClassId × FieldType)} {h : Hp} {Ts : List Cond} {own : String}
theorem rp_one {q : Nat × va_E} (h : va_at D cl q H) : va_P D cl [q] H := by
  intro k q' hk
  cases k with
  | zero => cases hk; exact h
  | succ k => simp at hk
theorem rp_obj {ci : Nat} {fs : List Value} (I : In D cl tys A s h H locs) (g : gO h ci a = some fs) : A a ∧ va_at D cl (a, .inr (ci, fs)) H := I.1.2 a _ (gO_s g)
/-- what a method's proof has at hand all the time -/
def Cx (p : Program) (s : State) (m : MethodId) (args : Array Value) (meth : Method) (c : Code) (D : va_G) (cl : List vw_C) (tys : List (ClassId × FieldType)) (cc : ByteArray) (nL : Nat) (own : String) (Ts : List Cond) : Prop := CallFix p m c cc nL s args Ts own ∧ va_K D cl tys s ∧ meth.locks = false ∧ tys.map (fun q => q.2) = tyS
theorem rp_get {C : String} {T : u_T} {N ci index k : Nat} {fs : List Value} {v : Value} (X : Cx p s m args meth c D cl tys cc nL own Ts) (I : In D cl tys A s h H locs) (g : gO h ci a = some fs) (hv : fs[k]? = some v) (hc : cl[ci]? = some (C, T, N)) (hin : ∀ w ∈ u_ws C T N, w ∈ Ts) (hk : k < N) (hl : Cond.fieldLink own index (T k).1 (T k).2.1 (T k).2.2.1 ∈ Ts) (hdg : decode cc pc = .ok (.getfield index, 3))
    (kk : W p l e R s m args below meth c H locs cells slots Q (F0 m (pc + 3) ls (v :: rest))) : W p l e R s m args below meth c H locs cells slots Q (F0 m pc ls (.ref a :: rest)) := by
  obtain ⟨⟨hx, hb, hml, ho, hts⟩, hK, -, hT⟩ := X
  exact va_get (D := D) hx hb hts hin ho hK (rp_one (rp_obj I g).2) 0 rfl hc k hk (hts _ hl) (fun _ h9 => h9) hv hdg kk
theorem rp_getN {C host : String} {T : u_T} {N ci index k : Nat} {fs : List Value} {v : Value} (X : Cx p s m args meth c D cl tys cc nL own Ts) (I : In D cl tys A s h H locs) (g : gO h ci a = some fs) (hv : fs[k]? = some v) (hc : cl[ci]? = some (C, T, N)) (hin : ∀ w ∈ u_ws C T N, w ∈ Ts) (hk : k < N) (hl : va_Nw (.fieldLinkNest own index (T k).1 (T k).2.1 (T k).2.2.1 host) s) (hdg : decode cc pc = .ok (.getfield index, 3))
    (kk : W p l e R s m args below meth c H locs cells slots Q (F0 m (pc + 3) ls (v :: rest))) : W p l e R s m args below meth c H locs cells slots Q (F0 m pc ls (.ref a :: rest)) := by
  obtain ⟨⟨hx, hb, hml, ho, hts⟩, hK, -, hT⟩ := X
  exact va_getN (D := D) hx hb hts hin ho hK (rp_one (rp_obj I g).2) 0 rfl hc k hk (va_Nw.use rfl hl) (fun _ h9 => h9) hv hdg kk
theorem fI_s {ci k : Nat} {v : Int32} (g : fI h ci a k = some v) : ∃ fs, gO h ci a = some fs ∧ fs[k]? = some (.int v) := by
  obtain ⟨fs, g1, g2⟩ := rp_b g
  exact ⟨fs, g1, vI_s g2⟩
theorem fJ_s {ci k : Nat} {v : Int64} (g : fJ h ci a k = some v) : ∃ fs, gO h ci a = some fs ∧ fs[k]? = some (.long v) := by
  obtain ⟨fs, g1, g2⟩ := rp_b g
  exact ⟨fs, g1, vJ_s g2⟩
theorem fR_s {ci k : Nat} {v : Nat} (g : fR h ci a k = some v) : ∃ fs, gO h ci a = some fs ∧ fs[k]? = some (.ref v) := by
  obtain ⟨fs, g1, g2⟩ := rp_b g
  exact ⟨fs, g1, vR_s g2⟩
theorem isO_s {ci : Nat} {v : Unit} (g : isO h ci a = some v) : ∃ fs, gO h ci a = some fs := by
  obtain ⟨fs, g1, g2⟩ := rp_b g
  exact ⟨fs, g1⟩
theorem sF_s {ci k : Nat} {v : Value} {h' : Hp} (g : sF h ci a k v = some h') : ∃ fs, gO h ci a = some fs ∧ k < fs.length ∧ h' = (h.1, hU h.2 a (.inr (ci, fs.set k v))) := by
  obtain ⟨fs, g1, g2⟩ := rp_b g
  split at g2
  · rename_i hq
    cases g2
    exact ⟨fs, g1, hq, rfl⟩
  · cases g2
theorem rp_fz {x : Int32} (h : x = 0 ∨ x = 1) : fits .boolean (.int x) = true := by
  rcases h with rfl | rfl <;> rfl
theorem sZ_s {ci k : Nat} {x : Int32} {h' : Hp} (g : sZ h ci a k x = some h') : (x = 0 ∨ x = 1) ∧ sF h ci a k (.int x) = some h' := by
  unfold sZ at g
  split at g
  · rename_i hq
    exact ⟨hq, g⟩
  · cases g
/-- a field is written: what the machine does, as the abstract heap has it -/
theorem rp_wr {C : String} {T : u_T} {N ci k : Nat} {fs : List Value} {v : Value} (X : Cx p s m args meth c D cl tys cc nL own Ts) (I : In D cl tys A s h H locs) (g : gO h ci a = some fs) (hlen : k < fs.length) (hc : cl[ci]? = some (C, T, N)) (hin : ∀ w ∈ u_ws C T N, w ∈ Ts) (ty0 : Nat → FieldType) (hty : ∀ k, k < N → parseFieldDescriptor (T k).2.2.1 = some (ty0 k)) (hnm : ∀ a, a < N → ∀ b, b < N → a ≠ b → (T a).2.1 ≠ (T b).2.1) (hk : k < N) :
    ∃ (cell : Cell) (i : Nat), H[a]? = some cell ∧ cell.cls = D.1 ci ∧ cell.vm = .none ∧ D.2 ci k = i ∧ i < cell.slots.size ∧ ∀ H1 : Heap, H1[a]? = some (cell.setSlot i v) → H1.size = H.size → (∀ q : Nat, q ≠ a → H1[q]? = H[q]?) → In D cl tys A s (h.1, hU h.2 a (.inr (ci, fs.set k v))) H1 (locs ++ [⟨a, i⟩]) := by
  obtain ⟨⟨hx, hb, hml, ho, hts⟩, hK, -, hT⟩ := X
  have hap := va_apart (own := own) hts hin ty0 hty hnm hK hc
  obtain ⟨hAa, r, h1, cell, q1, q2, q3, q4⟩ := rp_obj I g
  have hr : r = (C, T, N) := Option.some.inj (h1.symm.trans hc)
  subst hr
  refine ⟨cell, _, q1, q2, q3, rfl, k2_hasslot (q4 k hk), fun H1 e1 e2 e3 => rp_upd I hAa ⟨_, hc, t_OB.to (V := updV (vp_V fs) k v) ⟨_, e1, q2, q3, t_set q4 hap hk v⟩ (fun j _ => vp_updV_set hlen v j)⟩ e2 e3⟩
theorem rp_put {C : String} {T : u_T} {N ci index k : Nat} {v : Value} {h' : Hp} {ty : FieldType} (X : Cx p s m args meth c D cl tys cc nL own Ts) (I : In D cl tys A s h H locs) (g : sF h ci a k v = some h') (hc : cl[ci]? = some (C, T, N)) (hin : ∀ w ∈ u_ws C T N, w ∈ Ts) (ty0 : Nat → FieldType) (hty : ∀ k, k < N → parseFieldDescriptor (T k).2.2.1 = some (ty0 k)) (hnm : ∀ a, a < N → ∀ b, b < N → a ≠ b → (T a).2.1 ≠ (T b).2.1) (hk : k < N) (hl : Cond.fieldLink own index (T k).1 (T k).2.1 (T k).2.2.1 ∈ Ts) (hfin : (T k).2.2.2 = false) (hd : parseFieldDescriptor (T k).2.2.1 = some ty) (hn : narrow ty v = v) (hfit : fits ty v = true) (hdg : decode cc pc = .ok (.putfield index, 3))
    (kk : ∀ (H1 : Heap) (locs1 : List Loc), In D cl tys A s h' H1 locs1 → W p l e R s m args below meth c H1 locs1 cells slots Q (F0 m (pc + 3) ls rest)) : W p l e R s m args below meth c H locs cells slots Q (F0 m pc ls (v :: .ref a :: rest)) := by
  obtain ⟨fs, g1, hlen, rfl⟩ := sF_s g
  obtain ⟨cell, i, q1, q2, q3, hi1, hlt, hup⟩ := rp_wr (v := v) X I g1 hlen hc hin ty0 hty hnm hk
  obtain ⟨⟨hx, hb, hml, ho, hts⟩, hK, -, hT⟩ := X
  obtain ⟨hS, hfc, kC, hkC, hkind⟩ := hK.1 ci _ hc
  obtain ⟨cf, kf, fi, f, hi, hsl⟩ := hS k hk
  have hlay := hts _ (hin _ (u_in_lay hk))
  unfold u_lay at hlay
  rw [if_neg (by rw [hfin]; decide)] at hlay
  have hst := (u_facts hfc hkC (u_lays hts hin hk) hi).1
  have h6 := u_store hfc hkC hkind hlay hi hd hn hfit
  have hsl' : f.slot = i := hsl.trans hi1
  refine W.putK hx hb (f := f) ⟨ho, hts _ hl, ⟨_, _, _, hi⟩, hst⟩ (by rw [q2]; exact h6) q1 q3 (by rw [hsl']; exact hlt) rfl rfl hdg fun H' e1 e2 e3 => ?_
  rw [hsl'] at e1 ⊢
  exact kk H' _ (hup H' e1 e2 e3)
theorem rp_putF {C : String} {T : u_T} {N ci index k : Nat} {v : Value} {h' : Hp} {ty : FieldType} (X : Cx p s m args meth c D cl tys cc nL own Ts) (I : In D cl tys A s h H locs) (g : sF h ci a k v = some h') (hc : cl[ci]? = some (C, T, N)) (hin : ∀ w ∈ u_ws C T N, w ∈ Ts) (ty0 : Nat → FieldType) (hty : ∀ k, k < N → parseFieldDescriptor (T k).2.2.1 = some (ty0 k)) (hnm : ∀ a, a < N → ∀ b, b < N → a ≠ b → (T a).2.1 ≠ (T b).2.1) (hk : k < N) (hl : Cond.fieldLink own index (T k).1 (T k).2.1 (T k).2.2.1 ∈ Ts) (hfin : (T k).2.2.2 = true) (hin2 : meth.name = "<init>") (hdecl : (T k).1 = own) (hd : parseFieldDescriptor (T k).2.2.1 = some ty) (hn : narrow ty v = v) (hfit : fits ty v = true) (hdg : decode cc pc = .ok (.putfield index, 3))
    (kk : ∀ (H1 : Heap) (locs1 : List Loc), In D cl tys A s h' H1 locs1 → W p l e R s m args below meth c H1 locs1 cells slots Q (F0 m (pc + 3) ls rest)) : W p l e R s m args below meth c H locs cells slots Q (F0 m pc ls (v :: .ref a :: rest)) := by
  obtain ⟨fs, g1, hlen, rfl⟩ := sF_s g
  obtain ⟨cell, i, q1, q2, q3, hi1, hlt, hup⟩ := rp_wr (v := v) X I g1 hlen hc hin ty0 hty hnm hk
  obtain ⟨⟨hx, hb, hml, ho, hts⟩, hK, -, hT⟩ := X
  obtain ⟨hS, hfc, kC, hkC, hkind⟩ := hK.1 ci _ hc
  obtain ⟨cf, kf, fi, f, hi, hsl⟩ := hS k hk
  have hlay := hts _ (hin _ (u_in_lay hk))
  unfold u_lay at hlay
  rw [if_pos hfin] at hlay
  have hst := (u_facts hfc hkC (u_lays hts hin hk) hi).1
  have hcf : m.cls = cf := by
    obtain ⟨_, _, c', _, _, _, -, -, hf', -, -, -, hown2, -⟩ := Cond.laysFinal_spec hlay
    have e1 : c' = cf := by have := hi.symm.trans hf'; simp at this; exact this.1.symm
    rw [hdecl] at hown2
    rw [← e1]; exact Option.some.inj (ho.symm.trans hown2)
  have h6 := u_fits hfc hkC hkind (Or.inr hlay) hi hd hn hfit
  have hsl' : f.slot = i := hsl.trans hi1
  refine W.putFinK hx hb ho (hts _ hl) hi hst hcf hin2 (by rw [q2]; exact h6) q1 q3 (by rw [hsl']; exact hlt) rfl rfl hdg fun H' e1 e2 e3 => ?_
  rw [hsl'] at e1 ⊢
  exact kk H' _ (hup H' e1 e2 e3)
theorem rp_arr {t : Nat} {x : vp_A} (I : In D cl tys A s h H locs) (g : gA h t a = some x) : A a ∧ H[a]? = some (vp_cell (tys.getD t (0, .int)).1 x) := I.1.2 a _ (gA_s g)
theorem rp_ty {t : Nat} {ty : FieldType} (hK : va_K D cl tys s) (hT : tys.map (fun q => q.2) = tyS) (ht : tyS[t]? = some ty) : ArrOfT s (tys.getD t (0, .int)).1 ty ∧ va_RA s (tys.getD t (0, .int)).1 ty := by
  rw [← hT, List.getElem?_map] at ht
  cases hq : tys[t]? with
  | none => rw [hq] at ht; cases ht
  | some q =>
    rw [hq] at ht
    cases ht
    have e : tys.getD t (0, .int) = q := by rw [List.getD_eq_getElem?_getD, hq]; rfl
    rw [e]
    exact hK.2 t q hq
theorem aI_s {t : Nat} {i v : Int32} (g : aI h t a i = some v) : ∃ n f, gA h t a = some (n, .inl f) ∧ vp_in i n ∧ v = f i.toNatClampNeg := by
  obtain ⟨⟨n, f⟩, g1, g2⟩ := rp_b g
  obtain ⟨x, g3, g4⟩ := rp_b g1
  obtain ⟨k, g5, g6⟩ := rp_b g2
  obtain ⟨g7, g8⟩ := iX_s g5
  have := xI_s g4
  subst this
  subst g8
  cases g6
  exact ⟨n, f, g3, g7, rfl⟩
theorem aJ_s {t : Nat} {i : Int32} {v : Int64} (g : aJ h t a i = some v) : ∃ n f, gA h t a = some (n, .inr (.inl f)) ∧ vp_in i n ∧ v = f i.toNatClampNeg := by
  obtain ⟨⟨n, f⟩, g1, g2⟩ := rp_b g
  obtain ⟨x, g3, g4⟩ := rp_b g1
  obtain ⟨k, g5, g6⟩ := rp_b g2
  obtain ⟨g7, g8⟩ := iX_s g5
  have := xJ_s g4
  subst this
  subst g8
  cases g6
  exact ⟨n, f, g3, g7, rfl⟩
theorem aR_s {t : Nat} {i : Int32} {v : Nat} (g : aR h t a i = some v) : ∃ n f, gA h t a = some (n, .inr (.inr (.inr (.inr f)))) ∧ vp_in i n ∧ f i.toNatClampNeg = some v := by
  obtain ⟨⟨n, f⟩, g1, g2⟩ := rp_b g
  obtain ⟨x, g3, g4⟩ := rp_b g1
  obtain ⟨k, g5, g6⟩ := rp_b g2
  obtain ⟨g7, g8⟩ := iX_s g5
  have := xR_s g4
  subst this
  subst g8
  exact ⟨n, f, g3, g7, g6⟩
theorem rp_in {i : Int32} {n : Nat} {cA : ClassId} {f : Nat → Value} (hin : vp_in i n) : ¬ (i < 0 ∨ (arrV cA n f).slots.size ≤ i.toNatClampNeg) := by rw [arrV_size]; exact hin
theorem rp_rd {i : Int32} {n : Nat} {cA : ClassId} {f : Nat → Value} (hin : vp_in i n) : (arrV cA n f).slots[i.toNatClampNeg]? = some (f i.toNatClampNeg) := by
  have hlt : i.toNatClampNeg < n := Nat.not_le.mp fun q => hin (Or.inr q)
  rw [arrV_read _ _ hlt]
theorem rp_iald {t : Nat} {i v : Int32} (X : Cx p s m args meth c D cl tys cc nL own Ts) (I : In D cl tys A s h H locs) (g : aI h t a i = some v) (ht : tyS[t]? = some .int) (hdg : decode cc pc = .ok (.iaload, 1))
    (kk : W p l e R s m args below meth c H locs cells slots Q (F0 m (pc + 1) ls (.int v :: rest))) : W p l e R s m args below meth c H locs cells slots Q (F0 m pc ls (.int i :: .ref a :: rest)) := by
  obtain ⟨n, f, g1, g2, rfl⟩ := aI_s g
  obtain ⟨⟨hx, hb, hml, ho, hts⟩, hK, -, hT⟩ := X
  exact W.iald (v := .int (f i.toNatClampNeg)) hx hb (rp_arr I g1).2 ((rp_ty hK hT ht).1 n (fun j => .int (f j))) (fun q => by cases q) (rp_in g2) (rp_rd (f := fun j => .int (f j)) g2) rfl rfl hdg kk
theorem rp_zald {t : Nat} {i v : Int32} (X : Cx p s m args meth c D cl tys cc nL own Ts) (I : In D cl tys A s h H locs) (g : aI h t a i = some v) (ht : tyS[t]? = some .boolean) (hdg : decode cc pc = .ok (.baload, 1))
    (kk : W p l e R s m args below meth c H locs cells slots Q (F0 m (pc + 1) ls (.int v :: rest))) : W p l e R s m args below meth c H locs cells slots Q (F0 m pc ls (.int i :: .ref a :: rest)) := by
  obtain ⟨n, f, g1, g2, rfl⟩ := aI_s g
  obtain ⟨⟨hx, hb, hml, ho, hts⟩, hK, -, hT⟩ := X
  exact W.zald (v := .int (f i.toNatClampNeg)) hx hb (rp_arr I g1).2 ((rp_ty hK hT ht).1 n (fun j => .int (f j))) (fun q => by cases q) (rp_in g2) (rp_rd (f := fun j => .int (f j)) g2) rfl rfl hdg kk
theorem rp_lald {t : Nat} {i : Int32} {v : Int64} (X : Cx p s m args meth c D cl tys cc nL own Ts) (I : In D cl tys A s h H locs) (g : aJ h t a i = some v) (ht : tyS[t]? = some .long) (hdg : decode cc pc = .ok (.laload, 1))
    (kk : W p l e R s m args below meth c H locs cells slots Q (F0 m (pc + 1) ls (.long v :: rest))) : W p l e R s m args below meth c H locs cells slots Q (F0 m pc ls (.int i :: .ref a :: rest)) := by
  obtain ⟨n, f, g1, g2, rfl⟩ := aJ_s g
  obtain ⟨⟨hx, hb, hml, ho, hts⟩, hK, -, hT⟩ := X
  exact W.lald (v := .long (f i.toNatClampNeg)) hx hb (rp_arr I g1).2 ((rp_ty hK hT ht).1 n (fun j => .long (f j))) (fun q => by cases q) (rp_in g2) (rp_rd (f := fun j => .long (f j)) g2) rfl rfl hdg kk
theorem rp_aald {t : Nat} {i : Int32} {v : Nat} {C : String} (X : Cx p s m args meth c D cl tys cc nL own Ts) (I : In D cl tys A s h H locs) (g : aR h t a i = some v) (ht : tyS[t]? = some (.object C)) (hdg : decode cc pc = .ok (.aaload, 1))
    (kk : W p l e R s m args below meth c H locs cells slots Q (F0 m (pc + 1) ls (.ref v :: rest))) : W p l e R s m args below meth c H locs cells slots Q (F0 m pc ls (.int i :: .ref a :: rest)) := by
  obtain ⟨n, f, g1, g2, g3⟩ := aR_s g
  obtain ⟨⟨hx, hb, hml, ho, hts⟩, hK, -, hT⟩ := X
  have e1 : va_rf (f i.toNatClampNeg) = .ref v := by rw [g3]; rfl
  exact W.aald (v := .ref v) (ty := .object C) hx hb (rp_arr I g1).2 ((rp_ty hK hT ht).1 n (fun j => va_rf (f j))) rfl (fun q => by cases q) (rp_in g2) (by rw [← e1]; exact rp_rd (f := fun j => va_rf (f j)) g2) rfl rfl hdg kk
theorem sI_s {t : Nat} {i x : Int32} {h' : Hp} (g : sI h t a i x = some h') : ∃ n f, gA h t a = some (n, .inl f) ∧ vp_in i n ∧ h' = (h.1, hU h.2 a (.inl (t, n, .inl (upd f i.toNatClampNeg x)))) := by
  obtain ⟨⟨n, f⟩, g1, g2⟩ := rp_b g
  obtain ⟨y, g3, g4⟩ := rp_b g1
  obtain ⟨k, g5, g6⟩ := rp_b g2
  obtain ⟨g7, g8⟩ := iX_s g5
  have := xI_s g4
  subst this
  subst g8
  cases g6
  exact ⟨n, f, g3, g7, rfl⟩
theorem sB_s {t : Nat} {i x : Int32} {h' : Hp} (g : sB h t a i x = some h') : ∃ n f, gA h t a = some (n, .inl f) ∧ vp_in i n ∧ h' = (h.1, hU h.2 a (.inl (t, n, .inl (upd f i.toNatClampNeg (vp_nar .boolean x))))) := by
  obtain ⟨⟨n, f⟩, g1, g2⟩ := rp_b g
  obtain ⟨y, g3, g4⟩ := rp_b g1
  obtain ⟨k, g5, g6⟩ := rp_b g2
  obtain ⟨g7, g8⟩ := iX_s g5
  have := xI_s g4
  subst this
  subst g8
  cases g6
  exact ⟨n, f, g3, g7, rfl⟩
theorem sJ_s {t : Nat} {i : Int32} {x : Int64} {h' : Hp} (g : sJ h t a i x = some h') : ∃ n f, gA h t a = some (n, .inr (.inl f)) ∧ vp_in i n ∧ h' = (h.1, hU h.2 a (.inl (t, n, .inr (.inl (vp_updL f i.toNatClampNeg x))))) := by
  obtain ⟨⟨n, f⟩, g1, g2⟩ := rp_b g
  obtain ⟨y, g3, g4⟩ := rp_b g1
  obtain ⟨k, g5, g6⟩ := rp_b g2
  obtain ⟨g7, g8⟩ := iX_s g5
  have := xJ_s g4
  subst this
  subst g8
  cases g6
  exact ⟨n, f, g3, g7, rfl⟩
theorem sR_s {t ci v : Nat} {i : Int32} {h' : Hp} (g : sR h t ci a i v = some h') : ∃ n f fs, gA h t a = some (n, .inr (.inr (.inr (.inr f)))) ∧ vp_in i n ∧ gO h ci v = some fs ∧ h' = (h.1, hU h.2 a (.inl (t, n, .inr (.inr (.inr (.inr (va_up f i.toNatClampNeg (some v)))))))) := by
  obtain ⟨⟨n, f⟩, g1, g2⟩ := rp_b g
  obtain ⟨y, g3, g4⟩ := rp_b g1
  obtain ⟨k, g5, g6⟩ := rp_b g2
  obtain ⟨fs, g9, g10⟩ := rp_b g6
  obtain ⟨g7, g8⟩ := iX_s g5
  have := xR_s g4
  subst this
  subst g8
  cases g10
  exact ⟨n, f, fs, g3, g7, g9, rfl⟩
theorem rp_iast {t : Nat} {i x : Int32} {h' : Hp} (X : Cx p s m args meth c D cl tys cc nL own Ts) (I : In D cl tys A s h H locs) (g : sI h t a i x = some h') (ht : tyS[t]? = some .int) (hdg : decode cc pc = .ok (.iastore, 1))
    (kk : ∀ (H1 : Heap) (locs1 : List Loc), In D cl tys A s h' H1 locs1 → W p l e R s m args below meth c H1 locs1 cells slots Q (F0 m (pc + 1) ls rest)) : W p l e R s m args below meth c H locs cells slots Q (F0 m pc ls (.int x :: .int i :: .ref a :: rest)) := by
  obtain ⟨n, f, g1, g2, rfl⟩ := sI_s g
  obtain ⟨⟨hx, hb, hml, ho, hts⟩, hK, -, hT⟩ := X
  obtain ⟨hAa, hcell⟩ := rp_arr I g1
  refine W.iast hx hb hcell ((rp_ty hK hT ht).1 n (fun j => .int (f j))) (fun q => by cases q) (rp_in g2) rfl rfl hdg fun H1 e z oq => ?_
  refine kk H1 _ (rp_upd I hAa ?_ z oq)
  show H1[a]? = some (vp_cell _ _)
  rw [e]
  rw [vp_cell_i, vp_cell_i, arrV_store]
  congr 2
  funext q
  by_cases hq : q = i.toNatClampNeg
  · subst hq
    simp [updV, upd]
  · simp [updV, upd, hq]
theorem rp_zast {t : Nat} {i x : Int32} {h' : Hp} (X : Cx p s m args meth c D cl tys cc nL own Ts) (I : In D cl tys A s h H locs) (g : sB h t a i x = some h') (ht : tyS[t]? = some .boolean) (hdg : decode cc pc = .ok (.bastore, 1))
    (kk : ∀ (H1 : Heap) (locs1 : List Loc), In D cl tys A s h' H1 locs1 → W p l e R s m args below meth c H1 locs1 cells slots Q (F0 m (pc + 1) ls rest)) : W p l e R s m args below meth c H locs cells slots Q (F0 m pc ls (.int x :: .int i :: .ref a :: rest)) := by
  obtain ⟨n, f, g1, g2, rfl⟩ := sB_s g
  obtain ⟨⟨hx, hb, hml, ho, hts⟩, hK, -, hT⟩ := X
  obtain ⟨hAa, hcell⟩ := rp_arr I g1
  refine W.zast hx hb hcell ((rp_ty hK hT ht).1 n (fun j => .int (f j))) (fun q => by cases q) (rp_in g2) rfl rfl hdg fun H1 e z oq => ?_
  refine kk H1 _ (rp_upd I hAa ?_ z oq)
  show H1[a]? = some (vp_cell _ _)
  rw [e]
  rw [vp_cell_i, vp_cell_i, arrV_store]
  congr 2
  funext q
  by_cases hq : q = i.toNatClampNeg
  · subst hq
    simp [updV, upd, vp_nar]
    try rfl
  · simp [updV, upd, hq]
theorem rp_last {t : Nat} {i : Int32} {x : Int64} {h' : Hp} (X : Cx p s m args meth c D cl tys cc nL own Ts) (I : In D cl tys A s h H locs) (g : sJ h t a i x = some h') (ht : tyS[t]? = some .long) (hdg : decode cc pc = .ok (.lastore, 1))
    (kk : ∀ (H1 : Heap) (locs1 : List Loc), In D cl tys A s h' H1 locs1 → W p l e R s m args below meth c H1 locs1 cells slots Q (F0 m (pc + 1) ls rest)) : W p l e R s m args below meth c H locs cells slots Q (F0 m pc ls (.long x :: .int i :: .ref a :: rest)) := by
  obtain ⟨n, f, g1, g2, rfl⟩ := sJ_s g
  obtain ⟨⟨hx, hb, hml, ho, hts⟩, hK, -, hT⟩ := X
  obtain ⟨hAa, hcell⟩ := rp_arr I g1
  refine W.last hx hb hcell ((rp_ty hK hT ht).1 n (fun j => .long (f j))) (fun q => by cases q) (rp_in g2) rfl rfl hdg fun H1 e z oq => ?_
  refine kk H1 _ (rp_upd I hAa ?_ z oq)
  show H1[a]? = some (vp_cell _ _)
  rw [e]
  rw [vp_cell_l, vp_cell_l, arrV_store]
  congr 2
  funext q
  by_cases hq : q = i.toNatClampNeg
  · subst hq
    simp [updV, vp_updL]
  · simp [updV, vp_updL, hq]
end RP
end
