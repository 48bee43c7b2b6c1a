section
-- ===== PART A: goes FIRST, ahead of the names: the tables' words, and 'selects' of the private methods out of them =====
/-- a private method of a class that the tables say can be made, by its rows of tables_1 -/
def lw_okq (q : MethodName × Nat) : Prop := (q.1.cls ≠ "java/lang/invoke/MethodHandle" ∧ q.1.cls ≠ "java/lang/invoke/VarHandle") ∧ Cond.instantiable q.1.cls q.2 ∈ tables_1 ∧ Cond.privateMethod q.1 ∈ tables_1 ∧ Cond.instanceMethod q.1 ∈ tables_1
theorem lw_p0 : lw_okq (⟨"BuildDesk", "isThere", "(I)Z"⟩, 6) := ⟨⟨by decide +kernel, by decide +kernel⟩, List.mem_of_getElem? (i := 17) (by decide +kernel), List.mem_of_getElem? (i := 225) (by decide +kernel), List.mem_of_getElem? (i := 226) (by decide +kernel)⟩
theorem lw_p1 : lw_okq (⟨"BuildDesk", "isSource", "(I)Z"⟩, 6) := ⟨⟨by decide +kernel, by decide +kernel⟩, List.mem_of_getElem? (i := 17) (by decide +kernel), List.mem_of_getElem? (i := 240) (by decide +kernel), List.mem_of_getElem? (i := 241) (by decide +kernel)⟩
theorem lw_p2 : lw_okq (⟨"BuildDesk", "countSteps", "()I"⟩, 6) := ⟨⟨by decide +kernel, by decide +kernel⟩, List.mem_of_getElem? (i := 17) (by decide +kernel), List.mem_of_getElem? (i := 289) (by decide +kernel), List.mem_of_getElem? (i := 290) (by decide +kernel)⟩
theorem lw_p3 : lw_okq (⟨"BuildDesk$Step", "isToldOtherwise", "()Z"⟩, 14) := ⟨⟨by decide +kernel, by decide +kernel⟩, List.mem_of_getElem? (i := 44) (by decide +kernel), List.mem_of_getElem? (i := 301) (by decide +kernel), List.mem_of_getElem? (i := 302) (by decide +kernel)⟩
theorem lw_p4 : lw_okq (⟨"BuildDesk$Step", "outputLacks", "(LBuildDesk$FileTable;)Z"⟩, 14) := ⟨⟨by decide +kernel, by decide +kernel⟩, List.mem_of_getElem? (i := 44) (by decide +kernel), List.mem_of_getElem? (i := 305) (by decide +kernel), List.mem_of_getElem? (i := 306) (by decide +kernel)⟩
theorem lw_p5 : lw_okq (⟨"BuildDesk$Step", "inputDiffers", "(LBuildDesk$FileTable;)Z"⟩, 14) := ⟨⟨by decide +kernel, by decide +kernel⟩, List.mem_of_getElem? (i := 44) (by decide +kernel), List.mem_of_getElem? (i := 313) (by decide +kernel), List.mem_of_getElem? (i := 314) (by decide +kernel)⟩
theorem lw_p6 : lw_okq (⟨"java/lang/Throwable", "fillInStackTrace", "(I)Ljava/lang/Throwable;"⟩, 6) := ⟨⟨by decide +kernel, by decide +kernel⟩, List.mem_of_getElem? (i := 368) (by decide +kernel), List.mem_of_getElem? (i := 366) (by decide +kernel), List.mem_of_getElem? (i := 367) (by decide +kernel)⟩
theorem lw_p7 : lw_okq (⟨"BuildDesk$Round", "measure", "(ILBuildDesk$Plan;)I"⟩, 3) := ⟨⟨by decide +kernel, by decide +kernel⟩, List.mem_of_getElem? (i := 173) (by decide +kernel), List.mem_of_getElem? (i := 426) (by decide +kernel), List.mem_of_getElem? (i := 427) (by decide +kernel)⟩
theorem lw_p8 : lw_okq (⟨"BuildDesk$Round", "walk", "(IILBuildDesk$Plan;)V"⟩, 3) := ⟨⟨by decide +kernel, by decide +kernel⟩, List.mem_of_getElem? (i := 173) (by decide +kernel), List.mem_of_getElem? (i := 435) (by decide +kernel), List.mem_of_getElem? (i := 436) (by decide +kernel)⟩
theorem lw_p9 : lw_okq (⟨"BuildDesk", "sourceLacks", "(I)Z"⟩, 6) := ⟨⟨by decide +kernel, by decide +kernel⟩, List.mem_of_getElem? (i := 17) (by decide +kernel), List.mem_of_getElem? (i := 458) (by decide +kernel), List.mem_of_getElem? (i := 459) (by decide +kernel)⟩
theorem lw_p10 : lw_okq (⟨"BuildDesk", "makeNeeded", "(I)I"⟩, 6) := ⟨⟨by decide +kernel, by decide +kernel⟩, List.mem_of_getElem? (i := 17) (by decide +kernel), List.mem_of_getElem? (i := 488) (by decide +kernel), List.mem_of_getElem? (i := 489) (by decide +kernel)⟩
theorem lw_p11 : lw_okq (⟨"BuildDesk", "endSteps", "(I)V"⟩, 6) := ⟨⟨by decide +kernel, by decide +kernel⟩, List.mem_of_getElem? (i := 17) (by decide +kernel), List.mem_of_getElem? (i := 496) (by decide +kernel), List.mem_of_getElem? (i := 497) (by decide +kernel)⟩
theorem lw_p12 : lw_okq (⟨"BuildDesk", "passOverSteps", "()V"⟩, 6) := ⟨⟨by decide +kernel, by decide +kernel⟩, List.mem_of_getElem? (i := 17) (by decide +kernel), List.mem_of_getElem? (i := 517) (by decide +kernel), List.mem_of_getElem? (i := 518) (by decide +kernel)⟩
theorem lw_p13 : lw_okq (⟨"BuildDesk", "isReady", "(I)Z"⟩, 6) := ⟨⟨by decide +kernel, by decide +kernel⟩, List.mem_of_getElem? (i := 17) (by decide +kernel), List.mem_of_getElem? (i := 521) (by decide +kernel), List.mem_of_getElem? (i := 522) (by decide +kernel)⟩
theorem lw_p14 : lw_okq (⟨"BuildDesk", "beginSteps", "(II)V"⟩, 6) := ⟨⟨by decide +kernel, by decide +kernel⟩, List.mem_of_getElem? (i := 17) (by decide +kernel), List.mem_of_getElem? (i := 537) (by decide +kernel), List.mem_of_getElem? (i := 538) (by decide +kernel)⟩
theorem lw_p15 : lw_okq (⟨"BuildDesk", "nextToBegin", "()I"⟩, 6) := ⟨⟨by decide +kernel, by decide +kernel⟩, List.mem_of_getElem? (i := 17) (by decide +kernel), List.mem_of_getElem? (i := 545) (by decide +kernel), List.mem_of_getElem? (i := 546) (by decide +kernel)⟩
def lw_privs_1 : List (MethodName × Nat) := [(⟨"BuildDesk", "isThere", "(I)Z"⟩, 6), (⟨"BuildDesk", "isSource", "(I)Z"⟩, 6), (⟨"BuildDesk", "countSteps", "()I"⟩, 6), (⟨"BuildDesk$Step", "isToldOtherwise", "()Z"⟩, 14), (⟨"BuildDesk$Step", "outputLacks", "(LBuildDesk$FileTable;)Z"⟩, 14), (⟨"BuildDesk$Step", "inputDiffers", "(LBuildDesk$FileTable;)Z"⟩, 14), (⟨"java/lang/Throwable", "fillInStackTrace", "(I)Ljava/lang/Throwable;"⟩, 6), (⟨"BuildDesk$Round", "measure", "(ILBuildDesk$Plan;)I"⟩, 3), (⟨"BuildDesk$Round", "walk", "(IILBuildDesk$Plan;)V"⟩, 3), (⟨"BuildDesk", "sourceLacks", "(I)Z"⟩, 6), (⟨"BuildDesk", "makeNeeded", "(I)I"⟩, 6), (⟨"BuildDesk", "endSteps", "(I)V"⟩, 6), (⟨"BuildDesk", "passOverSteps", "()V"⟩, 6), (⟨"BuildDesk", "isReady", "(I)Z"⟩, 6), (⟨"BuildDesk", "beginSteps", "(II)V"⟩, 6), (⟨"BuildDesk", "nextToBegin", "()I"⟩, 6)]
theorem lw_r1 : ∀ q ∈ lw_privs_1, lw_okq q := List.forall_mem_cons.mpr ⟨lw_p0, List.forall_mem_cons.mpr ⟨lw_p1, List.forall_mem_cons.mpr ⟨lw_p2, List.forall_mem_cons.mpr ⟨lw_p3, List.forall_mem_cons.mpr ⟨lw_p4, List.forall_mem_cons.mpr ⟨lw_p5, List.forall_mem_cons.mpr ⟨lw_p6, List.forall_mem_cons.mpr ⟨lw_p7, List.forall_mem_cons.mpr ⟨lw_p8, List.forall_mem_cons.mpr ⟨lw_p9, List.forall_mem_cons.mpr ⟨lw_p10, List.forall_mem_cons.mpr ⟨lw_p11, List.forall_mem_cons.mpr ⟨lw_p12, List.forall_mem_cons.mpr ⟨lw_p13, List.forall_mem_cons.mpr ⟨lw_p14, List.forall_mem_cons.mpr ⟨lw_p15, fun _ h => absurd h List.not_mem_nil⟩⟩⟩⟩⟩⟩⟩⟩⟩⟩⟩⟩⟩⟩⟩⟩
theorem lw_p16 : lw_okq (⟨"BuildDeskModel", "isStep", "(I)Z"⟩, 40) := ⟨⟨by decide +kernel, by decide +kernel⟩, List.mem_of_getElem? (i := 607) (by decide +kernel), List.mem_of_getElem? (i := 746) (by decide +kernel), List.mem_of_getElem? (i := 747) (by decide +kernel)⟩
theorem lw_p17 : lw_okq (⟨"BuildDeskModel", "why", "(I)I"⟩, 40) := ⟨⟨by decide +kernel, by decide +kernel⟩, List.mem_of_getElem? (i := 607) (by decide +kernel), List.mem_of_getElem? (i := 773) (by decide +kernel), List.mem_of_getElem? (i := 774) (by decide +kernel)⟩
theorem lw_p18 : lw_okq (⟨"BuildDeskModel", "isOther", "(I)Z"⟩, 40) := ⟨⟨by decide +kernel, by decide +kernel⟩, List.mem_of_getElem? (i := 607) (by decide +kernel), List.mem_of_getElem? (i := 777) (by decide +kernel), List.mem_of_getElem? (i := 778) (by decide +kernel)⟩
theorem lw_p19 : lw_okq (⟨"BuildDeskModel", "raise", "(I)I"⟩, 40) := ⟨⟨by decide +kernel, by decide +kernel⟩, List.mem_of_getElem? (i := 607) (by decide +kernel), List.mem_of_getElem? (i := 785) (by decide +kernel), List.mem_of_getElem? (i := 786) (by decide +kernel)⟩
theorem lw_p20 : lw_okq (⟨"BuildDeskModel", "spread", "(I)V"⟩, 40) := ⟨⟨by decide +kernel, by decide +kernel⟩, List.mem_of_getElem? (i := 607) (by decide +kernel), List.mem_of_getElem? (i := 789) (by decide +kernel), List.mem_of_getElem? (i := 790) (by decide +kernel)⟩
theorem lw_p21 : lw_okq (⟨"BuildDeskModel", "takes", "(II)Z"⟩, 40) := ⟨⟨by decide +kernel, by decide +kernel⟩, List.mem_of_getElem? (i := 607) (by decide +kernel), List.mem_of_getElem? (i := 793) (by decide +kernel), List.mem_of_getElem? (i := 794) (by decide +kernel)⟩
theorem lw_p22 : lw_okq (⟨"BuildDeskModel", "isRound", "()Z"⟩, 40) := ⟨⟨by decide +kernel, by decide +kernel⟩, List.mem_of_getElem? (i := 607) (by decide +kernel), List.mem_of_getElem? (i := 797) (by decide +kernel), List.mem_of_getElem? (i := 798) (by decide +kernel)⟩
theorem lw_p23 : lw_okq (⟨"BuildDeskModel", "measure", "(I)V"⟩, 40) := ⟨⟨by decide +kernel, by decide +kernel⟩, List.mem_of_getElem? (i := 607) (by decide +kernel), List.mem_of_getElem? (i := 801) (by decide +kernel), List.mem_of_getElem? (i := 802) (by decide +kernel)⟩
theorem lw_p24 : lw_okq (⟨"BuildDeskModel", "nearest", "(I)I"⟩, 40) := ⟨⟨by decide +kernel, by decide +kernel⟩, List.mem_of_getElem? (i := 607) (by decide +kernel), List.mem_of_getElem? (i := 805) (by decide +kernel), List.mem_of_getElem? (i := 806) (by decide +kernel)⟩
theorem lw_p25 : lw_okq (⟨"BuildDeskModel", "isLacking", "(I)Z"⟩, 40) := ⟨⟨by decide +kernel, by decide +kernel⟩, List.mem_of_getElem? (i := 607) (by decide +kernel), List.mem_of_getElem? (i := 809) (by decide +kernel), List.mem_of_getElem? (i := 810) (by decide +kernel)⟩
theorem lw_p26 : lw_okq (⟨"BuildDeskModel", "order", "()V"⟩, 40) := ⟨⟨by decide +kernel, by decide +kernel⟩, List.mem_of_getElem? (i := 607) (by decide +kernel), List.mem_of_getElem? (i := 813) (by decide +kernel), List.mem_of_getElem? (i := 814) (by decide +kernel)⟩
theorem lw_p27 : lw_okq (⟨"BuildDeskModel", "end", "(I)V"⟩, 40) := ⟨⟨by decide +kernel, by decide +kernel⟩, List.mem_of_getElem? (i := 607) (by decide +kernel), List.mem_of_getElem? (i := 817) (by decide +kernel), List.mem_of_getElem? (i := 818) (by decide +kernel)⟩
theorem lw_p28 : lw_okq (⟨"BuildDeskModel", "pass", "()V"⟩, 40) := ⟨⟨by decide +kernel, by decide +kernel⟩, List.mem_of_getElem? (i := 607) (by decide +kernel), List.mem_of_getElem? (i := 821) (by decide +kernel), List.mem_of_getElem? (i := 822) (by decide +kernel)⟩
theorem lw_p29 : lw_okq (⟨"BuildDeskModel", "isReady", "(I)Z"⟩, 40) := ⟨⟨by decide +kernel, by decide +kernel⟩, List.mem_of_getElem? (i := 607) (by decide +kernel), List.mem_of_getElem? (i := 825) (by decide +kernel), List.mem_of_getElem? (i := 826) (by decide +kernel)⟩
theorem lw_p30 : lw_okq (⟨"BuildDeskModel", "hire", "(I)V"⟩, 40) := ⟨⟨by decide +kernel, by decide +kernel⟩, List.mem_of_getElem? (i := 607) (by decide +kernel), List.mem_of_getElem? (i := 829) (by decide +kernel), List.mem_of_getElem? (i := 830) (by decide +kernel)⟩
theorem lw_p31 : lw_okq (⟨"BuildDeskModel", "start", "(II)V"⟩, 40) := ⟨⟨by decide +kernel, by decide +kernel⟩, List.mem_of_getElem? (i := 607) (by decide +kernel), List.mem_of_getElem? (i := 833) (by decide +kernel), List.mem_of_getElem? (i := 834) (by decide +kernel)⟩
def lw_privs_2 : List (MethodName × Nat) := [(⟨"BuildDeskModel", "isStep", "(I)Z"⟩, 40), (⟨"BuildDeskModel", "why", "(I)I"⟩, 40), (⟨"BuildDeskModel", "isOther", "(I)Z"⟩, 40), (⟨"BuildDeskModel", "raise", "(I)I"⟩, 40), (⟨"BuildDeskModel", "spread", "(I)V"⟩, 40), (⟨"BuildDeskModel", "takes", "(II)Z"⟩, 40), (⟨"BuildDeskModel", "isRound", "()Z"⟩, 40), (⟨"BuildDeskModel", "measure", "(I)V"⟩, 40), (⟨"BuildDeskModel", "nearest", "(I)I"⟩, 40), (⟨"BuildDeskModel", "isLacking", "(I)Z"⟩, 40), (⟨"BuildDeskModel", "order", "()V"⟩, 40), (⟨"BuildDeskModel", "end", "(I)V"⟩, 40), (⟨"BuildDeskModel", "pass", "()V"⟩, 40), (⟨"BuildDeskModel", "isReady", "(I)Z"⟩, 40), (⟨"BuildDeskModel", "hire", "(I)V"⟩, 40), (⟨"BuildDeskModel", "start", "(II)V"⟩, 40)]
theorem lw_r2 : ∀ q ∈ lw_privs_2, lw_okq q := List.forall_mem_cons.mpr ⟨lw_p16, List.forall_mem_cons.mpr ⟨lw_p17, List.forall_mem_cons.mpr ⟨lw_p18, List.forall_mem_cons.mpr ⟨lw_p19, List.forall_mem_cons.mpr ⟨lw_p20, List.forall_mem_cons.mpr ⟨lw_p21, List.forall_mem_cons.mpr ⟨lw_p22, List.forall_mem_cons.mpr ⟨lw_p23, List.forall_mem_cons.mpr ⟨lw_p24, List.forall_mem_cons.mpr ⟨lw_p25, List.forall_mem_cons.mpr ⟨lw_p26, List.forall_mem_cons.mpr ⟨lw_p27, List.forall_mem_cons.mpr ⟨lw_p28, List.forall_mem_cons.mpr ⟨lw_p29, List.forall_mem_cons.mpr ⟨lw_p30, List.forall_mem_cons.mpr ⟨lw_p31, fun _ h => absurd h List.not_mem_nil⟩⟩⟩⟩⟩⟩⟩⟩⟩⟩⟩⟩⟩⟩⟩⟩
def lw_privs : List (MethodName × Nat) := lw_privs_1 ++ (lw_privs_2)
def lw_tbl : List Cond := k2_sels lw_privs ++ tables_1
theorem lw_privs_ok : ∀ q ∈ lw_privs, lw_okq q := by
  show ∀ q ∈ lw_privs_1 ++ (lw_privs_2), lw_okq q
  exact List.forall_mem_append.mpr ⟨lw_r1, lw_r2⟩
end
section
def RX0 : String := "BuildDesk$Crew"
def TX0 : u_T := fun k => match k with
  | 0 => ("BuildDesk$Crew", "busy", "[Z", true)
  | 1 => ("BuildDesk$Crew", "workerOf", "[I", true)
  | 2 => ("BuildDesk$Crew", "endOf", "[I", true)
  | 3 => ("BuildDesk$Crew", "running", "J", false)
  | _ => ("BuildDesk$Crew", "done", "J", false)
def tyX0 : Nat → FieldType := fun k => match k with
  | 0 => .array .boolean
  | 1 => .array .int
  | 2 => .array .int
  | 3 => .long
  | _ => .long
theorem nmX0 : ∀ a, a < 5 → ∀ b, b < 5 → a ≠ b → (TX0 a).2.1 ≠ (TX0 b).2.1 := by decide +kernel
theorem tyX0_ok : ∀ k, k < 5 → parseFieldDescriptor (TX0 k).2.2.1 = some (tyX0 k) := by decide +kernel
def RX1 : String := "BuildDesk$FileTable"
def TX1 : u_T := fun k => match k with
  | 0 => ("BuildDesk$FileTable", "contents", "[I", true)
  | 1 => ("BuildDesk$FileTable", "filled", "[Z", true)
  | _ => ("BuildDesk$FileTable", "makers", "[I", true)
def tyX1 : Nat → FieldType := fun k => match k with
  | 0 => .array .int
  | 1 => .array .boolean
  | _ => .array .int
theorem nmX1 : ∀ a, a < 3 → ∀ b, b < 3 → a ≠ b → (TX1 a).2.1 ≠ (TX1 b).2.1 := by decide +kernel
theorem tyX1_ok : ∀ k, k < 3 → parseFieldDescriptor (TX1 k).2.2.1 = some (tyX1 k) := by decide +kernel
def RX2 : String := "BuildDesk$Plan"
def TX2 : u_T := fun k => match k with
  | 0 => ("BuildDesk$Plan", "waits", "[J", true)
  | 1 => ("BuildDesk$Plan", "line", "[I", true)
  | 2 => ("BuildDesk$Plan", "lined", "I", false)
  | 3 => ("BuildDesk$Plan", "rank", "[I", true)
  | _ => ("BuildDesk$Plan", "needed", "J", false)
def tyX2 : Nat → FieldType := fun k => match k with
  | 0 => .array .long
  | 1 => .array .int
  | 2 => .int
  | 3 => .array .int
  | _ => .long
theorem nmX2 : ∀ a, a < 5 → ∀ b, b < 5 → a ≠ b → (TX2 a).2.1 ≠ (TX2 b).2.1 := by decide +kernel
theorem tyX2_ok : ∀ k, k < 5 → parseFieldDescriptor (TX2 k).2.2.1 = some (tyX2 k) := by decide +kernel
def RX3 : String := "BuildDesk$Report"
def TX3 : u_T := fun k => match k with
  | 0 => ("BuildDesk$Report", "needed", "I", false)
  | 1 => ("BuildDesk$Report", "begun", "I", false)
  | 2 => ("BuildDesk$Report", "busyTime", "I", false)
  | 3 => ("BuildDesk$Report", "greatestRank", "I", false)
  | _ => ("BuildDesk$Report", "cells", "[I", true)
def tyX3 : Nat → FieldType := fun k => match k with
  | 0 => .int
  | 1 => .int
  | 2 => .int
  | 3 => .int
  | _ => .array .int
theorem nmX3 : ∀ a, a < 5 → ∀ b, b < 5 → a ≠ b → (TX3 a).2.1 ≠ (TX3 b).2.1 := by decide +kernel
theorem tyX3_ok : ∀ k, k < 5 → parseFieldDescriptor (TX3 k).2.2.1 = some (tyX3 k) := by decide +kernel
def RX4 : String := "BuildDesk$Round"
def TX4 : u_T := fun k => match k with
  | 0 => ("BuildDesk$Round", "members", "[I", true)
  | 1 => ("BuildDesk$Round", "length", "I", false)
  | _ => ("BuildDesk$Round", "near", "[J", true)
def tyX4 : Nat → FieldType := fun k => match k with
  | 0 => .array .int
  | 1 => .int
  | _ => .array .long
theorem nmX4 : ∀ a, a < 3 → ∀ b, b < 3 → a ≠ b → (TX4 a).2.1 ≠ (TX4 b).2.1 := by decide +kernel
theorem tyX4_ok : ∀ k, k < 3 → parseFieldDescriptor (TX4 k).2.2.1 = some (tyX4 k) := by decide +kernel
def RX5 : String := "BuildDesk$Step"
def TX5 : u_T := fun k => match k with
  | 0 => ("BuildDesk$Step", "there", "Z", false)
  | 1 => ("BuildDesk$Step", "recipe", "I", false)
  | 2 => ("BuildDesk$Step", "mask", "I", false)
  | 3 => ("BuildDesk$Step", "duration", "I", false)
  | 4 => ("BuildDesk$Step", "inputs", "[I", true)
  | 5 => ("BuildDesk$Step", "inputCount", "I", false)
  | 6 => ("BuildDesk$Step", "outputs", "[I", true)
  | 7 => ("BuildDesk$Step", "outputCount", "I", false)
  | 8 => ("BuildDesk$Step", "made", "Z", false)
  | 9 => ("BuildDesk$Step", "madeRecipe", "I", false)
  | 10 => ("BuildDesk$Step", "madeMask", "I", false)
  | 11 => ("BuildDesk$Step", "madeInputCount", "I", false)
  | 12 => ("BuildDesk$Step", "madeOutputCount", "I", false)
  | _ => ("BuildDesk$Step", "madeContents", "[I", true)
def tyX5 : Nat → FieldType := fun k => match k with
  | 0 => .boolean
  | 1 => .int
  | 2 => .int
  | 3 => .int
  | 4 => .array .int
  | 5 => .int
  | 6 => .array .int
  | 7 => .int
  | 8 => .boolean
  | 9 => .int
  | 10 => .int
  | 11 => .int
  | 12 => .int
  | _ => .array .int
theorem nmX5 : ∀ a, a < 14 → ∀ b, b < 14 → a ≠ b → (TX5 a).2.1 ≠ (TX5 b).2.1 := by decide +kernel
theorem tyX5_ok : ∀ k, k < 14 → parseFieldDescriptor (TX5 k).2.2.1 = some (tyX5 k) := by decide +kernel
def RX6 : String := "BuildDesk"
def TX6 : u_T := fun k => match k with
  | 0 => ("BuildDesk", "files", "LBuildDesk$FileTable;", true)
  | 1 => ("BuildDesk", "steps", "[LBuildDesk$Step;", true)
  | 2 => ("BuildDesk", "plan", "LBuildDesk$Plan;", true)
  | 3 => ("BuildDesk", "crew", "LBuildDesk$Crew;", true)
  | 4 => ("BuildDesk", "report", "LBuildDesk$Report;", true)
  | _ => ("BuildDesk", "round", "LBuildDesk$Round;", true)
def tyX6 : Nat → FieldType := fun k => match k with
  | 0 => .object "BuildDesk$FileTable"
  | 1 => .array (.object "BuildDesk$Step")
  | 2 => .object "BuildDesk$Plan"
  | 3 => .object "BuildDesk$Crew"
  | 4 => .object "BuildDesk$Report"
  | _ => .object "BuildDesk$Round"
theorem nmX6 : ∀ a, a < 6 → ∀ b, b < 6 → a ≠ b → (TX6 a).2.1 ≠ (TX6 b).2.1 := by decide +kernel
theorem tyX6_ok : ∀ k, k < 6 → parseFieldDescriptor (TX6 k).2.2.1 = some (tyX6 k) := by decide +kernel
def RX7 : String := "BuildDeskModel"
def TX7 : u_T := fun k => match k with
  | 0 => ("BuildDeskModel", "thrown", "I", false)
  | 1 => ("BuildDeskModel", "has", "[Z", true)
  | 2 => ("BuildDeskModel", "contents", "[I", true)
  | 3 => ("BuildDeskModel", "maker", "[I", true)
  | 4 => ("BuildDeskModel", "there", "[Z", true)
  | 5 => ("BuildDeskModel", "recipe", "[I", true)
  | 6 => ("BuildDeskModel", "mask", "[I", true)
  | 7 => ("BuildDeskModel", "duration", "[I", true)
  | 8 => ("BuildDeskModel", "inputs", "[I", true)
  | 9 => ("BuildDeskModel", "outputs", "[I", true)
  | 10 => ("BuildDeskModel", "ins", "[I", true)
  | 11 => ("BuildDeskModel", "outs", "[I", true)
  | 12 => ("BuildDeskModel", "made", "[Z", true)
  | 13 => ("BuildDeskModel", "oldRecipe", "[I", true)
  | 14 => ("BuildDeskModel", "oldMask", "[I", true)
  | 15 => ("BuildDeskModel", "oldInputs", "[I", true)
  | 16 => ("BuildDeskModel", "oldOutputs", "[I", true)
  | 17 => ("BuildDeskModel", "oldIns", "[I", true)
  | 18 => ("BuildDeskModel", "oldOuts", "[I", true)
  | 19 => ("BuildDeskModel", "oldContents", "[I", true)
  | 20 => ("BuildDeskModel", "needed", "[Z", true)
  | 21 => ("BuildDeskModel", "rank", "[I", true)
  | 22 => ("BuildDeskModel", "state", "[I", true)
  | 23 => ("BuildDeskModel", "ends", "[I", true)
  | 24 => ("BuildDeskModel", "mixed", "[I", true)
  | 25 => ("BuildDeskModel", "worker", "[I", true)
  | 26 => ("BuildDeskModel", "busy", "[Z", true)
  | 27 => ("BuildDeskModel", "now", "I", false)
  | 28 => ("BuildDeskModel", "told", "I", false)
  | 29 => ("BuildDeskModel", "neededMany", "I", false)
  | 30 => ("BuildDeskModel", "busyTime", "I", false)
  | 31 => ("BuildDeskModel", "greatest", "I", false)
  | 32 => ("BuildDeskModel", "toldStep", "[I", true)
  | 33 => ("BuildDeskModel", "toldBegin", "[I", true)
  | 34 => ("BuildDeskModel", "toldEnd", "[I", true)
  | 35 => ("BuildDeskModel", "toldWorker", "[I", true)
  | 36 => ("BuildDeskModel", "toldReason", "[I", true)
  | 37 => ("BuildDeskModel", "roundLong", "I", false)
  | 38 => ("BuildDeskModel", "round", "[I", true)
  | _ => ("BuildDeskModel", "far", "[I", true)
def tyX7 : Nat → FieldType := fun k => match k with
  | 0 => .int
  | 1 => .array .boolean
  | 2 => .array .int
  | 3 => .array .int
  | 4 => .array .boolean
  | 5 => .array .int
  | 6 => .array .int
  | 7 => .array .int
  | 8 => .array .int
  | 9 => .array .int
  | 10 => .array .int
  | 11 => .array .int
  | 12 => .array .boolean
  | 13 => .array .int
  | 14 => .array .int
  | 15 => .array .int
  | 16 => .array .int
  | 17 => .array .int
  | 18 => .array .int
  | 19 => .array .int
  | 20 => .array .boolean
  | 21 => .array .int
  | 22 => .array .int
  | 23 => .array .int
  | 24 => .array .int
  | 25 => .array .int
  | 26 => .array .boolean
  | 27 => .int
  | 28 => .int
  | 29 => .int
  | 30 => .int
  | 31 => .int
  | 32 => .array .int
  | 33 => .array .int
  | 34 => .array .int
  | 35 => .array .int
  | 36 => .array .int
  | 37 => .int
  | 38 => .array .int
  | _ => .array .int
theorem nmX7 : ∀ a, a < 40 → ∀ b, b < 40 → a ≠ b → (TX7 a).2.1 ≠ (TX7 b).2.1 := by decide +kernel
theorem tyX7_ok : ∀ k, k < 40 → parseFieldDescriptor (TX7 k).2.2.1 = some (tyX7 k) := by decide +kernel
def RL : String := "BuildDeskLaw"
abbrev cX0_init : ByteArray := prog_2_method_1_code
def yX0_init : MethodName := ⟨RX0, "<init>", "()V"⟩
abbrev cX0_comeIn : ByteArray := prog_2_method_2_code
def yX0_comeIn : MethodName := ⟨RX0, "comeIn", "()V"⟩
abbrev cX0_isBusy : ByteArray := prog_2_method_3_code
def yX0_isBusy : MethodName := ⟨RX0, "isBusy", "(I)Z"⟩
abbrev cX0_isOpen : ByteArray := prog_2_method_4_code
def yX0_isOpen : MethodName := ⟨RX0, "isOpen", "(I)Z"⟩
abbrev cX0_areDone : ByteArray := prog_2_method_5_code
def yX0_areDone : MethodName := ⟨RX0, "areDone", "(J)Z"⟩
abbrev cX0_passOver : ByteArray := prog_2_method_6_code
def yX0_passOver : MethodName := ⟨RX0, "passOver", "(I)V"⟩
abbrev cX0_begin : ByteArray := prog_2_method_7_code
def yX0_begin : MethodName := ⟨RX0, "begin", "(III)V"⟩
abbrev cX0_endsAt : ByteArray := prog_2_method_8_code
def yX0_endsAt : MethodName := ⟨RX0, "endsAt", "(II)Z"⟩
abbrev cX0_end : ByteArray := prog_2_method_9_code
def yX0_end : MethodName := ⟨RX0, "end", "(I)V"⟩
abbrev cX0_nextEnd : ByteArray := prog_2_method_10_code
def yX0_nextEnd : MethodName := ⟨RX0, "nextEnd", "()I"⟩
abbrev cX1_init : ByteArray := prog_3_method_1_code
def yX1_init : MethodName := ⟨RX1, "<init>", "()V"⟩
abbrev cX1_makerOf : ByteArray := prog_3_method_2_code
def yX1_makerOf : MethodName := ⟨RX1, "makerOf", "(I)I"⟩
abbrev cX1_setMaker : ByteArray := prog_3_method_3_code
def yX1_setMaker : MethodName := ⟨RX1, "setMaker", "(II)V"⟩
abbrev cX1_isFilled : ByteArray := prog_3_method_4_code
def yX1_isFilled : MethodName := ⟨RX1, "isFilled", "(I)Z"⟩
abbrev cX1_contentOf : ByteArray := prog_3_method_5_code
def yX1_contentOf : MethodName := ⟨RX1, "contentOf", "(I)I"⟩
abbrev cX1_fill : ByteArray := prog_3_method_6_code
def yX1_fill : MethodName := ⟨RX1, "fill", "(II)V"⟩
abbrev cX1_empty : ByteArray := prog_3_method_7_code
def yX1_empty : MethodName := ⟨RX1, "empty", "(I)Z"⟩
abbrev cX1_lacksSource : ByteArray := prog_3_method_8_code
def yX1_lacksSource : MethodName := ⟨RX1, "lacksSource", "(I)Z"⟩
abbrev cX1_countFilled : ByteArray := prog_3_method_9_code
def yX1_countFilled : MethodName := ⟨RX1, "countFilled", "()I"⟩
abbrev cX2_init : ByteArray := prog_4_method_1_code
def yX2_init : MethodName := ⟨RX2, "<init>", "()V"⟩
abbrev cX2_findNeeded : ByteArray := prog_4_method_2_code
def yX2_findNeeded : MethodName := ⟨RX2, "findNeeded", "(I[LBuildDesk$Step;LBuildDesk$FileTable;)V"⟩
abbrev cX2_lineUp : ByteArray := prog_4_method_3_code
def yX2_lineUp : MethodName := ⟨RX2, "lineUp", "()Z"⟩
abbrev cX2_rankSteps : ByteArray := prog_4_method_4_code
def yX2_rankSteps : MethodName := ⟨RX2, "rankSteps", "([LBuildDesk$Step;)V"⟩
abbrev cX2_greatestRank : ByteArray := prog_4_method_5_code
def yX2_greatestRank : MethodName := ⟨RX2, "greatestRank", "()I"⟩
abbrev cX2_waitingFor : ByteArray := prog_4_method_6_code
def yX2_waitingFor : MethodName := ⟨RX2, "waitingFor", "(J)J"⟩
abbrev cX3_init : ByteArray := prog_5_method_1_code
def yX3_init : MethodName := ⟨RX3, "<init>", "()V"⟩
abbrev cX3_open : ByteArray := prog_5_method_2_code
def yX3_open : MethodName := ⟨RX3, "open", "(LBuildDesk$Plan;)V"⟩
abbrev cX3_add : ByteArray := prog_5_method_3_code
def yX3_add : MethodName := ⟨RX3, "add", "(IIIII)V"⟩
abbrev cX3_cell : ByteArray := prog_5_method_4_code
def yX3_cell : MethodName := ⟨RX3, "cell", "(II)I"⟩
abbrev cX4_init : ByteArray := prog_6_method_1_code
def yX4_init : MethodName := ⟨RX4, "<init>", "()V"⟩
abbrev cX4_find : ByteArray := prog_6_method_2_code
def yX4_find : MethodName := ⟨RX4, "find", "(LBuildDesk$Plan;)V"⟩
abbrev cX4_measure : ByteArray := prog_6_method_3_code
def yX4_measure : MethodName := ⟨RX4, "measure", "(ILBuildDesk$Plan;)I"⟩
abbrev cX4_walk : ByteArray := prog_6_method_4_code
def yX4_walk : MethodName := ⟨RX4, "walk", "(IILBuildDesk$Plan;)V"⟩
abbrev cX4_least : ByteArray := prog_6_method_5_code
def yX4_least : MethodName := ⟨RX4, "least", "(JI)I"⟩
abbrev cX5_init : ByteArray := prog_7_method_1_code
def yX5_init : MethodName := ⟨RX5, "<init>", "()V"⟩
abbrev cX5_tell : ByteArray := prog_7_method_2_code
def yX5_tell : MethodName := ⟨RX5, "tell", "(III)V"⟩
abbrev cX5_addInput : ByteArray := prog_7_method_3_code
def yX5_addInput : MethodName := ⟨RX5, "addInput", "(I)Z"⟩
abbrev cX5_addOutput : ByteArray := prog_7_method_4_code
def yX5_addOutput : MethodName := ⟨RX5, "addOutput", "(I)Z"⟩
abbrev cX5_leave : ByteArray := prog_7_method_5_code
def yX5_leave : MethodName := ⟨RX5, "leave", "(LBuildDesk$FileTable;)V"⟩
abbrev cX5_waitsFor : ByteArray := prog_7_method_6_code
def yX5_waitsFor : MethodName := ⟨RX5, "waitsFor", "(LBuildDesk$FileTable;)J"⟩
abbrev cX5_lacksSource : ByteArray := prog_7_method_7_code
def yX5_lacksSource : MethodName := ⟨RX5, "lacksSource", "(LBuildDesk$FileTable;)Z"⟩
abbrev cX5_whyDue : ByteArray := prog_7_method_8_code
def yX5_whyDue : MethodName := ⟨RX5, "whyDue", "(LBuildDesk$FileTable;)I"⟩
abbrev cX5_isToldOtherwise : ByteArray := prog_7_method_9_code
def yX5_isToldOtherwise : MethodName := ⟨RX5, "isToldOtherwise", "()Z"⟩
abbrev cX5_outputLacks : ByteArray := prog_7_method_10_code
def yX5_outputLacks : MethodName := ⟨RX5, "outputLacks", "(LBuildDesk$FileTable;)Z"⟩
abbrev cX5_inputDiffers : ByteArray := prog_7_method_11_code
def yX5_inputDiffers : MethodName := ⟨RX5, "inputDiffers", "(LBuildDesk$FileTable;)Z"⟩
abbrev cX5_make : ByteArray := prog_7_method_12_code
def yX5_make : MethodName := ⟨RX5, "make", "(LBuildDesk$FileTable;)V"⟩
abbrev cX6_init : ByteArray := prog_1_method_1_code
def yX6_init : MethodName := ⟨RX6, "<init>", "()V"⟩
abbrev cX6_step : ByteArray := prog_1_method_2_code
def yX6_step : MethodName := ⟨RX6, "step", "(IIII)Z"⟩
abbrev cX6_input : ByteArray := prog_1_method_3_code
def yX6_input : MethodName := ⟨RX6, "input", "(II)Z"⟩
abbrev cX6_output : ByteArray := prog_1_method_4_code
def yX6_output : MethodName := ⟨RX6, "output", "(II)Z"⟩
abbrev cX6_drop : ByteArray := prog_1_method_5_code
def yX6_drop : MethodName := ⟨RX6, "drop", "(I)Z"⟩
abbrev cX6_source : ByteArray := prog_1_method_6_code
def yX6_source : MethodName := ⟨RX6, "source", "(II)Z"⟩
abbrev cX6_spoil : ByteArray := prog_1_method_7_code
def yX6_spoil : MethodName := ⟨RX6, "spoil", "(I)Z"⟩
abbrev cX6_build : ByteArray := prog_1_method_8_code
def yX6_build : MethodName := ⟨RX6, "build", "(II)I"⟩
abbrev cX6_count : ByteArray := prog_1_method_9_code
def yX6_count : MethodName := ⟨RX6, "count", "(I)I"⟩
abbrev cX6_begun : ByteArray := prog_1_method_10_code
def yX6_begun : MethodName := ⟨RX6, "begun", "(II)I"⟩
abbrev cX6_cycle : ByteArray := prog_1_method_11_code
def yX6_cycle : MethodName := ⟨RX6, "cycle", "(I)I"⟩
abbrev cX6_content : ByteArray := prog_1_method_12_code
def yX6_content : MethodName := ⟨RX6, "content", "(I)I"⟩
abbrev cX6_reason : ByteArray := prog_1_method_13_code
def yX6_reason : MethodName := ⟨RX6, "reason", "(I)I"⟩
abbrev cX6_isFile : ByteArray := prog_1_method_14_code
def yX6_isFile : MethodName := ⟨RX6, "isFile", "(I)Z"⟩
abbrev cX6_isStepNumber : ByteArray := prog_1_method_15_code
def yX6_isStepNumber : MethodName := ⟨RX6, "isStepNumber", "(I)Z"⟩
abbrev cX6_bit : ByteArray := prog_1_method_16_code
def yX6_bit : MethodName := ⟨RX6, "bit", "(I)J"⟩
abbrev cX6_isIn : ByteArray := prog_1_method_17_code
def yX6_isIn : MethodName := ⟨RX6, "isIn", "(JI)Z"⟩
abbrev cX6_isThere : ByteArray := prog_1_method_18_code
def yX6_isThere : MethodName := ⟨RX6, "isThere", "(I)Z"⟩
abbrev cX6_isSource : ByteArray := prog_1_method_19_code
def yX6_isSource : MethodName := ⟨RX6, "isSource", "(I)Z"⟩
abbrev cX6_countSteps : ByteArray := prog_1_method_20_code
def yX6_countSteps : MethodName := ⟨RX6, "countSteps", "()I"⟩
abbrev cX6_sourceLacks : ByteArray := prog_1_method_21_code
def yX6_sourceLacks : MethodName := ⟨RX6, "sourceLacks", "(I)Z"⟩
abbrev cX6_makeNeeded : ByteArray := prog_1_method_22_code
def yX6_makeNeeded : MethodName := ⟨RX6, "makeNeeded", "(I)I"⟩
abbrev cX6_endSteps : ByteArray := prog_1_method_23_code
def yX6_endSteps : MethodName := ⟨RX6, "endSteps", "(I)V"⟩
abbrev cX6_passOverSteps : ByteArray := prog_1_method_24_code
def yX6_passOverSteps : MethodName := ⟨RX6, "passOverSteps", "()V"⟩
abbrev cX6_beginSteps : ByteArray := prog_1_method_25_code
def yX6_beginSteps : MethodName := ⟨RX6, "beginSteps", "(II)V"⟩
abbrev cX6_nextToBegin : ByteArray := prog_1_method_26_code
def yX6_nextToBegin : MethodName := ⟨RX6, "nextToBegin", "()I"⟩
abbrev cX6_isReady : ByteArray := prog_1_method_27_code
def yX6_isReady : MethodName := ⟨RX6, "isReady", "(I)Z"⟩
abbrev cX7_init : ByteArray := prog_9_method_1_code
def yX7_init : MethodName := ⟨RX7, "<init>", "()V"⟩
abbrev cX7_thrown : ByteArray := prog_9_method_2_code
def yX7_thrown : MethodName := ⟨RX7, "thrown", "()I"⟩
abbrev cX7_raise : ByteArray := prog_9_method_3_code
def yX7_raise : MethodName := ⟨RX7, "raise", "(I)I"⟩
abbrev cX7_isFile : ByteArray := prog_9_method_4_code
def yX7_isFile : MethodName := ⟨RX7, "isFile", "(I)Z"⟩
abbrev cX7_isStep : ByteArray := prog_9_method_5_code
def yX7_isStep : MethodName := ⟨RX7, "isStep", "(I)Z"⟩
abbrev cX7_step : ByteArray := prog_9_method_6_code
def yX7_step : MethodName := ⟨RX7, "step", "(IIII)Z"⟩
abbrev cX7_input : ByteArray := prog_9_method_7_code
def yX7_input : MethodName := ⟨RX7, "input", "(II)Z"⟩
abbrev cX7_output : ByteArray := prog_9_method_8_code
def yX7_output : MethodName := ⟨RX7, "output", "(II)Z"⟩
abbrev cX7_drop : ByteArray := prog_9_method_9_code
def yX7_drop : MethodName := ⟨RX7, "drop", "(I)Z"⟩
abbrev cX7_source : ByteArray := prog_9_method_10_code
def yX7_source : MethodName := ⟨RX7, "source", "(II)Z"⟩
abbrev cX7_spoil : ByteArray := prog_9_method_11_code
def yX7_spoil : MethodName := ⟨RX7, "spoil", "(I)Z"⟩
abbrev cX7_isOther : ByteArray := prog_9_method_12_code
def yX7_isOther : MethodName := ⟨RX7, "isOther", "(I)Z"⟩
abbrev cX7_why : ByteArray := prog_9_method_13_code
def yX7_why : MethodName := ⟨RX7, "why", "(I)I"⟩
abbrev cX7_reason : ByteArray := prog_9_method_14_code
def yX7_reason : MethodName := ⟨RX7, "reason", "(I)I"⟩
abbrev cX7_takes : ByteArray := prog_9_method_15_code
def yX7_takes : MethodName := ⟨RX7, "takes", "(II)Z"⟩
abbrev cX7_spread : ByteArray := prog_9_method_16_code
def yX7_spread : MethodName := ⟨RX7, "spread", "(I)V"⟩
abbrev cX7_measure : ByteArray := prog_9_method_17_code
def yX7_measure : MethodName := ⟨RX7, "measure", "(I)V"⟩
abbrev cX7_nearest : ByteArray := prog_9_method_18_code
def yX7_nearest : MethodName := ⟨RX7, "nearest", "(I)I"⟩
abbrev cX7_isRound : ByteArray := prog_9_method_19_code
def yX7_isRound : MethodName := ⟨RX7, "isRound", "()Z"⟩
abbrev cX7_isLacking : ByteArray := prog_9_method_20_code
def yX7_isLacking : MethodName := ⟨RX7, "isLacking", "(I)Z"⟩
abbrev cX7_order : ByteArray := prog_9_method_21_code
def yX7_order : MethodName := ⟨RX7, "order", "()V"⟩
abbrev cX7_isReady : ByteArray := prog_9_method_22_code
def yX7_isReady : MethodName := ⟨RX7, "isReady", "(I)Z"⟩
abbrev cX7_end : ByteArray := prog_9_method_23_code
def yX7_end : MethodName := ⟨RX7, "end", "(I)V"⟩
abbrev cX7_pass : ByteArray := prog_9_method_24_code
def yX7_pass : MethodName := ⟨RX7, "pass", "()V"⟩
abbrev cX7_start : ByteArray := prog_9_method_25_code
def yX7_start : MethodName := ⟨RX7, "start", "(II)V"⟩
abbrev cX7_hire : ByteArray := prog_9_method_26_code
def yX7_hire : MethodName := ⟨RX7, "hire", "(I)V"⟩
abbrev cX7_build : ByteArray := prog_9_method_27_code
def yX7_build : MethodName := ⟨RX7, "build", "(II)I"⟩
abbrev cX7_count : ByteArray := prog_9_method_28_code
def yX7_count : MethodName := ⟨RX7, "count", "(I)I"⟩
abbrev cX7_begun : ByteArray := prog_9_method_29_code
def yX7_begun : MethodName := ⟨RX7, "begun", "(II)I"⟩
abbrev cX7_cycle : ByteArray := prog_9_method_30_code
def yX7_cycle : MethodName := ⟨RX7, "cycle", "(I)I"⟩
abbrev cX7_content : ByteArray := prog_9_method_31_code
def yX7_content : MethodName := ⟨RX7, "content", "(I)I"⟩
abbrev cL_build : ByteArray := method_3_code
def yL_build : MethodName := ⟨RL, "build", "(LBuildDesk;II[J)I"⟩
abbrev cL_begun : ByteArray := method_4_code
def yL_begun : MethodName := ⟨RL, "begun", "(LBuildDesk;II[J)I"⟩
abbrev cL_cycle : ByteArray := method_5_code
def yL_cycle : MethodName := ⟨RL, "cycle", "(LBuildDesk;I[J)I"⟩
abbrev cL_content : ByteArray := method_6_code
def yL_content : MethodName := ⟨RL, "content", "(LBuildDesk;I[J)I"⟩
abbrev cL_law : ByteArray := code
def yL_law : MethodName := ⟨RL, "law", "([I)Z"⟩
abbrev vwCl : List vw_C := [(RX0, TX0, 5), (RX1, TX1, 3), (RX2, TX2, 5), (RX3, TX3, 5), (RX4, TX4, 3), (RX5, TX5, 14), (RX6, TX6, 6), (RX7, TX7, 40)]
def tyS : List FieldType := [.int, .boolean, .long, .object "BuildDesk$Step"]
/-! the words that every method takes along -/
def wsG_0 : List Cond := [
  .selects RX6 yX6_isThere yX6_isThere,
  .selects RX6 yX6_isSource yX6_isSource,
  .selects RX6 yX6_countSteps yX6_countSteps,
  .selects RX5 yX5_isToldOtherwise yX5_isToldOtherwise,
  .selects RX5 yX5_outputLacks yX5_outputLacks,
  .selects RX5 yX5_inputDiffers yX5_inputDiffers,
  .selects "java/lang/Throwable" ⟨"java/lang/Throwable", "fillInStackTrace", "(I)Ljava/lang/Throwable;"⟩ ⟨"java/lang/Throwable", "fillInStackTrace", "(I)Ljava/lang/Throwable;"⟩,
  .selects RX4 yX4_measure yX4_measure,
  .selects RX4 yX4_walk yX4_walk,
  .selects RX6 yX6_sourceLacks yX6_sourceLacks,
  .selects RX6 yX6_makeNeeded yX6_makeNeeded,
  .selects RX6 yX6_endSteps yX6_endSteps,
  .selects RX6 yX6_passOverSteps yX6_passOverSteps,
  .selects RX6 yX6_isReady yX6_isReady,
  .selects RX6 yX6_beginSteps yX6_beginSteps,
  .selects RX6 yX6_nextToBegin yX6_nextToBegin,
  .selects RX7 yX7_isStep yX7_isStep,
  .selects RX7 yX7_why yX7_why,
  .selects RX7 yX7_isOther yX7_isOther,
  .selects RX7 yX7_raise yX7_raise,
  .selects RX7 yX7_spread yX7_spread,
  .selects RX7 yX7_takes yX7_takes,
  .selects RX7 yX7_isRound yX7_isRound,
  .selects RX7 yX7_measure yX7_measure,
  .selects RX7 yX7_nearest yX7_nearest]
def wsG_1 : List Cond := [
  .selects RX7 yX7_isLacking yX7_isLacking,
  .selects RX7 yX7_order yX7_order,
  .selects RX7 yX7_end yX7_end,
  .selects RX7 yX7_pass yX7_pass,
  .selects RX7 yX7_isReady yX7_isReady,
  .selects RX7 yX7_hire yX7_hire,
  .selects RX7 yX7_start yX7_start]
def wsG_2 : List Cond := [
  .initialized RL,
  .initialized RX6,
  .initialized RX1,
  .initialized RX5,
  .initialized RX2,
  .initialized RX0,
  .initialized RX3,
  .initialized RX4,
  .initialized RX7,
  .initialized "java/lang/Throwable",
  .initialized "java/lang/Exception",
  .initialized "java/lang/RuntimeException",
  .initialized "java/lang/IllegalArgumentException",
  .initialized "java/lang/IllegalStateException",
  .initialized "java/lang/Math",
  .initialized "java/util/NoSuchElementException",
  .classLink RL 8 RX6,
  .instantiable RX6 6,
  .methodLink RL 29 yX6_init,
  .instanceMethod yX6_init,
  .code yX6_init cX6_init 2 none,
  .methodLink RX6 1 objectInit,
  .instanceMethod objectInit,
  .code objectInit ⟨#[0xb1]⟩ 1 none,
  .classLink RX6 7 RX1]
def wsG_3 : List Cond := [
  .instantiable RX1 3,
  .methodLink RX6 9 yX1_init,
  .instanceMethod yX1_init,
  .code yX1_init cX1_init 2 none,
  .methodLink RX1 3 objectInit,
  .fieldLink RX1 9 "BuildDesk$FileTable" "contents" "[I",
  .fieldLink RX1 15 "BuildDesk$FileTable" "filled" "[Z",
  .fieldLink RX1 19 "BuildDesk$FileTable" "makers" "[I",
  .laysFinal RX1 "BuildDesk$FileTable" "contents" "[I",
  .laysFinal RX1 "BuildDesk$FileTable" "filled" "[Z",
  .laysFinal RX1 "BuildDesk$FileTable" "makers" "[I",
  .arrayClass .int,
  .arrayClass .boolean,
  .classLink RX6 16 RX5,
  .instantiable RX5 14,
  .instanceMethod yX5_init,
  .code yX5_init cX5_init 1 none,
  .methodLink RX5 3 objectInit,
  .fieldLink RX5 21 "BuildDesk$Step" "there" "Z",
  .fieldLink RX5 25 "BuildDesk$Step" "recipe" "I",
  .fieldLink RX5 29 "BuildDesk$Step" "mask" "I",
  .fieldLink RX5 32 "BuildDesk$Step" "duration" "I",
  .fieldLink RX5 9 "BuildDesk$Step" "inputs" "[I",
  .fieldLink RX5 35 "BuildDesk$Step" "inputCount" "I",
  .fieldLink RX5 15 "BuildDesk$Step" "outputs" "[I"]
def wsG_4 : List Cond := [
  .fieldLink RX5 38 "BuildDesk$Step" "outputCount" "I",
  .fieldLink RX5 47 "BuildDesk$Step" "made" "Z",
  .fieldLink RX5 73 "BuildDesk$Step" "madeRecipe" "I",
  .fieldLink RX5 76 "BuildDesk$Step" "madeMask" "I",
  .fieldLink RX5 79 "BuildDesk$Step" "madeInputCount" "I",
  .fieldLink RX5 82 "BuildDesk$Step" "madeOutputCount" "I",
  .fieldLink RX5 18 "BuildDesk$Step" "madeContents" "[I",
  .lays RX5 "BuildDesk$Step" "there" "Z",
  .lays RX5 "BuildDesk$Step" "recipe" "I",
  .lays RX5 "BuildDesk$Step" "mask" "I",
  .lays RX5 "BuildDesk$Step" "duration" "I",
  .laysFinal RX5 "BuildDesk$Step" "inputs" "[I",
  .lays RX5 "BuildDesk$Step" "inputCount" "I",
  .laysFinal RX5 "BuildDesk$Step" "outputs" "[I",
  .lays RX5 "BuildDesk$Step" "outputCount" "I",
  .lays RX5 "BuildDesk$Step" "made" "Z",
  .lays RX5 "BuildDesk$Step" "madeRecipe" "I",
  .lays RX5 "BuildDesk$Step" "madeMask" "I",
  .lays RX5 "BuildDesk$Step" "madeInputCount" "I",
  .lays RX5 "BuildDesk$Step" "madeOutputCount" "I",
  .laysFinal RX5 "BuildDesk$Step" "madeContents" "[I",
  .classLink RX6 23 RX2,
  .instantiable RX2 5,
  .instanceMethod yX2_init,
  .code yX2_init cX2_init 1 none]
def wsG_5 : List Cond := [
  .methodLink RX2 3 objectInit,
  .fieldLink RX2 9 "BuildDesk$Plan" "waits" "[J",
  .fieldLink RX2 15 "BuildDesk$Plan" "line" "[I",
  .fieldLink RX2 40 "BuildDesk$Plan" "lined" "I",
  .fieldLink RX2 19 "BuildDesk$Plan" "rank" "[I",
  .fieldLink RX2 32 "BuildDesk$Plan" "needed" "J",
  .laysFinal RX2 "BuildDesk$Plan" "waits" "[J",
  .laysFinal RX2 "BuildDesk$Plan" "line" "[I",
  .lays RX2 "BuildDesk$Plan" "lined" "I",
  .laysFinal RX2 "BuildDesk$Plan" "rank" "[I",
  .lays RX2 "BuildDesk$Plan" "needed" "J",
  .arrayClass .long,
  .classLink RX6 30 RX0,
  .instantiable RX0 5,
  .instanceMethod yX0_init,
  .code yX0_init cX0_init 1 none,
  .methodLink RX0 3 objectInit,
  .fieldLink RX0 9 "BuildDesk$Crew" "busy" "[Z",
  .fieldLink RX0 15 "BuildDesk$Crew" "workerOf" "[I",
  .fieldLink RX0 19 "BuildDesk$Crew" "endOf" "[I",
  .fieldLink RX0 22 "BuildDesk$Crew" "running" "J",
  .fieldLink RX0 26 "BuildDesk$Crew" "done" "J",
  .laysFinal RX0 "BuildDesk$Crew" "busy" "[Z",
  .laysFinal RX0 "BuildDesk$Crew" "workerOf" "[I",
  .laysFinal RX0 "BuildDesk$Crew" "endOf" "[I"]
def wsG_6 : List Cond := [
  .lays RX0 "BuildDesk$Crew" "running" "J",
  .lays RX0 "BuildDesk$Crew" "done" "J",
  .classLink RX6 37 RX3,
  .instantiable RX3 5,
  .instanceMethod yX3_init,
  .code yX3_init cX3_init 1 none,
  .methodLink RX3 3 objectInit,
  .fieldLink RX3 21 "BuildDesk$Report" "needed" "I",
  .fieldLink RX3 24 "BuildDesk$Report" "begun" "I",
  .fieldLink RX3 27 "BuildDesk$Report" "busyTime" "I",
  .fieldLink RX3 34 "BuildDesk$Report" "greatestRank" "I",
  .fieldLink RX3 11 "BuildDesk$Report" "cells" "[I",
  .lays RX3 "BuildDesk$Report" "needed" "I",
  .lays RX3 "BuildDesk$Report" "begun" "I",
  .lays RX3 "BuildDesk$Report" "busyTime" "I",
  .lays RX3 "BuildDesk$Report" "greatestRank" "I",
  .laysFinal RX3 "BuildDesk$Report" "cells" "[I",
  .classLink RX6 44 RX4,
  .instantiable RX4 3,
  .instanceMethod yX4_init,
  .code yX4_init cX4_init 1 none,
  .methodLink RX4 3 objectInit,
  .fieldLink RX4 9 "BuildDesk$Round" "members" "[I",
  .fieldLink RX4 52 "BuildDesk$Round" "length" "I",
  .fieldLink RX4 15 "BuildDesk$Round" "near" "[J"]
def wsG_7 : List Cond := [
  .laysFinal RX4 "BuildDesk$Round" "members" "[I",
  .lays RX4 "BuildDesk$Round" "length" "I",
  .laysFinal RX4 "BuildDesk$Round" "near" "[J",
  .fieldLink RX6 10 "BuildDesk" "files" "LBuildDesk$FileTable;",
  .fieldLink RX6 18 "BuildDesk" "steps" "[LBuildDesk$Step;",
  .fieldLink RX6 26 "BuildDesk" "plan" "LBuildDesk$Plan;",
  .fieldLink RX6 33 "BuildDesk" "crew" "LBuildDesk$Crew;",
  .fieldLink RX6 40 "BuildDesk" "report" "LBuildDesk$Report;",
  .fieldLink RX6 47 "BuildDesk" "round" "LBuildDesk$Round;",
  .laysFinal RX6 "BuildDesk" "files" "LBuildDesk$FileTable;",
  .laysFinal RX6 "BuildDesk" "steps" "[LBuildDesk$Step;",
  .laysFinal RX6 "BuildDesk" "plan" "LBuildDesk$Plan;",
  .laysFinal RX6 "BuildDesk" "crew" "LBuildDesk$Crew;",
  .laysFinal RX6 "BuildDesk" "report" "LBuildDesk$Report;",
  .laysFinal RX6 "BuildDesk" "round" "LBuildDesk$Round;",
  .methodLink RL 33 yX6_step,
  .instanceMethod yX6_step,
  .selects RX6 yX6_step yX6_step,
  .code yX6_step cX6_step 5 (some .boolean),
  .methodLink RX6 51 yX6_isStepNumber,
  .static yX6_isStepNumber,
  .code yX6_isStepNumber cX6_isStepNumber 1 (some .boolean),
  .methodLink RX6 55 yX5_tell,
  .instanceMethod yX5_tell,
  .selects RX5 yX5_tell yX5_tell]
def wsG_8 : List Cond := [
  .code yX5_tell cX5_tell 4 none,
  .methodLink RL 38 yX6_input,
  .instanceMethod yX6_input,
  .selects RX6 yX6_input yX6_input,
  .code yX6_input cX6_input 3 (some .boolean),
  .methodLink RX6 59 yX6_isThere,
  .instanceMethod yX6_isThere,
  .code yX6_isThere cX6_isThere 2 (some .boolean),
  .methodLink RX6 62 yX6_isFile,
  .static yX6_isFile,
  .code yX6_isFile cX6_isFile 1 (some .boolean),
  .methodLink RX6 65 yX5_addInput,
  .instanceMethod yX5_addInput,
  .selects RX5 yX5_addInput yX5_addInput,
  .code yX5_addInput cX5_addInput 2 (some .boolean),
  .methodLink RL 43 yX6_output,
  .instanceMethod yX6_output,
  .selects RX6 yX6_output yX6_output,
  .code yX6_output cX6_output 3 (some .boolean),
  .methodLink RX6 68 yX6_isSource]
def wsG_9 : List Cond := [
  .instanceMethod yX6_isSource,
  .code yX6_isSource cX6_isSource 2 (some .boolean),
  .methodLink RX6 97 yX1_makerOf,
  .instanceMethod yX1_makerOf,
  .selects RX1 yX1_makerOf yX1_makerOf,
  .code yX1_makerOf cX1_makerOf 2 (some .int),
  .methodLink RX6 71 yX5_addOutput,
  .instanceMethod yX5_addOutput,
  .selects RX5 yX5_addOutput yX5_addOutput,
  .code yX5_addOutput cX5_addOutput 2 (some .boolean),
  .methodLink RX6 74 yX1_setMaker,
  .instanceMethod yX1_setMaker,
  .selects RX1 yX1_setMaker yX1_setMaker,
  .code yX1_setMaker cX1_setMaker 3 none,
  .methodLink RL 47 yX6_drop,
  .instanceMethod yX6_drop,
  .selects RX6 yX6_drop yX6_drop,
  .code yX6_drop cX6_drop 2 (some .boolean),
  .methodLink RX6 78 yX5_leave,
  .instanceMethod yX5_leave,
  .selects RX5 yX5_leave yX5_leave,
  .code yX5_leave cX5_leave 3 none,
  .methodLink RX5 41 yX1_setMaker,
  .methodLink RL 52 yX6_source,
  .instanceMethod yX6_source]
def wsG_10 : List Cond := [
  .selects RX6 yX6_source yX6_source,
  .code yX6_source cX6_source 3 (some .boolean),
  .methodLink RX6 82 yX1_fill,
  .instanceMethod yX1_fill,
  .selects RX1 yX1_fill yX1_fill,
  .code yX1_fill cX1_fill 3 none,
  .methodLink RL 56 yX6_spoil,
  .instanceMethod yX6_spoil,
  .selects RX6 yX6_spoil yX6_spoil,
  .code yX6_spoil cX6_spoil 2 (some .boolean),
  .methodLink RX6 85 yX1_empty,
  .instanceMethod yX1_empty,
  .selects RX1 yX1_empty yX1_empty,
  .code yX1_empty cX1_empty 3 (some .boolean),
  .methodLink RL 70 yX6_count,
  .instanceMethod yX6_count,
  .selects RX6 yX6_count yX6_count,
  .code yX6_count cX6_count 2 (some .int),
  .methodLink RX6 146 yX1_countFilled,
  .instanceMethod yX1_countFilled,
  .selects RX1 yX1_countFilled yX1_countFilled,
  .code yX1_countFilled cX1_countFilled 3 (some .int),
  .methodLink RX6 150 yX6_countSteps,
  .instanceMethod yX6_countSteps,
  .code yX6_countSteps cX6_countSteps 3 (some .int)]
def wsG_11 : List Cond := [
  .methodLink RL 84 yX6_reason,
  .instanceMethod yX6_reason,
  .selects RX6 yX6_reason yX6_reason,
  .code yX6_reason cX6_reason 2 (some .int),
  .methodLink RX6 179 yX5_whyDue,
  .instanceMethod yX5_whyDue,
  .selects RX5 yX5_whyDue yX5_whyDue,
  .code yX5_whyDue cX5_whyDue 2 (some .int),
  .methodLink RX5 62 yX5_isToldOtherwise,
  .instanceMethod yX5_isToldOtherwise,
  .code yX5_isToldOtherwise cX5_isToldOtherwise 1 (some .boolean),
  .methodLink RX5 66 yX5_outputLacks,
  .instanceMethod yX5_outputLacks,
  .code yX5_outputLacks cX5_outputLacks 3 (some .boolean),
  .methodLink RX5 85 yX1_isFilled,
  .instanceMethod yX1_isFilled,
  .selects RX1 yX1_isFilled yX1_isFilled,
  .code yX1_isFilled cX1_isFilled 2 (some .boolean),
  .methodLink RX5 70 yX5_inputDiffers,
  .instanceMethod yX5_inputDiffers,
  .code yX5_inputDiffers cX5_inputDiffers 4 (some .boolean),
  .methodLink RX5 88 yX1_contentOf,
  .instanceMethod yX1_contentOf,
  .selects RX1 yX1_contentOf yX1_contentOf,
  .code yX1_contentOf cX1_contentOf 2 (some .int)]
def wsG_12 : List Cond := [
  .methodLink RL 60 yL_build,
  .static yL_build,
  .classLink RL 13 "java/lang/IllegalArgumentException",
  .classLink RL 15 "java/lang/IllegalStateException",
  .methodLink RL 7 yX6_build,
  .instanceMethod yX6_build,
  .selects RX6 yX6_build yX6_build,
  .code yX6_build cX6_build 3 (some .int),
  .classLink RX6 88 "java/lang/IllegalArgumentException",
  .instantiable "java/lang/IllegalArgumentException" 6,
  .selects "java/lang/IllegalArgumentException" ⟨"java/lang/Throwable", "fillInStackTrace", "(I)Ljava/lang/Throwable;"⟩ ⟨"java/lang/Throwable", "fillInStackTrace", "(I)Ljava/lang/Throwable;"⟩,
  .selects "java/lang/IllegalArgumentException" ⟨"java/lang/Throwable", "fillInStackTrace", "()Ljava/lang/Throwable;"⟩ ⟨"java/lang/Throwable", "fillInStackTrace", "()Ljava/lang/Throwable;"⟩,
  .lays "java/lang/IllegalArgumentException" "java/lang/Throwable" "cause" "Ljava/lang/Throwable;",
  .lays "java/lang/Throwable" "java/lang/Throwable" "cause" "Ljava/lang/Throwable;",
  .lays "java/lang/IllegalArgumentException" "java/lang/Throwable" "stackTrace" "[Ljava/lang/StackTraceElement;",
  .lays "java/lang/Throwable" "java/lang/Throwable" "stackTrace" "[Ljava/lang/StackTraceElement;",
  .lays "java/lang/IllegalArgumentException" "java/lang/Throwable" "suppressedExceptions" "Ljava/util/List;",
  .lays "java/lang/Throwable" "java/lang/Throwable" "suppressedExceptions" "Ljava/util/List;",
  .lays "java/lang/IllegalArgumentException" "java/lang/Throwable" "detailMessage" "Ljava/lang/String;",
  .lays "java/lang/Throwable" "java/lang/Throwable" "detailMessage" "Ljava/lang/String;",
  .lays "java/lang/IllegalArgumentException" "java/lang/Throwable" "backtrace" "Ljava/lang/Object;",
  .lays "java/lang/Throwable" "java/lang/Throwable" "backtrace" "Ljava/lang/Object;",
  .fieldLink "java/lang/Throwable" 198 "java/lang/Throwable" "backtrace" "Ljava/lang/Object;",
  .instanceMethod ⟨"java/lang/Throwable", "<init>", "()V"⟩,
  .code ⟨"java/lang/Throwable", "<init>", "()V"⟩ prog_16_method_1_code 1 none]
def wsG_13 : List Cond := [
  .methodLink "java/lang/Throwable" 1 objectInit,
  .fieldLink "java/lang/Throwable" 13 "java/lang/Throwable" "UNASSIGNED_STACK" "[Ljava/lang/StackTraceElement;",
  .fieldLink "java/lang/Throwable" 20 "java/lang/Throwable" "SUPPRESSED_SENTINEL" "Ljava/util/List;",
  .methodLink "java/lang/Throwable" 27 ⟨"java/lang/Throwable", "fillInStackTrace", "()Ljava/lang/Throwable;"⟩,
  .instanceMethod ⟨"java/lang/Throwable", "fillInStackTrace", "()Ljava/lang/Throwable;"⟩,
  .selects "java/lang/IllegalStateException" ⟨"java/lang/Throwable", "fillInStackTrace", "()Ljava/lang/Throwable;"⟩ ⟨"java/lang/Throwable", "fillInStackTrace", "()Ljava/lang/Throwable;"⟩,
  .selects "java/util/NoSuchElementException" ⟨"java/lang/Throwable", "fillInStackTrace", "()Ljava/lang/Throwable;"⟩ ⟨"java/lang/Throwable", "fillInStackTrace", "()Ljava/lang/Throwable;"⟩,
  .methodLink "java/lang/Throwable" 202 ⟨"java/lang/Throwable", "fillInStackTrace", "(I)Ljava/lang/Throwable;"⟩,
  .instanceMethod ⟨"java/lang/Throwable", "fillInStackTrace", "(I)Ljava/lang/Throwable;"⟩,
  .instantiable "java/lang/Throwable" 6,
  .methodLink RX6 92 ⟨"java/lang/IllegalArgumentException", "<init>", "(Ljava/lang/String;)V"⟩,
  .instanceMethod ⟨"java/lang/IllegalArgumentException", "<init>", "(Ljava/lang/String;)V"⟩,
  .code ⟨"java/lang/IllegalArgumentException", "<init>", "(Ljava/lang/String;)V"⟩ prog_11_method_2_code 2 none,
  .methodLink "java/lang/IllegalArgumentException" 7 ⟨"java/lang/RuntimeException", "<init>", "(Ljava/lang/String;)V"⟩,
  .instanceMethod ⟨"java/lang/RuntimeException", "<init>", "(Ljava/lang/String;)V"⟩,
  .code ⟨"java/lang/RuntimeException", "<init>", "(Ljava/lang/String;)V"⟩ prog_14_method_2_code 2 none,
  .methodLink "java/lang/RuntimeException" 7 ⟨"java/lang/Exception", "<init>", "(Ljava/lang/String;)V"⟩,
  .instanceMethod ⟨"java/lang/Exception", "<init>", "(Ljava/lang/String;)V"⟩,
  .code ⟨"java/lang/Exception", "<init>", "(Ljava/lang/String;)V"⟩ prog_10_method_2_code 2 none,
  .methodLink "java/lang/Exception" 7 ⟨"java/lang/Throwable", "<init>", "(Ljava/lang/String;)V"⟩,
  .instanceMethod ⟨"java/lang/Throwable", "<init>", "(Ljava/lang/String;)V"⟩,
  .code ⟨"java/lang/Throwable", "<init>", "(Ljava/lang/String;)V"⟩ prog_16_method_2_code 2 none,
  .fieldLink "java/lang/Throwable" 31 "java/lang/Throwable" "detailMessage" "Ljava/lang/String;",
  .fieldLink "java/lang/Throwable" 7 "java/lang/Throwable" "cause" "Ljava/lang/Throwable;",
  .fieldLink "java/lang/Throwable" 17 "java/lang/Throwable" "stackTrace" "[Ljava/lang/StackTraceElement;"]
def wsG_14 : List Cond := [
  .fieldLink "java/lang/Throwable" 24 "java/lang/Throwable" "suppressedExceptions" "Ljava/util/List;",
  .lays "java/lang/IllegalArgumentException" "java/lang/Throwable" "depth" "I",
  .arrayClass .byte,
  .methodLink RX6 101 yX2_findNeeded,
  .instanceMethod yX2_findNeeded,
  .selects RX2 yX2_findNeeded yX2_findNeeded,
  .code yX2_findNeeded cX2_findNeeded 9 none,
  .methodLink RX2 22 yX5_waitsFor,
  .instanceMethod yX5_waitsFor,
  .selects RX5 yX5_waitsFor yX5_waitsFor,
  .code yX5_waitsFor cX5_waitsFor 6 (some .long),
  .methodLink RX5 50 yX1_makerOf,
  .static yX6_bit,
  .code yX6_bit cX6_bit 1 (some .long),
  .static yX6_isIn,
  .code yX6_isIn cX6_isIn 3 (some .boolean),
  .methodLink RX6 183 yX6_bit,
  .methodLink RX6 105 yX2_lineUp,
  .instanceMethod yX2_lineUp,
  .selects RX2 yX2_lineUp yX2_lineUp,
  .code yX2_lineUp cX2_lineUp 5 (some .boolean),
  .constantLong RX2 44 (-1),
  .methodLink RX6 109 yX4_find,
  .instanceMethod yX4_find,
  .selects RX4 yX4_find yX4_find]
def wsG_15 : List Cond := [
  .code yX4_find cX4_find 4 none,
  .methodLink RX4 29 yX4_measure,
  .instanceMethod yX4_measure,
  .code yX4_measure cX4_measure 4 (some .int),
  .methodLink RX4 41 yX2_waitingFor,
  .instanceMethod yX2_waitingFor,
  .selects RX2 yX2_waitingFor yX2_waitingFor,
  .code yX2_waitingFor cX2_waitingFor 6 (some .long),
  .methodLink RX4 33 yX4_walk,
  .instanceMethod yX4_walk,
  .code yX4_walk cX4_walk 6 none,
  .methodLink RX4 48 yX4_least,
  .static yX4_least,
  .code yX4_least cX4_least 4 (some .int),
  .classLink RX6 113 "java/lang/IllegalStateException",
  .instantiable "java/lang/IllegalStateException" 6,
  .selects "java/lang/IllegalStateException" ⟨"java/lang/Throwable", "fillInStackTrace", "(I)Ljava/lang/Throwable;"⟩ ⟨"java/lang/Throwable", "fillInStackTrace", "(I)Ljava/lang/Throwable;"⟩,
  .lays "java/lang/IllegalStateException" "java/lang/Throwable" "cause" "Ljava/lang/Throwable;",
  .lays "java/lang/IllegalStateException" "java/lang/Throwable" "stackTrace" "[Ljava/lang/StackTraceElement;",
  .lays "java/lang/IllegalStateException" "java/lang/Throwable" "suppressedExceptions" "Ljava/util/List;",
  .lays "java/lang/IllegalStateException" "java/lang/Throwable" "detailMessage" "Ljava/lang/String;",
  .lays "java/lang/IllegalStateException" "java/lang/Throwable" "backtrace" "Ljava/lang/Object;",
  .methodLink RX6 117 ⟨"java/lang/IllegalStateException", "<init>", "(Ljava/lang/String;)V"⟩,
  .instanceMethod ⟨"java/lang/IllegalStateException", "<init>", "(Ljava/lang/String;)V"⟩,
  .code ⟨"java/lang/IllegalStateException", "<init>", "(Ljava/lang/String;)V"⟩ prog_12_method_2_code 2 none]
def wsG_16 : List Cond := [
  .methodLink "java/lang/IllegalStateException" 7 ⟨"java/lang/RuntimeException", "<init>", "(Ljava/lang/String;)V"⟩,
  .lays "java/lang/IllegalStateException" "java/lang/Throwable" "depth" "I",
  .methodLink RX6 118 yX6_sourceLacks,
  .instanceMethod yX6_sourceLacks,
  .code yX6_sourceLacks cX6_sourceLacks 3 (some .boolean),
  .methodLink RX6 191 yX1_lacksSource,
  .instanceMethod yX1_lacksSource,
  .selects RX1 yX1_lacksSource yX1_lacksSource,
  .code yX1_lacksSource cX1_lacksSource 2 (some .boolean),
  .methodLink RX6 197 yX6_isIn,
  .methodLink RX6 201 yX5_lacksSource,
  .instanceMethod yX5_lacksSource,
  .selects RX5 yX5_lacksSource yX5_lacksSource,
  .code yX5_lacksSource cX5_lacksSource 3 (some .boolean),
  .methodLink RX5 58 yX1_lacksSource,
  .methodLink RX6 123 yX2_rankSteps,
  .instanceMethod yX2_rankSteps,
  .selects RX2 yX2_rankSteps yX2_rankSteps,
  .code yX2_rankSteps cX2_rankSteps 5 none,
  .methodLink RX2 49 Lib.Math.max.name,
  .static Lib.Math.max.name,
  .code Lib.Math.max.name Lib.Math.max.code 2 (some .int),
  .methodLink RX6 127 yX3_open]
def wsG_17 : List Cond := [
  .instanceMethod yX3_open,
  .selects RX3 yX3_open yX3_open,
  .code yX3_open cX3_open 2 none,
  .methodLink RX3 30 yX2_greatestRank,
  .instanceMethod yX2_greatestRank,
  .selects RX2 yX2_greatestRank yX2_greatestRank,
  .code yX2_greatestRank cX2_greatestRank 3 (some .int),
  .methodLink RX6 130 yX6_makeNeeded,
  .instanceMethod yX6_makeNeeded,
  .code yX6_makeNeeded cX6_makeNeeded 5 (some .int),
  .methodLink RX6 204 yX0_comeIn,
  .instanceMethod yX0_comeIn,
  .selects RX0 yX0_comeIn yX0_comeIn,
  .code yX0_comeIn cX0_comeIn 2 none,
  .methodLink RX6 207 yX6_endSteps,
  .instanceMethod yX6_endSteps,
  .code yX6_endSteps cX6_endSteps 3 none,
  .methodLink RX6 220 yX0_endsAt,
  .instanceMethod yX0_endsAt,
  .selects RX0 yX0_endsAt yX0_endsAt,
  .code yX0_endsAt cX0_endsAt 3 (some .boolean),
  .methodLink RX6 224 yX5_make,
  .instanceMethod yX5_make,
  .selects RX5 yX5_make yX5_make,
  .code yX5_make cX5_make 5 none]
def wsG_18 : List Cond := [
  .constant RX5 91 16777619,
  .methodLink RX5 92 yX1_fill,
  .methodLink RX6 227 yX0_end,
  .instanceMethod yX0_end,
  .selects RX0 yX0_end yX0_end,
  .code yX0_end cX0_end 2 none,
  .constantLong RX0 33 (-1),
  .methodLink RX6 211 yX6_passOverSteps,
  .instanceMethod yX6_passOverSteps,
  .code yX6_passOverSteps cX6_passOverSteps 4 none,
  .methodLink RX6 230 yX6_isReady,
  .instanceMethod yX6_isReady,
  .code yX6_isReady cX6_isReady 2 (some .boolean),
  .methodLink RX6 255 yX0_isOpen,
  .instanceMethod yX0_isOpen,
  .selects RX0 yX0_isOpen yX0_isOpen,
  .code yX0_isOpen cX0_isOpen 2 (some .boolean),
  .methodLink RX6 262 yX0_areDone,
  .instanceMethod yX0_areDone,
  .selects RX0 yX0_areDone yX0_areDone,
  .code yX0_areDone cX0_areDone 3 (some .boolean),
  .methodLink RX6 233 yX0_passOver,
  .instanceMethod yX0_passOver,
  .selects RX0 yX0_passOver yX0_passOver,
  .code yX0_passOver cX0_passOver 2 none]
def wsG_19 : List Cond := [
  .methodLink RX6 214 yX6_beginSteps,
  .instanceMethod yX6_beginSteps,
  .code yX6_beginSteps cX6_beginSteps 6 none,
  .methodLink RX6 236 yX0_isBusy,
  .instanceMethod yX0_isBusy,
  .selects RX0 yX0_isBusy yX0_isBusy,
  .code yX0_isBusy cX0_isBusy 2 (some .boolean),
  .methodLink RX6 239 yX6_nextToBegin,
  .instanceMethod yX6_nextToBegin,
  .code yX6_nextToBegin cX6_nextToBegin 4 (some .int),
  .methodLink RX6 245 yX3_add,
  .instanceMethod yX3_add,
  .selects RX3 yX3_add yX3_add,
  .code yX3_add cX3_add 7 none,
  .methodLink RX6 249 yX0_begin,
  .instanceMethod yX0_begin,
  .selects RX0 yX0_begin yX0_begin,
  .code yX0_begin cX0_begin 4 none,
  .methodLink RX6 217 yX0_nextEnd,
  .instanceMethod yX0_nextEnd,
  .selects RX0 yX0_nextEnd yX0_nextEnd,
  .code yX0_nextEnd cX0_nextEnd 3 (some .int),
  .methodLink RL 74 yL_begun,
  .static yL_begun,
  .classLink RL 20 "java/util/NoSuchElementException"]
def wsG_20 : List Cond := [
  .methodLink RL 17 yX6_begun,
  .instanceMethod yX6_begun,
  .selects RX6 yX6_begun yX6_begun,
  .code yX6_begun cX6_begun 3 (some .int),
  .classLink RX6 153 "java/util/NoSuchElementException",
  .instantiable "java/util/NoSuchElementException" 6,
  .selects "java/util/NoSuchElementException" ⟨"java/lang/Throwable", "fillInStackTrace", "(I)Ljava/lang/Throwable;"⟩ ⟨"java/lang/Throwable", "fillInStackTrace", "(I)Ljava/lang/Throwable;"⟩,
  .lays "java/util/NoSuchElementException" "java/lang/Throwable" "cause" "Ljava/lang/Throwable;",
  .lays "java/util/NoSuchElementException" "java/lang/Throwable" "stackTrace" "[Ljava/lang/StackTraceElement;",
  .lays "java/util/NoSuchElementException" "java/lang/Throwable" "suppressedExceptions" "Ljava/util/List;",
  .lays "java/util/NoSuchElementException" "java/lang/Throwable" "detailMessage" "Ljava/lang/String;",
  .lays "java/util/NoSuchElementException" "java/lang/Throwable" "backtrace" "Ljava/lang/Object;",
  .methodLink RX6 157 ⟨"java/util/NoSuchElementException", "<init>", "(Ljava/lang/String;)V"⟩,
  .instanceMethod ⟨"java/util/NoSuchElementException", "<init>", "(Ljava/lang/String;)V"⟩,
  .code ⟨"java/util/NoSuchElementException", "<init>", "(Ljava/lang/String;)V"⟩ prog_17_method_4_code 2 none,
  .methodLink "java/util/NoSuchElementException" 13 ⟨"java/lang/RuntimeException", "<init>", "(Ljava/lang/String;)V"⟩,
  .lays "java/util/NoSuchElementException" "java/lang/Throwable" "depth" "I",
  .methodLink RX6 158 yX3_cell,
  .instanceMethod yX3_cell,
  .selects RX3 yX3_cell yX3_cell,
  .code yX3_cell cX3_cell 3 (some .int),
  .methodLink RL 77 yL_cycle,
  .static yL_cycle,
  .methodLink RL 22 yX6_cycle,
  .instanceMethod yX6_cycle]
def wsG_21 : List Cond := [
  .selects RX6 yX6_cycle yX6_cycle,
  .code yX6_cycle cX6_cycle 2 (some .int),
  .methodLink RL 81 yL_content,
  .static yL_content,
  .methodLink RL 26 yX6_content,
  .instanceMethod yX6_content,
  .selects RX6 yX6_content yX6_content,
  .code yX6_content cX6_content 2 (some .int),
  .methodLink RX6 171 yX1_isFilled,
  .methodLink RX6 176 yX1_contentOf,
  .classLink RL 30 RX7,
  .instantiable RX7 40,
  .methodLink RL 32 yX7_init,
  .instanceMethod yX7_init,
  .code yX7_init cX7_init 2 none,
  .methodLink RX7 1 objectInit,
  .fieldLink RX7 110 "BuildDeskModel" "thrown" "I",
  .fieldLink RX7 7 "BuildDeskModel" "has" "[Z",
  .fieldLink RX7 13 "BuildDeskModel" "contents" "[I",
  .fieldLink RX7 17 "BuildDeskModel" "maker" "[I",
  .fieldLink RX7 20 "BuildDeskModel" "there" "[Z",
  .fieldLink RX7 23 "BuildDeskModel" "recipe" "[I",
  .fieldLink RX7 26 "BuildDeskModel" "mask" "[I",
  .fieldLink RX7 29 "BuildDeskModel" "duration" "[I",
  .fieldLink RX7 32 "BuildDeskModel" "inputs" "[I"]
def wsG_22 : List Cond := [
  .fieldLink RX7 35 "BuildDeskModel" "outputs" "[I",
  .fieldLink RX7 38 "BuildDeskModel" "ins" "[I",
  .fieldLink RX7 41 "BuildDeskModel" "outs" "[I",
  .fieldLink RX7 44 "BuildDeskModel" "made" "[Z",
  .fieldLink RX7 47 "BuildDeskModel" "oldRecipe" "[I",
  .fieldLink RX7 50 "BuildDeskModel" "oldMask" "[I",
  .fieldLink RX7 53 "BuildDeskModel" "oldInputs" "[I",
  .fieldLink RX7 56 "BuildDeskModel" "oldOutputs" "[I",
  .fieldLink RX7 59 "BuildDeskModel" "oldIns" "[I",
  .fieldLink RX7 62 "BuildDeskModel" "oldOuts" "[I",
  .fieldLink RX7 65 "BuildDeskModel" "oldContents" "[I",
  .fieldLink RX7 68 "BuildDeskModel" "needed" "[Z",
  .fieldLink RX7 71 "BuildDeskModel" "rank" "[I",
  .fieldLink RX7 74 "BuildDeskModel" "state" "[I",
  .fieldLink RX7 77 "BuildDeskModel" "ends" "[I",
  .fieldLink RX7 80 "BuildDeskModel" "mixed" "[I",
  .fieldLink RX7 83 "BuildDeskModel" "worker" "[I",
  .fieldLink RX7 86 "BuildDeskModel" "busy" "[Z",
  .fieldLink RX7 149 "BuildDeskModel" "now" "I",
  .fieldLink RX7 146 "BuildDeskModel" "told" "I",
  .fieldLink RX7 175 "BuildDeskModel" "neededMany" "I",
  .fieldLink RX7 152 "BuildDeskModel" "busyTime" "I",
  .fieldLink RX7 178 "BuildDeskModel" "greatest" "I",
  .fieldLink RX7 89 "BuildDeskModel" "toldStep" "[I",
  .fieldLink RX7 92 "BuildDeskModel" "toldBegin" "[I"]
def wsG_23 : List Cond := [
  .fieldLink RX7 95 "BuildDeskModel" "toldEnd" "[I",
  .fieldLink RX7 98 "BuildDeskModel" "toldWorker" "[I",
  .fieldLink RX7 101 "BuildDeskModel" "toldReason" "[I",
  .fieldLink RX7 139 "BuildDeskModel" "roundLong" "I",
  .fieldLink RX7 104 "BuildDeskModel" "round" "[I",
  .fieldLink RX7 107 "BuildDeskModel" "far" "[I",
  .lays RX7 "BuildDeskModel" "thrown" "I",
  .laysFinal RX7 "BuildDeskModel" "has" "[Z",
  .laysFinal RX7 "BuildDeskModel" "contents" "[I",
  .laysFinal RX7 "BuildDeskModel" "maker" "[I",
  .laysFinal RX7 "BuildDeskModel" "there" "[Z",
  .laysFinal RX7 "BuildDeskModel" "recipe" "[I",
  .laysFinal RX7 "BuildDeskModel" "mask" "[I",
  .laysFinal RX7 "BuildDeskModel" "duration" "[I",
  .laysFinal RX7 "BuildDeskModel" "inputs" "[I",
  .laysFinal RX7 "BuildDeskModel" "outputs" "[I",
  .laysFinal RX7 "BuildDeskModel" "ins" "[I",
  .laysFinal RX7 "BuildDeskModel" "outs" "[I",
  .laysFinal RX7 "BuildDeskModel" "made" "[Z",
  .laysFinal RX7 "BuildDeskModel" "oldRecipe" "[I",
  .laysFinal RX7 "BuildDeskModel" "oldMask" "[I",
  .laysFinal RX7 "BuildDeskModel" "oldInputs" "[I",
  .laysFinal RX7 "BuildDeskModel" "oldOutputs" "[I",
  .laysFinal RX7 "BuildDeskModel" "oldIns" "[I",
  .laysFinal RX7 "BuildDeskModel" "oldOuts" "[I"]
def wsG_24 : List Cond := [
  .laysFinal RX7 "BuildDeskModel" "oldContents" "[I",
  .laysFinal RX7 "BuildDeskModel" "needed" "[Z",
  .laysFinal RX7 "BuildDeskModel" "rank" "[I",
  .laysFinal RX7 "BuildDeskModel" "state" "[I",
  .laysFinal RX7 "BuildDeskModel" "ends" "[I",
  .laysFinal RX7 "BuildDeskModel" "mixed" "[I",
  .laysFinal RX7 "BuildDeskModel" "worker" "[I",
  .laysFinal RX7 "BuildDeskModel" "busy" "[Z",
  .lays RX7 "BuildDeskModel" "now" "I",
  .lays RX7 "BuildDeskModel" "told" "I",
  .lays RX7 "BuildDeskModel" "neededMany" "I",
  .lays RX7 "BuildDeskModel" "busyTime" "I",
  .lays RX7 "BuildDeskModel" "greatest" "I",
  .laysFinal RX7 "BuildDeskModel" "toldStep" "[I",
  .laysFinal RX7 "BuildDeskModel" "toldBegin" "[I"]
def wsG_25 : List Cond := [
  .laysFinal RX7 "BuildDeskModel" "toldEnd" "[I",
  .laysFinal RX7 "BuildDeskModel" "toldWorker" "[I",
  .laysFinal RX7 "BuildDeskModel" "toldReason" "[I",
  .lays RX7 "BuildDeskModel" "roundLong" "I",
  .laysFinal RX7 "BuildDeskModel" "round" "[I",
  .laysFinal RX7 "BuildDeskModel" "far" "[I",
  .methodLink RL 66 yX7_thrown,
  .instanceMethod yX7_thrown,
  .selects RX7 yX7_thrown yX7_thrown,
  .code yX7_thrown cX7_thrown 1 (some .int),
  .methodLink RL 37 yX7_step,
  .instanceMethod yX7_step,
  .selects RX7 yX7_step yX7_step,
  .code yX7_step cX7_step 5 (some .boolean),
  .methodLink RL 42 yX7_input,
  .instanceMethod yX7_input,
  .selects RX7 yX7_input yX7_input,
  .code yX7_input cX7_input 3 (some .boolean),
  .methodLink RX7 114 yX7_isStep,
  .instanceMethod yX7_isStep,
  .code yX7_isStep cX7_isStep 2 (some .boolean),
  .methodLink RX7 118 yX7_isFile,
  .static yX7_isFile,
  .code yX7_isFile cX7_isFile 1 (some .boolean),
  .methodLink RL 46 yX7_output]
def wsG_26 : List Cond := [
  .instanceMethod yX7_output,
  .selects RX7 yX7_output yX7_output,
  .code yX7_output cX7_output 3 (some .boolean),
  .methodLink RL 51 yX7_drop,
  .instanceMethod yX7_drop,
  .selects RX7 yX7_drop yX7_drop,
  .code yX7_drop cX7_drop 3 (some .boolean),
  .methodLink RL 55 yX7_source,
  .instanceMethod yX7_source,
  .selects RX7 yX7_source yX7_source,
  .code yX7_source cX7_source 3 (some .boolean),
  .methodLink RL 59 yX7_spoil,
  .instanceMethod yX7_spoil,
  .selects RX7 yX7_spoil yX7_spoil,
  .code yX7_spoil cX7_spoil 2 (some .boolean),
  .methodLink RL 87 yX7_reason,
  .instanceMethod yX7_reason,
  .selects RX7 yX7_reason yX7_reason,
  .code yX7_reason cX7_reason 2 (some .int),
  .methodLink RX7 124 yX7_why,
  .instanceMethod yX7_why,
  .code yX7_why cX7_why 6 (some .int),
  .methodLink RX7 121 yX7_isOther,
  .instanceMethod yX7_isOther,
  .code yX7_isOther cX7_isOther 4 (some .boolean)]
def wsG_27 : List Cond := [
  .methodLink RL 65 yX7_build,
  .instanceMethod yX7_build,
  .selects RX7 yX7_build yX7_build,
  .code yX7_build cX7_build 6 (some .int),
  .methodLink RX7 159 yX7_raise,
  .instanceMethod yX7_raise,
  .code yX7_raise cX7_raise 2 (some .int),
  .methodLink RX7 162 yX7_spread,
  .instanceMethod yX7_spread,
  .code yX7_spread cX7_spread 6 none,
  .methodLink RX7 128 yX7_takes,
  .instanceMethod yX7_takes,
  .code yX7_takes cX7_takes 5 (some .boolean),
  .methodLink RX7 165 yX7_isRound,
  .instanceMethod yX7_isRound,
  .code yX7_isRound cX7_isRound 3 (some .boolean),
  .methodLink RX7 132 yX7_measure,
  .instanceMethod yX7_measure,
  .code yX7_measure cX7_measure 5 none,
  .methodLink RX7 136 yX7_nearest,
  .instanceMethod yX7_nearest,
  .code yX7_nearest cX7_nearest 4 (some .int),
  .methodLink RX7 169 yX7_isLacking,
  .instanceMethod yX7_isLacking,
  .code yX7_isLacking cX7_isLacking 6 (some .boolean)]
def wsG_28 : List Cond := [
  .methodLink RX7 172 yX7_order,
  .instanceMethod yX7_order,
  .code yX7_order cX7_order 4 none,
  .methodLink RX7 181 yX7_end,
  .instanceMethod yX7_end,
  .code yX7_end cX7_end 4 none,
  .methodLink RX7 184 yX7_pass,
  .instanceMethod yX7_pass,
  .code yX7_pass cX7_pass 3 none,
  .methodLink RX7 142 yX7_isReady,
  .instanceMethod yX7_isReady,
  .code yX7_isReady cX7_isReady 5 (some .boolean),
  .methodLink RX7 187 yX7_hire,
  .instanceMethod yX7_hire,
  .code yX7_hire cX7_hire 5 none,
  .methodLink RX7 155 yX7_start,
  .instanceMethod yX7_start,
  .code yX7_start cX7_start 6 none,
  .constant RX7 145 16777619,
  .methodLink RL 73 yX7_count,
  .instanceMethod yX7_count,
  .selects RX7 yX7_count yX7_count,
  .code yX7_count cX7_count 4 (some .int),
  .methodLink RL 76 yX7_begun,
  .instanceMethod yX7_begun]
def wsG_29 : List Cond := [
  .selects RX7 yX7_begun yX7_begun,
  .code yX7_begun cX7_begun 3 (some .int),
  .methodLink RL 80 yX7_cycle,
  .instanceMethod yX7_cycle,
  .selects RX7 yX7_cycle yX7_cycle,
  .code yX7_cycle cX7_cycle 2 (some .int),
  .methodLink RL 83 yX7_content,
  .instanceMethod yX7_content,
  .selects RX7 yX7_content yX7_content,
  .code yX7_content cX7_content 2 (some .int)]
def wsG : List Cond := wsG_0 ++ (wsG_1 ++ (wsG_2 ++ (wsG_3 ++ (wsG_4 ++ (wsG_5 ++ (wsG_6 ++ (wsG_7 ++ (wsG_8 ++ (wsG_9 ++ (wsG_10 ++ (wsG_11 ++ (wsG_12 ++ (wsG_13 ++ (wsG_14 ++ (wsG_15 ++ (wsG_16 ++ (wsG_17 ++ (wsG_18 ++ (wsG_19 ++ (wsG_20 ++ (wsG_21 ++ (wsG_22 ++ (wsG_23 ++ (wsG_24 ++ (wsG_25 ++ (wsG_26 ++ (wsG_27 ++ (wsG_28 ++ (wsG_29)))))))))))))))))))))))))))))
theorem wsG_s0 : ∀ w ∈ wsG_0, w ∈ wsG := fun w h => List.mem_append_left _ (h)
theorem wsG_s1 : ∀ w ∈ wsG_1, w ∈ wsG := fun w h => List.mem_append_right _ (List.mem_append_left _ (h))
theorem wsG_s2 : ∀ w ∈ wsG_2, w ∈ wsG := fun w h => List.mem_append_right _ (List.mem_append_right _ (List.mem_append_left _ (h)))
theorem wsG_s3 : ∀ w ∈ wsG_3, w ∈ wsG := fun w h => List.mem_append_right _ (List.mem_append_right _ (List.mem_append_right _ (List.mem_append_left _ (h))))
theorem wsG_s4 : ∀ w ∈ wsG_4, w ∈ wsG := fun w h => List.mem_append_right _ (List.mem_append_right _ (List.mem_append_right _ (List.mem_append_right _ (List.mem_append_left _ (h)))))
theorem wsG_s5 : ∀ w ∈ wsG_5, w ∈ wsG := fun w h => List.mem_append_right _ (List.mem_append_right _ (List.mem_append_right _ (List.mem_append_right _ (List.mem_append_right _ (List.mem_append_left _ (h))))))
theorem wsG_s6 : ∀ w ∈ wsG_6, w ∈ wsG := fun w h => List.mem_append_right _ (List.mem_append_right _ (List.mem_append_right _ (List.mem_append_right _ (List.mem_append_right _ (List.mem_append_right _ (List.mem_append_left _ (h)))))))
theorem wsG_s7 : ∀ w ∈ wsG_7, w ∈ wsG := fun w h => List.mem_append_right _ (List.mem_append_right _ (List.mem_append_right _ (List.mem_append_right _ (List.mem_append_right _ (List.mem_append_right _ (List.mem_append_right _ (List.mem_append_left _ (h))))))))
theorem wsG_s8 : ∀ w ∈ wsG_8, w ∈ wsG := fun w h => List.mem_append_right _ (List.mem_append_right _ (List.mem_append_right _ (List.mem_append_right _ (List.mem_append_right _ (List.mem_append_right _ (List.mem_append_right _ (List.mem_append_right _ (List.mem_append_left _ (h)))))))))
theorem wsG_s9 : ∀ w ∈ wsG_9, w ∈ wsG := fun w h => List.mem_append_right _ (List.mem_append_right _ (List.mem_append_right _ (List.mem_append_right _ (List.mem_append_right _ (List.mem_append_right _ (List.mem_append_right _ (List.mem_append_right _ (List.mem_append_right _ (List.mem_append_left _ (h))))))))))
theorem wsG_s10 : ∀ w ∈ wsG_10, w ∈ wsG := fun w h => List.mem_append_right _ (List.mem_append_right _ (List.mem_append_right _ (List.mem_append_right _ (List.mem_append_right _ (List.mem_append_right _ (List.mem_append_right _ (List.mem_append_right _ (List.mem_append_right _ (List.mem_append_right _ (List.mem_append_left _ (h)))))))))))
theorem wsG_s11 : ∀ w ∈ wsG_11, w ∈ wsG := fun w h => List.mem_append_right _ (List.mem_append_right _ (List.mem_append_right _ (List.mem_append_right _ (List.mem_append_right _ (List.mem_append_right _ (List.mem_append_right _ (List.mem_append_right _ (List.mem_append_right _ (List.mem_append_right _ (List.mem_append_right _ (List.mem_append_left _ (h))))))))))))
theorem wsG_s12 : ∀ w ∈ wsG_12, w ∈ wsG := fun w h => List.mem_append_right _ (List.mem_append_right _ (List.mem_append_right _ (List.mem_append_right _ (List.mem_append_right _ (List.mem_append_right _ (List.mem_append_right _ (List.mem_append_right _ (List.mem_append_right _ (List.mem_append_right _ (List.mem_append_right _ (List.mem_append_right _ (List.mem_append_left _ (h)))))))))))))
theorem wsG_s13 : ∀ w ∈ wsG_13, w ∈ wsG := fun w h => List.mem_append_right _ (List.mem_append_right _ (List.mem_append_right _ (List.mem_append_right _ (List.mem_append_right _ (List.mem_append_right _ (List.mem_append_right _ (List.mem_append_right _ (List.mem_append_right _ (List.mem_append_right _ (List.mem_append_right _ (List.mem_append_right _ (List.mem_append_right _ (List.mem_append_left _ (h))))))))))))))
theorem wsG_s14 : ∀ w ∈ wsG_14, w ∈ wsG := fun w h => List.mem_append_right _ (List.mem_append_right _ (List.mem_append_right _ (List.mem_append_right _ (List.mem_append_right _ (List.mem_append_right _ (List.mem_append_right _ (List.mem_append_right _ (List.mem_append_right _ (List.mem_append_right _ (List.mem_append_right _ (List.mem_append_right _ (List.mem_append_right _ (List.mem_append_right _ (List.mem_append_left _ (h)))))))))))))))
theorem wsG_s15 : ∀ w ∈ wsG_15, w ∈ wsG := fun w h => List.mem_append_right _ (List.mem_append_right _ (List.mem_append_right _ (List.mem_append_right _ (List.mem_append_right _ (List.mem_append_right _ (List.mem_append_right _ (List.mem_append_right _ (List.mem_append_right _ (List.mem_append_right _ (List.mem_append_right _ (List.mem_append_right _ (List.mem_append_right _ (List.mem_append_right _ (List.mem_append_right _ (List.mem_append_left _ (h))))))))))))))))
theorem wsG_s16 : ∀ w ∈ wsG_16, w ∈ wsG := fun w h => List.mem_append_right _ (List.mem_append_right _ (List.mem_append_right _ (List.mem_append_right _ (List.mem_append_right _ (List.mem_append_right _ (List.mem_append_right _ (List.mem_append_right _ (List.mem_append_right _ (List.mem_append_right _ (List.mem_append_right _ (List.mem_append_right _ (List.mem_append_right _ (List.mem_append_right _ (List.mem_append_right _ (List.mem_append_right _ (List.mem_append_left _ (h)))))))))))))))))
theorem wsG_s17 : ∀ w ∈ wsG_17, w ∈ wsG := fun w h => List.mem_append_right _ (List.mem_append_right _ (List.mem_append_right _ (List.mem_append_right _ (List.mem_append_right _ (List.mem_append_right _ (List.mem_append_right _ (List.mem_append_right _ (List.mem_append_right _ (List.mem_append_right _ (List.mem_append_right _ (List.mem_append_right _ (List.mem_append_right _ (List.mem_append_right _ (List.mem_append_right _ (List.mem_append_right _ (List.mem_append_right _ (List.mem_append_left _ (h))))))))))))))))))
theorem wsG_s18 : ∀ w ∈ wsG_18, w ∈ wsG := fun w h => List.mem_append_right _ (List.mem_append_right _ (List.mem_append_right _ (List.mem_append_right _ (List.mem_append_right _ (List.mem_append_right _ (List.mem_append_right _ (List.mem_append_right _ (List.mem_append_right _ (List.mem_append_right _ (List.mem_append_right _ (List.mem_append_right _ (List.mem_append_right _ (List.mem_append_right _ (List.mem_append_right _ (List.mem_append_right _ (List.mem_append_right _ (List.mem_append_right _ (List.mem_append_left _ (h)))))))))))))))))))
theorem wsG_s19 : ∀ w ∈ wsG_19, w ∈ wsG := fun w h => List.mem_append_right _ (List.mem_append_right _ (List.mem_append_right _ (List.mem_append_right _ (List.mem_append_right _ (List.mem_append_right _ (List.mem_append_right _ (List.mem_append_right _ (List.mem_append_right _ (List.mem_append_right _ (List.mem_append_right _ (List.mem_append_right _ (List.mem_append_right _ (List.mem_append_right _ (List.mem_append_right _ (List.mem_append_right _ (List.mem_append_right _ (List.mem_append_right _ (List.mem_append_right _ (List.mem_append_left _ (h))))))))))))))))))))
theorem wsG_s20 : ∀ w ∈ wsG_20, w ∈ wsG := fun w h => List.mem_append_right _ (List.mem_append_right _ (List.mem_append_right _ (List.mem_append_right _ (List.mem_append_right _ (List.mem_append_right _ (List.mem_append_right _ (List.mem_append_right _ (List.mem_append_right _ (List.mem_append_right _ (List.mem_append_right _ (List.mem_append_right _ (List.mem_append_right _ (List.mem_append_right _ (List.mem_append_right _ (List.mem_append_right _ (List.mem_append_right _ (List.mem_append_right _ (List.mem_append_right _ (List.mem_append_right _ (List.mem_append_left _ (h)))))))))))))))))))))
theorem wsG_s21 : ∀ w ∈ wsG_21, w ∈ wsG := fun w h => List.mem_append_right _ (List.mem_append_right _ (List.mem_append_right _ (List.mem_append_right _ (List.mem_append_right _ (List.mem_append_right _ (List.mem_append_right _ (List.mem_append_right _ (List.mem_append_right _ (List.mem_append_right _ (List.mem_append_right _ (List.mem_append_right _ (List.mem_append_right _ (List.mem_append_right _ (List.mem_append_right _ (List.mem_append_right _ (List.mem_append_right _ (List.mem_append_right _ (List.mem_append_right _ (List.mem_append_right _ (List.mem_append_right _ (List.mem_append_left _ (h))))))))))))))))))))))
theorem wsG_s22 : ∀ w ∈ wsG_22, w ∈ wsG := fun w h => List.mem_append_right _ (List.mem_append_right _ (List.mem_append_right _ (List.mem_append_right _ (List.mem_append_right _ (List.mem_append_right _ (List.mem_append_right _ (List.mem_append_right _ (List.mem_append_right _ (List.mem_append_right _ (List.mem_append_right _ (List.mem_append_right _ (List.mem_append_right _ (List.mem_append_right _ (List.mem_append_right _ (List.mem_append_right _ (List.mem_append_right _ (List.mem_append_right _ (List.mem_append_right _ (List.mem_append_right _ (List.mem_append_right _ (List.mem_append_right _ (List.mem_append_left _ (h)))))))))))))))))))))))
theorem wsG_s23 : ∀ w ∈ wsG_23, w ∈ wsG := fun w h => List.mem_append_right _ (List.mem_append_right _ (List.mem_append_right _ (List.mem_append_right _ (List.mem_append_right _ (List.mem_append_right _ (List.mem_append_right _ (List.mem_append_right _ (List.mem_append_right _ (List.mem_append_right _ (List.mem_append_right _ (List.mem_append_right _ (List.mem_append_right _ (List.mem_append_right _ (List.mem_append_right _ (List.mem_append_right _ (List.mem_append_right _ (List.mem_append_right _ (List.mem_append_right _ (List.mem_append_right _ (List.mem_append_right _ (List.mem_append_right _ (List.mem_append_right _ (List.mem_append_left _ (h))))))))))))))))))))))))
theorem wsG_s24 : ∀ w ∈ wsG_24, w ∈ wsG := fun w h => List.mem_append_right _ (List.mem_append_right _ (List.mem_append_right _ (List.mem_append_right _ (List.mem_append_right _ (List.mem_append_right _ (List.mem_append_right _ (List.mem_append_right _ (List.mem_append_right _ (List.mem_append_right _ (List.mem_append_right _ (List.mem_append_right _ (List.mem_append_right _ (List.mem_append_right _ (List.mem_append_right _ (List.mem_append_right _ (List.mem_append_right _ (List.mem_append_right _ (List.mem_append_right _ (List.mem_append_right _ (List.mem_append_right _ (List.mem_append_right _ (List.mem_append_right _ (List.mem_append_right _ (List.mem_append_left _ (h)))))))))))))))))))))))))
theorem wsG_s25 : ∀ w ∈ wsG_25, w ∈ wsG := fun w h => List.mem_append_right _ (List.mem_append_right _ (List.mem_append_right _ (List.mem_append_right _ (List.mem_append_right _ (List.mem_append_right _ (List.mem_append_right _ (List.mem_append_right _ (List.mem_append_right _ (List.mem_append_right _ (List.mem_append_right _ (List.mem_append_right _ (List.mem_append_right _ (List.mem_append_right _ (List.mem_append_right _ (List.mem_append_right _ (List.mem_append_right _ (List.mem_append_right _ (List.mem_append_right _ (List.mem_append_right _ (List.mem_append_right _ (List.mem_append_right _ (List.mem_append_right _ (List.mem_append_right _ (List.mem_append_right _ (List.mem_append_left _ (h))))))))))))))))))))))))))
theorem wsG_s26 : ∀ w ∈ wsG_26, w ∈ wsG := fun w h => List.mem_append_right _ (List.mem_append_right _ (List.mem_append_right _ (List.mem_append_right _ (List.mem_append_right _ (List.mem_append_right _ (List.mem_append_right _ (List.mem_append_right _ (List.mem_append_right _ (List.mem_append_right _ (List.mem_append_right _ (List.mem_append_right _ (List.mem_append_right _ (List.mem_append_right _ (List.mem_append_right _ (List.mem_append_right _ (List.mem_append_right _ (List.mem_append_right _ (List.mem_append_right _ (List.mem_append_right _ (List.mem_append_right _ (List.mem_append_right _ (List.mem_append_right _ (List.mem_append_right _ (List.mem_append_right _ (List.mem_append_right _ (List.mem_append_left _ (h)))))))))))))))))))))))))))
theorem wsG_s27 : ∀ w ∈ wsG_27, w ∈ wsG := fun w h => List.mem_append_right _ (List.mem_append_right _ (List.mem_append_right _ (List.mem_append_right _ (List.mem_append_right _ (List.mem_append_right _ (List.mem_append_right _ (List.mem_append_right _ (List.mem_append_right _ (List.mem_append_right _ (List.mem_append_right _ (List.mem_append_right _ (List.mem_append_right _ (List.mem_append_right _ (List.mem_append_right _ (List.mem_append_right _ (List.mem_append_right _ (List.mem_append_right _ (List.mem_append_right _ (List.mem_append_right _ (List.mem_append_right _ (List.mem_append_right _ (List.mem_append_right _ (List.mem_append_right _ (List.mem_append_right _ (List.mem_append_right _ (List.mem_append_right _ (List.mem_append_left _ (h))))))))))))))))))))))))))))
theorem wsG_s28 : ∀ w ∈ wsG_28, w ∈ wsG := fun w h => List.mem_append_right _ (List.mem_append_right _ (List.mem_append_right _ (List.mem_append_right _ (List.mem_append_right _ (List.mem_append_right _ (List.mem_append_right _ (List.mem_append_right _ (List.mem_append_right _ (List.mem_append_right _ (List.mem_append_right _ (List.mem_append_right _ (List.mem_append_right _ (List.mem_append_right _ (List.mem_append_right _ (List.mem_append_right _ (List.mem_append_right _ (List.mem_append_right _ (List.mem_append_right _ (List.mem_append_right _ (List.mem_append_right _ (List.mem_append_right _ (List.mem_append_right _ (List.mem_append_right _ (List.mem_append_right _ (List.mem_append_right _ (List.mem_append_right _ (List.mem_append_right _ (List.mem_append_left _ (h)))))))))))))))))))))))))))))
theorem wsG_s29 : ∀ w ∈ wsG_29, w ∈ wsG := fun w h => List.mem_append_right _ (List.mem_append_right _ (List.mem_append_right _ (List.mem_append_right _ (List.mem_append_right _ (List.mem_append_right _ (List.mem_append_right _ (List.mem_append_right _ (List.mem_append_right _ (List.mem_append_right _ (List.mem_append_right _ (List.mem_append_right _ (List.mem_append_right _ (List.mem_append_right _ (List.mem_append_right _ (List.mem_append_right _ (List.mem_append_right _ (List.mem_append_right _ (List.mem_append_right _ (List.mem_append_right _ (List.mem_append_right _ (List.mem_append_right _ (List.mem_append_right _ (List.mem_append_right _ (List.mem_append_right _ (List.mem_append_right _ (List.mem_append_right _ (List.mem_append_right _ (List.mem_append_right _ (h)))))))))))))))))))))))))))))
theorem wsG_a0 : wsG_0 = ([0, 1, 2, 3, 4, 5, 6, 7, 8, 9, 10, 11, 12, 13, 14, 15, 16, 17, 18, 19, 20, 21, 22, 23, 24] : List Nat).filterMap (fun i => (k2_sels lw_privs)[i]?) := by decide +kernel
theorem wsG_g0 : wsG_0.all goodWord = true := by decide +kernel
theorem wsG_i0 : ∀ w ∈ wsG_0, w ∈ lw_tbl ∧ goodWord w = true := by
  intro w hw
  refine ⟨?_, List.all_eq_true.mp wsG_g0 w hw⟩
  rw [wsG_a0] at hw
  obtain ⟨i, -, hi⟩ := List.mem_filterMap.mp hw
  have h := List.mem_of_getElem? hi
  exact List.mem_append_left _ h
theorem wsG_a1 : wsG_1 = ([25, 26, 27, 28, 29, 30, 31] : List Nat).filterMap (fun i => (k2_sels lw_privs)[i]?) := by decide +kernel
theorem wsG_g1 : wsG_1.all goodWord = true := by decide +kernel
theorem wsG_i1 : ∀ w ∈ wsG_1, w ∈ lw_tbl ∧ goodWord w = true := by
  intro w hw
  refine ⟨?_, List.all_eq_true.mp wsG_g1 w hw⟩
  rw [wsG_a1] at hw
  obtain ⟨i, -, hi⟩ := List.mem_filterMap.mp hw
  have h := List.mem_of_getElem? hi
  exact List.mem_append_left _ h
theorem wsG_a2 : wsG_2 = ([0, 1, 2, 3, 4, 5, 6, 7, 8, 9, 10, 11, 12, 13, 14, 15, 16, 17, 18, 19, 20, 21, 22, 23, 24] : List Nat).filterMap (fun i => tables_1_1[i]?) := by decide +kernel
theorem wsG_g2 : wsG_2.all goodWord = true := by decide +kernel
theorem wsG_i2 : ∀ w ∈ wsG_2, w ∈ lw_tbl ∧ goodWord w = true := by
  intro w hw
  refine ⟨?_, List.all_eq_true.mp wsG_g2 w hw⟩
  rw [wsG_a2] at hw
  obtain ⟨i, -, hi⟩ := List.mem_filterMap.mp hw
  have h := List.mem_of_getElem? hi
  exact List.mem_append_right _ (List.mem_append_left _ h)
theorem wsG_a3 : wsG_3 = ([25, 26, 27, 28, 29, 30, 31, 32, 33, 35, 37, 40, 41, 42, 44, 46, 47, 48, 49, 51, 52, 53, 56, 57, 58] : List Nat).filterMap (fun i => tables_1_1[i]?) := by decide +kernel
theorem wsG_g3 : wsG_3.all goodWord = true := by decide +kernel
theorem wsG_i3 : ∀ w ∈ wsG_3, w ∈ lw_tbl ∧ goodWord w = true := by
  intro w hw
  refine ⟨?_, List.all_eq_true.mp wsG_g3 w hw⟩
  rw [wsG_a3] at hw
  obtain ⟨i, -, hi⟩ := List.mem_filterMap.mp hw
  have h := List.mem_of_getElem? hi
  exact List.mem_append_right _ (List.mem_append_left _ h)
theorem wsG_a4 : wsG_4 = ([59, 60, 61, 62, 63, 64, 65, 66, 68, 70, 72, 74, 76, 78, 80, 82, 84, 86, 88, 90, 92, 95, 96, 98, 99] : List Nat).filterMap (fun i => tables_1_1[i]?) := by decide +kernel
theorem wsG_g4 : wsG_4.all goodWord = true := by decide +kernel
theorem wsG_i4 : ∀ w ∈ wsG_4, w ∈ lw_tbl ∧ goodWord w = true := by
  intro w hw
  refine ⟨?_, List.all_eq_true.mp wsG_g4 w hw⟩
  rw [wsG_a4] at hw
  obtain ⟨i, -, hi⟩ := List.mem_filterMap.mp hw
  have h := List.mem_of_getElem? hi
  exact List.mem_append_right _ (List.mem_append_left _ h)
theorem wsG_a5 : wsG_5 = ([100, 101, 104, 106, 107, 110, 112, 114, 116, 118, 120, 123, 124, 125, 127, 128, 129, 130, 131, 132, 133, 134, 135, 137, 139] : List Nat).filterMap (fun i => tables_1_1[i]?) := by decide +kernel
theorem wsG_g5 : wsG_5.all goodWord = true := by decide +kernel
theorem wsG_i5 : ∀ w ∈ wsG_5, w ∈ lw_tbl ∧ goodWord w = true := by
  intro w hw
  refine ⟨?_, List.all_eq_true.mp wsG_g5 w hw⟩
  rw [wsG_a5] at hw
  obtain ⟨i, -, hi⟩ := List.mem_filterMap.mp hw
  have h := List.mem_of_getElem? hi
  exact List.mem_append_right _ (List.mem_append_left _ h)
theorem wsG_a6 : wsG_6 = ([141, 143, 146, 147, 149, 150, 151, 152, 154, 156, 158, 160, 161, 163, 165, 167, 169, 172, 173, 175, 176, 177, 178, 180, 182] : List Nat).filterMap (fun i => tables_1_1[i]?) := by decide +kernel
theorem wsG_g6 : wsG_6.all goodWord = true := by decide +kernel
theorem wsG_i6 : ∀ w ∈ wsG_6, w ∈ lw_tbl ∧ goodWord w = true := by
  intro w hw
  refine ⟨?_, List.all_eq_true.mp wsG_g6 w hw⟩
  rw [wsG_a6] at hw
  obtain ⟨i, -, hi⟩ := List.mem_filterMap.mp hw
  have h := List.mem_of_getElem? hi
  exact List.mem_append_right _ (List.mem_append_left _ h)
theorem wsG_a7 : wsG_7 = ([183, 185, 187, 190, 191, 192, 193, 194, 195, 196, 198, 200, 202, 204, 206, 209, 210, 211, 212, 213, 214, 215, 216, 217, 218] : List Nat).filterMap (fun i => tables_1_1[i]?) := by decide +kernel
theorem wsG_g7 : wsG_7.all goodWord = true := by decide +kernel
theorem wsG_i7 : ∀ w ∈ wsG_7, w ∈ lw_tbl ∧ goodWord w = true := by
  intro w hw
  refine ⟨?_, List.all_eq_true.mp wsG_g7 w hw⟩
  rw [wsG_a7] at hw
  obtain ⟨i, -, hi⟩ := List.mem_filterMap.mp hw
  have h := List.mem_of_getElem? hi
  exact List.mem_append_right _ (List.mem_append_left _ h)
theorem wsG_a8 : wsG_8 = ([219, 220, 221, 222, 223, 224, 226, 227, 228, 229, 230, 231, 232, 233, 234, 235, 236, 237, 238, 239] : List Nat).filterMap (fun i => tables_1_1[i]?) := by decide +kernel
theorem wsG_g8 : wsG_8.all goodWord = true := by decide +kernel
theorem wsG_i8 : ∀ w ∈ wsG_8, w ∈ lw_tbl ∧ goodWord w = true := by
  intro w hw
  refine ⟨?_, List.all_eq_true.mp wsG_g8 w hw⟩
  rw [wsG_a8] at hw
  obtain ⟨i, -, hi⟩ := List.mem_filterMap.mp hw
  have h := List.mem_of_getElem? hi
  exact List.mem_append_right _ (List.mem_append_left _ h)
theorem wsG_a9 : wsG_9 = ([1, 2, 3, 4, 5, 6, 7, 8, 9, 10, 11, 12, 13, 14, 15, 16, 17, 18, 19, 20, 21, 22, 23, 24, 25] : List Nat).filterMap (fun i => tables_1_2[i]?) := by decide +kernel
theorem wsG_g9 : wsG_9.all goodWord = true := by decide +kernel
theorem wsG_i9 : ∀ w ∈ wsG_9, w ∈ lw_tbl ∧ goodWord w = true := by
  intro w hw
  refine ⟨?_, List.all_eq_true.mp wsG_g9 w hw⟩
  rw [wsG_a9] at hw
  obtain ⟨i, -, hi⟩ := List.mem_filterMap.mp hw
  have h := List.mem_of_getElem? hi
  exact List.mem_append_right _ (List.mem_append_right _ (List.mem_append_left _ h))
theorem wsG_a10 : wsG_10 = ([26, 27, 28, 29, 30, 31, 32, 33, 34, 35, 36, 37, 38, 39, 40, 41, 42, 43, 44, 45, 46, 47, 48, 50, 51] : List Nat).filterMap (fun i => tables_1_2[i]?) := by decide +kernel
theorem wsG_g10 : wsG_10.all goodWord = true := by decide +kernel
theorem wsG_i10 : ∀ w ∈ wsG_10, w ∈ lw_tbl ∧ goodWord w = true := by
  intro w hw
  refine ⟨?_, List.all_eq_true.mp wsG_g10 w hw⟩
  rw [wsG_a10] at hw
  obtain ⟨i, -, hi⟩ := List.mem_filterMap.mp hw
  have h := List.mem_of_getElem? hi
  exact List.mem_append_right _ (List.mem_append_right _ (List.mem_append_left _ h))
theorem wsG_a11 : wsG_11 = ([52, 53, 54, 55, 56, 57, 58, 59, 60, 62, 63, 64, 66, 67, 68, 69, 70, 71, 72, 74, 75, 76, 77, 78, 79] : List Nat).filterMap (fun i => tables_1_2[i]?) := by decide +kernel
theorem wsG_g11 : wsG_11.all goodWord = true := by decide +kernel
theorem wsG_i11 : ∀ w ∈ wsG_11, w ∈ lw_tbl ∧ goodWord w = true := by
  intro w hw
  refine ⟨?_, List.all_eq_true.mp wsG_g11 w hw⟩
  rw [wsG_a11] at hw
  obtain ⟨i, -, hi⟩ := List.mem_filterMap.mp hw
  have h := List.mem_of_getElem? hi
  exact List.mem_append_right _ (List.mem_append_right _ (List.mem_append_left _ h))
theorem wsG_a12 : wsG_12 = ([80, 81, 83, 84, 85, 86, 87, 88, 89, 90, 98, 99, 100, 101, 102, 103, 104, 105, 106, 107, 108, 109, 110, 112, 113] : List Nat).filterMap (fun i => tables_1_2[i]?) := by decide +kernel
theorem wsG_g12 : wsG_12.all goodWord = true := by decide +kernel
theorem wsG_i12 : ∀ w ∈ wsG_12, w ∈ lw_tbl ∧ goodWord w = true := by
  intro w hw
  refine ⟨?_, List.all_eq_true.mp wsG_g12 w hw⟩
  rw [wsG_a12] at hw
  obtain ⟨i, -, hi⟩ := List.mem_filterMap.mp hw
  have h := List.mem_of_getElem? hi
  exact List.mem_append_right _ (List.mem_append_right _ (List.mem_append_left _ h))
theorem wsG_a13 : wsG_13 = ([114, 115, 117, 119, 120, 122, 123, 125, 127, 128, 131, 132, 133, 134, 135, 136, 137, 138, 139, 140, 141, 142, 144, 145, 146] : List Nat).filterMap (fun i => tables_1_2[i]?) := by decide +kernel
theorem wsG_g13 : wsG_13.all goodWord = true := by decide +kernel
theorem wsG_i13 : ∀ w ∈ wsG_13, w ∈ lw_tbl ∧ goodWord w = true := by
  intro w hw
  refine ⟨?_, List.all_eq_true.mp wsG_g13 w hw⟩
  rw [wsG_a13] at hw
  obtain ⟨i, -, hi⟩ := List.mem_filterMap.mp hw
  have h := List.mem_of_getElem? hi
  exact List.mem_append_right _ (List.mem_append_right _ (List.mem_append_left _ h))
theorem wsG_a14 : wsG_14 = ([147, 152, 156, 158, 159, 160, 161, 162, 163, 164, 165, 166, 168, 169, 172, 173, 174, 175, 176, 177, 178, 179, 180, 181, 182] : List Nat).filterMap (fun i => tables_1_2[i]?) := by decide +kernel
theorem wsG_g14 : wsG_14.all goodWord = true := by decide +kernel
theorem wsG_i14 : ∀ w ∈ wsG_14, w ∈ lw_tbl ∧ goodWord w = true := by
  intro w hw
  refine ⟨?_, List.all_eq_true.mp wsG_g14 w hw⟩
  rw [wsG_a14] at hw
  obtain ⟨i, -, hi⟩ := List.mem_filterMap.mp hw
  have h := List.mem_of_getElem? hi
  exact List.mem_append_right _ (List.mem_append_right _ (List.mem_append_left _ h))
theorem wsG_a15 : wsG_15 = ([183, 185, 187, 188, 190, 191, 192, 193, 194, 196, 197, 198, 199, 200, 201, 202, 204, 205, 206, 207, 208, 209, 211, 212, 213] : List Nat).filterMap (fun i => tables_1_2[i]?) := by decide +kernel
theorem wsG_g15 : wsG_15.all goodWord = true := by decide +kernel
theorem wsG_i15 : ∀ w ∈ wsG_15, w ∈ lw_tbl ∧ goodWord w = true := by
  intro w hw
  refine ⟨?_, List.all_eq_true.mp wsG_g15 w hw⟩
  rw [wsG_a15] at hw
  obtain ⟨i, -, hi⟩ := List.mem_filterMap.mp hw
  have h := List.mem_of_getElem? hi
  exact List.mem_append_right _ (List.mem_append_right _ (List.mem_append_left _ h))
theorem wsG_a16 : wsG_16 = ([214, 215, 217, 219, 220, 221, 222, 223, 224, 225, 226, 227, 228, 229, 230, 232, 233, 234, 235, 236, 237, 238, 239] : List Nat).filterMap (fun i => tables_1_2[i]?) := by decide +kernel
theorem wsG_g16 : wsG_16.all goodWord = true := by decide +kernel
theorem wsG_i16 : ∀ w ∈ wsG_16, w ∈ lw_tbl ∧ goodWord w = true := by
  intro w hw
  refine ⟨?_, List.all_eq_true.mp wsG_g16 w hw⟩
  rw [wsG_a16] at hw
  obtain ⟨i, -, hi⟩ := List.mem_filterMap.mp hw
  have h := List.mem_of_getElem? hi
  exact List.mem_append_right _ (List.mem_append_right _ (List.mem_append_left _ h))
theorem wsG_a17 : wsG_17 = ([0, 1, 2, 3, 4, 5, 6, 7, 9, 10, 11, 12, 13, 14, 15, 17, 18, 19, 20, 21, 22, 24, 25, 26, 27] : List Nat).filterMap (fun i => tables_1_3[i]?) := by decide +kernel
theorem wsG_g17 : wsG_17.all goodWord = true := by decide +kernel
theorem wsG_i17 : ∀ w ∈ wsG_17, w ∈ lw_tbl ∧ goodWord w = true := by
  intro w hw
  refine ⟨?_, List.all_eq_true.mp wsG_g17 w hw⟩
  rw [wsG_a17] at hw
  obtain ⟨i, -, hi⟩ := List.mem_filterMap.mp hw
  have h := List.mem_of_getElem? hi
  exact List.mem_append_right _ (List.mem_append_right _ (List.mem_append_right _ (List.mem_append_left _ h)))
theorem wsG_a18 : wsG_18 = ([28, 29, 30, 31, 32, 33, 35, 36, 38, 39, 40, 42, 43, 44, 45, 46, 47, 48, 49, 50, 51, 52, 53, 54, 55] : List Nat).filterMap (fun i => tables_1_3[i]?) := by decide +kernel
theorem wsG_g18 : wsG_18.all goodWord = true := by decide +kernel
theorem wsG_i18 : ∀ w ∈ wsG_18, w ∈ lw_tbl ∧ goodWord w = true := by
  intro w hw
  refine ⟨?_, List.all_eq_true.mp wsG_g18 w hw⟩
  rw [wsG_a18] at hw
  obtain ⟨i, -, hi⟩ := List.mem_filterMap.mp hw
  have h := List.mem_of_getElem? hi
  exact List.mem_append_right _ (List.mem_append_right _ (List.mem_append_right _ (List.mem_append_left _ h)))
theorem wsG_a19 : wsG_19 = ([56, 58, 59, 60, 61, 62, 63, 64, 66, 67, 68, 69, 70, 71, 72, 73, 74, 75, 76, 77, 78, 79, 80, 81, 83] : List Nat).filterMap (fun i => tables_1_3[i]?) := by decide +kernel
theorem wsG_g19 : wsG_19.all goodWord = true := by decide +kernel
theorem wsG_i19 : ∀ w ∈ wsG_19, w ∈ lw_tbl ∧ goodWord w = true := by
  intro w hw
  refine ⟨?_, List.all_eq_true.mp wsG_g19 w hw⟩
  rw [wsG_a19] at hw
  obtain ⟨i, -, hi⟩ := List.mem_filterMap.mp hw
  have h := List.mem_of_getElem? hi
  exact List.mem_append_right _ (List.mem_append_right _ (List.mem_append_right _ (List.mem_append_left _ h)))
theorem wsG_a20 : wsG_20 = ([84, 85, 86, 87, 88, 89, 91, 92, 93, 94, 95, 96, 98, 99, 100, 101, 102, 104, 105, 106, 107, 108, 109, 111, 112] : List Nat).filterMap (fun i => tables_1_3[i]?) := by decide +kernel
theorem wsG_g20 : wsG_20.all goodWord = true := by decide +kernel
theorem wsG_i20 : ∀ w ∈ wsG_20, w ∈ lw_tbl ∧ goodWord w = true := by
  intro w hw
  refine ⟨?_, List.all_eq_true.mp wsG_g20 w hw⟩
  rw [wsG_a20] at hw
  obtain ⟨i, -, hi⟩ := List.mem_filterMap.mp hw
  have h := List.mem_of_getElem? hi
  exact List.mem_append_right _ (List.mem_append_right _ (List.mem_append_right _ (List.mem_append_left _ h)))
theorem wsG_a21 : wsG_21 = ([113, 114, 116, 117, 119, 120, 121, 122, 123, 125, 126, 127, 128, 129, 130, 131, 132, 133, 134, 135, 136, 137, 138, 139, 140] : List Nat).filterMap (fun i => tables_1_3[i]?) := by decide +kernel
theorem wsG_g21 : wsG_21.all goodWord = true := by decide +kernel
theorem wsG_i21 : ∀ w ∈ wsG_21, w ∈ lw_tbl ∧ goodWord w = true := by
  intro w hw
  refine ⟨?_, List.all_eq_true.mp wsG_g21 w hw⟩
  rw [wsG_a21] at hw
  obtain ⟨i, -, hi⟩ := List.mem_filterMap.mp hw
  have h := List.mem_of_getElem? hi
  exact List.mem_append_right _ (List.mem_append_right _ (List.mem_append_right _ (List.mem_append_left _ h)))
theorem wsG_a22 : wsG_22 = ([141, 142, 143, 144, 145, 146, 147, 148, 149, 150, 151, 152, 153, 154, 155, 156, 157, 158, 159, 160, 161, 162, 163, 164, 165] : List Nat).filterMap (fun i => tables_1_3[i]?) := by decide +kernel
theorem wsG_g22 : wsG_22.all goodWord = true := by decide +kernel
theorem wsG_i22 : ∀ w ∈ wsG_22, w ∈ lw_tbl ∧ goodWord w = true := by
  intro w hw
  refine ⟨?_, List.all_eq_true.mp wsG_g22 w hw⟩
  rw [wsG_a22] at hw
  obtain ⟨i, -, hi⟩ := List.mem_filterMap.mp hw
  have h := List.mem_of_getElem? hi
  exact List.mem_append_right _ (List.mem_append_right _ (List.mem_append_right _ (List.mem_append_left _ h)))
theorem wsG_a23 : wsG_23 = ([166, 167, 168, 169, 170, 171, 172, 174, 176, 178, 180, 182, 184, 186, 188, 190, 192, 194, 196, 198, 200, 202, 204, 206, 208] : List Nat).filterMap (fun i => tables_1_3[i]?) := by decide +kernel
theorem wsG_g23 : wsG_23.all goodWord = true := by decide +kernel
theorem wsG_i23 : ∀ w ∈ wsG_23, w ∈ lw_tbl ∧ goodWord w = true := by
  intro w hw
  refine ⟨?_, List.all_eq_true.mp wsG_g23 w hw⟩
  rw [wsG_a23] at hw
  obtain ⟨i, -, hi⟩ := List.mem_filterMap.mp hw
  have h := List.mem_of_getElem? hi
  exact List.mem_append_right _ (List.mem_append_right _ (List.mem_append_right _ (List.mem_append_left _ h)))
theorem wsG_a24 : wsG_24 = ([210, 212, 214, 216, 218, 220, 222, 224, 226, 228, 230, 232, 234, 236, 238] : List Nat).filterMap (fun i => tables_1_3[i]?) := by decide +kernel
theorem wsG_g24 : wsG_24.all goodWord = true := by decide +kernel
theorem wsG_i24 : ∀ w ∈ wsG_24, w ∈ lw_tbl ∧ goodWord w = true := by
  intro w hw
  refine ⟨?_, List.all_eq_true.mp wsG_g24 w hw⟩
  rw [wsG_a24] at hw
  obtain ⟨i, -, hi⟩ := List.mem_filterMap.mp hw
  have h := List.mem_of_getElem? hi
  exact List.mem_append_right _ (List.mem_append_right _ (List.mem_append_right _ (List.mem_append_left _ h)))
theorem wsG_a25 : wsG_25 = ([0, 2, 4, 6, 8, 10, 13, 14, 15, 16, 17, 18, 19, 20, 21, 22, 23, 24, 25, 27, 28, 29, 30, 31, 32] : List Nat).filterMap (fun i => tables_1_4[i]?) := by decide +kernel
theorem wsG_g25 : wsG_25.all goodWord = true := by decide +kernel
theorem wsG_i25 : ∀ w ∈ wsG_25, w ∈ lw_tbl ∧ goodWord w = true := by
  intro w hw
  refine ⟨?_, List.all_eq_true.mp wsG_g25 w hw⟩
  rw [wsG_a25] at hw
  obtain ⟨i, -, hi⟩ := List.mem_filterMap.mp hw
  have h := List.mem_of_getElem? hi
  exact List.mem_append_right _ (List.mem_append_right _ (List.mem_append_right _ (List.mem_append_right _ (h))))
theorem wsG_a26 : wsG_26 = ([33, 34, 35, 36, 37, 38, 39, 40, 41, 42, 43, 44, 45, 46, 47, 48, 49, 50, 51, 52, 54, 55, 56, 58, 59] : List Nat).filterMap (fun i => tables_1_4[i]?) := by decide +kernel
theorem wsG_g26 : wsG_26.all goodWord = true := by decide +kernel
theorem wsG_i26 : ∀ w ∈ wsG_26, w ∈ lw_tbl ∧ goodWord w = true := by
  intro w hw
  refine ⟨?_, List.all_eq_true.mp wsG_g26 w hw⟩
  rw [wsG_a26] at hw
  obtain ⟨i, -, hi⟩ := List.mem_filterMap.mp hw
  have h := List.mem_of_getElem? hi
  exact List.mem_append_right _ (List.mem_append_right _ (List.mem_append_right _ (List.mem_append_right _ (h))))
theorem wsG_a27 : wsG_27 = ([60, 61, 62, 63, 64, 66, 67, 68, 70, 71, 72, 74, 75, 76, 78, 79, 80, 82, 83, 84, 86, 87, 88, 90, 91] : List Nat).filterMap (fun i => tables_1_4[i]?) := by decide +kernel
theorem wsG_g27 : wsG_27.all goodWord = true := by decide +kernel
theorem wsG_i27 : ∀ w ∈ wsG_27, w ∈ lw_tbl ∧ goodWord w = true := by
  intro w hw
  refine ⟨?_, List.all_eq_true.mp wsG_g27 w hw⟩
  rw [wsG_a27] at hw
  obtain ⟨i, -, hi⟩ := List.mem_filterMap.mp hw
  have h := List.mem_of_getElem? hi
  exact List.mem_append_right _ (List.mem_append_right _ (List.mem_append_right _ (List.mem_append_right _ (h))))
theorem wsG_a28 : wsG_28 = ([92, 94, 95, 96, 98, 99, 100, 102, 103, 104, 106, 107, 108, 110, 111, 112, 114, 115, 116, 117, 118, 119, 120, 121, 122] : List Nat).filterMap (fun i => tables_1_4[i]?) := by decide +kernel
theorem wsG_g28 : wsG_28.all goodWord = true := by decide +kernel
theorem wsG_i28 : ∀ w ∈ wsG_28, w ∈ lw_tbl ∧ goodWord w = true := by
  intro w hw
  refine ⟨?_, List.all_eq_true.mp wsG_g28 w hw⟩
  rw [wsG_a28] at hw
  obtain ⟨i, -, hi⟩ := List.mem_filterMap.mp hw
  have h := List.mem_of_getElem? hi
  exact List.mem_append_right _ (List.mem_append_right _ (List.mem_append_right _ (List.mem_append_right _ (h))))
theorem wsG_a29 : wsG_29 = ([123, 124, 125, 126, 127, 128, 129, 130, 131, 132] : List Nat).filterMap (fun i => tables_1_4[i]?) := by decide +kernel
theorem wsG_g29 : wsG_29.all goodWord = true := by decide +kernel
theorem wsG_i29 : ∀ w ∈ wsG_29, w ∈ lw_tbl ∧ goodWord w = true := by
  intro w hw
  refine ⟨?_, List.all_eq_true.mp wsG_g29 w hw⟩
  rw [wsG_a29] at hw
  obtain ⟨i, -, hi⟩ := List.mem_filterMap.mp hw
  have h := List.mem_of_getElem? hi
  exact List.mem_append_right _ (List.mem_append_right _ (List.mem_append_right _ (List.mem_append_right _ (h))))
theorem wsG_all : ∀ w ∈ wsG, w ∈ lw_tbl ∧ goodWord w = true := by
  intro w hw
  rcases List.mem_append.mp hw with hw | hw
  · exact wsG_i0 w hw
  rcases List.mem_append.mp hw with hw | hw
  · exact wsG_i1 w hw
  rcases List.mem_append.mp hw with hw | hw
  · exact wsG_i2 w hw
  rcases List.mem_append.mp hw with hw | hw
  · exact wsG_i3 w hw
  rcases List.mem_append.mp hw with hw | hw
  · exact wsG_i4 w hw
  rcases List.mem_append.mp hw with hw | hw
  · exact wsG_i5 w hw
  rcases List.mem_append.mp hw with hw | hw
  · exact wsG_i6 w hw
  rcases List.mem_append.mp hw with hw | hw
  · exact wsG_i7 w hw
  rcases List.mem_append.mp hw with hw | hw
  · exact wsG_i8 w hw
  rcases List.mem_append.mp hw with hw | hw
  · exact wsG_i9 w hw
  rcases List.mem_append.mp hw with hw | hw
  · exact wsG_i10 w hw
  rcases List.mem_append.mp hw with hw | hw
  · exact wsG_i11 w hw
  rcases List.mem_append.mp hw with hw | hw
  · exact wsG_i12 w hw
  rcases List.mem_append.mp hw with hw | hw
  · exact wsG_i13 w hw
  rcases List.mem_append.mp hw with hw | hw
  · exact wsG_i14 w hw
  rcases List.mem_append.mp hw with hw | hw
  · exact wsG_i15 w hw
  rcases List.mem_append.mp hw with hw | hw
  · exact wsG_i16 w hw
  rcases List.mem_append.mp hw with hw | hw
  · exact wsG_i17 w hw
  rcases List.mem_append.mp hw with hw | hw
  · exact wsG_i18 w hw
  rcases List.mem_append.mp hw with hw | hw
  · exact wsG_i19 w hw
  rcases List.mem_append.mp hw with hw | hw
  · exact wsG_i20 w hw
  rcases List.mem_append.mp hw with hw | hw
  · exact wsG_i21 w hw
  rcases List.mem_append.mp hw with hw | hw
  · exact wsG_i22 w hw
  rcases List.mem_append.mp hw with hw | hw
  · exact wsG_i23 w hw
  rcases List.mem_append.mp hw with hw | hw
  · exact wsG_i24 w hw
  rcases List.mem_append.mp hw with hw | hw
  · exact wsG_i25 w hw
  rcases List.mem_append.mp hw with hw | hw
  · exact wsG_i26 w hw
  rcases List.mem_append.mp hw with hw | hw
  · exact wsG_i27 w hw
  rcases List.mem_append.mp hw with hw | hw
  · exact wsG_i28 w hw
  exact wsG_i29 w hw
theorem wsG_in : ∀ w ∈ wsG, w ∈ lw_tbl := fun w hw => (wsG_all w hw).1
theorem gdA : GoodIn wsG wsG := fun w hw => ⟨hw, good_of_word (wsG_all w hw).2⟩
theorem gdC {w : Cond} (h : w ∈ wsG) : GoodIn wsG (w :: wsG) := fun u hu => (List.mem_cons.mp hu).elim (fun e => e ▸ gdA _ h) (gdA u)
theorem gdV {own C : String} {index : Nat} {y : MethodName} {w : Cond} (h1 : Cond.methodLink own index y ∈ wsG) (h2 : Cond.instanceMethod y ∈ wsG) (h3 : Cond.selects C y y ∈ wsG) (h4 : Cond.initialized C ∈ wsG) (h5 : w ∈ wsG) : GoodIn wsG (wsV own index C y (w :: wsG)) := by
  intro u hu
  unfold wsV at hu
  rcases List.mem_append.mp hu with hu | hu
  · simp only [List.mem_cons, List.not_mem_nil, or_false] at hu
    rcases hu with rfl | rfl | rfl | rfl
    · exact gdA _ h1
    · exact gdA _ h2
    · exact gdA _ h3
    · exact gdA _ h4
  · exact gdC h5 u hu
theorem gdS {own : String} {index : Nat} {y : MethodName} {w : Cond} (h1 : Cond.methodLink own index y ∈ wsG) (h2 : Cond.static y ∈ wsG) (h4 : Cond.initialized own ∈ wsG) (h5 : w ∈ wsG) : GoodIn wsG (wsS own index y (w :: wsG)) := by
  intro u hu
  unfold wsS at hu
  rcases List.mem_append.mp hu with hu | hu
  · simp only [List.mem_cons, List.not_mem_nil, or_false] at hu
    rcases hu with rfl | rfl | rfl
    · exact gdA _ h1
    · exact gdA _ h2
    · exact gdA _ h4
  · exact gdC h5 u hu
def nwL : List Cond := [
  .methodLinkNest RX6 22 yX5_init "BuildDesk",
  .fieldLinkNest RX6 187 "BuildDesk$Step" "there" "Z" "BuildDesk",
  .fieldLinkNest RX2 46 "BuildDesk$Step" "duration" "I" "BuildDesk",
  .fieldLinkNest RX6 242 "BuildDesk$Step" "duration" "I" "BuildDesk",
  .methodLinkNest RX6 25 yX2_init "BuildDesk",
  .fieldLinkNest RX4 45 "BuildDesk$Plan" "waits" "[J" "BuildDesk",
  .fieldLinkNest RX6 258 "BuildDesk$Plan" "waits" "[J" "BuildDesk",
  .fieldLinkNest RX3 15 "BuildDesk$Plan" "lined" "I" "BuildDesk",
  .fieldLinkNest RX6 252 "BuildDesk$Plan" "rank" "[I" "BuildDesk",
  .fieldLinkNest RX4 19 "BuildDesk$Plan" "needed" "J" "BuildDesk",
  .fieldLinkNest RX6 194 "BuildDesk$Plan" "needed" "J" "BuildDesk",
  .methodLinkNest RX6 32 yX0_init "BuildDesk",
  .methodLinkNest RX6 39 yX3_init "BuildDesk",
  .fieldLinkNest RX6 133 "BuildDesk$Report" "needed" "I" "BuildDesk",
  .fieldLinkNest RX6 137 "BuildDesk$Report" "begun" "I" "BuildDesk",
  .fieldLinkNest RX6 140 "BuildDesk$Report" "busyTime" "I" "BuildDesk",
  .fieldLinkNest RX6 143 "BuildDesk$Report" "greatestRank" "I" "BuildDesk",
  .methodLinkNest RX6 46 yX4_init "BuildDesk",
  .fieldLinkNest RX6 167 "BuildDesk$Round" "members" "[I" "BuildDesk",
  .fieldLinkNest RX6 162 "BuildDesk$Round" "length" "I" "BuildDesk",
  .methodLinkNest RX5 54 yX6_bit "BuildDesk",
  .methodLinkNest RX2 28 yX6_bit "BuildDesk",
  .methodLinkNest RX2 36 yX6_isIn "BuildDesk",
  .methodLinkNest RX4 25 yX6_isIn "BuildDesk",
  .methodLinkNest RX4 37 yX6_bit "BuildDesk",
  .methodLinkNest RX0 29 yX6_isIn "BuildDesk",
  .methodLinkNest RX0 35 yX6_bit "BuildDesk"]
def nwLp : List Nat := [77, 82, 86, 87, 129, 134, 135, 137, 140, 141, 143, 158, 180, 185, 187, 189, 191, 206, 211, 213, 439, 442, 443, 456, 461, 535, 546]
theorem nwL_at : nwL = nwLp.filterMap (fun i => lw_tbl[i]?) := by decide +kernel
def aoL : List String := ["BuildDesk$Step"]
/-! the words on private members of nest mates, and on arrays of objects: carried through every contract -/
def nwS (U : State) : Prop := (∀ w ∈ nwL, va_Nw w U) ∧ ∀ C ∈ aoL, va_AO C U
def nwK (w : Cond) : Bool := match w with
  | .fieldLinkNest _ _ _ _ _ _ => true
  | .methodLinkNest _ _ _ _ => true
  | _ => false
theorem nwL_t : ∀ w ∈ nwL, w.onTables = true := by decide +kernel
theorem nwL_k : ∀ w ∈ nwL, nwK w = true := by decide +kernel
theorem nwS_same {u U : State} (h : u.vm = U.vm) (hN : nwS u) : nwS U := ⟨fun w hw => va_Nw.same (nwL_t w hw) h (hN.1 w hw), fun C hC => va_AO.moved (by rw [h]; exact Vm.Alike.refl _) (hN.2 C hC)⟩
theorem nwS_warm {s U : State} (hW : s.WarmedH U.vm) (hN : nwS s) : nwS U := by
  refine ⟨fun w hw => ?_, fun C hC => va_AO.moved hW.alike (hN.2 C hC)⟩
  have hk := nwL_k w hw
  have h := hN.1 w hw
  unfold nwK at hk
  split at hk
  · exact va_Nw.warmF hW h
  · exact va_Nw.warmM hW h
  · cases hk
end
section
theorem wm_0 : Cond.selects RX6 yX6_isThere yX6_isThere ∈ wsG := wsG_s0 _ (List.mem_of_getElem? (i := 0) rfl)
theorem wm_1 : Cond.selects RX6 yX6_isSource yX6_isSource ∈ wsG := wsG_s0 _ (List.mem_of_getElem? (i := 1) rfl)
theorem wm_2 : Cond.selects RX6 yX6_countSteps yX6_countSteps ∈ wsG := wsG_s0 _ (List.mem_of_getElem? (i := 2) rfl)
theorem wm_3 : Cond.selects RX5 yX5_isToldOtherwise yX5_isToldOtherwise ∈ wsG := wsG_s0 _ (List.mem_of_getElem? (i := 3) rfl)
theorem wm_4 : Cond.selects RX5 yX5_outputLacks yX5_outputLacks ∈ wsG := wsG_s0 _ (List.mem_of_getElem? (i := 4) rfl)
theorem wm_5 : Cond.selects RX5 yX5_inputDiffers yX5_inputDiffers ∈ wsG := wsG_s0 _ (List.mem_of_getElem? (i := 5) rfl)
theorem wm_6 : Cond.selects "java/lang/Throwable" ⟨"java/lang/Throwable", "fillInStackTrace", "(I)Ljava/lang/Throwable;"⟩ ⟨"java/lang/Throwable", "fillInStackTrace", "(I)Ljava/lang/Throwable;"⟩ ∈ wsG := wsG_s0 _ (List.mem_of_getElem? (i := 6) rfl)
theorem wm_7 : Cond.selects RX4 yX4_measure yX4_measure ∈ wsG := wsG_s0 _ (List.mem_of_getElem? (i := 7) rfl)
theorem wm_8 : Cond.selects RX4 yX4_walk yX4_walk ∈ wsG := wsG_s0 _ (List.mem_of_getElem? (i := 8) rfl)
theorem wm_9 : Cond.selects RX6 yX6_sourceLacks yX6_sourceLacks ∈ wsG := wsG_s0 _ (List.mem_of_getElem? (i := 9) rfl)
theorem wm_10 : Cond.selects RX6 yX6_makeNeeded yX6_makeNeeded ∈ wsG := wsG_s0 _ (List.mem_of_getElem? (i := 10) rfl)
theorem wm_11 : Cond.selects RX6 yX6_endSteps yX6_endSteps ∈ wsG := wsG_s0 _ (List.mem_of_getElem? (i := 11) rfl)
theorem wm_12 : Cond.selects RX6 yX6_passOverSteps yX6_passOverSteps ∈ wsG := wsG_s0 _ (List.mem_of_getElem? (i := 12) rfl)
theorem wm_13 : Cond.selects RX6 yX6_isReady yX6_isReady ∈ wsG := wsG_s0 _ (List.mem_of_getElem? (i := 13) rfl)
theorem wm_14 : Cond.selects RX6 yX6_beginSteps yX6_beginSteps ∈ wsG := wsG_s0 _ (List.mem_of_getElem? (i := 14) rfl)
theorem wm_15 : Cond.selects RX6 yX6_nextToBegin yX6_nextToBegin ∈ wsG := wsG_s0 _ (List.mem_of_getElem? (i := 15) rfl)
theorem wm_16 : Cond.selects RX7 yX7_isStep yX7_isStep ∈ wsG := wsG_s0 _ (List.mem_of_getElem? (i := 16) rfl)
theorem wm_17 : Cond.selects RX7 yX7_why yX7_why ∈ wsG := wsG_s0 _ (List.mem_of_getElem? (i := 17) rfl)
theorem wm_18 : Cond.selects RX7 yX7_isOther yX7_isOther ∈ wsG := wsG_s0 _ (List.mem_of_getElem? (i := 18) rfl)
theorem wm_19 : Cond.selects RX7 yX7_raise yX7_raise ∈ wsG := wsG_s0 _ (List.mem_of_getElem? (i := 19) rfl)
theorem wm_20 : Cond.selects RX7 yX7_spread yX7_spread ∈ wsG := wsG_s0 _ (List.mem_of_getElem? (i := 20) rfl)
theorem wm_21 : Cond.selects RX7 yX7_takes yX7_takes ∈ wsG := wsG_s0 _ (List.mem_of_getElem? (i := 21) rfl)
theorem wm_22 : Cond.selects RX7 yX7_isRound yX7_isRound ∈ wsG := wsG_s0 _ (List.mem_of_getElem? (i := 22) rfl)
theorem wm_23 : Cond.selects RX7 yX7_measure yX7_measure ∈ wsG := wsG_s0 _ (List.mem_of_getElem? (i := 23) rfl)
theorem wm_24 : Cond.selects RX7 yX7_nearest yX7_nearest ∈ wsG := wsG_s0 _ (List.mem_of_getElem? (i := 24) rfl)
theorem wm_25 : Cond.selects RX7 yX7_isLacking yX7_isLacking ∈ wsG := wsG_s1 _ (List.mem_of_getElem? (i := 0) rfl)
theorem wm_26 : Cond.selects RX7 yX7_order yX7_order ∈ wsG := wsG_s1 _ (List.mem_of_getElem? (i := 1) rfl)
theorem wm_27 : Cond.selects RX7 yX7_end yX7_end ∈ wsG := wsG_s1 _ (List.mem_of_getElem? (i := 2) rfl)
theorem wm_28 : Cond.selects RX7 yX7_pass yX7_pass ∈ wsG := wsG_s1 _ (List.mem_of_getElem? (i := 3) rfl)
theorem wm_29 : Cond.selects RX7 yX7_isReady yX7_isReady ∈ wsG := wsG_s1 _ (List.mem_of_getElem? (i := 4) rfl)
theorem wm_30 : Cond.selects RX7 yX7_hire yX7_hire ∈ wsG := wsG_s1 _ (List.mem_of_getElem? (i := 5) rfl)
theorem wm_31 : Cond.selects RX7 yX7_start yX7_start ∈ wsG := wsG_s1 _ (List.mem_of_getElem? (i := 6) rfl)
theorem wm_32 : Cond.initialized RL ∈ wsG := wsG_s2 _ (List.mem_of_getElem? (i := 0) rfl)
theorem wm_33 : Cond.initialized RX6 ∈ wsG := wsG_s2 _ (List.mem_of_getElem? (i := 1) rfl)
theorem wm_34 : Cond.initialized RX1 ∈ wsG := wsG_s2 _ (List.mem_of_getElem? (i := 2) rfl)
theorem wm_35 : Cond.initialized RX5 ∈ wsG := wsG_s2 _ (List.mem_of_getElem? (i := 3) rfl)
theorem wm_36 : Cond.initialized RX2 ∈ wsG := wsG_s2 _ (List.mem_of_getElem? (i := 4) rfl)
theorem wm_37 : Cond.initialized RX0 ∈ wsG := wsG_s2 _ (List.mem_of_getElem? (i := 5) rfl)
theorem wm_38 : Cond.initialized RX3 ∈ wsG := wsG_s2 _ (List.mem_of_getElem? (i := 6) rfl)
theorem wm_39 : Cond.initialized RX4 ∈ wsG := wsG_s2 _ (List.mem_of_getElem? (i := 7) rfl)
theorem wm_40 : Cond.initialized RX7 ∈ wsG := wsG_s2 _ (List.mem_of_getElem? (i := 8) rfl)
theorem wm_41 : Cond.initialized "java/lang/Throwable" ∈ wsG := wsG_s2 _ (List.mem_of_getElem? (i := 9) rfl)
theorem wm_42 : Cond.initialized "java/lang/Exception" ∈ wsG := wsG_s2 _ (List.mem_of_getElem? (i := 10) rfl)
theorem wm_43 : Cond.initialized "java/lang/RuntimeException" ∈ wsG := wsG_s2 _ (List.mem_of_getElem? (i := 11) rfl)
theorem wm_44 : Cond.initialized "java/lang/IllegalArgumentException" ∈ wsG := wsG_s2 _ (List.mem_of_getElem? (i := 12) rfl)
theorem wm_45 : Cond.initialized "java/lang/IllegalStateException" ∈ wsG := wsG_s2 _ (List.mem_of_getElem? (i := 13) rfl)
theorem wm_46 : Cond.initialized "java/lang/Math" ∈ wsG := wsG_s2 _ (List.mem_of_getElem? (i := 14) rfl)
theorem wm_47 : Cond.initialized "java/util/NoSuchElementException" ∈ wsG := wsG_s2 _ (List.mem_of_getElem? (i := 15) rfl)
theorem wm_48 : Cond.classLink RL 8 RX6 ∈ wsG := wsG_s2 _ (List.mem_of_getElem? (i := 16) rfl)
theorem wm_49 : Cond.instantiable RX6 6 ∈ wsG := wsG_s2 _ (List.mem_of_getElem? (i := 17) rfl)
theorem wm_50 : Cond.methodLink RL 29 yX6_init ∈ wsG := wsG_s2 _ (List.mem_of_getElem? (i := 18) rfl)
theorem wm_51 : Cond.instanceMethod yX6_init ∈ wsG := wsG_s2 _ (List.mem_of_getElem? (i := 19) rfl)
theorem wm_52 : Cond.code yX6_init cX6_init 2 none ∈ wsG := wsG_s2 _ (List.mem_of_getElem? (i := 20) rfl)
theorem wm_53 : Cond.methodLink RX6 1 objectInit ∈ wsG := wsG_s2 _ (List.mem_of_getElem? (i := 21) rfl)
theorem wm_54 : Cond.instanceMethod objectInit ∈ wsG := wsG_s2 _ (List.mem_of_getElem? (i := 22) rfl)
theorem wm_55 : Cond.code objectInit ⟨#[0xb1]⟩ 1 none ∈ wsG := wsG_s2 _ (List.mem_of_getElem? (i := 23) rfl)
theorem wm_56 : Cond.classLink RX6 7 RX1 ∈ wsG := wsG_s2 _ (List.mem_of_getElem? (i := 24) rfl)
theorem wm_57 : Cond.instantiable RX1 3 ∈ wsG := wsG_s3 _ (List.mem_of_getElem? (i := 0) rfl)
theorem wm_58 : Cond.methodLink RX6 9 yX1_init ∈ wsG := wsG_s3 _ (List.mem_of_getElem? (i := 1) rfl)
theorem wm_59 : Cond.instanceMethod yX1_init ∈ wsG := wsG_s3 _ (List.mem_of_getElem? (i := 2) rfl)
theorem wm_60 : Cond.code yX1_init cX1_init 2 none ∈ wsG := wsG_s3 _ (List.mem_of_getElem? (i := 3) rfl)
theorem wm_61 : Cond.methodLink RX1 3 objectInit ∈ wsG := wsG_s3 _ (List.mem_of_getElem? (i := 4) rfl)
theorem wm_62 : Cond.fieldLink RX1 9 "BuildDesk$FileTable" "contents" "[I" ∈ wsG := wsG_s3 _ (List.mem_of_getElem? (i := 5) rfl)
theorem wm_63 : Cond.fieldLink RX1 15 "BuildDesk$FileTable" "filled" "[Z" ∈ wsG := wsG_s3 _ (List.mem_of_getElem? (i := 6) rfl)
theorem wm_64 : Cond.fieldLink RX1 19 "BuildDesk$FileTable" "makers" "[I" ∈ wsG := wsG_s3 _ (List.mem_of_getElem? (i := 7) rfl)
theorem wm_65 : Cond.laysFinal RX1 "BuildDesk$FileTable" "contents" "[I" ∈ wsG := wsG_s3 _ (List.mem_of_getElem? (i := 8) rfl)
theorem wm_66 : Cond.laysFinal RX1 "BuildDesk$FileTable" "filled" "[Z" ∈ wsG := wsG_s3 _ (List.mem_of_getElem? (i := 9) rfl)
theorem wm_67 : Cond.laysFinal RX1 "BuildDesk$FileTable" "makers" "[I" ∈ wsG := wsG_s3 _ (List.mem_of_getElem? (i := 10) rfl)
theorem wm_68 : Cond.arrayClass .int ∈ wsG := wsG_s3 _ (List.mem_of_getElem? (i := 11) rfl)
theorem wm_69 : Cond.arrayClass .boolean ∈ wsG := wsG_s3 _ (List.mem_of_getElem? (i := 12) rfl)
theorem wm_70 : Cond.classLink RX6 16 RX5 ∈ wsG := wsG_s3 _ (List.mem_of_getElem? (i := 13) rfl)
theorem wm_71 : Cond.instantiable RX5 14 ∈ wsG := wsG_s3 _ (List.mem_of_getElem? (i := 14) rfl)
theorem wm_72 : Cond.instanceMethod yX5_init ∈ wsG := wsG_s3 _ (List.mem_of_getElem? (i := 15) rfl)
theorem wm_73 : Cond.code yX5_init cX5_init 1 none ∈ wsG := wsG_s3 _ (List.mem_of_getElem? (i := 16) rfl)
theorem wm_74 : Cond.methodLink RX5 3 objectInit ∈ wsG := wsG_s3 _ (List.mem_of_getElem? (i := 17) rfl)
theorem wm_75 : Cond.fieldLink RX5 21 "BuildDesk$Step" "there" "Z" ∈ wsG := wsG_s3 _ (List.mem_of_getElem? (i := 18) rfl)
theorem wm_76 : Cond.fieldLink RX5 25 "BuildDesk$Step" "recipe" "I" ∈ wsG := wsG_s3 _ (List.mem_of_getElem? (i := 19) rfl)
theorem wm_77 : Cond.fieldLink RX5 29 "BuildDesk$Step" "mask" "I" ∈ wsG := wsG_s3 _ (List.mem_of_getElem? (i := 20) rfl)
theorem wm_78 : Cond.fieldLink RX5 32 "BuildDesk$Step" "duration" "I" ∈ wsG := wsG_s3 _ (List.mem_of_getElem? (i := 21) rfl)
theorem wm_79 : Cond.fieldLink RX5 9 "BuildDesk$Step" "inputs" "[I" ∈ wsG := wsG_s3 _ (List.mem_of_getElem? (i := 22) rfl)
theorem wm_80 : Cond.fieldLink RX5 35 "BuildDesk$Step" "inputCount" "I" ∈ wsG := wsG_s3 _ (List.mem_of_getElem? (i := 23) rfl)
theorem wm_81 : Cond.fieldLink RX5 15 "BuildDesk$Step" "outputs" "[I" ∈ wsG := wsG_s3 _ (List.mem_of_getElem? (i := 24) rfl)
theorem wm_82 : Cond.fieldLink RX5 38 "BuildDesk$Step" "outputCount" "I" ∈ wsG := wsG_s4 _ (List.mem_of_getElem? (i := 0) rfl)
theorem wm_83 : Cond.fieldLink RX5 47 "BuildDesk$Step" "made" "Z" ∈ wsG := wsG_s4 _ (List.mem_of_getElem? (i := 1) rfl)
theorem wm_84 : Cond.fieldLink RX5 73 "BuildDesk$Step" "madeRecipe" "I" ∈ wsG := wsG_s4 _ (List.mem_of_getElem? (i := 2) rfl)
theorem wm_85 : Cond.fieldLink RX5 76 "BuildDesk$Step" "madeMask" "I" ∈ wsG := wsG_s4 _ (List.mem_of_getElem? (i := 3) rfl)
theorem wm_86 : Cond.fieldLink RX5 79 "BuildDesk$Step" "madeInputCount" "I" ∈ wsG := wsG_s4 _ (List.mem_of_getElem? (i := 4) rfl)
theorem wm_87 : Cond.fieldLink RX5 82 "BuildDesk$Step" "madeOutputCount" "I" ∈ wsG := wsG_s4 _ (List.mem_of_getElem? (i := 5) rfl)
theorem wm_88 : Cond.fieldLink RX5 18 "BuildDesk$Step" "madeContents" "[I" ∈ wsG := wsG_s4 _ (List.mem_of_getElem? (i := 6) rfl)
theorem wm_89 : Cond.lays RX5 "BuildDesk$Step" "there" "Z" ∈ wsG := wsG_s4 _ (List.mem_of_getElem? (i := 7) rfl)
theorem wm_90 : Cond.lays RX5 "BuildDesk$Step" "recipe" "I" ∈ wsG := wsG_s4 _ (List.mem_of_getElem? (i := 8) rfl)
theorem wm_91 : Cond.lays RX5 "BuildDesk$Step" "mask" "I" ∈ wsG := wsG_s4 _ (List.mem_of_getElem? (i := 9) rfl)
theorem wm_92 : Cond.lays RX5 "BuildDesk$Step" "duration" "I" ∈ wsG := wsG_s4 _ (List.mem_of_getElem? (i := 10) rfl)
theorem wm_93 : Cond.laysFinal RX5 "BuildDesk$Step" "inputs" "[I" ∈ wsG := wsG_s4 _ (List.mem_of_getElem? (i := 11) rfl)
theorem wm_94 : Cond.lays RX5 "BuildDesk$Step" "inputCount" "I" ∈ wsG := wsG_s4 _ (List.mem_of_getElem? (i := 12) rfl)
theorem wm_95 : Cond.laysFinal RX5 "BuildDesk$Step" "outputs" "[I" ∈ wsG := wsG_s4 _ (List.mem_of_getElem? (i := 13) rfl)
theorem wm_96 : Cond.lays RX5 "BuildDesk$Step" "outputCount" "I" ∈ wsG := wsG_s4 _ (List.mem_of_getElem? (i := 14) rfl)
theorem wm_97 : Cond.lays RX5 "BuildDesk$Step" "made" "Z" ∈ wsG := wsG_s4 _ (List.mem_of_getElem? (i := 15) rfl)
theorem wm_98 : Cond.lays RX5 "BuildDesk$Step" "madeRecipe" "I" ∈ wsG := wsG_s4 _ (List.mem_of_getElem? (i := 16) rfl)
theorem wm_99 : Cond.lays RX5 "BuildDesk$Step" "madeMask" "I" ∈ wsG := wsG_s4 _ (List.mem_of_getElem? (i := 17) rfl)
theorem wm_100 : Cond.lays RX5 "BuildDesk$Step" "madeInputCount" "I" ∈ wsG := wsG_s4 _ (List.mem_of_getElem? (i := 18) rfl)
theorem wm_101 : Cond.lays RX5 "BuildDesk$Step" "madeOutputCount" "I" ∈ wsG := wsG_s4 _ (List.mem_of_getElem? (i := 19) rfl)
theorem wm_102 : Cond.laysFinal RX5 "BuildDesk$Step" "madeContents" "[I" ∈ wsG := wsG_s4 _ (List.mem_of_getElem? (i := 20) rfl)
theorem wm_103 : Cond.classLink RX6 23 RX2 ∈ wsG := wsG_s4 _ (List.mem_of_getElem? (i := 21) rfl)
theorem wm_104 : Cond.instantiable RX2 5 ∈ wsG := wsG_s4 _ (List.mem_of_getElem? (i := 22) rfl)
theorem wm_105 : Cond.instanceMethod yX2_init ∈ wsG := wsG_s4 _ (List.mem_of_getElem? (i := 23) rfl)
theorem wm_106 : Cond.code yX2_init cX2_init 1 none ∈ wsG := wsG_s4 _ (List.mem_of_getElem? (i := 24) rfl)
theorem wm_107 : Cond.methodLink RX2 3 objectInit ∈ wsG := wsG_s5 _ (List.mem_of_getElem? (i := 0) rfl)
theorem wm_108 : Cond.fieldLink RX2 9 "BuildDesk$Plan" "waits" "[J" ∈ wsG := wsG_s5 _ (List.mem_of_getElem? (i := 1) rfl)
theorem wm_109 : Cond.fieldLink RX2 15 "BuildDesk$Plan" "line" "[I" ∈ wsG := wsG_s5 _ (List.mem_of_getElem? (i := 2) rfl)
theorem wm_110 : Cond.fieldLink RX2 40 "BuildDesk$Plan" "lined" "I" ∈ wsG := wsG_s5 _ (List.mem_of_getElem? (i := 3) rfl)
theorem wm_111 : Cond.fieldLink RX2 19 "BuildDesk$Plan" "rank" "[I" ∈ wsG := wsG_s5 _ (List.mem_of_getElem? (i := 4) rfl)
theorem wm_112 : Cond.fieldLink RX2 32 "BuildDesk$Plan" "needed" "J" ∈ wsG := wsG_s5 _ (List.mem_of_getElem? (i := 5) rfl)
theorem wm_113 : Cond.laysFinal RX2 "BuildDesk$Plan" "waits" "[J" ∈ wsG := wsG_s5 _ (List.mem_of_getElem? (i := 6) rfl)
theorem wm_114 : Cond.laysFinal RX2 "BuildDesk$Plan" "line" "[I" ∈ wsG := wsG_s5 _ (List.mem_of_getElem? (i := 7) rfl)
theorem wm_115 : Cond.lays RX2 "BuildDesk$Plan" "lined" "I" ∈ wsG := wsG_s5 _ (List.mem_of_getElem? (i := 8) rfl)
theorem wm_116 : Cond.laysFinal RX2 "BuildDesk$Plan" "rank" "[I" ∈ wsG := wsG_s5 _ (List.mem_of_getElem? (i := 9) rfl)
theorem wm_117 : Cond.lays RX2 "BuildDesk$Plan" "needed" "J" ∈ wsG := wsG_s5 _ (List.mem_of_getElem? (i := 10) rfl)
theorem wm_118 : Cond.arrayClass .long ∈ wsG := wsG_s5 _ (List.mem_of_getElem? (i := 11) rfl)
theorem wm_119 : Cond.classLink RX6 30 RX0 ∈ wsG := wsG_s5 _ (List.mem_of_getElem? (i := 12) rfl)
theorem wm_120 : Cond.instantiable RX0 5 ∈ wsG := wsG_s5 _ (List.mem_of_getElem? (i := 13) rfl)
theorem wm_121 : Cond.instanceMethod yX0_init ∈ wsG := wsG_s5 _ (List.mem_of_getElem? (i := 14) rfl)
theorem wm_122 : Cond.code yX0_init cX0_init 1 none ∈ wsG := wsG_s5 _ (List.mem_of_getElem? (i := 15) rfl)
theorem wm_123 : Cond.methodLink RX0 3 objectInit ∈ wsG := wsG_s5 _ (List.mem_of_getElem? (i := 16) rfl)
theorem wm_124 : Cond.fieldLink RX0 9 "BuildDesk$Crew" "busy" "[Z" ∈ wsG := wsG_s5 _ (List.mem_of_getElem? (i := 17) rfl)
theorem wm_125 : Cond.fieldLink RX0 15 "BuildDesk$Crew" "workerOf" "[I" ∈ wsG := wsG_s5 _ (List.mem_of_getElem? (i := 18) rfl)
theorem wm_126 : Cond.fieldLink RX0 19 "BuildDesk$Crew" "endOf" "[I" ∈ wsG := wsG_s5 _ (List.mem_of_getElem? (i := 19) rfl)
theorem wm_127 : Cond.fieldLink RX0 22 "BuildDesk$Crew" "running" "J" ∈ wsG := wsG_s5 _ (List.mem_of_getElem? (i := 20) rfl)
theorem wm_128 : Cond.fieldLink RX0 26 "BuildDesk$Crew" "done" "J" ∈ wsG := wsG_s5 _ (List.mem_of_getElem? (i := 21) rfl)
theorem wm_129 : Cond.laysFinal RX0 "BuildDesk$Crew" "busy" "[Z" ∈ wsG := wsG_s5 _ (List.mem_of_getElem? (i := 22) rfl)
theorem wm_130 : Cond.laysFinal RX0 "BuildDesk$Crew" "workerOf" "[I" ∈ wsG := wsG_s5 _ (List.mem_of_getElem? (i := 23) rfl)
theorem wm_131 : Cond.laysFinal RX0 "BuildDesk$Crew" "endOf" "[I" ∈ wsG := wsG_s5 _ (List.mem_of_getElem? (i := 24) rfl)
theorem wm_132 : Cond.lays RX0 "BuildDesk$Crew" "running" "J" ∈ wsG := wsG_s6 _ (List.mem_of_getElem? (i := 0) rfl)
theorem wm_133 : Cond.lays RX0 "BuildDesk$Crew" "done" "J" ∈ wsG := wsG_s6 _ (List.mem_of_getElem? (i := 1) rfl)
theorem wm_134 : Cond.classLink RX6 37 RX3 ∈ wsG := wsG_s6 _ (List.mem_of_getElem? (i := 2) rfl)
theorem wm_135 : Cond.instantiable RX3 5 ∈ wsG := wsG_s6 _ (List.mem_of_getElem? (i := 3) rfl)
theorem wm_136 : Cond.instanceMethod yX3_init ∈ wsG := wsG_s6 _ (List.mem_of_getElem? (i := 4) rfl)
theorem wm_137 : Cond.code yX3_init cX3_init 1 none ∈ wsG := wsG_s6 _ (List.mem_of_getElem? (i := 5) rfl)
theorem wm_138 : Cond.methodLink RX3 3 objectInit ∈ wsG := wsG_s6 _ (List.mem_of_getElem? (i := 6) rfl)
theorem wm_139 : Cond.fieldLink RX3 21 "BuildDesk$Report" "needed" "I" ∈ wsG := wsG_s6 _ (List.mem_of_getElem? (i := 7) rfl)
theorem wm_140 : Cond.fieldLink RX3 24 "BuildDesk$Report" "begun" "I" ∈ wsG := wsG_s6 _ (List.mem_of_getElem? (i := 8) rfl)
theorem wm_141 : Cond.fieldLink RX3 27 "BuildDesk$Report" "busyTime" "I" ∈ wsG := wsG_s6 _ (List.mem_of_getElem? (i := 9) rfl)
theorem wm_142 : Cond.fieldLink RX3 34 "BuildDesk$Report" "greatestRank" "I" ∈ wsG := wsG_s6 _ (List.mem_of_getElem? (i := 10) rfl)
theorem wm_143 : Cond.fieldLink RX3 11 "BuildDesk$Report" "cells" "[I" ∈ wsG := wsG_s6 _ (List.mem_of_getElem? (i := 11) rfl)
theorem wm_144 : Cond.lays RX3 "BuildDesk$Report" "needed" "I" ∈ wsG := wsG_s6 _ (List.mem_of_getElem? (i := 12) rfl)
theorem wm_145 : Cond.lays RX3 "BuildDesk$Report" "begun" "I" ∈ wsG := wsG_s6 _ (List.mem_of_getElem? (i := 13) rfl)
theorem wm_146 : Cond.lays RX3 "BuildDesk$Report" "busyTime" "I" ∈ wsG := wsG_s6 _ (List.mem_of_getElem? (i := 14) rfl)
theorem wm_147 : Cond.lays RX3 "BuildDesk$Report" "greatestRank" "I" ∈ wsG := wsG_s6 _ (List.mem_of_getElem? (i := 15) rfl)
theorem wm_148 : Cond.laysFinal RX3 "BuildDesk$Report" "cells" "[I" ∈ wsG := wsG_s6 _ (List.mem_of_getElem? (i := 16) rfl)
theorem wm_149 : Cond.classLink RX6 44 RX4 ∈ wsG := wsG_s6 _ (List.mem_of_getElem? (i := 17) rfl)
theorem wm_150 : Cond.instantiable RX4 3 ∈ wsG := wsG_s6 _ (List.mem_of_getElem? (i := 18) rfl)
theorem wm_151 : Cond.instanceMethod yX4_init ∈ wsG := wsG_s6 _ (List.mem_of_getElem? (i := 19) rfl)
theorem wm_152 : Cond.code yX4_init cX4_init 1 none ∈ wsG := wsG_s6 _ (List.mem_of_getElem? (i := 20) rfl)
theorem wm_153 : Cond.methodLink RX4 3 objectInit ∈ wsG := wsG_s6 _ (List.mem_of_getElem? (i := 21) rfl)
theorem wm_154 : Cond.fieldLink RX4 9 "BuildDesk$Round" "members" "[I" ∈ wsG := wsG_s6 _ (List.mem_of_getElem? (i := 22) rfl)
theorem wm_155 : Cond.fieldLink RX4 52 "BuildDesk$Round" "length" "I" ∈ wsG := wsG_s6 _ (List.mem_of_getElem? (i := 23) rfl)
theorem wm_156 : Cond.fieldLink RX4 15 "BuildDesk$Round" "near" "[J" ∈ wsG := wsG_s6 _ (List.mem_of_getElem? (i := 24) rfl)
theorem wm_157 : Cond.laysFinal RX4 "BuildDesk$Round" "members" "[I" ∈ wsG := wsG_s7 _ (List.mem_of_getElem? (i := 0) rfl)
theorem wm_158 : Cond.lays RX4 "BuildDesk$Round" "length" "I" ∈ wsG := wsG_s7 _ (List.mem_of_getElem? (i := 1) rfl)
theorem wm_159 : Cond.laysFinal RX4 "BuildDesk$Round" "near" "[J" ∈ wsG := wsG_s7 _ (List.mem_of_getElem? (i := 2) rfl)
theorem wm_160 : Cond.fieldLink RX6 10 "BuildDesk" "files" "LBuildDesk$FileTable;" ∈ wsG := wsG_s7 _ (List.mem_of_getElem? (i := 3) rfl)
theorem wm_161 : Cond.fieldLink RX6 18 "BuildDesk" "steps" "[LBuildDesk$Step;" ∈ wsG := wsG_s7 _ (List.mem_of_getElem? (i := 4) rfl)
theorem wm_162 : Cond.fieldLink RX6 26 "BuildDesk" "plan" "LBuildDesk$Plan;" ∈ wsG := wsG_s7 _ (List.mem_of_getElem? (i := 5) rfl)
theorem wm_163 : Cond.fieldLink RX6 33 "BuildDesk" "crew" "LBuildDesk$Crew;" ∈ wsG := wsG_s7 _ (List.mem_of_getElem? (i := 6) rfl)
theorem wm_164 : Cond.fieldLink RX6 40 "BuildDesk" "report" "LBuildDesk$Report;" ∈ wsG := wsG_s7 _ (List.mem_of_getElem? (i := 7) rfl)
theorem wm_165 : Cond.fieldLink RX6 47 "BuildDesk" "round" "LBuildDesk$Round;" ∈ wsG := wsG_s7 _ (List.mem_of_getElem? (i := 8) rfl)
theorem wm_166 : Cond.laysFinal RX6 "BuildDesk" "files" "LBuildDesk$FileTable;" ∈ wsG := wsG_s7 _ (List.mem_of_getElem? (i := 9) rfl)
theorem wm_167 : Cond.laysFinal RX6 "BuildDesk" "steps" "[LBuildDesk$Step;" ∈ wsG := wsG_s7 _ (List.mem_of_getElem? (i := 10) rfl)
theorem wm_168 : Cond.laysFinal RX6 "BuildDesk" "plan" "LBuildDesk$Plan;" ∈ wsG := wsG_s7 _ (List.mem_of_getElem? (i := 11) rfl)
theorem wm_169 : Cond.laysFinal RX6 "BuildDesk" "crew" "LBuildDesk$Crew;" ∈ wsG := wsG_s7 _ (List.mem_of_getElem? (i := 12) rfl)
theorem wm_170 : Cond.laysFinal RX6 "BuildDesk" "report" "LBuildDesk$Report;" ∈ wsG := wsG_s7 _ (List.mem_of_getElem? (i := 13) rfl)
theorem wm_171 : Cond.laysFinal RX6 "BuildDesk" "round" "LBuildDesk$Round;" ∈ wsG := wsG_s7 _ (List.mem_of_getElem? (i := 14) rfl)
theorem wm_172 : Cond.methodLink RL 33 yX6_step ∈ wsG := wsG_s7 _ (List.mem_of_getElem? (i := 15) rfl)
theorem wm_173 : Cond.instanceMethod yX6_step ∈ wsG := wsG_s7 _ (List.mem_of_getElem? (i := 16) rfl)
theorem wm_174 : Cond.selects RX6 yX6_step yX6_step ∈ wsG := wsG_s7 _ (List.mem_of_getElem? (i := 17) rfl)
theorem wm_175 : Cond.code yX6_step cX6_step 5 (some .boolean) ∈ wsG := wsG_s7 _ (List.mem_of_getElem? (i := 18) rfl)
theorem wm_176 : Cond.methodLink RX6 51 yX6_isStepNumber ∈ wsG := wsG_s7 _ (List.mem_of_getElem? (i := 19) rfl)
theorem wm_177 : Cond.static yX6_isStepNumber ∈ wsG := wsG_s7 _ (List.mem_of_getElem? (i := 20) rfl)
theorem wm_178 : Cond.code yX6_isStepNumber cX6_isStepNumber 1 (some .boolean) ∈ wsG := wsG_s7 _ (List.mem_of_getElem? (i := 21) rfl)
theorem wm_179 : Cond.methodLink RX6 55 yX5_tell ∈ wsG := wsG_s7 _ (List.mem_of_getElem? (i := 22) rfl)
theorem wm_180 : Cond.instanceMethod yX5_tell ∈ wsG := wsG_s7 _ (List.mem_of_getElem? (i := 23) rfl)
theorem wm_181 : Cond.selects RX5 yX5_tell yX5_tell ∈ wsG := wsG_s7 _ (List.mem_of_getElem? (i := 24) rfl)
theorem wm_182 : Cond.code yX5_tell cX5_tell 4 none ∈ wsG := wsG_s8 _ (List.mem_of_getElem? (i := 0) rfl)
theorem wm_183 : Cond.methodLink RL 38 yX6_input ∈ wsG := wsG_s8 _ (List.mem_of_getElem? (i := 1) rfl)
theorem wm_184 : Cond.instanceMethod yX6_input ∈ wsG := wsG_s8 _ (List.mem_of_getElem? (i := 2) rfl)
theorem wm_185 : Cond.selects RX6 yX6_input yX6_input ∈ wsG := wsG_s8 _ (List.mem_of_getElem? (i := 3) rfl)
theorem wm_186 : Cond.code yX6_input cX6_input 3 (some .boolean) ∈ wsG := wsG_s8 _ (List.mem_of_getElem? (i := 4) rfl)
theorem wm_187 : Cond.methodLink RX6 59 yX6_isThere ∈ wsG := wsG_s8 _ (List.mem_of_getElem? (i := 5) rfl)
theorem wm_188 : Cond.instanceMethod yX6_isThere ∈ wsG := wsG_s8 _ (List.mem_of_getElem? (i := 6) rfl)
theorem wm_189 : Cond.code yX6_isThere cX6_isThere 2 (some .boolean) ∈ wsG := wsG_s8 _ (List.mem_of_getElem? (i := 7) rfl)
theorem wm_190 : Cond.methodLink RX6 62 yX6_isFile ∈ wsG := wsG_s8 _ (List.mem_of_getElem? (i := 8) rfl)
theorem wm_191 : Cond.static yX6_isFile ∈ wsG := wsG_s8 _ (List.mem_of_getElem? (i := 9) rfl)
theorem wm_192 : Cond.code yX6_isFile cX6_isFile 1 (some .boolean) ∈ wsG := wsG_s8 _ (List.mem_of_getElem? (i := 10) rfl)
theorem wm_193 : Cond.methodLink RX6 65 yX5_addInput ∈ wsG := wsG_s8 _ (List.mem_of_getElem? (i := 11) rfl)
theorem wm_194 : Cond.instanceMethod yX5_addInput ∈ wsG := wsG_s8 _ (List.mem_of_getElem? (i := 12) rfl)
theorem wm_195 : Cond.selects RX5 yX5_addInput yX5_addInput ∈ wsG := wsG_s8 _ (List.mem_of_getElem? (i := 13) rfl)
theorem wm_196 : Cond.code yX5_addInput cX5_addInput 2 (some .boolean) ∈ wsG := wsG_s8 _ (List.mem_of_getElem? (i := 14) rfl)
theorem wm_197 : Cond.methodLink RL 43 yX6_output ∈ wsG := wsG_s8 _ (List.mem_of_getElem? (i := 15) rfl)
theorem wm_198 : Cond.instanceMethod yX6_output ∈ wsG := wsG_s8 _ (List.mem_of_getElem? (i := 16) rfl)
theorem wm_199 : Cond.selects RX6 yX6_output yX6_output ∈ wsG := wsG_s8 _ (List.mem_of_getElem? (i := 17) rfl)
theorem wm_200 : Cond.code yX6_output cX6_output 3 (some .boolean) ∈ wsG := wsG_s8 _ (List.mem_of_getElem? (i := 18) rfl)
theorem wm_201 : Cond.methodLink RX6 68 yX6_isSource ∈ wsG := wsG_s8 _ (List.mem_of_getElem? (i := 19) rfl)
theorem wm_202 : Cond.instanceMethod yX6_isSource ∈ wsG := wsG_s9 _ (List.mem_of_getElem? (i := 0) rfl)
theorem wm_203 : Cond.code yX6_isSource cX6_isSource 2 (some .boolean) ∈ wsG := wsG_s9 _ (List.mem_of_getElem? (i := 1) rfl)
theorem wm_204 : Cond.methodLink RX6 97 yX1_makerOf ∈ wsG := wsG_s9 _ (List.mem_of_getElem? (i := 2) rfl)
theorem wm_205 : Cond.instanceMethod yX1_makerOf ∈ wsG := wsG_s9 _ (List.mem_of_getElem? (i := 3) rfl)
theorem wm_206 : Cond.selects RX1 yX1_makerOf yX1_makerOf ∈ wsG := wsG_s9 _ (List.mem_of_getElem? (i := 4) rfl)
theorem wm_207 : Cond.code yX1_makerOf cX1_makerOf 2 (some .int) ∈ wsG := wsG_s9 _ (List.mem_of_getElem? (i := 5) rfl)
theorem wm_208 : Cond.methodLink RX6 71 yX5_addOutput ∈ wsG := wsG_s9 _ (List.mem_of_getElem? (i := 6) rfl)
theorem wm_209 : Cond.instanceMethod yX5_addOutput ∈ wsG := wsG_s9 _ (List.mem_of_getElem? (i := 7) rfl)
theorem wm_210 : Cond.selects RX5 yX5_addOutput yX5_addOutput ∈ wsG := wsG_s9 _ (List.mem_of_getElem? (i := 8) rfl)
theorem wm_211 : Cond.code yX5_addOutput cX5_addOutput 2 (some .boolean) ∈ wsG := wsG_s9 _ (List.mem_of_getElem? (i := 9) rfl)
theorem wm_212 : Cond.methodLink RX6 74 yX1_setMaker ∈ wsG := wsG_s9 _ (List.mem_of_getElem? (i := 10) rfl)
theorem wm_213 : Cond.instanceMethod yX1_setMaker ∈ wsG := wsG_s9 _ (List.mem_of_getElem? (i := 11) rfl)
theorem wm_214 : Cond.selects RX1 yX1_setMaker yX1_setMaker ∈ wsG := wsG_s9 _ (List.mem_of_getElem? (i := 12) rfl)
theorem wm_215 : Cond.code yX1_setMaker cX1_setMaker 3 none ∈ wsG := wsG_s9 _ (List.mem_of_getElem? (i := 13) rfl)
theorem wm_216 : Cond.methodLink RL 47 yX6_drop ∈ wsG := wsG_s9 _ (List.mem_of_getElem? (i := 14) rfl)
theorem wm_217 : Cond.instanceMethod yX6_drop ∈ wsG := wsG_s9 _ (List.mem_of_getElem? (i := 15) rfl)
theorem wm_218 : Cond.selects RX6 yX6_drop yX6_drop ∈ wsG := wsG_s9 _ (List.mem_of_getElem? (i := 16) rfl)
theorem wm_219 : Cond.code yX6_drop cX6_drop 2 (some .boolean) ∈ wsG := wsG_s9 _ (List.mem_of_getElem? (i := 17) rfl)
theorem wm_220 : Cond.methodLink RX6 78 yX5_leave ∈ wsG := wsG_s9 _ (List.mem_of_getElem? (i := 18) rfl)
theorem wm_221 : Cond.instanceMethod yX5_leave ∈ wsG := wsG_s9 _ (List.mem_of_getElem? (i := 19) rfl)
theorem wm_222 : Cond.selects RX5 yX5_leave yX5_leave ∈ wsG := wsG_s9 _ (List.mem_of_getElem? (i := 20) rfl)
theorem wm_223 : Cond.code yX5_leave cX5_leave 3 none ∈ wsG := wsG_s9 _ (List.mem_of_getElem? (i := 21) rfl)
theorem wm_224 : Cond.methodLink RX5 41 yX1_setMaker ∈ wsG := wsG_s9 _ (List.mem_of_getElem? (i := 22) rfl)
theorem wm_225 : Cond.methodLink RL 52 yX6_source ∈ wsG := wsG_s9 _ (List.mem_of_getElem? (i := 23) rfl)
theorem wm_226 : Cond.instanceMethod yX6_source ∈ wsG := wsG_s9 _ (List.mem_of_getElem? (i := 24) rfl)
theorem wm_227 : Cond.selects RX6 yX6_source yX6_source ∈ wsG := wsG_s10 _ (List.mem_of_getElem? (i := 0) rfl)
theorem wm_228 : Cond.code yX6_source cX6_source 3 (some .boolean) ∈ wsG := wsG_s10 _ (List.mem_of_getElem? (i := 1) rfl)
theorem wm_229 : Cond.methodLink RX6 82 yX1_fill ∈ wsG := wsG_s10 _ (List.mem_of_getElem? (i := 2) rfl)
theorem wm_230 : Cond.instanceMethod yX1_fill ∈ wsG := wsG_s10 _ (List.mem_of_getElem? (i := 3) rfl)
theorem wm_231 : Cond.selects RX1 yX1_fill yX1_fill ∈ wsG := wsG_s10 _ (List.mem_of_getElem? (i := 4) rfl)
theorem wm_232 : Cond.code yX1_fill cX1_fill 3 none ∈ wsG := wsG_s10 _ (List.mem_of_getElem? (i := 5) rfl)
theorem wm_233 : Cond.methodLink RL 56 yX6_spoil ∈ wsG := wsG_s10 _ (List.mem_of_getElem? (i := 6) rfl)
theorem wm_234 : Cond.instanceMethod yX6_spoil ∈ wsG := wsG_s10 _ (List.mem_of_getElem? (i := 7) rfl)
theorem wm_235 : Cond.selects RX6 yX6_spoil yX6_spoil ∈ wsG := wsG_s10 _ (List.mem_of_getElem? (i := 8) rfl)
theorem wm_236 : Cond.code yX6_spoil cX6_spoil 2 (some .boolean) ∈ wsG := wsG_s10 _ (List.mem_of_getElem? (i := 9) rfl)
theorem wm_237 : Cond.methodLink RX6 85 yX1_empty ∈ wsG := wsG_s10 _ (List.mem_of_getElem? (i := 10) rfl)
theorem wm_238 : Cond.instanceMethod yX1_empty ∈ wsG := wsG_s10 _ (List.mem_of_getElem? (i := 11) rfl)
theorem wm_239 : Cond.selects RX1 yX1_empty yX1_empty ∈ wsG := wsG_s10 _ (List.mem_of_getElem? (i := 12) rfl)
theorem wm_240 : Cond.code yX1_empty cX1_empty 3 (some .boolean) ∈ wsG := wsG_s10 _ (List.mem_of_getElem? (i := 13) rfl)
theorem wm_241 : Cond.methodLink RL 70 yX6_count ∈ wsG := wsG_s10 _ (List.mem_of_getElem? (i := 14) rfl)
theorem wm_242 : Cond.instanceMethod yX6_count ∈ wsG := wsG_s10 _ (List.mem_of_getElem? (i := 15) rfl)
theorem wm_243 : Cond.selects RX6 yX6_count yX6_count ∈ wsG := wsG_s10 _ (List.mem_of_getElem? (i := 16) rfl)
theorem wm_244 : Cond.code yX6_count cX6_count 2 (some .int) ∈ wsG := wsG_s10 _ (List.mem_of_getElem? (i := 17) rfl)
theorem wm_245 : Cond.methodLink RX6 146 yX1_countFilled ∈ wsG := wsG_s10 _ (List.mem_of_getElem? (i := 18) rfl)
theorem wm_246 : Cond.instanceMethod yX1_countFilled ∈ wsG := wsG_s10 _ (List.mem_of_getElem? (i := 19) rfl)
theorem wm_247 : Cond.selects RX1 yX1_countFilled yX1_countFilled ∈ wsG := wsG_s10 _ (List.mem_of_getElem? (i := 20) rfl)
theorem wm_248 : Cond.code yX1_countFilled cX1_countFilled 3 (some .int) ∈ wsG := wsG_s10 _ (List.mem_of_getElem? (i := 21) rfl)
theorem wm_249 : Cond.methodLink RX6 150 yX6_countSteps ∈ wsG := wsG_s10 _ (List.mem_of_getElem? (i := 22) rfl)
theorem wm_250 : Cond.instanceMethod yX6_countSteps ∈ wsG := wsG_s10 _ (List.mem_of_getElem? (i := 23) rfl)
theorem wm_251 : Cond.code yX6_countSteps cX6_countSteps 3 (some .int) ∈ wsG := wsG_s10 _ (List.mem_of_getElem? (i := 24) rfl)
theorem wm_252 : Cond.methodLink RL 84 yX6_reason ∈ wsG := wsG_s11 _ (List.mem_of_getElem? (i := 0) rfl)
theorem wm_253 : Cond.instanceMethod yX6_reason ∈ wsG := wsG_s11 _ (List.mem_of_getElem? (i := 1) rfl)
theorem wm_254 : Cond.selects RX6 yX6_reason yX6_reason ∈ wsG := wsG_s11 _ (List.mem_of_getElem? (i := 2) rfl)
theorem wm_255 : Cond.code yX6_reason cX6_reason 2 (some .int) ∈ wsG := wsG_s11 _ (List.mem_of_getElem? (i := 3) rfl)
theorem wm_256 : Cond.methodLink RX6 179 yX5_whyDue ∈ wsG := wsG_s11 _ (List.mem_of_getElem? (i := 4) rfl)
theorem wm_257 : Cond.instanceMethod yX5_whyDue ∈ wsG := wsG_s11 _ (List.mem_of_getElem? (i := 5) rfl)
theorem wm_258 : Cond.selects RX5 yX5_whyDue yX5_whyDue ∈ wsG := wsG_s11 _ (List.mem_of_getElem? (i := 6) rfl)
theorem wm_259 : Cond.code yX5_whyDue cX5_whyDue 2 (some .int) ∈ wsG := wsG_s11 _ (List.mem_of_getElem? (i := 7) rfl)
theorem wm_260 : Cond.methodLink RX5 62 yX5_isToldOtherwise ∈ wsG := wsG_s11 _ (List.mem_of_getElem? (i := 8) rfl)
theorem wm_261 : Cond.instanceMethod yX5_isToldOtherwise ∈ wsG := wsG_s11 _ (List.mem_of_getElem? (i := 9) rfl)
theorem wm_262 : Cond.code yX5_isToldOtherwise cX5_isToldOtherwise 1 (some .boolean) ∈ wsG := wsG_s11 _ (List.mem_of_getElem? (i := 10) rfl)
theorem wm_263 : Cond.methodLink RX5 66 yX5_outputLacks ∈ wsG := wsG_s11 _ (List.mem_of_getElem? (i := 11) rfl)
theorem wm_264 : Cond.instanceMethod yX5_outputLacks ∈ wsG := wsG_s11 _ (List.mem_of_getElem? (i := 12) rfl)
theorem wm_265 : Cond.code yX5_outputLacks cX5_outputLacks 3 (some .boolean) ∈ wsG := wsG_s11 _ (List.mem_of_getElem? (i := 13) rfl)
theorem wm_266 : Cond.methodLink RX5 85 yX1_isFilled ∈ wsG := wsG_s11 _ (List.mem_of_getElem? (i := 14) rfl)
theorem wm_267 : Cond.instanceMethod yX1_isFilled ∈ wsG := wsG_s11 _ (List.mem_of_getElem? (i := 15) rfl)
theorem wm_268 : Cond.selects RX1 yX1_isFilled yX1_isFilled ∈ wsG := wsG_s11 _ (List.mem_of_getElem? (i := 16) rfl)
theorem wm_269 : Cond.code yX1_isFilled cX1_isFilled 2 (some .boolean) ∈ wsG := wsG_s11 _ (List.mem_of_getElem? (i := 17) rfl)
theorem wm_270 : Cond.methodLink RX5 70 yX5_inputDiffers ∈ wsG := wsG_s11 _ (List.mem_of_getElem? (i := 18) rfl)
theorem wm_271 : Cond.instanceMethod yX5_inputDiffers ∈ wsG := wsG_s11 _ (List.mem_of_getElem? (i := 19) rfl)
theorem wm_272 : Cond.code yX5_inputDiffers cX5_inputDiffers 4 (some .boolean) ∈ wsG := wsG_s11 _ (List.mem_of_getElem? (i := 20) rfl)
theorem wm_273 : Cond.methodLink RX5 88 yX1_contentOf ∈ wsG := wsG_s11 _ (List.mem_of_getElem? (i := 21) rfl)
theorem wm_274 : Cond.instanceMethod yX1_contentOf ∈ wsG := wsG_s11 _ (List.mem_of_getElem? (i := 22) rfl)
theorem wm_275 : Cond.selects RX1 yX1_contentOf yX1_contentOf ∈ wsG := wsG_s11 _ (List.mem_of_getElem? (i := 23) rfl)
theorem wm_276 : Cond.code yX1_contentOf cX1_contentOf 2 (some .int) ∈ wsG := wsG_s11 _ (List.mem_of_getElem? (i := 24) rfl)
theorem wm_277 : Cond.methodLink RL 60 yL_build ∈ wsG := wsG_s12 _ (List.mem_of_getElem? (i := 0) rfl)
theorem wm_278 : Cond.static yL_build ∈ wsG := wsG_s12 _ (List.mem_of_getElem? (i := 1) rfl)
theorem wm_279 : Cond.classLink RL 13 "java/lang/IllegalArgumentException" ∈ wsG := wsG_s12 _ (List.mem_of_getElem? (i := 2) rfl)
theorem wm_280 : Cond.classLink RL 15 "java/lang/IllegalStateException" ∈ wsG := wsG_s12 _ (List.mem_of_getElem? (i := 3) rfl)
theorem wm_281 : Cond.methodLink RL 7 yX6_build ∈ wsG := wsG_s12 _ (List.mem_of_getElem? (i := 4) rfl)
theorem wm_282 : Cond.instanceMethod yX6_build ∈ wsG := wsG_s12 _ (List.mem_of_getElem? (i := 5) rfl)
theorem wm_283 : Cond.selects RX6 yX6_build yX6_build ∈ wsG := wsG_s12 _ (List.mem_of_getElem? (i := 6) rfl)
theorem wm_284 : Cond.code yX6_build cX6_build 3 (some .int) ∈ wsG := wsG_s12 _ (List.mem_of_getElem? (i := 7) rfl)
theorem wm_285 : Cond.classLink RX6 88 "java/lang/IllegalArgumentException" ∈ wsG := wsG_s12 _ (List.mem_of_getElem? (i := 8) rfl)
theorem wm_286 : Cond.instantiable "java/lang/IllegalArgumentException" 6 ∈ wsG := wsG_s12 _ (List.mem_of_getElem? (i := 9) rfl)
theorem wm_287 : Cond.selects "java/lang/IllegalArgumentException" ⟨"java/lang/Throwable", "fillInStackTrace", "(I)Ljava/lang/Throwable;"⟩ ⟨"java/lang/Throwable", "fillInStackTrace", "(I)Ljava/lang/Throwable;"⟩ ∈ wsG := wsG_s12 _ (List.mem_of_getElem? (i := 10) rfl)
theorem wm_288 : Cond.selects "java/lang/IllegalArgumentException" ⟨"java/lang/Throwable", "fillInStackTrace", "()Ljava/lang/Throwable;"⟩ ⟨"java/lang/Throwable", "fillInStackTrace", "()Ljava/lang/Throwable;"⟩ ∈ wsG := wsG_s12 _ (List.mem_of_getElem? (i := 11) rfl)
theorem wm_289 : Cond.lays "java/lang/IllegalArgumentException" "java/lang/Throwable" "cause" "Ljava/lang/Throwable;" ∈ wsG := wsG_s12 _ (List.mem_of_getElem? (i := 12) rfl)
theorem wm_290 : Cond.lays "java/lang/Throwable" "java/lang/Throwable" "cause" "Ljava/lang/Throwable;" ∈ wsG := wsG_s12 _ (List.mem_of_getElem? (i := 13) rfl)
theorem wm_291 : Cond.lays "java/lang/IllegalArgumentException" "java/lang/Throwable" "stackTrace" "[Ljava/lang/StackTraceElement;" ∈ wsG := wsG_s12 _ (List.mem_of_getElem? (i := 14) rfl)
theorem wm_292 : Cond.lays "java/lang/Throwable" "java/lang/Throwable" "stackTrace" "[Ljava/lang/StackTraceElement;" ∈ wsG := wsG_s12 _ (List.mem_of_getElem? (i := 15) rfl)
theorem wm_293 : Cond.lays "java/lang/IllegalArgumentException" "java/lang/Throwable" "suppressedExceptions" "Ljava/util/List;" ∈ wsG := wsG_s12 _ (List.mem_of_getElem? (i := 16) rfl)
theorem wm_294 : Cond.lays "java/lang/Throwable" "java/lang/Throwable" "suppressedExceptions" "Ljava/util/List;" ∈ wsG := wsG_s12 _ (List.mem_of_getElem? (i := 17) rfl)
theorem wm_295 : Cond.lays "java/lang/IllegalArgumentException" "java/lang/Throwable" "detailMessage" "Ljava/lang/String;" ∈ wsG := wsG_s12 _ (List.mem_of_getElem? (i := 18) rfl)
theorem wm_296 : Cond.lays "java/lang/Throwable" "java/lang/Throwable" "detailMessage" "Ljava/lang/String;" ∈ wsG := wsG_s12 _ (List.mem_of_getElem? (i := 19) rfl)
theorem wm_297 : Cond.lays "java/lang/IllegalArgumentException" "java/lang/Throwable" "backtrace" "Ljava/lang/Object;" ∈ wsG := wsG_s12 _ (List.mem_of_getElem? (i := 20) rfl)
theorem wm_298 : Cond.lays "java/lang/Throwable" "java/lang/Throwable" "backtrace" "Ljava/lang/Object;" ∈ wsG := wsG_s12 _ (List.mem_of_getElem? (i := 21) rfl)
theorem wm_299 : Cond.fieldLink "java/lang/Throwable" 198 "java/lang/Throwable" "backtrace" "Ljava/lang/Object;" ∈ wsG := wsG_s12 _ (List.mem_of_getElem? (i := 22) rfl)
theorem wm_300 : Cond.instanceMethod ⟨"java/lang/Throwable", "<init>", "()V"⟩ ∈ wsG := wsG_s12 _ (List.mem_of_getElem? (i := 23) rfl)
theorem wm_301 : Cond.code ⟨"java/lang/Throwable", "<init>", "()V"⟩ prog_16_method_1_code 1 none ∈ wsG := wsG_s12 _ (List.mem_of_getElem? (i := 24) rfl)
theorem wm_302 : Cond.methodLink "java/lang/Throwable" 1 objectInit ∈ wsG := wsG_s13 _ (List.mem_of_getElem? (i := 0) rfl)
theorem wm_303 : Cond.fieldLink "java/lang/Throwable" 13 "java/lang/Throwable" "UNASSIGNED_STACK" "[Ljava/lang/StackTraceElement;" ∈ wsG := wsG_s13 _ (List.mem_of_getElem? (i := 1) rfl)
theorem wm_304 : Cond.fieldLink "java/lang/Throwable" 20 "java/lang/Throwable" "SUPPRESSED_SENTINEL" "Ljava/util/List;" ∈ wsG := wsG_s13 _ (List.mem_of_getElem? (i := 2) rfl)
theorem wm_305 : Cond.methodLink "java/lang/Throwable" 27 ⟨"java/lang/Throwable", "fillInStackTrace", "()Ljava/lang/Throwable;"⟩ ∈ wsG := wsG_s13 _ (List.mem_of_getElem? (i := 3) rfl)
theorem wm_306 : Cond.instanceMethod ⟨"java/lang/Throwable", "fillInStackTrace", "()Ljava/lang/Throwable;"⟩ ∈ wsG := wsG_s13 _ (List.mem_of_getElem? (i := 4) rfl)
theorem wm_307 : Cond.selects "java/lang/IllegalStateException" ⟨"java/lang/Throwable", "fillInStackTrace", "()Ljava/lang/Throwable;"⟩ ⟨"java/lang/Throwable", "fillInStackTrace", "()Ljava/lang/Throwable;"⟩ ∈ wsG := wsG_s13 _ (List.mem_of_getElem? (i := 5) rfl)
theorem wm_308 : Cond.selects "java/util/NoSuchElementException" ⟨"java/lang/Throwable", "fillInStackTrace", "()Ljava/lang/Throwable;"⟩ ⟨"java/lang/Throwable", "fillInStackTrace", "()Ljava/lang/Throwable;"⟩ ∈ wsG := wsG_s13 _ (List.mem_of_getElem? (i := 6) rfl)
theorem wm_309 : Cond.methodLink "java/lang/Throwable" 202 ⟨"java/lang/Throwable", "fillInStackTrace", "(I)Ljava/lang/Throwable;"⟩ ∈ wsG := wsG_s13 _ (List.mem_of_getElem? (i := 7) rfl)
theorem wm_310 : Cond.instanceMethod ⟨"java/lang/Throwable", "fillInStackTrace", "(I)Ljava/lang/Throwable;"⟩ ∈ wsG := wsG_s13 _ (List.mem_of_getElem? (i := 8) rfl)
theorem wm_311 : Cond.instantiable "java/lang/Throwable" 6 ∈ wsG := wsG_s13 _ (List.mem_of_getElem? (i := 9) rfl)
theorem wm_312 : Cond.methodLink RX6 92 ⟨"java/lang/IllegalArgumentException", "<init>", "(Ljava/lang/String;)V"⟩ ∈ wsG := wsG_s13 _ (List.mem_of_getElem? (i := 10) rfl)
theorem wm_313 : Cond.instanceMethod ⟨"java/lang/IllegalArgumentException", "<init>", "(Ljava/lang/String;)V"⟩ ∈ wsG := wsG_s13 _ (List.mem_of_getElem? (i := 11) rfl)
theorem wm_314 : Cond.code ⟨"java/lang/IllegalArgumentException", "<init>", "(Ljava/lang/String;)V"⟩ prog_11_method_2_code 2 none ∈ wsG := wsG_s13 _ (List.mem_of_getElem? (i := 12) rfl)
theorem wm_315 : Cond.methodLink "java/lang/IllegalArgumentException" 7 ⟨"java/lang/RuntimeException", "<init>", "(Ljava/lang/String;)V"⟩ ∈ wsG := wsG_s13 _ (List.mem_of_getElem? (i := 13) rfl)
theorem wm_316 : Cond.instanceMethod ⟨"java/lang/RuntimeException", "<init>", "(Ljava/lang/String;)V"⟩ ∈ wsG := wsG_s13 _ (List.mem_of_getElem? (i := 14) rfl)
theorem wm_317 : Cond.code ⟨"java/lang/RuntimeException", "<init>", "(Ljava/lang/String;)V"⟩ prog_14_method_2_code 2 none ∈ wsG := wsG_s13 _ (List.mem_of_getElem? (i := 15) rfl)
theorem wm_318 : Cond.methodLink "java/lang/RuntimeException" 7 ⟨"java/lang/Exception", "<init>", "(Ljava/lang/String;)V"⟩ ∈ wsG := wsG_s13 _ (List.mem_of_getElem? (i := 16) rfl)
theorem wm_319 : Cond.instanceMethod ⟨"java/lang/Exception", "<init>", "(Ljava/lang/String;)V"⟩ ∈ wsG := wsG_s13 _ (List.mem_of_getElem? (i := 17) rfl)
theorem wm_320 : Cond.code ⟨"java/lang/Exception", "<init>", "(Ljava/lang/String;)V"⟩ prog_10_method_2_code 2 none ∈ wsG := wsG_s13 _ (List.mem_of_getElem? (i := 18) rfl)
theorem wm_321 : Cond.methodLink "java/lang/Exception" 7 ⟨"java/lang/Throwable", "<init>", "(Ljava/lang/String;)V"⟩ ∈ wsG := wsG_s13 _ (List.mem_of_getElem? (i := 19) rfl)
theorem wm_322 : Cond.instanceMethod ⟨"java/lang/Throwable", "<init>", "(Ljava/lang/String;)V"⟩ ∈ wsG := wsG_s13 _ (List.mem_of_getElem? (i := 20) rfl)
theorem wm_323 : Cond.code ⟨"java/lang/Throwable", "<init>", "(Ljava/lang/String;)V"⟩ prog_16_method_2_code 2 none ∈ wsG := wsG_s13 _ (List.mem_of_getElem? (i := 21) rfl)
theorem wm_324 : Cond.fieldLink "java/lang/Throwable" 31 "java/lang/Throwable" "detailMessage" "Ljava/lang/String;" ∈ wsG := wsG_s13 _ (List.mem_of_getElem? (i := 22) rfl)
theorem wm_325 : Cond.fieldLink "java/lang/Throwable" 7 "java/lang/Throwable" "cause" "Ljava/lang/Throwable;" ∈ wsG := wsG_s13 _ (List.mem_of_getElem? (i := 23) rfl)
theorem wm_326 : Cond.fieldLink "java/lang/Throwable" 17 "java/lang/Throwable" "stackTrace" "[Ljava/lang/StackTraceElement;" ∈ wsG := wsG_s13 _ (List.mem_of_getElem? (i := 24) rfl)
theorem wm_327 : Cond.fieldLink "java/lang/Throwable" 24 "java/lang/Throwable" "suppressedExceptions" "Ljava/util/List;" ∈ wsG := wsG_s14 _ (List.mem_of_getElem? (i := 0) rfl)
theorem wm_328 : Cond.lays "java/lang/IllegalArgumentException" "java/lang/Throwable" "depth" "I" ∈ wsG := wsG_s14 _ (List.mem_of_getElem? (i := 1) rfl)
theorem wm_329 : Cond.arrayClass .byte ∈ wsG := wsG_s14 _ (List.mem_of_getElem? (i := 2) rfl)
theorem wm_330 : Cond.methodLink RX6 101 yX2_findNeeded ∈ wsG := wsG_s14 _ (List.mem_of_getElem? (i := 3) rfl)
theorem wm_331 : Cond.instanceMethod yX2_findNeeded ∈ wsG := wsG_s14 _ (List.mem_of_getElem? (i := 4) rfl)
theorem wm_332 : Cond.selects RX2 yX2_findNeeded yX2_findNeeded ∈ wsG := wsG_s14 _ (List.mem_of_getElem? (i := 5) rfl)
theorem wm_333 : Cond.code yX2_findNeeded cX2_findNeeded 9 none ∈ wsG := wsG_s14 _ (List.mem_of_getElem? (i := 6) rfl)
theorem wm_334 : Cond.methodLink RX2 22 yX5_waitsFor ∈ wsG := wsG_s14 _ (List.mem_of_getElem? (i := 7) rfl)
theorem wm_335 : Cond.instanceMethod yX5_waitsFor ∈ wsG := wsG_s14 _ (List.mem_of_getElem? (i := 8) rfl)
theorem wm_336 : Cond.selects RX5 yX5_waitsFor yX5_waitsFor ∈ wsG := wsG_s14 _ (List.mem_of_getElem? (i := 9) rfl)
theorem wm_337 : Cond.code yX5_waitsFor cX5_waitsFor 6 (some .long) ∈ wsG := wsG_s14 _ (List.mem_of_getElem? (i := 10) rfl)
theorem wm_338 : Cond.methodLink RX5 50 yX1_makerOf ∈ wsG := wsG_s14 _ (List.mem_of_getElem? (i := 11) rfl)
theorem wm_339 : Cond.static yX6_bit ∈ wsG := wsG_s14 _ (List.mem_of_getElem? (i := 12) rfl)
theorem wm_340 : Cond.code yX6_bit cX6_bit 1 (some .long) ∈ wsG := wsG_s14 _ (List.mem_of_getElem? (i := 13) rfl)
theorem wm_341 : Cond.static yX6_isIn ∈ wsG := wsG_s14 _ (List.mem_of_getElem? (i := 14) rfl)
theorem wm_342 : Cond.code yX6_isIn cX6_isIn 3 (some .boolean) ∈ wsG := wsG_s14 _ (List.mem_of_getElem? (i := 15) rfl)
theorem wm_343 : Cond.methodLink RX6 183 yX6_bit ∈ wsG := wsG_s14 _ (List.mem_of_getElem? (i := 16) rfl)
theorem wm_344 : Cond.methodLink RX6 105 yX2_lineUp ∈ wsG := wsG_s14 _ (List.mem_of_getElem? (i := 17) rfl)
theorem wm_345 : Cond.instanceMethod yX2_lineUp ∈ wsG := wsG_s14 _ (List.mem_of_getElem? (i := 18) rfl)
theorem wm_346 : Cond.selects RX2 yX2_lineUp yX2_lineUp ∈ wsG := wsG_s14 _ (List.mem_of_getElem? (i := 19) rfl)
theorem wm_347 : Cond.code yX2_lineUp cX2_lineUp 5 (some .boolean) ∈ wsG := wsG_s14 _ (List.mem_of_getElem? (i := 20) rfl)
theorem wm_348 : Cond.constantLong RX2 44 (-1) ∈ wsG := wsG_s14 _ (List.mem_of_getElem? (i := 21) rfl)
theorem wm_349 : Cond.methodLink RX6 109 yX4_find ∈ wsG := wsG_s14 _ (List.mem_of_getElem? (i := 22) rfl)
theorem wm_350 : Cond.instanceMethod yX4_find ∈ wsG := wsG_s14 _ (List.mem_of_getElem? (i := 23) rfl)
theorem wm_351 : Cond.selects RX4 yX4_find yX4_find ∈ wsG := wsG_s14 _ (List.mem_of_getElem? (i := 24) rfl)
theorem wm_352 : Cond.code yX4_find cX4_find 4 none ∈ wsG := wsG_s15 _ (List.mem_of_getElem? (i := 0) rfl)
theorem wm_353 : Cond.methodLink RX4 29 yX4_measure ∈ wsG := wsG_s15 _ (List.mem_of_getElem? (i := 1) rfl)
theorem wm_354 : Cond.instanceMethod yX4_measure ∈ wsG := wsG_s15 _ (List.mem_of_getElem? (i := 2) rfl)
theorem wm_355 : Cond.code yX4_measure cX4_measure 4 (some .int) ∈ wsG := wsG_s15 _ (List.mem_of_getElem? (i := 3) rfl)
theorem wm_356 : Cond.methodLink RX4 41 yX2_waitingFor ∈ wsG := wsG_s15 _ (List.mem_of_getElem? (i := 4) rfl)
theorem wm_357 : Cond.instanceMethod yX2_waitingFor ∈ wsG := wsG_s15 _ (List.mem_of_getElem? (i := 5) rfl)
theorem wm_358 : Cond.selects RX2 yX2_waitingFor yX2_waitingFor ∈ wsG := wsG_s15 _ (List.mem_of_getElem? (i := 6) rfl)
theorem wm_359 : Cond.code yX2_waitingFor cX2_waitingFor 6 (some .long) ∈ wsG := wsG_s15 _ (List.mem_of_getElem? (i := 7) rfl)
theorem wm_360 : Cond.methodLink RX4 33 yX4_walk ∈ wsG := wsG_s15 _ (List.mem_of_getElem? (i := 8) rfl)
theorem wm_361 : Cond.instanceMethod yX4_walk ∈ wsG := wsG_s15 _ (List.mem_of_getElem? (i := 9) rfl)
theorem wm_362 : Cond.code yX4_walk cX4_walk 6 none ∈ wsG := wsG_s15 _ (List.mem_of_getElem? (i := 10) rfl)
theorem wm_363 : Cond.methodLink RX4 48 yX4_least ∈ wsG := wsG_s15 _ (List.mem_of_getElem? (i := 11) rfl)
theorem wm_364 : Cond.static yX4_least ∈ wsG := wsG_s15 _ (List.mem_of_getElem? (i := 12) rfl)
theorem wm_365 : Cond.code yX4_least cX4_least 4 (some .int) ∈ wsG := wsG_s15 _ (List.mem_of_getElem? (i := 13) rfl)
theorem wm_366 : Cond.classLink RX6 113 "java/lang/IllegalStateException" ∈ wsG := wsG_s15 _ (List.mem_of_getElem? (i := 14) rfl)
theorem wm_367 : Cond.instantiable "java/lang/IllegalStateException" 6 ∈ wsG := wsG_s15 _ (List.mem_of_getElem? (i := 15) rfl)
theorem wm_368 : Cond.selects "java/lang/IllegalStateException" ⟨"java/lang/Throwable", "fillInStackTrace", "(I)Ljava/lang/Throwable;"⟩ ⟨"java/lang/Throwable", "fillInStackTrace", "(I)Ljava/lang/Throwable;"⟩ ∈ wsG := wsG_s15 _ (List.mem_of_getElem? (i := 16) rfl)
theorem wm_369 : Cond.lays "java/lang/IllegalStateException" "java/lang/Throwable" "cause" "Ljava/lang/Throwable;" ∈ wsG := wsG_s15 _ (List.mem_of_getElem? (i := 17) rfl)
theorem wm_370 : Cond.lays "java/lang/IllegalStateException" "java/lang/Throwable" "stackTrace" "[Ljava/lang/StackTraceElement;" ∈ wsG := wsG_s15 _ (List.mem_of_getElem? (i := 18) rfl)
theorem wm_371 : Cond.lays "java/lang/IllegalStateException" "java/lang/Throwable" "suppressedExceptions" "Ljava/util/List;" ∈ wsG := wsG_s15 _ (List.mem_of_getElem? (i := 19) rfl)
theorem wm_372 : Cond.lays "java/lang/IllegalStateException" "java/lang/Throwable" "detailMessage" "Ljava/lang/String;" ∈ wsG := wsG_s15 _ (List.mem_of_getElem? (i := 20) rfl)
theorem wm_373 : Cond.lays "java/lang/IllegalStateException" "java/lang/Throwable" "backtrace" "Ljava/lang/Object;" ∈ wsG := wsG_s15 _ (List.mem_of_getElem? (i := 21) rfl)
theorem wm_374 : Cond.methodLink RX6 117 ⟨"java/lang/IllegalStateException", "<init>", "(Ljava/lang/String;)V"⟩ ∈ wsG := wsG_s15 _ (List.mem_of_getElem? (i := 22) rfl)
theorem wm_375 : Cond.instanceMethod ⟨"java/lang/IllegalStateException", "<init>", "(Ljava/lang/String;)V"⟩ ∈ wsG := wsG_s15 _ (List.mem_of_getElem? (i := 23) rfl)
theorem wm_376 : Cond.code ⟨"java/lang/IllegalStateException", "<init>", "(Ljava/lang/String;)V"⟩ prog_12_method_2_code 2 none ∈ wsG := wsG_s15 _ (List.mem_of_getElem? (i := 24) rfl)
theorem wm_377 : Cond.methodLink "java/lang/IllegalStateException" 7 ⟨"java/lang/RuntimeException", "<init>", "(Ljava/lang/String;)V"⟩ ∈ wsG := wsG_s16 _ (List.mem_of_getElem? (i := 0) rfl)
theorem wm_378 : Cond.lays "java/lang/IllegalStateException" "java/lang/Throwable" "depth" "I" ∈ wsG := wsG_s16 _ (List.mem_of_getElem? (i := 1) rfl)
theorem wm_379 : Cond.methodLink RX6 118 yX6_sourceLacks ∈ wsG := wsG_s16 _ (List.mem_of_getElem? (i := 2) rfl)
theorem wm_380 : Cond.instanceMethod yX6_sourceLacks ∈ wsG := wsG_s16 _ (List.mem_of_getElem? (i := 3) rfl)
theorem wm_381 : Cond.code yX6_sourceLacks cX6_sourceLacks 3 (some .boolean) ∈ wsG := wsG_s16 _ (List.mem_of_getElem? (i := 4) rfl)
theorem wm_382 : Cond.methodLink RX6 191 yX1_lacksSource ∈ wsG := wsG_s16 _ (List.mem_of_getElem? (i := 5) rfl)
theorem wm_383 : Cond.instanceMethod yX1_lacksSource ∈ wsG := wsG_s16 _ (List.mem_of_getElem? (i := 6) rfl)
theorem wm_384 : Cond.selects RX1 yX1_lacksSource yX1_lacksSource ∈ wsG := wsG_s16 _ (List.mem_of_getElem? (i := 7) rfl)
theorem wm_385 : Cond.code yX1_lacksSource cX1_lacksSource 2 (some .boolean) ∈ wsG := wsG_s16 _ (List.mem_of_getElem? (i := 8) rfl)
theorem wm_386 : Cond.methodLink RX6 197 yX6_isIn ∈ wsG := wsG_s16 _ (List.mem_of_getElem? (i := 9) rfl)
theorem wm_387 : Cond.methodLink RX6 201 yX5_lacksSource ∈ wsG := wsG_s16 _ (List.mem_of_getElem? (i := 10) rfl)
theorem wm_388 : Cond.instanceMethod yX5_lacksSource ∈ wsG := wsG_s16 _ (List.mem_of_getElem? (i := 11) rfl)
theorem wm_389 : Cond.selects RX5 yX5_lacksSource yX5_lacksSource ∈ wsG := wsG_s16 _ (List.mem_of_getElem? (i := 12) rfl)
theorem wm_390 : Cond.code yX5_lacksSource cX5_lacksSource 3 (some .boolean) ∈ wsG := wsG_s16 _ (List.mem_of_getElem? (i := 13) rfl)
theorem wm_391 : Cond.methodLink RX5 58 yX1_lacksSource ∈ wsG := wsG_s16 _ (List.mem_of_getElem? (i := 14) rfl)
theorem wm_392 : Cond.methodLink RX6 123 yX2_rankSteps ∈ wsG := wsG_s16 _ (List.mem_of_getElem? (i := 15) rfl)
theorem wm_393 : Cond.instanceMethod yX2_rankSteps ∈ wsG := wsG_s16 _ (List.mem_of_getElem? (i := 16) rfl)
theorem wm_394 : Cond.selects RX2 yX2_rankSteps yX2_rankSteps ∈ wsG := wsG_s16 _ (List.mem_of_getElem? (i := 17) rfl)
theorem wm_395 : Cond.code yX2_rankSteps cX2_rankSteps 5 none ∈ wsG := wsG_s16 _ (List.mem_of_getElem? (i := 18) rfl)
theorem wm_396 : Cond.methodLink RX2 49 Lib.Math.max.name ∈ wsG := wsG_s16 _ (List.mem_of_getElem? (i := 19) rfl)
theorem wm_397 : Cond.static Lib.Math.max.name ∈ wsG := wsG_s16 _ (List.mem_of_getElem? (i := 20) rfl)
theorem wm_398 : Cond.code Lib.Math.max.name Lib.Math.max.code 2 (some .int) ∈ wsG := wsG_s16 _ (List.mem_of_getElem? (i := 21) rfl)
theorem wm_399 : Cond.methodLink RX6 127 yX3_open ∈ wsG := wsG_s16 _ (List.mem_of_getElem? (i := 22) rfl)
theorem wm_400 : Cond.instanceMethod yX3_open ∈ wsG := wsG_s17 _ (List.mem_of_getElem? (i := 0) rfl)
theorem wm_401 : Cond.selects RX3 yX3_open yX3_open ∈ wsG := wsG_s17 _ (List.mem_of_getElem? (i := 1) rfl)
theorem wm_402 : Cond.code yX3_open cX3_open 2 none ∈ wsG := wsG_s17 _ (List.mem_of_getElem? (i := 2) rfl)
theorem wm_403 : Cond.methodLink RX3 30 yX2_greatestRank ∈ wsG := wsG_s17 _ (List.mem_of_getElem? (i := 3) rfl)
theorem wm_404 : Cond.instanceMethod yX2_greatestRank ∈ wsG := wsG_s17 _ (List.mem_of_getElem? (i := 4) rfl)
theorem wm_405 : Cond.selects RX2 yX2_greatestRank yX2_greatestRank ∈ wsG := wsG_s17 _ (List.mem_of_getElem? (i := 5) rfl)
theorem wm_406 : Cond.code yX2_greatestRank cX2_greatestRank 3 (some .int) ∈ wsG := wsG_s17 _ (List.mem_of_getElem? (i := 6) rfl)
theorem wm_407 : Cond.methodLink RX6 130 yX6_makeNeeded ∈ wsG := wsG_s17 _ (List.mem_of_getElem? (i := 7) rfl)
theorem wm_408 : Cond.instanceMethod yX6_makeNeeded ∈ wsG := wsG_s17 _ (List.mem_of_getElem? (i := 8) rfl)
theorem wm_409 : Cond.code yX6_makeNeeded cX6_makeNeeded 5 (some .int) ∈ wsG := wsG_s17 _ (List.mem_of_getElem? (i := 9) rfl)
theorem wm_410 : Cond.methodLink RX6 204 yX0_comeIn ∈ wsG := wsG_s17 _ (List.mem_of_getElem? (i := 10) rfl)
theorem wm_411 : Cond.instanceMethod yX0_comeIn ∈ wsG := wsG_s17 _ (List.mem_of_getElem? (i := 11) rfl)
theorem wm_412 : Cond.selects RX0 yX0_comeIn yX0_comeIn ∈ wsG := wsG_s17 _ (List.mem_of_getElem? (i := 12) rfl)
theorem wm_413 : Cond.code yX0_comeIn cX0_comeIn 2 none ∈ wsG := wsG_s17 _ (List.mem_of_getElem? (i := 13) rfl)
theorem wm_414 : Cond.methodLink RX6 207 yX6_endSteps ∈ wsG := wsG_s17 _ (List.mem_of_getElem? (i := 14) rfl)
theorem wm_415 : Cond.instanceMethod yX6_endSteps ∈ wsG := wsG_s17 _ (List.mem_of_getElem? (i := 15) rfl)
theorem wm_416 : Cond.code yX6_endSteps cX6_endSteps 3 none ∈ wsG := wsG_s17 _ (List.mem_of_getElem? (i := 16) rfl)
theorem wm_417 : Cond.methodLink RX6 220 yX0_endsAt ∈ wsG := wsG_s17 _ (List.mem_of_getElem? (i := 17) rfl)
theorem wm_418 : Cond.instanceMethod yX0_endsAt ∈ wsG := wsG_s17 _ (List.mem_of_getElem? (i := 18) rfl)
theorem wm_419 : Cond.selects RX0 yX0_endsAt yX0_endsAt ∈ wsG := wsG_s17 _ (List.mem_of_getElem? (i := 19) rfl)
theorem wm_420 : Cond.code yX0_endsAt cX0_endsAt 3 (some .boolean) ∈ wsG := wsG_s17 _ (List.mem_of_getElem? (i := 20) rfl)
theorem wm_421 : Cond.methodLink RX6 224 yX5_make ∈ wsG := wsG_s17 _ (List.mem_of_getElem? (i := 21) rfl)
theorem wm_422 : Cond.instanceMethod yX5_make ∈ wsG := wsG_s17 _ (List.mem_of_getElem? (i := 22) rfl)
theorem wm_423 : Cond.selects RX5 yX5_make yX5_make ∈ wsG := wsG_s17 _ (List.mem_of_getElem? (i := 23) rfl)
theorem wm_424 : Cond.code yX5_make cX5_make 5 none ∈ wsG := wsG_s17 _ (List.mem_of_getElem? (i := 24) rfl)
theorem wm_425 : Cond.constant RX5 91 16777619 ∈ wsG := wsG_s18 _ (List.mem_of_getElem? (i := 0) rfl)
theorem wm_426 : Cond.methodLink RX5 92 yX1_fill ∈ wsG := wsG_s18 _ (List.mem_of_getElem? (i := 1) rfl)
theorem wm_427 : Cond.methodLink RX6 227 yX0_end ∈ wsG := wsG_s18 _ (List.mem_of_getElem? (i := 2) rfl)
theorem wm_428 : Cond.instanceMethod yX0_end ∈ wsG := wsG_s18 _ (List.mem_of_getElem? (i := 3) rfl)
theorem wm_429 : Cond.selects RX0 yX0_end yX0_end ∈ wsG := wsG_s18 _ (List.mem_of_getElem? (i := 4) rfl)
theorem wm_430 : Cond.code yX0_end cX0_end 2 none ∈ wsG := wsG_s18 _ (List.mem_of_getElem? (i := 5) rfl)
theorem wm_431 : Cond.constantLong RX0 33 (-1) ∈ wsG := wsG_s18 _ (List.mem_of_getElem? (i := 6) rfl)
theorem wm_432 : Cond.methodLink RX6 211 yX6_passOverSteps ∈ wsG := wsG_s18 _ (List.mem_of_getElem? (i := 7) rfl)
theorem wm_433 : Cond.instanceMethod yX6_passOverSteps ∈ wsG := wsG_s18 _ (List.mem_of_getElem? (i := 8) rfl)
theorem wm_434 : Cond.code yX6_passOverSteps cX6_passOverSteps 4 none ∈ wsG := wsG_s18 _ (List.mem_of_getElem? (i := 9) rfl)
theorem wm_435 : Cond.methodLink RX6 230 yX6_isReady ∈ wsG := wsG_s18 _ (List.mem_of_getElem? (i := 10) rfl)
theorem wm_436 : Cond.instanceMethod yX6_isReady ∈ wsG := wsG_s18 _ (List.mem_of_getElem? (i := 11) rfl)
theorem wm_437 : Cond.code yX6_isReady cX6_isReady 2 (some .boolean) ∈ wsG := wsG_s18 _ (List.mem_of_getElem? (i := 12) rfl)
theorem wm_438 : Cond.methodLink RX6 255 yX0_isOpen ∈ wsG := wsG_s18 _ (List.mem_of_getElem? (i := 13) rfl)
theorem wm_439 : Cond.instanceMethod yX0_isOpen ∈ wsG := wsG_s18 _ (List.mem_of_getElem? (i := 14) rfl)
theorem wm_440 : Cond.selects RX0 yX0_isOpen yX0_isOpen ∈ wsG := wsG_s18 _ (List.mem_of_getElem? (i := 15) rfl)
theorem wm_441 : Cond.code yX0_isOpen cX0_isOpen 2 (some .boolean) ∈ wsG := wsG_s18 _ (List.mem_of_getElem? (i := 16) rfl)
theorem wm_442 : Cond.methodLink RX6 262 yX0_areDone ∈ wsG := wsG_s18 _ (List.mem_of_getElem? (i := 17) rfl)
theorem wm_443 : Cond.instanceMethod yX0_areDone ∈ wsG := wsG_s18 _ (List.mem_of_getElem? (i := 18) rfl)
theorem wm_444 : Cond.selects RX0 yX0_areDone yX0_areDone ∈ wsG := wsG_s18 _ (List.mem_of_getElem? (i := 19) rfl)
theorem wm_445 : Cond.code yX0_areDone cX0_areDone 3 (some .boolean) ∈ wsG := wsG_s18 _ (List.mem_of_getElem? (i := 20) rfl)
theorem wm_446 : Cond.methodLink RX6 233 yX0_passOver ∈ wsG := wsG_s18 _ (List.mem_of_getElem? (i := 21) rfl)
theorem wm_447 : Cond.instanceMethod yX0_passOver ∈ wsG := wsG_s18 _ (List.mem_of_getElem? (i := 22) rfl)
theorem wm_448 : Cond.selects RX0 yX0_passOver yX0_passOver ∈ wsG := wsG_s18 _ (List.mem_of_getElem? (i := 23) rfl)
theorem wm_449 : Cond.code yX0_passOver cX0_passOver 2 none ∈ wsG := wsG_s18 _ (List.mem_of_getElem? (i := 24) rfl)
theorem wm_450 : Cond.methodLink RX6 214 yX6_beginSteps ∈ wsG := wsG_s19 _ (List.mem_of_getElem? (i := 0) rfl)
theorem wm_451 : Cond.instanceMethod yX6_beginSteps ∈ wsG := wsG_s19 _ (List.mem_of_getElem? (i := 1) rfl)
theorem wm_452 : Cond.code yX6_beginSteps cX6_beginSteps 6 none ∈ wsG := wsG_s19 _ (List.mem_of_getElem? (i := 2) rfl)
theorem wm_453 : Cond.methodLink RX6 236 yX0_isBusy ∈ wsG := wsG_s19 _ (List.mem_of_getElem? (i := 3) rfl)
theorem wm_454 : Cond.instanceMethod yX0_isBusy ∈ wsG := wsG_s19 _ (List.mem_of_getElem? (i := 4) rfl)
theorem wm_455 : Cond.selects RX0 yX0_isBusy yX0_isBusy ∈ wsG := wsG_s19 _ (List.mem_of_getElem? (i := 5) rfl)
theorem wm_456 : Cond.code yX0_isBusy cX0_isBusy 2 (some .boolean) ∈ wsG := wsG_s19 _ (List.mem_of_getElem? (i := 6) rfl)
theorem wm_457 : Cond.methodLink RX6 239 yX6_nextToBegin ∈ wsG := wsG_s19 _ (List.mem_of_getElem? (i := 7) rfl)
theorem wm_458 : Cond.instanceMethod yX6_nextToBegin ∈ wsG := wsG_s19 _ (List.mem_of_getElem? (i := 8) rfl)
theorem wm_459 : Cond.code yX6_nextToBegin cX6_nextToBegin 4 (some .int) ∈ wsG := wsG_s19 _ (List.mem_of_getElem? (i := 9) rfl)
theorem wm_460 : Cond.methodLink RX6 245 yX3_add ∈ wsG := wsG_s19 _ (List.mem_of_getElem? (i := 10) rfl)
theorem wm_461 : Cond.instanceMethod yX3_add ∈ wsG := wsG_s19 _ (List.mem_of_getElem? (i := 11) rfl)
theorem wm_462 : Cond.selects RX3 yX3_add yX3_add ∈ wsG := wsG_s19 _ (List.mem_of_getElem? (i := 12) rfl)
theorem wm_463 : Cond.code yX3_add cX3_add 7 none ∈ wsG := wsG_s19 _ (List.mem_of_getElem? (i := 13) rfl)
theorem wm_464 : Cond.methodLink RX6 249 yX0_begin ∈ wsG := wsG_s19 _ (List.mem_of_getElem? (i := 14) rfl)
theorem wm_465 : Cond.instanceMethod yX0_begin ∈ wsG := wsG_s19 _ (List.mem_of_getElem? (i := 15) rfl)
theorem wm_466 : Cond.selects RX0 yX0_begin yX0_begin ∈ wsG := wsG_s19 _ (List.mem_of_getElem? (i := 16) rfl)
theorem wm_467 : Cond.code yX0_begin cX0_begin 4 none ∈ wsG := wsG_s19 _ (List.mem_of_getElem? (i := 17) rfl)
theorem wm_468 : Cond.methodLink RX6 217 yX0_nextEnd ∈ wsG := wsG_s19 _ (List.mem_of_getElem? (i := 18) rfl)
theorem wm_469 : Cond.instanceMethod yX0_nextEnd ∈ wsG := wsG_s19 _ (List.mem_of_getElem? (i := 19) rfl)
theorem wm_470 : Cond.selects RX0 yX0_nextEnd yX0_nextEnd ∈ wsG := wsG_s19 _ (List.mem_of_getElem? (i := 20) rfl)
theorem wm_471 : Cond.code yX0_nextEnd cX0_nextEnd 3 (some .int) ∈ wsG := wsG_s19 _ (List.mem_of_getElem? (i := 21) rfl)
theorem wm_472 : Cond.methodLink RL 74 yL_begun ∈ wsG := wsG_s19 _ (List.mem_of_getElem? (i := 22) rfl)
theorem wm_473 : Cond.static yL_begun ∈ wsG := wsG_s19 _ (List.mem_of_getElem? (i := 23) rfl)
theorem wm_474 : Cond.classLink RL 20 "java/util/NoSuchElementException" ∈ wsG := wsG_s19 _ (List.mem_of_getElem? (i := 24) rfl)
theorem wm_475 : Cond.methodLink RL 17 yX6_begun ∈ wsG := wsG_s20 _ (List.mem_of_getElem? (i := 0) rfl)
theorem wm_476 : Cond.instanceMethod yX6_begun ∈ wsG := wsG_s20 _ (List.mem_of_getElem? (i := 1) rfl)
theorem wm_477 : Cond.selects RX6 yX6_begun yX6_begun ∈ wsG := wsG_s20 _ (List.mem_of_getElem? (i := 2) rfl)
theorem wm_478 : Cond.code yX6_begun cX6_begun 3 (some .int) ∈ wsG := wsG_s20 _ (List.mem_of_getElem? (i := 3) rfl)
theorem wm_479 : Cond.classLink RX6 153 "java/util/NoSuchElementException" ∈ wsG := wsG_s20 _ (List.mem_of_getElem? (i := 4) rfl)
theorem wm_480 : Cond.instantiable "java/util/NoSuchElementException" 6 ∈ wsG := wsG_s20 _ (List.mem_of_getElem? (i := 5) rfl)
theorem wm_481 : Cond.selects "java/util/NoSuchElementException" ⟨"java/lang/Throwable", "fillInStackTrace", "(I)Ljava/lang/Throwable;"⟩ ⟨"java/lang/Throwable", "fillInStackTrace", "(I)Ljava/lang/Throwable;"⟩ ∈ wsG := wsG_s20 _ (List.mem_of_getElem? (i := 6) rfl)
theorem wm_482 : Cond.lays "java/util/NoSuchElementException" "java/lang/Throwable" "cause" "Ljava/lang/Throwable;" ∈ wsG := wsG_s20 _ (List.mem_of_getElem? (i := 7) rfl)
theorem wm_483 : Cond.lays "java/util/NoSuchElementException" "java/lang/Throwable" "stackTrace" "[Ljava/lang/StackTraceElement;" ∈ wsG := wsG_s20 _ (List.mem_of_getElem? (i := 8) rfl)
theorem wm_484 : Cond.lays "java/util/NoSuchElementException" "java/lang/Throwable" "suppressedExceptions" "Ljava/util/List;" ∈ wsG := wsG_s20 _ (List.mem_of_getElem? (i := 9) rfl)
theorem wm_485 : Cond.lays "java/util/NoSuchElementException" "java/lang/Throwable" "detailMessage" "Ljava/lang/String;" ∈ wsG := wsG_s20 _ (List.mem_of_getElem? (i := 10) rfl)
theorem wm_486 : Cond.lays "java/util/NoSuchElementException" "java/lang/Throwable" "backtrace" "Ljava/lang/Object;" ∈ wsG := wsG_s20 _ (List.mem_of_getElem? (i := 11) rfl)
theorem wm_487 : Cond.methodLink RX6 157 ⟨"java/util/NoSuchElementException", "<init>", "(Ljava/lang/String;)V"⟩ ∈ wsG := wsG_s20 _ (List.mem_of_getElem? (i := 12) rfl)
theorem wm_488 : Cond.instanceMethod ⟨"java/util/NoSuchElementException", "<init>", "(Ljava/lang/String;)V"⟩ ∈ wsG := wsG_s20 _ (List.mem_of_getElem? (i := 13) rfl)
theorem wm_489 : Cond.code ⟨"java/util/NoSuchElementException", "<init>", "(Ljava/lang/String;)V"⟩ prog_17_method_4_code 2 none ∈ wsG := wsG_s20 _ (List.mem_of_getElem? (i := 14) rfl)
theorem wm_490 : Cond.methodLink "java/util/NoSuchElementException" 13 ⟨"java/lang/RuntimeException", "<init>", "(Ljava/lang/String;)V"⟩ ∈ wsG := wsG_s20 _ (List.mem_of_getElem? (i := 15) rfl)
theorem wm_491 : Cond.lays "java/util/NoSuchElementException" "java/lang/Throwable" "depth" "I" ∈ wsG := wsG_s20 _ (List.mem_of_getElem? (i := 16) rfl)
theorem wm_492 : Cond.methodLink RX6 158 yX3_cell ∈ wsG := wsG_s20 _ (List.mem_of_getElem? (i := 17) rfl)
theorem wm_493 : Cond.instanceMethod yX3_cell ∈ wsG := wsG_s20 _ (List.mem_of_getElem? (i := 18) rfl)
theorem wm_494 : Cond.selects RX3 yX3_cell yX3_cell ∈ wsG := wsG_s20 _ (List.mem_of_getElem? (i := 19) rfl)
theorem wm_495 : Cond.code yX3_cell cX3_cell 3 (some .int) ∈ wsG := wsG_s20 _ (List.mem_of_getElem? (i := 20) rfl)
theorem wm_496 : Cond.methodLink RL 77 yL_cycle ∈ wsG := wsG_s20 _ (List.mem_of_getElem? (i := 21) rfl)
theorem wm_497 : Cond.static yL_cycle ∈ wsG := wsG_s20 _ (List.mem_of_getElem? (i := 22) rfl)
theorem wm_498 : Cond.methodLink RL 22 yX6_cycle ∈ wsG := wsG_s20 _ (List.mem_of_getElem? (i := 23) rfl)
theorem wm_499 : Cond.instanceMethod yX6_cycle ∈ wsG := wsG_s20 _ (List.mem_of_getElem? (i := 24) rfl)
theorem wm_500 : Cond.selects RX6 yX6_cycle yX6_cycle ∈ wsG := wsG_s21 _ (List.mem_of_getElem? (i := 0) rfl)
theorem wm_501 : Cond.code yX6_cycle cX6_cycle 2 (some .int) ∈ wsG := wsG_s21 _ (List.mem_of_getElem? (i := 1) rfl)
theorem wm_502 : Cond.methodLink RL 81 yL_content ∈ wsG := wsG_s21 _ (List.mem_of_getElem? (i := 2) rfl)
theorem wm_503 : Cond.static yL_content ∈ wsG := wsG_s21 _ (List.mem_of_getElem? (i := 3) rfl)
theorem wm_504 : Cond.methodLink RL 26 yX6_content ∈ wsG := wsG_s21 _ (List.mem_of_getElem? (i := 4) rfl)
theorem wm_505 : Cond.instanceMethod yX6_content ∈ wsG := wsG_s21 _ (List.mem_of_getElem? (i := 5) rfl)
theorem wm_506 : Cond.selects RX6 yX6_content yX6_content ∈ wsG := wsG_s21 _ (List.mem_of_getElem? (i := 6) rfl)
theorem wm_507 : Cond.code yX6_content cX6_content 2 (some .int) ∈ wsG := wsG_s21 _ (List.mem_of_getElem? (i := 7) rfl)
theorem wm_508 : Cond.methodLink RX6 171 yX1_isFilled ∈ wsG := wsG_s21 _ (List.mem_of_getElem? (i := 8) rfl)
theorem wm_509 : Cond.methodLink RX6 176 yX1_contentOf ∈ wsG := wsG_s21 _ (List.mem_of_getElem? (i := 9) rfl)
theorem wm_510 : Cond.classLink RL 30 RX7 ∈ wsG := wsG_s21 _ (List.mem_of_getElem? (i := 10) rfl)
theorem wm_511 : Cond.instantiable RX7 40 ∈ wsG := wsG_s21 _ (List.mem_of_getElem? (i := 11) rfl)
theorem wm_512 : Cond.methodLink RL 32 yX7_init ∈ wsG := wsG_s21 _ (List.mem_of_getElem? (i := 12) rfl)
theorem wm_513 : Cond.instanceMethod yX7_init ∈ wsG := wsG_s21 _ (List.mem_of_getElem? (i := 13) rfl)
theorem wm_514 : Cond.code yX7_init cX7_init 2 none ∈ wsG := wsG_s21 _ (List.mem_of_getElem? (i := 14) rfl)
theorem wm_515 : Cond.methodLink RX7 1 objectInit ∈ wsG := wsG_s21 _ (List.mem_of_getElem? (i := 15) rfl)
theorem wm_516 : Cond.fieldLink RX7 110 "BuildDeskModel" "thrown" "I" ∈ wsG := wsG_s21 _ (List.mem_of_getElem? (i := 16) rfl)
theorem wm_517 : Cond.fieldLink RX7 7 "BuildDeskModel" "has" "[Z" ∈ wsG := wsG_s21 _ (List.mem_of_getElem? (i := 17) rfl)
theorem wm_518 : Cond.fieldLink RX7 13 "BuildDeskModel" "contents" "[I" ∈ wsG := wsG_s21 _ (List.mem_of_getElem? (i := 18) rfl)
theorem wm_519 : Cond.fieldLink RX7 17 "BuildDeskModel" "maker" "[I" ∈ wsG := wsG_s21 _ (List.mem_of_getElem? (i := 19) rfl)
theorem wm_520 : Cond.fieldLink RX7 20 "BuildDeskModel" "there" "[Z" ∈ wsG := wsG_s21 _ (List.mem_of_getElem? (i := 20) rfl)
theorem wm_521 : Cond.fieldLink RX7 23 "BuildDeskModel" "recipe" "[I" ∈ wsG := wsG_s21 _ (List.mem_of_getElem? (i := 21) rfl)
theorem wm_522 : Cond.fieldLink RX7 26 "BuildDeskModel" "mask" "[I" ∈ wsG := wsG_s21 _ (List.mem_of_getElem? (i := 22) rfl)
theorem wm_523 : Cond.fieldLink RX7 29 "BuildDeskModel" "duration" "[I" ∈ wsG := wsG_s21 _ (List.mem_of_getElem? (i := 23) rfl)
theorem wm_524 : Cond.fieldLink RX7 32 "BuildDeskModel" "inputs" "[I" ∈ wsG := wsG_s21 _ (List.mem_of_getElem? (i := 24) rfl)
theorem wm_525 : Cond.fieldLink RX7 35 "BuildDeskModel" "outputs" "[I" ∈ wsG := wsG_s22 _ (List.mem_of_getElem? (i := 0) rfl)
theorem wm_526 : Cond.fieldLink RX7 38 "BuildDeskModel" "ins" "[I" ∈ wsG := wsG_s22 _ (List.mem_of_getElem? (i := 1) rfl)
theorem wm_527 : Cond.fieldLink RX7 41 "BuildDeskModel" "outs" "[I" ∈ wsG := wsG_s22 _ (List.mem_of_getElem? (i := 2) rfl)
theorem wm_528 : Cond.fieldLink RX7 44 "BuildDeskModel" "made" "[Z" ∈ wsG := wsG_s22 _ (List.mem_of_getElem? (i := 3) rfl)
theorem wm_529 : Cond.fieldLink RX7 47 "BuildDeskModel" "oldRecipe" "[I" ∈ wsG := wsG_s22 _ (List.mem_of_getElem? (i := 4) rfl)
theorem wm_530 : Cond.fieldLink RX7 50 "BuildDeskModel" "oldMask" "[I" ∈ wsG := wsG_s22 _ (List.mem_of_getElem? (i := 5) rfl)
theorem wm_531 : Cond.fieldLink RX7 53 "BuildDeskModel" "oldInputs" "[I" ∈ wsG := wsG_s22 _ (List.mem_of_getElem? (i := 6) rfl)
theorem wm_532 : Cond.fieldLink RX7 56 "BuildDeskModel" "oldOutputs" "[I" ∈ wsG := wsG_s22 _ (List.mem_of_getElem? (i := 7) rfl)
theorem wm_533 : Cond.fieldLink RX7 59 "BuildDeskModel" "oldIns" "[I" ∈ wsG := wsG_s22 _ (List.mem_of_getElem? (i := 8) rfl)
theorem wm_534 : Cond.fieldLink RX7 62 "BuildDeskModel" "oldOuts" "[I" ∈ wsG := wsG_s22 _ (List.mem_of_getElem? (i := 9) rfl)
theorem wm_535 : Cond.fieldLink RX7 65 "BuildDeskModel" "oldContents" "[I" ∈ wsG := wsG_s22 _ (List.mem_of_getElem? (i := 10) rfl)
theorem wm_536 : Cond.fieldLink RX7 68 "BuildDeskModel" "needed" "[Z" ∈ wsG := wsG_s22 _ (List.mem_of_getElem? (i := 11) rfl)
theorem wm_537 : Cond.fieldLink RX7 71 "BuildDeskModel" "rank" "[I" ∈ wsG := wsG_s22 _ (List.mem_of_getElem? (i := 12) rfl)
theorem wm_538 : Cond.fieldLink RX7 74 "BuildDeskModel" "state" "[I" ∈ wsG := wsG_s22 _ (List.mem_of_getElem? (i := 13) rfl)
theorem wm_539 : Cond.fieldLink RX7 77 "BuildDeskModel" "ends" "[I" ∈ wsG := wsG_s22 _ (List.mem_of_getElem? (i := 14) rfl)
theorem wm_540 : Cond.fieldLink RX7 80 "BuildDeskModel" "mixed" "[I" ∈ wsG := wsG_s22 _ (List.mem_of_getElem? (i := 15) rfl)
theorem wm_541 : Cond.fieldLink RX7 83 "BuildDeskModel" "worker" "[I" ∈ wsG := wsG_s22 _ (List.mem_of_getElem? (i := 16) rfl)
theorem wm_542 : Cond.fieldLink RX7 86 "BuildDeskModel" "busy" "[Z" ∈ wsG := wsG_s22 _ (List.mem_of_getElem? (i := 17) rfl)
theorem wm_543 : Cond.fieldLink RX7 149 "BuildDeskModel" "now" "I" ∈ wsG := wsG_s22 _ (List.mem_of_getElem? (i := 18) rfl)
theorem wm_544 : Cond.fieldLink RX7 146 "BuildDeskModel" "told" "I" ∈ wsG := wsG_s22 _ (List.mem_of_getElem? (i := 19) rfl)
theorem wm_545 : Cond.fieldLink RX7 175 "BuildDeskModel" "neededMany" "I" ∈ wsG := wsG_s22 _ (List.mem_of_getElem? (i := 20) rfl)
theorem wm_546 : Cond.fieldLink RX7 152 "BuildDeskModel" "busyTime" "I" ∈ wsG := wsG_s22 _ (List.mem_of_getElem? (i := 21) rfl)
theorem wm_547 : Cond.fieldLink RX7 178 "BuildDeskModel" "greatest" "I" ∈ wsG := wsG_s22 _ (List.mem_of_getElem? (i := 22) rfl)
theorem wm_548 : Cond.fieldLink RX7 89 "BuildDeskModel" "toldStep" "[I" ∈ wsG := wsG_s22 _ (List.mem_of_getElem? (i := 23) rfl)
theorem wm_549 : Cond.fieldLink RX7 92 "BuildDeskModel" "toldBegin" "[I" ∈ wsG := wsG_s22 _ (List.mem_of_getElem? (i := 24) rfl)
theorem wm_550 : Cond.fieldLink RX7 95 "BuildDeskModel" "toldEnd" "[I" ∈ wsG := wsG_s23 _ (List.mem_of_getElem? (i := 0) rfl)
theorem wm_551 : Cond.fieldLink RX7 98 "BuildDeskModel" "toldWorker" "[I" ∈ wsG := wsG_s23 _ (List.mem_of_getElem? (i := 1) rfl)
theorem wm_552 : Cond.fieldLink RX7 101 "BuildDeskModel" "toldReason" "[I" ∈ wsG := wsG_s23 _ (List.mem_of_getElem? (i := 2) rfl)
theorem wm_553 : Cond.fieldLink RX7 139 "BuildDeskModel" "roundLong" "I" ∈ wsG := wsG_s23 _ (List.mem_of_getElem? (i := 3) rfl)
theorem wm_554 : Cond.fieldLink RX7 104 "BuildDeskModel" "round" "[I" ∈ wsG := wsG_s23 _ (List.mem_of_getElem? (i := 4) rfl)
theorem wm_555 : Cond.fieldLink RX7 107 "BuildDeskModel" "far" "[I" ∈ wsG := wsG_s23 _ (List.mem_of_getElem? (i := 5) rfl)
theorem wm_556 : Cond.lays RX7 "BuildDeskModel" "thrown" "I" ∈ wsG := wsG_s23 _ (List.mem_of_getElem? (i := 6) rfl)
theorem wm_557 : Cond.laysFinal RX7 "BuildDeskModel" "has" "[Z" ∈ wsG := wsG_s23 _ (List.mem_of_getElem? (i := 7) rfl)
theorem wm_558 : Cond.laysFinal RX7 "BuildDeskModel" "contents" "[I" ∈ wsG := wsG_s23 _ (List.mem_of_getElem? (i := 8) rfl)
theorem wm_559 : Cond.laysFinal RX7 "BuildDeskModel" "maker" "[I" ∈ wsG := wsG_s23 _ (List.mem_of_getElem? (i := 9) rfl)
theorem wm_560 : Cond.laysFinal RX7 "BuildDeskModel" "there" "[Z" ∈ wsG := wsG_s23 _ (List.mem_of_getElem? (i := 10) rfl)
theorem wm_561 : Cond.laysFinal RX7 "BuildDeskModel" "recipe" "[I" ∈ wsG := wsG_s23 _ (List.mem_of_getElem? (i := 11) rfl)
theorem wm_562 : Cond.laysFinal RX7 "BuildDeskModel" "mask" "[I" ∈ wsG := wsG_s23 _ (List.mem_of_getElem? (i := 12) rfl)
theorem wm_563 : Cond.laysFinal RX7 "BuildDeskModel" "duration" "[I" ∈ wsG := wsG_s23 _ (List.mem_of_getElem? (i := 13) rfl)
theorem wm_564 : Cond.laysFinal RX7 "BuildDeskModel" "inputs" "[I" ∈ wsG := wsG_s23 _ (List.mem_of_getElem? (i := 14) rfl)
theorem wm_565 : Cond.laysFinal RX7 "BuildDeskModel" "outputs" "[I" ∈ wsG := wsG_s23 _ (List.mem_of_getElem? (i := 15) rfl)
theorem wm_566 : Cond.laysFinal RX7 "BuildDeskModel" "ins" "[I" ∈ wsG := wsG_s23 _ (List.mem_of_getElem? (i := 16) rfl)
theorem wm_567 : Cond.laysFinal RX7 "BuildDeskModel" "outs" "[I" ∈ wsG := wsG_s23 _ (List.mem_of_getElem? (i := 17) rfl)
theorem wm_568 : Cond.laysFinal RX7 "BuildDeskModel" "made" "[Z" ∈ wsG := wsG_s23 _ (List.mem_of_getElem? (i := 18) rfl)
theorem wm_569 : Cond.laysFinal RX7 "BuildDeskModel" "oldRecipe" "[I" ∈ wsG := wsG_s23 _ (List.mem_of_getElem? (i := 19) rfl)
theorem wm_570 : Cond.laysFinal RX7 "BuildDeskModel" "oldMask" "[I" ∈ wsG := wsG_s23 _ (List.mem_of_getElem? (i := 20) rfl)
theorem wm_571 : Cond.laysFinal RX7 "BuildDeskModel" "oldInputs" "[I" ∈ wsG := wsG_s23 _ (List.mem_of_getElem? (i := 21) rfl)
theorem wm_572 : Cond.laysFinal RX7 "BuildDeskModel" "oldOutputs" "[I" ∈ wsG := wsG_s23 _ (List.mem_of_getElem? (i := 22) rfl)
theorem wm_573 : Cond.laysFinal RX7 "BuildDeskModel" "oldIns" "[I" ∈ wsG := wsG_s23 _ (List.mem_of_getElem? (i := 23) rfl)
theorem wm_574 : Cond.laysFinal RX7 "BuildDeskModel" "oldOuts" "[I" ∈ wsG := wsG_s23 _ (List.mem_of_getElem? (i := 24) rfl)
theorem wm_575 : Cond.laysFinal RX7 "BuildDeskModel" "oldContents" "[I" ∈ wsG := wsG_s24 _ (List.mem_of_getElem? (i := 0) rfl)
theorem wm_576 : Cond.laysFinal RX7 "BuildDeskModel" "needed" "[Z" ∈ wsG := wsG_s24 _ (List.mem_of_getElem? (i := 1) rfl)
theorem wm_577 : Cond.laysFinal RX7 "BuildDeskModel" "rank" "[I" ∈ wsG := wsG_s24 _ (List.mem_of_getElem? (i := 2) rfl)
theorem wm_578 : Cond.laysFinal RX7 "BuildDeskModel" "state" "[I" ∈ wsG := wsG_s24 _ (List.mem_of_getElem? (i := 3) rfl)
theorem wm_579 : Cond.laysFinal RX7 "BuildDeskModel" "ends" "[I" ∈ wsG := wsG_s24 _ (List.mem_of_getElem? (i := 4) rfl)
theorem wm_580 : Cond.laysFinal RX7 "BuildDeskModel" "mixed" "[I" ∈ wsG := wsG_s24 _ (List.mem_of_getElem? (i := 5) rfl)
theorem wm_581 : Cond.laysFinal RX7 "BuildDeskModel" "worker" "[I" ∈ wsG := wsG_s24 _ (List.mem_of_getElem? (i := 6) rfl)
theorem wm_582 : Cond.laysFinal RX7 "BuildDeskModel" "busy" "[Z" ∈ wsG := wsG_s24 _ (List.mem_of_getElem? (i := 7) rfl)
theorem wm_583 : Cond.lays RX7 "BuildDeskModel" "now" "I" ∈ wsG := wsG_s24 _ (List.mem_of_getElem? (i := 8) rfl)
theorem wm_584 : Cond.lays RX7 "BuildDeskModel" "told" "I" ∈ wsG := wsG_s24 _ (List.mem_of_getElem? (i := 9) rfl)
theorem wm_585 : Cond.lays RX7 "BuildDeskModel" "neededMany" "I" ∈ wsG := wsG_s24 _ (List.mem_of_getElem? (i := 10) rfl)
theorem wm_586 : Cond.lays RX7 "BuildDeskModel" "busyTime" "I" ∈ wsG := wsG_s24 _ (List.mem_of_getElem? (i := 11) rfl)
theorem wm_587 : Cond.lays RX7 "BuildDeskModel" "greatest" "I" ∈ wsG := wsG_s24 _ (List.mem_of_getElem? (i := 12) rfl)
theorem wm_588 : Cond.laysFinal RX7 "BuildDeskModel" "toldStep" "[I" ∈ wsG := wsG_s24 _ (List.mem_of_getElem? (i := 13) rfl)
theorem wm_589 : Cond.laysFinal RX7 "BuildDeskModel" "toldBegin" "[I" ∈ wsG := wsG_s24 _ (List.mem_of_getElem? (i := 14) rfl)
theorem wm_590 : Cond.laysFinal RX7 "BuildDeskModel" "toldEnd" "[I" ∈ wsG := wsG_s25 _ (List.mem_of_getElem? (i := 0) rfl)
theorem wm_591 : Cond.laysFinal RX7 "BuildDeskModel" "toldWorker" "[I" ∈ wsG := wsG_s25 _ (List.mem_of_getElem? (i := 1) rfl)
theorem wm_592 : Cond.laysFinal RX7 "BuildDeskModel" "toldReason" "[I" ∈ wsG := wsG_s25 _ (List.mem_of_getElem? (i := 2) rfl)
theorem wm_593 : Cond.lays RX7 "BuildDeskModel" "roundLong" "I" ∈ wsG := wsG_s25 _ (List.mem_of_getElem? (i := 3) rfl)
theorem wm_594 : Cond.laysFinal RX7 "BuildDeskModel" "round" "[I" ∈ wsG := wsG_s25 _ (List.mem_of_getElem? (i := 4) rfl)
theorem wm_595 : Cond.laysFinal RX7 "BuildDeskModel" "far" "[I" ∈ wsG := wsG_s25 _ (List.mem_of_getElem? (i := 5) rfl)
theorem wm_596 : Cond.methodLink RL 66 yX7_thrown ∈ wsG := wsG_s25 _ (List.mem_of_getElem? (i := 6) rfl)
theorem wm_597 : Cond.instanceMethod yX7_thrown ∈ wsG := wsG_s25 _ (List.mem_of_getElem? (i := 7) rfl)
theorem wm_598 : Cond.selects RX7 yX7_thrown yX7_thrown ∈ wsG := wsG_s25 _ (List.mem_of_getElem? (i := 8) rfl)
theorem wm_599 : Cond.code yX7_thrown cX7_thrown 1 (some .int) ∈ wsG := wsG_s25 _ (List.mem_of_getElem? (i := 9) rfl)
theorem wm_600 : Cond.methodLink RL 37 yX7_step ∈ wsG := wsG_s25 _ (List.mem_of_getElem? (i := 10) rfl)
theorem wm_601 : Cond.instanceMethod yX7_step ∈ wsG := wsG_s25 _ (List.mem_of_getElem? (i := 11) rfl)
theorem wm_602 : Cond.selects RX7 yX7_step yX7_step ∈ wsG := wsG_s25 _ (List.mem_of_getElem? (i := 12) rfl)
theorem wm_603 : Cond.code yX7_step cX7_step 5 (some .boolean) ∈ wsG := wsG_s25 _ (List.mem_of_getElem? (i := 13) rfl)
theorem wm_604 : Cond.methodLink RL 42 yX7_input ∈ wsG := wsG_s25 _ (List.mem_of_getElem? (i := 14) rfl)
theorem wm_605 : Cond.instanceMethod yX7_input ∈ wsG := wsG_s25 _ (List.mem_of_getElem? (i := 15) rfl)
theorem wm_606 : Cond.selects RX7 yX7_input yX7_input ∈ wsG := wsG_s25 _ (List.mem_of_getElem? (i := 16) rfl)
theorem wm_607 : Cond.code yX7_input cX7_input 3 (some .boolean) ∈ wsG := wsG_s25 _ (List.mem_of_getElem? (i := 17) rfl)
theorem wm_608 : Cond.methodLink RX7 114 yX7_isStep ∈ wsG := wsG_s25 _ (List.mem_of_getElem? (i := 18) rfl)
theorem wm_609 : Cond.instanceMethod yX7_isStep ∈ wsG := wsG_s25 _ (List.mem_of_getElem? (i := 19) rfl)
theorem wm_610 : Cond.code yX7_isStep cX7_isStep 2 (some .boolean) ∈ wsG := wsG_s25 _ (List.mem_of_getElem? (i := 20) rfl)
theorem wm_611 : Cond.methodLink RX7 118 yX7_isFile ∈ wsG := wsG_s25 _ (List.mem_of_getElem? (i := 21) rfl)
theorem wm_612 : Cond.static yX7_isFile ∈ wsG := wsG_s25 _ (List.mem_of_getElem? (i := 22) rfl)
theorem wm_613 : Cond.code yX7_isFile cX7_isFile 1 (some .boolean) ∈ wsG := wsG_s25 _ (List.mem_of_getElem? (i := 23) rfl)
theorem wm_614 : Cond.methodLink RL 46 yX7_output ∈ wsG := wsG_s25 _ (List.mem_of_getElem? (i := 24) rfl)
theorem wm_615 : Cond.instanceMethod yX7_output ∈ wsG := wsG_s26 _ (List.mem_of_getElem? (i := 0) rfl)
theorem wm_616 : Cond.selects RX7 yX7_output yX7_output ∈ wsG := wsG_s26 _ (List.mem_of_getElem? (i := 1) rfl)
theorem wm_617 : Cond.code yX7_output cX7_output 3 (some .boolean) ∈ wsG := wsG_s26 _ (List.mem_of_getElem? (i := 2) rfl)
theorem wm_618 : Cond.methodLink RL 51 yX7_drop ∈ wsG := wsG_s26 _ (List.mem_of_getElem? (i := 3) rfl)
theorem wm_619 : Cond.instanceMethod yX7_drop ∈ wsG := wsG_s26 _ (List.mem_of_getElem? (i := 4) rfl)
theorem wm_620 : Cond.selects RX7 yX7_drop yX7_drop ∈ wsG := wsG_s26 _ (List.mem_of_getElem? (i := 5) rfl)
theorem wm_621 : Cond.code yX7_drop cX7_drop 3 (some .boolean) ∈ wsG := wsG_s26 _ (List.mem_of_getElem? (i := 6) rfl)
theorem wm_622 : Cond.methodLink RL 55 yX7_source ∈ wsG := wsG_s26 _ (List.mem_of_getElem? (i := 7) rfl)
theorem wm_623 : Cond.instanceMethod yX7_source ∈ wsG := wsG_s26 _ (List.mem_of_getElem? (i := 8) rfl)
theorem wm_624 : Cond.selects RX7 yX7_source yX7_source ∈ wsG := wsG_s26 _ (List.mem_of_getElem? (i := 9) rfl)
theorem wm_625 : Cond.code yX7_source cX7_source 3 (some .boolean) ∈ wsG := wsG_s26 _ (List.mem_of_getElem? (i := 10) rfl)
theorem wm_626 : Cond.methodLink RL 59 yX7_spoil ∈ wsG := wsG_s26 _ (List.mem_of_getElem? (i := 11) rfl)
theorem wm_627 : Cond.instanceMethod yX7_spoil ∈ wsG := wsG_s26 _ (List.mem_of_getElem? (i := 12) rfl)
theorem wm_628 : Cond.selects RX7 yX7_spoil yX7_spoil ∈ wsG := wsG_s26 _ (List.mem_of_getElem? (i := 13) rfl)
theorem wm_629 : Cond.code yX7_spoil cX7_spoil 2 (some .boolean) ∈ wsG := wsG_s26 _ (List.mem_of_getElem? (i := 14) rfl)
theorem wm_630 : Cond.methodLink RL 87 yX7_reason ∈ wsG := wsG_s26 _ (List.mem_of_getElem? (i := 15) rfl)
theorem wm_631 : Cond.instanceMethod yX7_reason ∈ wsG := wsG_s26 _ (List.mem_of_getElem? (i := 16) rfl)
theorem wm_632 : Cond.selects RX7 yX7_reason yX7_reason ∈ wsG := wsG_s26 _ (List.mem_of_getElem? (i := 17) rfl)
theorem wm_633 : Cond.code yX7_reason cX7_reason 2 (some .int) ∈ wsG := wsG_s26 _ (List.mem_of_getElem? (i := 18) rfl)
theorem wm_634 : Cond.methodLink RX7 124 yX7_why ∈ wsG := wsG_s26 _ (List.mem_of_getElem? (i := 19) rfl)
theorem wm_635 : Cond.instanceMethod yX7_why ∈ wsG := wsG_s26 _ (List.mem_of_getElem? (i := 20) rfl)
theorem wm_636 : Cond.code yX7_why cX7_why 6 (some .int) ∈ wsG := wsG_s26 _ (List.mem_of_getElem? (i := 21) rfl)
theorem wm_637 : Cond.methodLink RX7 121 yX7_isOther ∈ wsG := wsG_s26 _ (List.mem_of_getElem? (i := 22) rfl)
theorem wm_638 : Cond.instanceMethod yX7_isOther ∈ wsG := wsG_s26 _ (List.mem_of_getElem? (i := 23) rfl)
theorem wm_639 : Cond.code yX7_isOther cX7_isOther 4 (some .boolean) ∈ wsG := wsG_s26 _ (List.mem_of_getElem? (i := 24) rfl)
theorem wm_640 : Cond.methodLink RL 65 yX7_build ∈ wsG := wsG_s27 _ (List.mem_of_getElem? (i := 0) rfl)
theorem wm_641 : Cond.instanceMethod yX7_build ∈ wsG := wsG_s27 _ (List.mem_of_getElem? (i := 1) rfl)
theorem wm_642 : Cond.selects RX7 yX7_build yX7_build ∈ wsG := wsG_s27 _ (List.mem_of_getElem? (i := 2) rfl)
theorem wm_643 : Cond.code yX7_build cX7_build 6 (some .int) ∈ wsG := wsG_s27 _ (List.mem_of_getElem? (i := 3) rfl)
theorem wm_644 : Cond.methodLink RX7 159 yX7_raise ∈ wsG := wsG_s27 _ (List.mem_of_getElem? (i := 4) rfl)
theorem wm_645 : Cond.instanceMethod yX7_raise ∈ wsG := wsG_s27 _ (List.mem_of_getElem? (i := 5) rfl)
theorem wm_646 : Cond.code yX7_raise cX7_raise 2 (some .int) ∈ wsG := wsG_s27 _ (List.mem_of_getElem? (i := 6) rfl)
theorem wm_647 : Cond.methodLink RX7 162 yX7_spread ∈ wsG := wsG_s27 _ (List.mem_of_getElem? (i := 7) rfl)
theorem wm_648 : Cond.instanceMethod yX7_spread ∈ wsG := wsG_s27 _ (List.mem_of_getElem? (i := 8) rfl)
theorem wm_649 : Cond.code yX7_spread cX7_spread 6 none ∈ wsG := wsG_s27 _ (List.mem_of_getElem? (i := 9) rfl)
theorem wm_650 : Cond.methodLink RX7 128 yX7_takes ∈ wsG := wsG_s27 _ (List.mem_of_getElem? (i := 10) rfl)
theorem wm_651 : Cond.instanceMethod yX7_takes ∈ wsG := wsG_s27 _ (List.mem_of_getElem? (i := 11) rfl)
theorem wm_652 : Cond.code yX7_takes cX7_takes 5 (some .boolean) ∈ wsG := wsG_s27 _ (List.mem_of_getElem? (i := 12) rfl)
theorem wm_653 : Cond.methodLink RX7 165 yX7_isRound ∈ wsG := wsG_s27 _ (List.mem_of_getElem? (i := 13) rfl)
theorem wm_654 : Cond.instanceMethod yX7_isRound ∈ wsG := wsG_s27 _ (List.mem_of_getElem? (i := 14) rfl)
theorem wm_655 : Cond.code yX7_isRound cX7_isRound 3 (some .boolean) ∈ wsG := wsG_s27 _ (List.mem_of_getElem? (i := 15) rfl)
theorem wm_656 : Cond.methodLink RX7 132 yX7_measure ∈ wsG := wsG_s27 _ (List.mem_of_getElem? (i := 16) rfl)
theorem wm_657 : Cond.instanceMethod yX7_measure ∈ wsG := wsG_s27 _ (List.mem_of_getElem? (i := 17) rfl)
theorem wm_658 : Cond.code yX7_measure cX7_measure 5 none ∈ wsG := wsG_s27 _ (List.mem_of_getElem? (i := 18) rfl)
theorem wm_659 : Cond.methodLink RX7 136 yX7_nearest ∈ wsG := wsG_s27 _ (List.mem_of_getElem? (i := 19) rfl)
theorem wm_660 : Cond.instanceMethod yX7_nearest ∈ wsG := wsG_s27 _ (List.mem_of_getElem? (i := 20) rfl)
theorem wm_661 : Cond.code yX7_nearest cX7_nearest 4 (some .int) ∈ wsG := wsG_s27 _ (List.mem_of_getElem? (i := 21) rfl)
theorem wm_662 : Cond.methodLink RX7 169 yX7_isLacking ∈ wsG := wsG_s27 _ (List.mem_of_getElem? (i := 22) rfl)
theorem wm_663 : Cond.instanceMethod yX7_isLacking ∈ wsG := wsG_s27 _ (List.mem_of_getElem? (i := 23) rfl)
theorem wm_664 : Cond.code yX7_isLacking cX7_isLacking 6 (some .boolean) ∈ wsG := wsG_s27 _ (List.mem_of_getElem? (i := 24) rfl)
theorem wm_665 : Cond.methodLink RX7 172 yX7_order ∈ wsG := wsG_s28 _ (List.mem_of_getElem? (i := 0) rfl)
theorem wm_666 : Cond.instanceMethod yX7_order ∈ wsG := wsG_s28 _ (List.mem_of_getElem? (i := 1) rfl)
theorem wm_667 : Cond.code yX7_order cX7_order 4 none ∈ wsG := wsG_s28 _ (List.mem_of_getElem? (i := 2) rfl)
theorem wm_668 : Cond.methodLink RX7 181 yX7_end ∈ wsG := wsG_s28 _ (List.mem_of_getElem? (i := 3) rfl)
theorem wm_669 : Cond.instanceMethod yX7_end ∈ wsG := wsG_s28 _ (List.mem_of_getElem? (i := 4) rfl)
theorem wm_670 : Cond.code yX7_end cX7_end 4 none ∈ wsG := wsG_s28 _ (List.mem_of_getElem? (i := 5) rfl)
theorem wm_671 : Cond.methodLink RX7 184 yX7_pass ∈ wsG := wsG_s28 _ (List.mem_of_getElem? (i := 6) rfl)
theorem wm_672 : Cond.instanceMethod yX7_pass ∈ wsG := wsG_s28 _ (List.mem_of_getElem? (i := 7) rfl)
theorem wm_673 : Cond.code yX7_pass cX7_pass 3 none ∈ wsG := wsG_s28 _ (List.mem_of_getElem? (i := 8) rfl)
theorem wm_674 : Cond.methodLink RX7 142 yX7_isReady ∈ wsG := wsG_s28 _ (List.mem_of_getElem? (i := 9) rfl)
theorem wm_675 : Cond.instanceMethod yX7_isReady ∈ wsG := wsG_s28 _ (List.mem_of_getElem? (i := 10) rfl)
theorem wm_676 : Cond.code yX7_isReady cX7_isReady 5 (some .boolean) ∈ wsG := wsG_s28 _ (List.mem_of_getElem? (i := 11) rfl)
theorem wm_677 : Cond.methodLink RX7 187 yX7_hire ∈ wsG := wsG_s28 _ (List.mem_of_getElem? (i := 12) rfl)
theorem wm_678 : Cond.instanceMethod yX7_hire ∈ wsG := wsG_s28 _ (List.mem_of_getElem? (i := 13) rfl)
theorem wm_679 : Cond.code yX7_hire cX7_hire 5 none ∈ wsG := wsG_s28 _ (List.mem_of_getElem? (i := 14) rfl)
theorem wm_680 : Cond.methodLink RX7 155 yX7_start ∈ wsG := wsG_s28 _ (List.mem_of_getElem? (i := 15) rfl)
theorem wm_681 : Cond.instanceMethod yX7_start ∈ wsG := wsG_s28 _ (List.mem_of_getElem? (i := 16) rfl)
theorem wm_682 : Cond.code yX7_start cX7_start 6 none ∈ wsG := wsG_s28 _ (List.mem_of_getElem? (i := 17) rfl)
theorem wm_683 : Cond.constant RX7 145 16777619 ∈ wsG := wsG_s28 _ (List.mem_of_getElem? (i := 18) rfl)
theorem wm_684 : Cond.methodLink RL 73 yX7_count ∈ wsG := wsG_s28 _ (List.mem_of_getElem? (i := 19) rfl)
theorem wm_685 : Cond.instanceMethod yX7_count ∈ wsG := wsG_s28 _ (List.mem_of_getElem? (i := 20) rfl)
theorem wm_686 : Cond.selects RX7 yX7_count yX7_count ∈ wsG := wsG_s28 _ (List.mem_of_getElem? (i := 21) rfl)
theorem wm_687 : Cond.code yX7_count cX7_count 4 (some .int) ∈ wsG := wsG_s28 _ (List.mem_of_getElem? (i := 22) rfl)
theorem wm_688 : Cond.methodLink RL 76 yX7_begun ∈ wsG := wsG_s28 _ (List.mem_of_getElem? (i := 23) rfl)
theorem wm_689 : Cond.instanceMethod yX7_begun ∈ wsG := wsG_s28 _ (List.mem_of_getElem? (i := 24) rfl)
theorem wm_690 : Cond.selects RX7 yX7_begun yX7_begun ∈ wsG := wsG_s29 _ (List.mem_of_getElem? (i := 0) rfl)
theorem wm_691 : Cond.code yX7_begun cX7_begun 3 (some .int) ∈ wsG := wsG_s29 _ (List.mem_of_getElem? (i := 1) rfl)
theorem wm_692 : Cond.methodLink RL 80 yX7_cycle ∈ wsG := wsG_s29 _ (List.mem_of_getElem? (i := 2) rfl)
theorem wm_693 : Cond.instanceMethod yX7_cycle ∈ wsG := wsG_s29 _ (List.mem_of_getElem? (i := 3) rfl)
theorem wm_694 : Cond.selects RX7 yX7_cycle yX7_cycle ∈ wsG := wsG_s29 _ (List.mem_of_getElem? (i := 4) rfl)
theorem wm_695 : Cond.code yX7_cycle cX7_cycle 2 (some .int) ∈ wsG := wsG_s29 _ (List.mem_of_getElem? (i := 5) rfl)
theorem wm_696 : Cond.methodLink RL 83 yX7_content ∈ wsG := wsG_s29 _ (List.mem_of_getElem? (i := 6) rfl)
theorem wm_697 : Cond.instanceMethod yX7_content ∈ wsG := wsG_s29 _ (List.mem_of_getElem? (i := 7) rfl)
theorem wm_698 : Cond.selects RX7 yX7_content yX7_content ∈ wsG := wsG_s29 _ (List.mem_of_getElem? (i := 8) rfl)
theorem wm_699 : Cond.code yX7_content cX7_content 2 (some .int) ∈ wsG := wsG_s29 _ (List.mem_of_getElem? (i := 9) rfl)
theorem wiX0 : ∀ w ∈ u_ws RX0 TX0 5, w ∈ wsG := by
  intro w hw
  obtain ⟨k, hk, rfl⟩ := List.mem_map.mp hw
  have hk : k < 5 := List.mem_range.mp hk
  match k, hk with
  | 0, _ => exact wm_129
  | 1, _ => exact wm_130
  | 2, _ => exact wm_131
  | 3, _ => exact wm_132
  | 4, _ => exact wm_133
  | k + 5, h => exact absurd h (by omega)
theorem wiX1 : ∀ w ∈ u_ws RX1 TX1 3, w ∈ wsG := by
  intro w hw
  obtain ⟨k, hk, rfl⟩ := List.mem_map.mp hw
  have hk : k < 3 := List.mem_range.mp hk
  match k, hk with
  | 0, _ => exact wm_65
  | 1, _ => exact wm_66
  | 2, _ => exact wm_67
  | k + 3, h => exact absurd h (by omega)
theorem wiX2 : ∀ w ∈ u_ws RX2 TX2 5, w ∈ wsG := by
  intro w hw
  obtain ⟨k, hk, rfl⟩ := List.mem_map.mp hw
  have hk : k < 5 := List.mem_range.mp hk
  match k, hk with
  | 0, _ => exact wm_113
  | 1, _ => exact wm_114
  | 2, _ => exact wm_115
  | 3, _ => exact wm_116
  | 4, _ => exact wm_117
  | k + 5, h => exact absurd h (by omega)
theorem wiX3 : ∀ w ∈ u_ws RX3 TX3 5, w ∈ wsG := by
  intro w hw
  obtain ⟨k, hk, rfl⟩ := List.mem_map.mp hw
  have hk : k < 5 := List.mem_range.mp hk
  match k, hk with
  | 0, _ => exact wm_144
  | 1, _ => exact wm_145
  | 2, _ => exact wm_146
  | 3, _ => exact wm_147
  | 4, _ => exact wm_148
  | k + 5, h => exact absurd h (by omega)
theorem wiX4 : ∀ w ∈ u_ws RX4 TX4 3, w ∈ wsG := by
  intro w hw
  obtain ⟨k, hk, rfl⟩ := List.mem_map.mp hw
  have hk : k < 3 := List.mem_range.mp hk
  match k, hk with
  | 0, _ => exact wm_157
  | 1, _ => exact wm_158
  | 2, _ => exact wm_159
  | k + 3, h => exact absurd h (by omega)
theorem wiX5 : ∀ w ∈ u_ws RX5 TX5 14, w ∈ wsG := by
  intro w hw
  obtain ⟨k, hk, rfl⟩ := List.mem_map.mp hw
  have hk : k < 14 := List.mem_range.mp hk
  match k, hk with
  | 0, _ => exact wm_89
  | 1, _ => exact wm_90
  | 2, _ => exact wm_91
  | 3, _ => exact wm_92
  | 4, _ => exact wm_93
  | 5, _ => exact wm_94
  | 6, _ => exact wm_95
  | 7, _ => exact wm_96
  | 8, _ => exact wm_97
  | 9, _ => exact wm_98
  | 10, _ => exact wm_99
  | 11, _ => exact wm_100
  | 12, _ => exact wm_101
  | 13, _ => exact wm_102
  | k + 14, h => exact absurd h (by omega)
theorem wiX6 : ∀ w ∈ u_ws RX6 TX6 6, w ∈ wsG := by
  intro w hw
  obtain ⟨k, hk, rfl⟩ := List.mem_map.mp hw
  have hk : k < 6 := List.mem_range.mp hk
  match k, hk with
  | 0, _ => exact wm_166
  | 1, _ => exact wm_167
  | 2, _ => exact wm_168
  | 3, _ => exact wm_169
  | 4, _ => exact wm_170
  | 5, _ => exact wm_171
  | k + 6, h => exact absurd h (by omega)
theorem wiX7 : ∀ w ∈ u_ws RX7 TX7 40, w ∈ wsG := by
  intro w hw
  obtain ⟨k, hk, rfl⟩ := List.mem_map.mp hw
  have hk : k < 40 := List.mem_range.mp hk
  match k, hk with
  | 0, _ => exact wm_556
  | 1, _ => exact wm_557
  | 2, _ => exact wm_558
  | 3, _ => exact wm_559
  | 4, _ => exact wm_560
  | 5, _ => exact wm_561
  | 6, _ => exact wm_562
  | 7, _ => exact wm_563
  | 8, _ => exact wm_564
  | 9, _ => exact wm_565
  | 10, _ => exact wm_566
  | 11, _ => exact wm_567
  | 12, _ => exact wm_568
  | 13, _ => exact wm_569
  | 14, _ => exact wm_570
  | 15, _ => exact wm_571
  | 16, _ => exact wm_572
  | 17, _ => exact wm_573
  | 18, _ => exact wm_574
  | 19, _ => exact wm_575
  | 20, _ => exact wm_576
  | 21, _ => exact wm_577
  | 22, _ => exact wm_578
  | 23, _ => exact wm_579
  | 24, _ => exact wm_580
  | 25, _ => exact wm_581
  | 26, _ => exact wm_582
  | 27, _ => exact wm_583
  | 28, _ => exact wm_584
  | 29, _ => exact wm_585
  | 30, _ => exact wm_586
  | 31, _ => exact wm_587
  | 32, _ => exact wm_588
  | 33, _ => exact wm_589
  | 34, _ => exact wm_590
  | 35, _ => exact wm_591
  | 36, _ => exact wm_592
  | 37, _ => exact wm_593
  | 38, _ => exact wm_594
  | 39, _ => exact wm_595
  | k + 40, h => exact absurd h (by omega)
end
section
theorem dX0_init_0 : decode cX0_init 0 = .ok (.aload_n 0, 1) := by decide +kernel
theorem dX0_init_1 : decode cX0_init 1 = .ok (.invokespecial 3, 3) := by decide +kernel
theorem dX0_init_4 : decode cX0_init 4 = .ok (.aload_n 0, 1) := by decide +kernel
theorem dX0_init_5 : decode cX0_init 5 = .ok (.bipush 8, 2) := by decide +kernel
theorem dX0_init_7 : decode cX0_init 7 = .ok (.newarray .boolean, 2) := by decide +kernel
theorem dX0_init_9 : decode cX0_init 9 = .ok (.putfield 9, 3) := by decide +kernel
theorem dX0_init_12 : decode cX0_init 12 = .ok (.aload_n 0, 1) := by decide +kernel
theorem dX0_init_13 : decode cX0_init 13 = .ok (.bipush 40, 2) := by decide +kernel
theorem dX0_init_15 : decode cX0_init 15 = .ok (.newarray .int, 2) := by decide +kernel
theorem dX0_init_17 : decode cX0_init 17 = .ok (.putfield 15, 3) := by decide +kernel
theorem dX0_init_20 : decode cX0_init 20 = .ok (.aload_n 0, 1) := by decide +kernel
theorem dX0_init_21 : decode cX0_init 21 = .ok (.bipush 40, 2) := by decide +kernel
theorem dX0_init_23 : decode cX0_init 23 = .ok (.newarray .int, 2) := by decide +kernel
theorem dX0_init_25 : decode cX0_init 25 = .ok (.putfield 19, 3) := by decide +kernel
theorem dX0_init_28 : decode cX0_init 28 = .ok (.return_, 1) := by decide +kernel
theorem dX0_comeIn_0 : decode cX0_comeIn 0 = .ok (.iconst 0, 1) := by decide +kernel
theorem dX0_comeIn_1 : decode cX0_comeIn 1 = .ok (.istore_n 1, 1) := by decide +kernel
theorem dX0_comeIn_2 : decode cX0_comeIn 2 = .ok (.iload_n 1, 1) := by decide +kernel
theorem dX0_comeIn_3 : decode cX0_comeIn 3 = .ok (.bipush 8, 2) := by decide +kernel
theorem dX0_comeIn_5 : decode cX0_comeIn 5 = .ok (.if_icmp .ge 16, 3) := by decide +kernel
theorem dX0_comeIn_8 : decode cX0_comeIn 8 = .ok (.aload_n 0, 1) := by decide +kernel
theorem dX0_comeIn_9 : decode cX0_comeIn 9 = .ok (.getfield 9, 3) := by decide +kernel
theorem dX0_comeIn_12 : decode cX0_comeIn 12 = .ok (.iload_n 1, 1) := by decide +kernel
theorem dX0_comeIn_13 : decode cX0_comeIn 13 = .ok (.iconst 0, 1) := by decide +kernel
theorem dX0_comeIn_14 : decode cX0_comeIn 14 = .ok (.bastore, 1) := by decide +kernel
theorem dX0_comeIn_15 : decode cX0_comeIn 15 = .ok (.iinc 1 1, 3) := by decide +kernel
theorem dX0_comeIn_18 : decode cX0_comeIn 18 = .ok (.goto (-16), 3) := by decide +kernel
theorem dX0_comeIn_21 : decode cX0_comeIn 21 = .ok (.aload_n 0, 1) := by decide +kernel
theorem dX0_comeIn_22 : decode cX0_comeIn 22 = .ok (.lconst 0, 1) := by decide +kernel
theorem dX0_comeIn_23 : decode cX0_comeIn 23 = .ok (.putfield 22, 3) := by decide +kernel
theorem dX0_comeIn_26 : decode cX0_comeIn 26 = .ok (.aload_n 0, 1) := by decide +kernel
theorem dX0_comeIn_27 : decode cX0_comeIn 27 = .ok (.lconst 0, 1) := by decide +kernel
theorem dX0_comeIn_28 : decode cX0_comeIn 28 = .ok (.putfield 26, 3) := by decide +kernel
theorem dX0_comeIn_31 : decode cX0_comeIn 31 = .ok (.return_, 1) := by decide +kernel
theorem dX0_isBusy_0 : decode cX0_isBusy 0 = .ok (.aload_n 0, 1) := by decide +kernel
theorem dX0_isBusy_1 : decode cX0_isBusy 1 = .ok (.getfield 9, 3) := by decide +kernel
theorem dX0_isBusy_4 : decode cX0_isBusy 4 = .ok (.iload_n 1, 1) := by decide +kernel
theorem dX0_isBusy_5 : decode cX0_isBusy 5 = .ok (.baload, 1) := by decide +kernel
theorem dX0_isBusy_6 : decode cX0_isBusy 6 = .ok (.ireturn, 1) := by decide +kernel
theorem dX0_isOpen_0 : decode cX0_isOpen 0 = .ok (.aload_n 0, 1) := by decide +kernel
theorem dX0_isOpen_1 : decode cX0_isOpen 1 = .ok (.getfield 22, 3) := by decide +kernel
theorem dX0_isOpen_4 : decode cX0_isOpen 4 = .ok (.aload_n 0, 1) := by decide +kernel
theorem dX0_isOpen_5 : decode cX0_isOpen 5 = .ok (.getfield 26, 3) := by decide +kernel
theorem dX0_isOpen_8 : decode cX0_isOpen 8 = .ok (.lor, 1) := by decide +kernel
theorem dX0_isOpen_9 : decode cX0_isOpen 9 = .ok (.iload_n 1, 1) := by decide +kernel
theorem dX0_isOpen_10 : decode cX0_isOpen 10 = .ok (.invokestatic 29, 3) := by decide +kernel
theorem dX0_isOpen_13 : decode cX0_isOpen 13 = .ok (.ifCond .ne 7, 3) := by decide +kernel
theorem dX0_isOpen_16 : decode cX0_isOpen 16 = .ok (.iconst 1, 1) := by decide +kernel
theorem dX0_isOpen_17 : decode cX0_isOpen 17 = .ok (.goto 4, 3) := by decide +kernel
theorem dX0_isOpen_20 : decode cX0_isOpen 20 = .ok (.iconst 0, 1) := by decide +kernel
theorem dX0_isOpen_21 : decode cX0_isOpen 21 = .ok (.ireturn, 1) := by decide +kernel
theorem dX0_areDone_0 : decode cX0_areDone 0 = .ok (.lload_n 1, 1) := by decide +kernel
theorem dX0_areDone_1 : decode cX0_areDone 1 = .ok (.aload_n 0, 1) := by decide +kernel
theorem dX0_areDone_2 : decode cX0_areDone 2 = .ok (.getfield 26, 3) := by decide +kernel
theorem dX0_areDone_5 : decode cX0_areDone 5 = .ok (.ldc2_w 33, 3) := by decide +kernel
theorem dX0_areDone_8 : decode cX0_areDone 8 = .ok (.lxor, 1) := by decide +kernel
theorem dX0_areDone_9 : decode cX0_areDone 9 = .ok (.land, 1) := by decide +kernel
theorem dX0_areDone_10 : decode cX0_areDone 10 = .ok (.lconst 0, 1) := by decide +kernel
theorem dX0_areDone_11 : decode cX0_areDone 11 = .ok (.lcmp, 1) := by decide +kernel
theorem dX0_areDone_12 : decode cX0_areDone 12 = .ok (.ifCond .ne 7, 3) := by decide +kernel
theorem dX0_areDone_15 : decode cX0_areDone 15 = .ok (.iconst 1, 1) := by decide +kernel
theorem dX0_areDone_16 : decode cX0_areDone 16 = .ok (.goto 4, 3) := by decide +kernel
theorem dX0_areDone_19 : decode cX0_areDone 19 = .ok (.iconst 0, 1) := by decide +kernel
theorem dX0_areDone_20 : decode cX0_areDone 20 = .ok (.ireturn, 1) := by decide +kernel
theorem dX0_passOver_0 : decode cX0_passOver 0 = .ok (.aload_n 0, 1) := by decide +kernel
theorem dX0_passOver_1 : decode cX0_passOver 1 = .ok (.dup, 1) := by decide +kernel
theorem dX0_passOver_2 : decode cX0_passOver 2 = .ok (.getfield 26, 3) := by decide +kernel
theorem dX0_passOver_5 : decode cX0_passOver 5 = .ok (.iload_n 1, 1) := by decide +kernel
theorem dX0_passOver_6 : decode cX0_passOver 6 = .ok (.invokestatic 35, 3) := by decide +kernel
theorem dX0_passOver_9 : decode cX0_passOver 9 = .ok (.lor, 1) := by decide +kernel
theorem dX0_passOver_10 : decode cX0_passOver 10 = .ok (.putfield 26, 3) := by decide +kernel
theorem dX0_passOver_13 : decode cX0_passOver 13 = .ok (.return_, 1) := by decide +kernel
theorem dX0_begin_0 : decode cX0_begin 0 = .ok (.aload_n 0, 1) := by decide +kernel
theorem dX0_begin_1 : decode cX0_begin 1 = .ok (.getfield 9, 3) := by decide +kernel
theorem dX0_begin_4 : decode cX0_begin 4 = .ok (.iload_n 2, 1) := by decide +kernel
theorem dX0_begin_5 : decode cX0_begin 5 = .ok (.iconst 1, 1) := by decide +kernel
theorem dX0_begin_6 : decode cX0_begin 6 = .ok (.bastore, 1) := by decide +kernel
theorem dX0_begin_7 : decode cX0_begin 7 = .ok (.aload_n 0, 1) := by decide +kernel
theorem dX0_begin_8 : decode cX0_begin 8 = .ok (.getfield 15, 3) := by decide +kernel
theorem dX0_begin_11 : decode cX0_begin 11 = .ok (.iload_n 1, 1) := by decide +kernel
theorem dX0_begin_12 : decode cX0_begin 12 = .ok (.iload_n 2, 1) := by decide +kernel
theorem dX0_begin_13 : decode cX0_begin 13 = .ok (.iastore, 1) := by decide +kernel
theorem dX0_begin_14 : decode cX0_begin 14 = .ok (.aload_n 0, 1) := by decide +kernel
theorem dX0_begin_15 : decode cX0_begin 15 = .ok (.getfield 19, 3) := by decide +kernel
theorem dX0_begin_18 : decode cX0_begin 18 = .ok (.iload_n 1, 1) := by decide +kernel
theorem dX0_begin_19 : decode cX0_begin 19 = .ok (.iload_n 3, 1) := by decide +kernel
theorem dX0_begin_20 : decode cX0_begin 20 = .ok (.iastore, 1) := by decide +kernel
theorem dX0_begin_21 : decode cX0_begin 21 = .ok (.aload_n 0, 1) := by decide +kernel
theorem dX0_begin_22 : decode cX0_begin 22 = .ok (.dup, 1) := by decide +kernel
theorem dX0_begin_23 : decode cX0_begin 23 = .ok (.getfield 22, 3) := by decide +kernel
theorem dX0_begin_26 : decode cX0_begin 26 = .ok (.iload_n 1, 1) := by decide +kernel
theorem dX0_begin_27 : decode cX0_begin 27 = .ok (.invokestatic 35, 3) := by decide +kernel
theorem dX0_begin_30 : decode cX0_begin 30 = .ok (.lor, 1) := by decide +kernel
theorem dX0_begin_31 : decode cX0_begin 31 = .ok (.putfield 22, 3) := by decide +kernel
theorem dX0_begin_34 : decode cX0_begin 34 = .ok (.return_, 1) := by decide +kernel
theorem dX0_endsAt_0 : decode cX0_endsAt 0 = .ok (.aload_n 0, 1) := by decide +kernel
theorem dX0_endsAt_1 : decode cX0_endsAt 1 = .ok (.getfield 22, 3) := by decide +kernel
theorem dX0_endsAt_4 : decode cX0_endsAt 4 = .ok (.iload_n 1, 1) := by decide +kernel
theorem dX0_endsAt_5 : decode cX0_endsAt 5 = .ok (.invokestatic 29, 3) := by decide +kernel
theorem dX0_endsAt_8 : decode cX0_endsAt 8 = .ok (.ifCond .eq 17, 3) := by decide +kernel
theorem dX0_endsAt_11 : decode cX0_endsAt 11 = .ok (.aload_n 0, 1) := by decide +kernel
theorem dX0_endsAt_12 : decode cX0_endsAt 12 = .ok (.getfield 19, 3) := by decide +kernel
theorem dX0_endsAt_15 : decode cX0_endsAt 15 = .ok (.iload_n 1, 1) := by decide +kernel
theorem dX0_endsAt_16 : decode cX0_endsAt 16 = .ok (.iaload, 1) := by decide +kernel
theorem dX0_endsAt_17 : decode cX0_endsAt 17 = .ok (.iload_n 2, 1) := by decide +kernel
theorem dX0_endsAt_18 : decode cX0_endsAt 18 = .ok (.if_icmp .ne 7, 3) := by decide +kernel
theorem dX0_endsAt_21 : decode cX0_endsAt 21 = .ok (.iconst 1, 1) := by decide +kernel
theorem dX0_endsAt_22 : decode cX0_endsAt 22 = .ok (.goto 4, 3) := by decide +kernel
theorem dX0_endsAt_25 : decode cX0_endsAt 25 = .ok (.iconst 0, 1) := by decide +kernel
theorem dX0_endsAt_26 : decode cX0_endsAt 26 = .ok (.ireturn, 1) := by decide +kernel
theorem dX0_end_0 : decode cX0_end 0 = .ok (.aload_n 0, 1) := by decide +kernel
theorem dX0_end_1 : decode cX0_end 1 = .ok (.getfield 9, 3) := by decide +kernel
theorem dX0_end_4 : decode cX0_end 4 = .ok (.aload_n 0, 1) := by decide +kernel
theorem dX0_end_5 : decode cX0_end 5 = .ok (.getfield 15, 3) := by decide +kernel
theorem dX0_end_8 : decode cX0_end 8 = .ok (.iload_n 1, 1) := by decide +kernel
theorem dX0_end_9 : decode cX0_end 9 = .ok (.iaload, 1) := by decide +kernel
theorem dX0_end_10 : decode cX0_end 10 = .ok (.iconst 0, 1) := by decide +kernel
theorem dX0_end_11 : decode cX0_end 11 = .ok (.bastore, 1) := by decide +kernel
theorem dX0_end_12 : decode cX0_end 12 = .ok (.aload_n 0, 1) := by decide +kernel
theorem dX0_end_13 : decode cX0_end 13 = .ok (.dup, 1) := by decide +kernel
theorem dX0_end_14 : decode cX0_end 14 = .ok (.getfield 22, 3) := by decide +kernel
theorem dX0_end_17 : decode cX0_end 17 = .ok (.iload_n 1, 1) := by decide +kernel
theorem dX0_end_18 : decode cX0_end 18 = .ok (.invokestatic 35, 3) := by decide +kernel
theorem dX0_end_21 : decode cX0_end 21 = .ok (.ldc2_w 33, 3) := by decide +kernel
theorem dX0_end_24 : decode cX0_end 24 = .ok (.lxor, 1) := by decide +kernel
theorem dX0_end_25 : decode cX0_end 25 = .ok (.land, 1) := by decide +kernel
theorem dX0_end_26 : decode cX0_end 26 = .ok (.putfield 22, 3) := by decide +kernel
theorem dX0_end_29 : decode cX0_end 29 = .ok (.aload_n 0, 1) := by decide +kernel
theorem dX0_end_30 : decode cX0_end 30 = .ok (.dup, 1) := by decide +kernel
theorem dX0_end_31 : decode cX0_end 31 = .ok (.getfield 26, 3) := by decide +kernel
theorem dX0_end_34 : decode cX0_end 34 = .ok (.iload_n 1, 1) := by decide +kernel
theorem dX0_end_35 : decode cX0_end 35 = .ok (.invokestatic 35, 3) := by decide +kernel
theorem dX0_end_38 : decode cX0_end 38 = .ok (.lor, 1) := by decide +kernel
theorem dX0_end_39 : decode cX0_end 39 = .ok (.putfield 26, 3) := by decide +kernel
theorem dX0_end_42 : decode cX0_end 42 = .ok (.return_, 1) := by decide +kernel
theorem dX0_nextEnd_0 : decode cX0_nextEnd 0 = .ok (.iconst (-1), 1) := by decide +kernel
theorem dX0_nextEnd_1 : decode cX0_nextEnd 1 = .ok (.istore_n 1, 1) := by decide +kernel
theorem dX0_nextEnd_2 : decode cX0_nextEnd 2 = .ok (.iconst 0, 1) := by decide +kernel
theorem dX0_nextEnd_3 : decode cX0_nextEnd 3 = .ok (.istore_n 2, 1) := by decide +kernel
theorem dX0_nextEnd_4 : decode cX0_nextEnd 4 = .ok (.iload_n 2, 1) := by decide +kernel
theorem dX0_nextEnd_5 : decode cX0_nextEnd 5 = .ok (.bipush 40, 2) := by decide +kernel
theorem dX0_nextEnd_7 : decode cX0_nextEnd 7 = .ok (.if_icmp .ge 42, 3) := by decide +kernel
theorem dX0_nextEnd_10 : decode cX0_nextEnd 10 = .ok (.aload_n 0, 1) := by decide +kernel
theorem dX0_nextEnd_11 : decode cX0_nextEnd 11 = .ok (.getfield 22, 3) := by decide +kernel
theorem dX0_nextEnd_14 : decode cX0_nextEnd 14 = .ok (.iload_n 2, 1) := by decide +kernel
theorem dX0_nextEnd_15 : decode cX0_nextEnd 15 = .ok (.invokestatic 29, 3) := by decide +kernel
theorem dX0_nextEnd_18 : decode cX0_nextEnd 18 = .ok (.ifCond .eq 25, 3) := by decide +kernel
theorem dX0_nextEnd_21 : decode cX0_nextEnd 21 = .ok (.iload_n 1, 1) := by decide +kernel
theorem dX0_nextEnd_22 : decode cX0_nextEnd 22 = .ok (.iconst (-1), 1) := by decide +kernel
theorem dX0_nextEnd_23 : decode cX0_nextEnd 23 = .ok (.if_icmp .eq 13, 3) := by decide +kernel
theorem dX0_nextEnd_26 : decode cX0_nextEnd 26 = .ok (.aload_n 0, 1) := by decide +kernel
theorem dX0_nextEnd_27 : decode cX0_nextEnd 27 = .ok (.getfield 19, 3) := by decide +kernel
theorem dX0_nextEnd_30 : decode cX0_nextEnd 30 = .ok (.iload_n 2, 1) := by decide +kernel
theorem dX0_nextEnd_31 : decode cX0_nextEnd 31 = .ok (.iaload, 1) := by decide +kernel
theorem dX0_nextEnd_32 : decode cX0_nextEnd 32 = .ok (.iload_n 1, 1) := by decide +kernel
theorem dX0_nextEnd_33 : decode cX0_nextEnd 33 = .ok (.if_icmp .ge 10, 3) := by decide +kernel
theorem dX0_nextEnd_36 : decode cX0_nextEnd 36 = .ok (.aload_n 0, 1) := by decide +kernel
theorem dX0_nextEnd_37 : decode cX0_nextEnd 37 = .ok (.getfield 19, 3) := by decide +kernel
theorem dX0_nextEnd_40 : decode cX0_nextEnd 40 = .ok (.iload_n 2, 1) := by decide +kernel
theorem dX0_nextEnd_41 : decode cX0_nextEnd 41 = .ok (.iaload, 1) := by decide +kernel
theorem dX0_nextEnd_42 : decode cX0_nextEnd 42 = .ok (.istore_n 1, 1) := by decide +kernel
theorem dX0_nextEnd_43 : decode cX0_nextEnd 43 = .ok (.iinc 2 1, 3) := by decide +kernel
theorem dX0_nextEnd_46 : decode cX0_nextEnd 46 = .ok (.goto (-42), 3) := by decide +kernel
theorem dX0_nextEnd_49 : decode cX0_nextEnd 49 = .ok (.iload_n 1, 1) := by decide +kernel
theorem dX0_nextEnd_50 : decode cX0_nextEnd 50 = .ok (.ireturn, 1) := by decide +kernel
theorem dX1_init_0 : decode cX1_init 0 = .ok (.aload_n 0, 1) := by decide +kernel
theorem dX1_init_1 : decode cX1_init 1 = .ok (.invokespecial 3, 3) := by decide +kernel
theorem dX1_init_4 : decode cX1_init 4 = .ok (.aload_n 0, 1) := by decide +kernel
theorem dX1_init_5 : decode cX1_init 5 = .ok (.bipush 64, 2) := by decide +kernel
theorem dX1_init_7 : decode cX1_init 7 = .ok (.newarray .int, 2) := by decide +kernel
theorem dX1_init_9 : decode cX1_init 9 = .ok (.putfield 9, 3) := by decide +kernel
theorem dX1_init_12 : decode cX1_init 12 = .ok (.aload_n 0, 1) := by decide +kernel
theorem dX1_init_13 : decode cX1_init 13 = .ok (.bipush 64, 2) := by decide +kernel
theorem dX1_init_15 : decode cX1_init 15 = .ok (.newarray .boolean, 2) := by decide +kernel
theorem dX1_init_17 : decode cX1_init 17 = .ok (.putfield 15, 3) := by decide +kernel
theorem dX1_init_20 : decode cX1_init 20 = .ok (.aload_n 0, 1) := by decide +kernel
theorem dX1_init_21 : decode cX1_init 21 = .ok (.bipush 64, 2) := by decide +kernel
theorem dX1_init_23 : decode cX1_init 23 = .ok (.newarray .int, 2) := by decide +kernel
theorem dX1_init_25 : decode cX1_init 25 = .ok (.putfield 19, 3) := by decide +kernel
theorem dX1_init_28 : decode cX1_init 28 = .ok (.iconst 0, 1) := by decide +kernel
theorem dX1_init_29 : decode cX1_init 29 = .ok (.istore_n 1, 1) := by decide +kernel
theorem dX1_init_30 : decode cX1_init 30 = .ok (.iload_n 1, 1) := by decide +kernel
theorem dX1_init_31 : decode cX1_init 31 = .ok (.bipush 64, 2) := by decide +kernel
theorem dX1_init_33 : decode cX1_init 33 = .ok (.if_icmp .ge 16, 3) := by decide +kernel
theorem dX1_init_36 : decode cX1_init 36 = .ok (.aload_n 0, 1) := by decide +kernel
theorem dX1_init_37 : decode cX1_init 37 = .ok (.getfield 19, 3) := by decide +kernel
theorem dX1_init_40 : decode cX1_init 40 = .ok (.iload_n 1, 1) := by decide +kernel
theorem dX1_init_41 : decode cX1_init 41 = .ok (.iconst (-1), 1) := by decide +kernel
theorem dX1_init_42 : decode cX1_init 42 = .ok (.iastore, 1) := by decide +kernel
theorem dX1_init_43 : decode cX1_init 43 = .ok (.iinc 1 1, 3) := by decide +kernel
theorem dX1_init_46 : decode cX1_init 46 = .ok (.goto (-16), 3) := by decide +kernel
theorem dX1_init_49 : decode cX1_init 49 = .ok (.return_, 1) := by decide +kernel
theorem dX1_makerOf_0 : decode cX1_makerOf 0 = .ok (.aload_n 0, 1) := by decide +kernel
theorem dX1_makerOf_1 : decode cX1_makerOf 1 = .ok (.getfield 19, 3) := by decide +kernel
theorem dX1_makerOf_4 : decode cX1_makerOf 4 = .ok (.iload_n 1, 1) := by decide +kernel
theorem dX1_makerOf_5 : decode cX1_makerOf 5 = .ok (.iaload, 1) := by decide +kernel
theorem dX1_makerOf_6 : decode cX1_makerOf 6 = .ok (.ireturn, 1) := by decide +kernel
theorem dX1_setMaker_0 : decode cX1_setMaker 0 = .ok (.aload_n 0, 1) := by decide +kernel
theorem dX1_setMaker_1 : decode cX1_setMaker 1 = .ok (.getfield 19, 3) := by decide +kernel
theorem dX1_setMaker_4 : decode cX1_setMaker 4 = .ok (.iload_n 1, 1) := by decide +kernel
theorem dX1_setMaker_5 : decode cX1_setMaker 5 = .ok (.iload_n 2, 1) := by decide +kernel
theorem dX1_setMaker_6 : decode cX1_setMaker 6 = .ok (.iastore, 1) := by decide +kernel
theorem dX1_setMaker_7 : decode cX1_setMaker 7 = .ok (.return_, 1) := by decide +kernel
theorem dX1_isFilled_0 : decode cX1_isFilled 0 = .ok (.aload_n 0, 1) := by decide +kernel
theorem dX1_isFilled_1 : decode cX1_isFilled 1 = .ok (.getfield 15, 3) := by decide +kernel
theorem dX1_isFilled_4 : decode cX1_isFilled 4 = .ok (.iload_n 1, 1) := by decide +kernel
theorem dX1_isFilled_5 : decode cX1_isFilled 5 = .ok (.baload, 1) := by decide +kernel
theorem dX1_isFilled_6 : decode cX1_isFilled 6 = .ok (.ireturn, 1) := by decide +kernel
theorem dX1_contentOf_0 : decode cX1_contentOf 0 = .ok (.aload_n 0, 1) := by decide +kernel
theorem dX1_contentOf_1 : decode cX1_contentOf 1 = .ok (.getfield 9, 3) := by decide +kernel
theorem dX1_contentOf_4 : decode cX1_contentOf 4 = .ok (.iload_n 1, 1) := by decide +kernel
theorem dX1_contentOf_5 : decode cX1_contentOf 5 = .ok (.iaload, 1) := by decide +kernel
theorem dX1_contentOf_6 : decode cX1_contentOf 6 = .ok (.ireturn, 1) := by decide +kernel
theorem dX1_fill_0 : decode cX1_fill 0 = .ok (.aload_n 0, 1) := by decide +kernel
theorem dX1_fill_1 : decode cX1_fill 1 = .ok (.getfield 9, 3) := by decide +kernel
theorem dX1_fill_4 : decode cX1_fill 4 = .ok (.iload_n 1, 1) := by decide +kernel
theorem dX1_fill_5 : decode cX1_fill 5 = .ok (.iload_n 2, 1) := by decide +kernel
theorem dX1_fill_6 : decode cX1_fill 6 = .ok (.iastore, 1) := by decide +kernel
theorem dX1_fill_7 : decode cX1_fill 7 = .ok (.aload_n 0, 1) := by decide +kernel
theorem dX1_fill_8 : decode cX1_fill 8 = .ok (.getfield 15, 3) := by decide +kernel
theorem dX1_fill_11 : decode cX1_fill 11 = .ok (.iload_n 1, 1) := by decide +kernel
theorem dX1_fill_12 : decode cX1_fill 12 = .ok (.iconst 1, 1) := by decide +kernel
theorem dX1_fill_13 : decode cX1_fill 13 = .ok (.bastore, 1) := by decide +kernel
theorem dX1_fill_14 : decode cX1_fill 14 = .ok (.return_, 1) := by decide +kernel
theorem dX1_empty_0 : decode cX1_empty 0 = .ok (.aload_n 0, 1) := by decide +kernel
theorem dX1_empty_1 : decode cX1_empty 1 = .ok (.getfield 15, 3) := by decide +kernel
theorem dX1_empty_4 : decode cX1_empty 4 = .ok (.iload_n 1, 1) := by decide +kernel
theorem dX1_empty_5 : decode cX1_empty 5 = .ok (.baload, 1) := by decide +kernel
theorem dX1_empty_6 : decode cX1_empty 6 = .ok (.istore_n 2, 1) := by decide +kernel
theorem dX1_empty_7 : decode cX1_empty 7 = .ok (.aload_n 0, 1) := by decide +kernel
theorem dX1_empty_8 : decode cX1_empty 8 = .ok (.getfield 15, 3) := by decide +kernel
theorem dX1_empty_11 : decode cX1_empty 11 = .ok (.iload_n 1, 1) := by decide +kernel
theorem dX1_empty_12 : decode cX1_empty 12 = .ok (.iconst 0, 1) := by decide +kernel
theorem dX1_empty_13 : decode cX1_empty 13 = .ok (.bastore, 1) := by decide +kernel
theorem dX1_empty_14 : decode cX1_empty 14 = .ok (.iload_n 2, 1) := by decide +kernel
theorem dX1_empty_15 : decode cX1_empty 15 = .ok (.ireturn, 1) := by decide +kernel
theorem dX1_lacksSource_0 : decode cX1_lacksSource 0 = .ok (.aload_n 0, 1) := by decide +kernel
theorem dX1_lacksSource_1 : decode cX1_lacksSource 1 = .ok (.getfield 19, 3) := by decide +kernel
theorem dX1_lacksSource_4 : decode cX1_lacksSource 4 = .ok (.iload_n 1, 1) := by decide +kernel
theorem dX1_lacksSource_5 : decode cX1_lacksSource 5 = .ok (.iaload, 1) := by decide +kernel
theorem dX1_lacksSource_6 : decode cX1_lacksSource 6 = .ok (.iconst (-1), 1) := by decide +kernel
theorem dX1_lacksSource_7 : decode cX1_lacksSource 7 = .ok (.if_icmp .ne 16, 3) := by decide +kernel
theorem dX1_lacksSource_10 : decode cX1_lacksSource 10 = .ok (.aload_n 0, 1) := by decide +kernel
theorem dX1_lacksSource_11 : decode cX1_lacksSource 11 = .ok (.getfield 15, 3) := by decide +kernel
theorem dX1_lacksSource_14 : decode cX1_lacksSource 14 = .ok (.iload_n 1, 1) := by decide +kernel
theorem dX1_lacksSource_15 : decode cX1_lacksSource 15 = .ok (.baload, 1) := by decide +kernel
theorem dX1_lacksSource_16 : decode cX1_lacksSource 16 = .ok (.ifCond .ne 7, 3) := by decide +kernel
theorem dX1_lacksSource_19 : decode cX1_lacksSource 19 = .ok (.iconst 1, 1) := by decide +kernel
theorem dX1_lacksSource_20 : decode cX1_lacksSource 20 = .ok (.goto 4, 3) := by decide +kernel
theorem dX1_lacksSource_23 : decode cX1_lacksSource 23 = .ok (.iconst 0, 1) := by decide +kernel
theorem dX1_lacksSource_24 : decode cX1_lacksSource 24 = .ok (.ireturn, 1) := by decide +kernel
theorem dX1_countFilled_0 : decode cX1_countFilled 0 = .ok (.iconst 0, 1) := by decide +kernel
theorem dX1_countFilled_1 : decode cX1_countFilled 1 = .ok (.istore_n 1, 1) := by decide +kernel
theorem dX1_countFilled_2 : decode cX1_countFilled 2 = .ok (.iconst 0, 1) := by decide +kernel
theorem dX1_countFilled_3 : decode cX1_countFilled 3 = .ok (.istore_n 2, 1) := by decide +kernel
theorem dX1_countFilled_4 : decode cX1_countFilled 4 = .ok (.iload_n 2, 1) := by decide +kernel
theorem dX1_countFilled_5 : decode cX1_countFilled 5 = .ok (.bipush 64, 2) := by decide +kernel
theorem dX1_countFilled_7 : decode cX1_countFilled 7 = .ok (.if_icmp .ge 21, 3) := by decide +kernel
theorem dX1_countFilled_10 : decode cX1_countFilled 10 = .ok (.aload_n 0, 1) := by decide +kernel
theorem dX1_countFilled_11 : decode cX1_countFilled 11 = .ok (.getfield 15, 3) := by decide +kernel
theorem dX1_countFilled_14 : decode cX1_countFilled 14 = .ok (.iload_n 2, 1) := by decide +kernel
theorem dX1_countFilled_15 : decode cX1_countFilled 15 = .ok (.baload, 1) := by decide +kernel
theorem dX1_countFilled_16 : decode cX1_countFilled 16 = .ok (.ifCond .eq 6, 3) := by decide +kernel
theorem dX1_countFilled_19 : decode cX1_countFilled 19 = .ok (.iinc 1 1, 3) := by decide +kernel
theorem dX1_countFilled_22 : decode cX1_countFilled 22 = .ok (.iinc 2 1, 3) := by decide +kernel
theorem dX1_countFilled_25 : decode cX1_countFilled 25 = .ok (.goto (-21), 3) := by decide +kernel
theorem dX1_countFilled_28 : decode cX1_countFilled 28 = .ok (.iload_n 1, 1) := by decide +kernel
theorem dX1_countFilled_29 : decode cX1_countFilled 29 = .ok (.ireturn, 1) := by decide +kernel
theorem dX2_init_0 : decode cX2_init 0 = .ok (.aload_n 0, 1) := by decide +kernel
theorem dX2_init_1 : decode cX2_init 1 = .ok (.invokespecial 3, 3) := by decide +kernel
theorem dX2_init_4 : decode cX2_init 4 = .ok (.aload_n 0, 1) := by decide +kernel
theorem dX2_init_5 : decode cX2_init 5 = .ok (.bipush 40, 2) := by decide +kernel
theorem dX2_init_7 : decode cX2_init 7 = .ok (.newarray .long, 2) := by decide +kernel
theorem dX2_init_9 : decode cX2_init 9 = .ok (.putfield 9, 3) := by decide +kernel
theorem dX2_init_12 : decode cX2_init 12 = .ok (.aload_n 0, 1) := by decide +kernel
theorem dX2_init_13 : decode cX2_init 13 = .ok (.bipush 40, 2) := by decide +kernel
theorem dX2_init_15 : decode cX2_init 15 = .ok (.newarray .int, 2) := by decide +kernel
theorem dX2_init_17 : decode cX2_init 17 = .ok (.putfield 15, 3) := by decide +kernel
theorem dX2_init_20 : decode cX2_init 20 = .ok (.aload_n 0, 1) := by decide +kernel
theorem dX2_init_21 : decode cX2_init 21 = .ok (.bipush 40, 2) := by decide +kernel
theorem dX2_init_23 : decode cX2_init 23 = .ok (.newarray .int, 2) := by decide +kernel
theorem dX2_init_25 : decode cX2_init 25 = .ok (.putfield 19, 3) := by decide +kernel
theorem dX2_init_28 : decode cX2_init 28 = .ok (.return_, 1) := by decide +kernel
theorem dX2_findNeeded_0 : decode cX2_findNeeded 0 = .ok (.iconst 0, 1) := by decide +kernel
theorem dX2_findNeeded_1 : decode cX2_findNeeded 1 = .ok (.istore 4, 2) := by decide +kernel
theorem dX2_findNeeded_3 : decode cX2_findNeeded 3 = .ok (.iload 4, 2) := by decide +kernel
theorem dX2_findNeeded_5 : decode cX2_findNeeded 5 = .ok (.bipush 40, 2) := by decide +kernel
theorem dX2_findNeeded_7 : decode cX2_findNeeded 7 = .ok (.if_icmp .ge 24, 3) := by decide +kernel
theorem dX2_findNeeded_10 : decode cX2_findNeeded 10 = .ok (.aload_n 0, 1) := by decide +kernel
theorem dX2_findNeeded_11 : decode cX2_findNeeded 11 = .ok (.getfield 9, 3) := by decide +kernel
theorem dX2_findNeeded_14 : decode cX2_findNeeded 14 = .ok (.iload 4, 2) := by decide +kernel
theorem dX2_findNeeded_16 : decode cX2_findNeeded 16 = .ok (.aload_n 2, 1) := by decide +kernel
theorem dX2_findNeeded_17 : decode cX2_findNeeded 17 = .ok (.iload 4, 2) := by decide +kernel
theorem dX2_findNeeded_19 : decode cX2_findNeeded 19 = .ok (.aaload, 1) := by decide +kernel
theorem dX2_findNeeded_20 : decode cX2_findNeeded 20 = .ok (.aload_n 3, 1) := by decide +kernel
theorem dX2_findNeeded_21 : decode cX2_findNeeded 21 = .ok (.invokevirtual 22, 3) := by decide +kernel
theorem dX2_findNeeded_24 : decode cX2_findNeeded 24 = .ok (.lastore, 1) := by decide +kernel
theorem dX2_findNeeded_25 : decode cX2_findNeeded 25 = .ok (.iinc 4 1, 3) := by decide +kernel
theorem dX2_findNeeded_28 : decode cX2_findNeeded 28 = .ok (.goto (-25), 3) := by decide +kernel
theorem dX2_findNeeded_31 : decode cX2_findNeeded 31 = .ok (.aload_n 0, 1) := by decide +kernel
theorem dX2_findNeeded_32 : decode cX2_findNeeded 32 = .ok (.iload_n 1, 1) := by decide +kernel
theorem dX2_findNeeded_33 : decode cX2_findNeeded 33 = .ok (.iconst (-1), 1) := by decide +kernel
theorem dX2_findNeeded_34 : decode cX2_findNeeded 34 = .ok (.if_icmp .ne 7, 3) := by decide +kernel
theorem dX2_findNeeded_37 : decode cX2_findNeeded 37 = .ok (.lconst 0, 1) := by decide +kernel
theorem dX2_findNeeded_38 : decode cX2_findNeeded 38 = .ok (.goto 7, 3) := by decide +kernel
theorem dX2_findNeeded_41 : decode cX2_findNeeded 41 = .ok (.iload_n 1, 1) := by decide +kernel
theorem dX2_findNeeded_42 : decode cX2_findNeeded 42 = .ok (.invokestatic 28, 3) := by decide +kernel
theorem dX2_findNeeded_45 : decode cX2_findNeeded 45 = .ok (.putfield 32, 3) := by decide +kernel
theorem dX2_findNeeded_48 : decode cX2_findNeeded 48 = .ok (.iconst 1, 1) := by decide +kernel
theorem dX2_findNeeded_49 : decode cX2_findNeeded 49 = .ok (.istore 4, 2) := by decide +kernel
theorem dX2_findNeeded_51 : decode cX2_findNeeded 51 = .ok (.iconst 0, 1) := by decide +kernel
theorem dX2_findNeeded_52 : decode cX2_findNeeded 52 = .ok (.istore 5, 2) := by decide +kernel
theorem dX2_findNeeded_54 : decode cX2_findNeeded 54 = .ok (.iload 4, 2) := by decide +kernel
theorem dX2_findNeeded_56 : decode cX2_findNeeded 56 = .ok (.ifCond .eq 83, 3) := by decide +kernel
theorem dX2_findNeeded_59 : decode cX2_findNeeded 59 = .ok (.iload 5, 2) := by decide +kernel
theorem dX2_findNeeded_61 : decode cX2_findNeeded 61 = .ok (.bipush 40, 2) := by decide +kernel
theorem dX2_findNeeded_63 : decode cX2_findNeeded 63 = .ok (.if_icmp .ge 76, 3) := by decide +kernel
theorem dX2_findNeeded_66 : decode cX2_findNeeded 66 = .ok (.aload_n 0, 1) := by decide +kernel
theorem dX2_findNeeded_67 : decode cX2_findNeeded 67 = .ok (.getfield 32, 3) := by decide +kernel
theorem dX2_findNeeded_70 : decode cX2_findNeeded 70 = .ok (.lstore 6, 2) := by decide +kernel
theorem dX2_findNeeded_72 : decode cX2_findNeeded 72 = .ok (.iconst 0, 1) := by decide +kernel
theorem dX2_findNeeded_73 : decode cX2_findNeeded 73 = .ok (.istore 8, 2) := by decide +kernel
theorem dX2_findNeeded_75 : decode cX2_findNeeded 75 = .ok (.iload 8, 2) := by decide +kernel
theorem dX2_findNeeded_77 : decode cX2_findNeeded 77 = .ok (.bipush 40, 2) := by decide +kernel
theorem dX2_findNeeded_79 : decode cX2_findNeeded 79 = .ok (.if_icmp .ge 37, 3) := by decide +kernel
theorem dX2_findNeeded_82 : decode cX2_findNeeded 82 = .ok (.aload_n 0, 1) := by decide +kernel
theorem dX2_findNeeded_83 : decode cX2_findNeeded 83 = .ok (.getfield 32, 3) := by decide +kernel
theorem dX2_findNeeded_86 : decode cX2_findNeeded 86 = .ok (.iload 8, 2) := by decide +kernel
theorem dX2_findNeeded_88 : decode cX2_findNeeded 88 = .ok (.invokestatic 36, 3) := by decide +kernel
theorem dX2_findNeeded_91 : decode cX2_findNeeded 91 = .ok (.ifCond .eq 19, 3) := by decide +kernel
theorem dX2_findNeeded_94 : decode cX2_findNeeded 94 = .ok (.aload_n 0, 1) := by decide +kernel
theorem dX2_findNeeded_95 : decode cX2_findNeeded 95 = .ok (.dup, 1) := by decide +kernel
theorem dX2_findNeeded_96 : decode cX2_findNeeded 96 = .ok (.getfield 32, 3) := by decide +kernel
theorem dX2_findNeeded_99 : decode cX2_findNeeded 99 = .ok (.aload_n 0, 1) := by decide +kernel
theorem dX2_findNeeded_100 : decode cX2_findNeeded 100 = .ok (.getfield 9, 3) := by decide +kernel
theorem dX2_findNeeded_103 : decode cX2_findNeeded 103 = .ok (.iload 8, 2) := by decide +kernel
theorem dX2_findNeeded_105 : decode cX2_findNeeded 105 = .ok (.laload, 1) := by decide +kernel
theorem dX2_findNeeded_106 : decode cX2_findNeeded 106 = .ok (.lor, 1) := by decide +kernel
theorem dX2_findNeeded_107 : decode cX2_findNeeded 107 = .ok (.putfield 32, 3) := by decide +kernel
theorem dX2_findNeeded_110 : decode cX2_findNeeded 110 = .ok (.iinc 8 1, 3) := by decide +kernel
theorem dX2_findNeeded_113 : decode cX2_findNeeded 113 = .ok (.goto (-38), 3) := by decide +kernel
theorem dX2_findNeeded_116 : decode cX2_findNeeded 116 = .ok (.aload_n 0, 1) := by decide +kernel
theorem dX2_findNeeded_117 : decode cX2_findNeeded 117 = .ok (.getfield 32, 3) := by decide +kernel
theorem dX2_findNeeded_120 : decode cX2_findNeeded 120 = .ok (.lload 6, 2) := by decide +kernel
theorem dX2_findNeeded_122 : decode cX2_findNeeded 122 = .ok (.lcmp, 1) := by decide +kernel
theorem dX2_findNeeded_123 : decode cX2_findNeeded 123 = .ok (.ifCond .eq 7, 3) := by decide +kernel
theorem dX2_findNeeded_126 : decode cX2_findNeeded 126 = .ok (.iconst 1, 1) := by decide +kernel
theorem dX2_findNeeded_127 : decode cX2_findNeeded 127 = .ok (.goto 4, 3) := by decide +kernel
theorem dX2_findNeeded_130 : decode cX2_findNeeded 130 = .ok (.iconst 0, 1) := by decide +kernel
theorem dX2_findNeeded_131 : decode cX2_findNeeded 131 = .ok (.istore 4, 2) := by decide +kernel
theorem dX2_findNeeded_133 : decode cX2_findNeeded 133 = .ok (.iinc 5 1, 3) := by decide +kernel
theorem dX2_findNeeded_136 : decode cX2_findNeeded 136 = .ok (.goto (-82), 3) := by decide +kernel
theorem dX2_findNeeded_139 : decode cX2_findNeeded 139 = .ok (.return_, 1) := by decide +kernel
theorem dX2_lineUp_0 : decode cX2_lineUp 0 = .ok (.lconst 0, 1) := by decide +kernel
theorem dX2_lineUp_1 : decode cX2_lineUp 1 = .ok (.lstore_n 1, 1) := by decide +kernel
theorem dX2_lineUp_2 : decode cX2_lineUp 2 = .ok (.aload_n 0, 1) := by decide +kernel
theorem dX2_lineUp_3 : decode cX2_lineUp 3 = .ok (.iconst 0, 1) := by decide +kernel
theorem dX2_lineUp_4 : decode cX2_lineUp 4 = .ok (.putfield 40, 3) := by decide +kernel
theorem dX2_lineUp_7 : decode cX2_lineUp 7 = .ok (.iconst 0, 1) := by decide +kernel
theorem dX2_lineUp_8 : decode cX2_lineUp 8 = .ok (.istore_n 3, 1) := by decide +kernel
theorem dX2_lineUp_9 : decode cX2_lineUp 9 = .ok (.lload_n 1, 1) := by decide +kernel
theorem dX2_lineUp_10 : decode cX2_lineUp 10 = .ok (.aload_n 0, 1) := by decide +kernel
theorem dX2_lineUp_11 : decode cX2_lineUp 11 = .ok (.getfield 32, 3) := by decide +kernel
theorem dX2_lineUp_14 : decode cX2_lineUp 14 = .ok (.lcmp, 1) := by decide +kernel
theorem dX2_lineUp_15 : decode cX2_lineUp 15 = .ok (.ifCond .eq 96, 3) := by decide +kernel
theorem dX2_lineUp_18 : decode cX2_lineUp 18 = .ok (.iload_n 3, 1) := by decide +kernel
theorem dX2_lineUp_19 : decode cX2_lineUp 19 = .ok (.bipush 40, 2) := by decide +kernel
theorem dX2_lineUp_21 : decode cX2_lineUp 21 = .ok (.if_icmp .ge 90, 3) := by decide +kernel
theorem dX2_lineUp_24 : decode cX2_lineUp 24 = .ok (.iconst 0, 1) := by decide +kernel
theorem dX2_lineUp_25 : decode cX2_lineUp 25 = .ok (.istore 4, 2) := by decide +kernel
theorem dX2_lineUp_27 : decode cX2_lineUp 27 = .ok (.iload 4, 2) := by decide +kernel
theorem dX2_lineUp_29 : decode cX2_lineUp 29 = .ok (.bipush 40, 2) := by decide +kernel
theorem dX2_lineUp_31 : decode cX2_lineUp 31 = .ok (.if_icmp .ge 74, 3) := by decide +kernel
theorem dX2_lineUp_34 : decode cX2_lineUp 34 = .ok (.aload_n 0, 1) := by decide +kernel
theorem dX2_lineUp_35 : decode cX2_lineUp 35 = .ok (.getfield 32, 3) := by decide +kernel
theorem dX2_lineUp_38 : decode cX2_lineUp 38 = .ok (.lload_n 1, 1) := by decide +kernel
theorem dX2_lineUp_39 : decode cX2_lineUp 39 = .ok (.ldc2_w 44, 3) := by decide +kernel
theorem dX2_lineUp_42 : decode cX2_lineUp 42 = .ok (.lxor, 1) := by decide +kernel
theorem dX2_lineUp_43 : decode cX2_lineUp 43 = .ok (.land, 1) := by decide +kernel
theorem dX2_lineUp_44 : decode cX2_lineUp 44 = .ok (.iload 4, 2) := by decide +kernel
theorem dX2_lineUp_46 : decode cX2_lineUp 46 = .ok (.invokestatic 36, 3) := by decide +kernel
theorem dX2_lineUp_49 : decode cX2_lineUp 49 = .ok (.ifCond .eq 50, 3) := by decide +kernel
theorem dX2_lineUp_52 : decode cX2_lineUp 52 = .ok (.aload_n 0, 1) := by decide +kernel
theorem dX2_lineUp_53 : decode cX2_lineUp 53 = .ok (.getfield 9, 3) := by decide +kernel
theorem dX2_lineUp_56 : decode cX2_lineUp 56 = .ok (.iload 4, 2) := by decide +kernel
theorem dX2_lineUp_58 : decode cX2_lineUp 58 = .ok (.laload, 1) := by decide +kernel
theorem dX2_lineUp_59 : decode cX2_lineUp 59 = .ok (.lload_n 1, 1) := by decide +kernel
theorem dX2_lineUp_60 : decode cX2_lineUp 60 = .ok (.ldc2_w 44, 3) := by decide +kernel
theorem dX2_lineUp_63 : decode cX2_lineUp 63 = .ok (.lxor, 1) := by decide +kernel
theorem dX2_lineUp_64 : decode cX2_lineUp 64 = .ok (.land, 1) := by decide +kernel
theorem dX2_lineUp_65 : decode cX2_lineUp 65 = .ok (.lconst 0, 1) := by decide +kernel
theorem dX2_lineUp_66 : decode cX2_lineUp 66 = .ok (.lcmp, 1) := by decide +kernel
theorem dX2_lineUp_67 : decode cX2_lineUp 67 = .ok (.ifCond .ne 32, 3) := by decide +kernel
theorem dX2_lineUp_70 : decode cX2_lineUp 70 = .ok (.aload_n 0, 1) := by decide +kernel
theorem dX2_lineUp_71 : decode cX2_lineUp 71 = .ok (.getfield 15, 3) := by decide +kernel
theorem dX2_lineUp_74 : decode cX2_lineUp 74 = .ok (.aload_n 0, 1) := by decide +kernel
theorem dX2_lineUp_75 : decode cX2_lineUp 75 = .ok (.getfield 40, 3) := by decide +kernel
theorem dX2_lineUp_78 : decode cX2_lineUp 78 = .ok (.iload 4, 2) := by decide +kernel
theorem dX2_lineUp_80 : decode cX2_lineUp 80 = .ok (.iastore, 1) := by decide +kernel
theorem dX2_lineUp_81 : decode cX2_lineUp 81 = .ok (.aload_n 0, 1) := by decide +kernel
theorem dX2_lineUp_82 : decode cX2_lineUp 82 = .ok (.dup, 1) := by decide +kernel
theorem dX2_lineUp_83 : decode cX2_lineUp 83 = .ok (.getfield 40, 3) := by decide +kernel
theorem dX2_lineUp_86 : decode cX2_lineUp 86 = .ok (.iconst 1, 1) := by decide +kernel
theorem dX2_lineUp_87 : decode cX2_lineUp 87 = .ok (.iadd, 1) := by decide +kernel
theorem dX2_lineUp_88 : decode cX2_lineUp 88 = .ok (.putfield 40, 3) := by decide +kernel
theorem dX2_lineUp_91 : decode cX2_lineUp 91 = .ok (.lload_n 1, 1) := by decide +kernel
theorem dX2_lineUp_92 : decode cX2_lineUp 92 = .ok (.iload 4, 2) := by decide +kernel
theorem dX2_lineUp_94 : decode cX2_lineUp 94 = .ok (.invokestatic 28, 3) := by decide +kernel
theorem dX2_lineUp_97 : decode cX2_lineUp 97 = .ok (.lor, 1) := by decide +kernel
theorem dX2_lineUp_98 : decode cX2_lineUp 98 = .ok (.lstore_n 1, 1) := by decide +kernel
theorem dX2_lineUp_99 : decode cX2_lineUp 99 = .ok (.iinc 4 1, 3) := by decide +kernel
theorem dX2_lineUp_102 : decode cX2_lineUp 102 = .ok (.goto (-75), 3) := by decide +kernel
theorem dX2_lineUp_105 : decode cX2_lineUp 105 = .ok (.iinc 3 1, 3) := by decide +kernel
theorem dX2_lineUp_108 : decode cX2_lineUp 108 = .ok (.goto (-99), 3) := by decide +kernel
theorem dX2_lineUp_111 : decode cX2_lineUp 111 = .ok (.lload_n 1, 1) := by decide +kernel
theorem dX2_lineUp_112 : decode cX2_lineUp 112 = .ok (.aload_n 0, 1) := by decide +kernel
theorem dX2_lineUp_113 : decode cX2_lineUp 113 = .ok (.getfield 32, 3) := by decide +kernel
theorem dX2_lineUp_116 : decode cX2_lineUp 116 = .ok (.lcmp, 1) := by decide +kernel
theorem dX2_lineUp_117 : decode cX2_lineUp 117 = .ok (.ifCond .ne 7, 3) := by decide +kernel
theorem dX2_lineUp_120 : decode cX2_lineUp 120 = .ok (.iconst 1, 1) := by decide +kernel
theorem dX2_lineUp_121 : decode cX2_lineUp 121 = .ok (.goto 4, 3) := by decide +kernel
theorem dX2_lineUp_124 : decode cX2_lineUp 124 = .ok (.iconst 0, 1) := by decide +kernel
theorem dX2_lineUp_125 : decode cX2_lineUp 125 = .ok (.ireturn, 1) := by decide +kernel
theorem dX2_rankSteps_0 : decode cX2_rankSteps 0 = .ok (.iconst 0, 1) := by decide +kernel
theorem dX2_rankSteps_1 : decode cX2_rankSteps 1 = .ok (.istore_n 2, 1) := by decide +kernel
theorem dX2_rankSteps_2 : decode cX2_rankSteps 2 = .ok (.iload_n 2, 1) := by decide +kernel
theorem dX2_rankSteps_3 : decode cX2_rankSteps 3 = .ok (.bipush 40, 2) := by decide +kernel
theorem dX2_rankSteps_5 : decode cX2_rankSteps 5 = .ok (.if_icmp .ge 21, 3) := by decide +kernel
theorem dX2_rankSteps_8 : decode cX2_rankSteps 8 = .ok (.aload_n 0, 1) := by decide +kernel
theorem dX2_rankSteps_9 : decode cX2_rankSteps 9 = .ok (.getfield 19, 3) := by decide +kernel
theorem dX2_rankSteps_12 : decode cX2_rankSteps 12 = .ok (.iload_n 2, 1) := by decide +kernel
theorem dX2_rankSteps_13 : decode cX2_rankSteps 13 = .ok (.aload_n 1, 1) := by decide +kernel
theorem dX2_rankSteps_14 : decode cX2_rankSteps 14 = .ok (.iload_n 2, 1) := by decide +kernel
theorem dX2_rankSteps_15 : decode cX2_rankSteps 15 = .ok (.aaload, 1) := by decide +kernel
theorem dX2_rankSteps_16 : decode cX2_rankSteps 16 = .ok (.getfield 46, 3) := by decide +kernel
theorem dX2_rankSteps_19 : decode cX2_rankSteps 19 = .ok (.iastore, 1) := by decide +kernel
theorem dX2_rankSteps_20 : decode cX2_rankSteps 20 = .ok (.iinc 2 1, 3) := by decide +kernel
theorem dX2_rankSteps_23 : decode cX2_rankSteps 23 = .ok (.goto (-21), 3) := by decide +kernel
theorem dX2_rankSteps_26 : decode cX2_rankSteps 26 = .ok (.aload_n 0, 1) := by decide +kernel
theorem dX2_rankSteps_27 : decode cX2_rankSteps 27 = .ok (.getfield 40, 3) := by decide +kernel
theorem dX2_rankSteps_30 : decode cX2_rankSteps 30 = .ok (.iconst 1, 1) := by decide +kernel
theorem dX2_rankSteps_31 : decode cX2_rankSteps 31 = .ok (.isub, 1) := by decide +kernel
theorem dX2_rankSteps_32 : decode cX2_rankSteps 32 = .ok (.istore_n 2, 1) := by decide +kernel
theorem dX2_rankSteps_33 : decode cX2_rankSteps 33 = .ok (.iload_n 2, 1) := by decide +kernel
theorem dX2_rankSteps_34 : decode cX2_rankSteps 34 = .ok (.ifCond .lt 77, 3) := by decide +kernel
theorem dX2_rankSteps_37 : decode cX2_rankSteps 37 = .ok (.aload_n 0, 1) := by decide +kernel
theorem dX2_rankSteps_38 : decode cX2_rankSteps 38 = .ok (.getfield 15, 3) := by decide +kernel
theorem dX2_rankSteps_41 : decode cX2_rankSteps 41 = .ok (.iload_n 2, 1) := by decide +kernel
theorem dX2_rankSteps_42 : decode cX2_rankSteps 42 = .ok (.iaload, 1) := by decide +kernel
theorem dX2_rankSteps_43 : decode cX2_rankSteps 43 = .ok (.istore_n 3, 1) := by decide +kernel
theorem dX2_rankSteps_44 : decode cX2_rankSteps 44 = .ok (.iconst 0, 1) := by decide +kernel
theorem dX2_rankSteps_45 : decode cX2_rankSteps 45 = .ok (.istore 4, 2) := by decide +kernel
theorem dX2_rankSteps_47 : decode cX2_rankSteps 47 = .ok (.iload 4, 2) := by decide +kernel
theorem dX2_rankSteps_49 : decode cX2_rankSteps 49 = .ok (.bipush 40, 2) := by decide +kernel
theorem dX2_rankSteps_51 : decode cX2_rankSteps 51 = .ok (.if_icmp .ge 54, 3) := by decide +kernel
theorem dX2_rankSteps_54 : decode cX2_rankSteps 54 = .ok (.aload_n 0, 1) := by decide +kernel
theorem dX2_rankSteps_55 : decode cX2_rankSteps 55 = .ok (.getfield 9, 3) := by decide +kernel
theorem dX2_rankSteps_58 : decode cX2_rankSteps 58 = .ok (.iload_n 3, 1) := by decide +kernel
theorem dX2_rankSteps_59 : decode cX2_rankSteps 59 = .ok (.laload, 1) := by decide +kernel
theorem dX2_rankSteps_60 : decode cX2_rankSteps 60 = .ok (.iload 4, 2) := by decide +kernel
theorem dX2_rankSteps_62 : decode cX2_rankSteps 62 = .ok (.invokestatic 36, 3) := by decide +kernel
theorem dX2_rankSteps_65 : decode cX2_rankSteps 65 = .ok (.ifCond .eq 34, 3) := by decide +kernel
theorem dX2_rankSteps_68 : decode cX2_rankSteps 68 = .ok (.aload_n 0, 1) := by decide +kernel
theorem dX2_rankSteps_69 : decode cX2_rankSteps 69 = .ok (.getfield 19, 3) := by decide +kernel
theorem dX2_rankSteps_72 : decode cX2_rankSteps 72 = .ok (.iload 4, 2) := by decide +kernel
theorem dX2_rankSteps_74 : decode cX2_rankSteps 74 = .ok (.aload_n 0, 1) := by decide +kernel
theorem dX2_rankSteps_75 : decode cX2_rankSteps 75 = .ok (.getfield 19, 3) := by decide +kernel
theorem dX2_rankSteps_78 : decode cX2_rankSteps 78 = .ok (.iload 4, 2) := by decide +kernel
theorem dX2_rankSteps_80 : decode cX2_rankSteps 80 = .ok (.iaload, 1) := by decide +kernel
theorem dX2_rankSteps_81 : decode cX2_rankSteps 81 = .ok (.aload_n 1, 1) := by decide +kernel
theorem dX2_rankSteps_82 : decode cX2_rankSteps 82 = .ok (.iload 4, 2) := by decide +kernel
theorem dX2_rankSteps_84 : decode cX2_rankSteps 84 = .ok (.aaload, 1) := by decide +kernel
theorem dX2_rankSteps_85 : decode cX2_rankSteps 85 = .ok (.getfield 46, 3) := by decide +kernel
theorem dX2_rankSteps_88 : decode cX2_rankSteps 88 = .ok (.aload_n 0, 1) := by decide +kernel
theorem dX2_rankSteps_89 : decode cX2_rankSteps 89 = .ok (.getfield 19, 3) := by decide +kernel
theorem dX2_rankSteps_92 : decode cX2_rankSteps 92 = .ok (.iload_n 3, 1) := by decide +kernel
theorem dX2_rankSteps_93 : decode cX2_rankSteps 93 = .ok (.iaload, 1) := by decide +kernel
theorem dX2_rankSteps_94 : decode cX2_rankSteps 94 = .ok (.iadd, 1) := by decide +kernel
theorem dX2_rankSteps_95 : decode cX2_rankSteps 95 = .ok (.invokestatic 49, 3) := by decide +kernel
theorem dX2_rankSteps_98 : decode cX2_rankSteps 98 = .ok (.iastore, 1) := by decide +kernel
theorem dX2_rankSteps_99 : decode cX2_rankSteps 99 = .ok (.iinc 4 1, 3) := by decide +kernel
theorem dX2_rankSteps_102 : decode cX2_rankSteps 102 = .ok (.goto (-55), 3) := by decide +kernel
theorem dX2_rankSteps_105 : decode cX2_rankSteps 105 = .ok (.iinc 2 (-1), 3) := by decide +kernel
theorem dX2_rankSteps_108 : decode cX2_rankSteps 108 = .ok (.goto (-75), 3) := by decide +kernel
theorem dX2_rankSteps_111 : decode cX2_rankSteps 111 = .ok (.return_, 1) := by decide +kernel
theorem dX2_greatestRank_0 : decode cX2_greatestRank 0 = .ok (.iconst 0, 1) := by decide +kernel
theorem dX2_greatestRank_1 : decode cX2_greatestRank 1 = .ok (.istore_n 1, 1) := by decide +kernel
theorem dX2_greatestRank_2 : decode cX2_greatestRank 2 = .ok (.iconst 0, 1) := by decide +kernel
theorem dX2_greatestRank_3 : decode cX2_greatestRank 3 = .ok (.istore_n 2, 1) := by decide +kernel
theorem dX2_greatestRank_4 : decode cX2_greatestRank 4 = .ok (.iload_n 2, 1) := by decide +kernel
theorem dX2_greatestRank_5 : decode cX2_greatestRank 5 = .ok (.aload_n 0, 1) := by decide +kernel
theorem dX2_greatestRank_6 : decode cX2_greatestRank 6 = .ok (.getfield 40, 3) := by decide +kernel
theorem dX2_greatestRank_9 : decode cX2_greatestRank 9 = .ok (.if_icmp .ge 25, 3) := by decide +kernel
theorem dX2_greatestRank_12 : decode cX2_greatestRank 12 = .ok (.iload_n 1, 1) := by decide +kernel
theorem dX2_greatestRank_13 : decode cX2_greatestRank 13 = .ok (.aload_n 0, 1) := by decide +kernel
theorem dX2_greatestRank_14 : decode cX2_greatestRank 14 = .ok (.getfield 19, 3) := by decide +kernel
theorem dX2_greatestRank_17 : decode cX2_greatestRank 17 = .ok (.aload_n 0, 1) := by decide +kernel
theorem dX2_greatestRank_18 : decode cX2_greatestRank 18 = .ok (.getfield 15, 3) := by decide +kernel
theorem dX2_greatestRank_21 : decode cX2_greatestRank 21 = .ok (.iload_n 2, 1) := by decide +kernel
theorem dX2_greatestRank_22 : decode cX2_greatestRank 22 = .ok (.iaload, 1) := by decide +kernel
theorem dX2_greatestRank_23 : decode cX2_greatestRank 23 = .ok (.iaload, 1) := by decide +kernel
theorem dX2_greatestRank_24 : decode cX2_greatestRank 24 = .ok (.invokestatic 49, 3) := by decide +kernel
theorem dX2_greatestRank_27 : decode cX2_greatestRank 27 = .ok (.istore_n 1, 1) := by decide +kernel
theorem dX2_greatestRank_28 : decode cX2_greatestRank 28 = .ok (.iinc 2 1, 3) := by decide +kernel
theorem dX2_greatestRank_31 : decode cX2_greatestRank 31 = .ok (.goto (-27), 3) := by decide +kernel
theorem dX2_greatestRank_34 : decode cX2_greatestRank 34 = .ok (.iload_n 1, 1) := by decide +kernel
theorem dX2_greatestRank_35 : decode cX2_greatestRank 35 = .ok (.ireturn, 1) := by decide +kernel
theorem dX2_waitingFor_0 : decode cX2_waitingFor 0 = .ok (.lconst 0, 1) := by decide +kernel
theorem dX2_waitingFor_1 : decode cX2_waitingFor 1 = .ok (.lstore_n 3, 1) := by decide +kernel
theorem dX2_waitingFor_2 : decode cX2_waitingFor 2 = .ok (.iconst 0, 1) := by decide +kernel
theorem dX2_waitingFor_3 : decode cX2_waitingFor 3 = .ok (.istore 5, 2) := by decide +kernel
theorem dX2_waitingFor_5 : decode cX2_waitingFor 5 = .ok (.iload 5, 2) := by decide +kernel
theorem dX2_waitingFor_7 : decode cX2_waitingFor 7 = .ok (.bipush 40, 2) := by decide +kernel
theorem dX2_waitingFor_9 : decode cX2_waitingFor 9 = .ok (.if_icmp .ge 43, 3) := by decide +kernel
theorem dX2_waitingFor_12 : decode cX2_waitingFor 12 = .ok (.aload_n 0, 1) := by decide +kernel
theorem dX2_waitingFor_13 : decode cX2_waitingFor 13 = .ok (.getfield 32, 3) := by decide +kernel
theorem dX2_waitingFor_16 : decode cX2_waitingFor 16 = .ok (.iload 5, 2) := by decide +kernel
theorem dX2_waitingFor_18 : decode cX2_waitingFor 18 = .ok (.invokestatic 36, 3) := by decide +kernel
theorem dX2_waitingFor_21 : decode cX2_waitingFor 21 = .ok (.ifCond .eq 25, 3) := by decide +kernel
theorem dX2_waitingFor_24 : decode cX2_waitingFor 24 = .ok (.aload_n 0, 1) := by decide +kernel
theorem dX2_waitingFor_25 : decode cX2_waitingFor 25 = .ok (.getfield 9, 3) := by decide +kernel
theorem dX2_waitingFor_28 : decode cX2_waitingFor 28 = .ok (.iload 5, 2) := by decide +kernel
theorem dX2_waitingFor_30 : decode cX2_waitingFor 30 = .ok (.laload, 1) := by decide +kernel
theorem dX2_waitingFor_31 : decode cX2_waitingFor 31 = .ok (.lload_n 1, 1) := by decide +kernel
theorem dX2_waitingFor_32 : decode cX2_waitingFor 32 = .ok (.land, 1) := by decide +kernel
theorem dX2_waitingFor_33 : decode cX2_waitingFor 33 = .ok (.lconst 0, 1) := by decide +kernel
theorem dX2_waitingFor_34 : decode cX2_waitingFor 34 = .ok (.lcmp, 1) := by decide +kernel
theorem dX2_waitingFor_35 : decode cX2_waitingFor 35 = .ok (.ifCond .eq 11, 3) := by decide +kernel
theorem dX2_waitingFor_38 : decode cX2_waitingFor 38 = .ok (.lload_n 3, 1) := by decide +kernel
theorem dX2_waitingFor_39 : decode cX2_waitingFor 39 = .ok (.iload 5, 2) := by decide +kernel
theorem dX2_waitingFor_41 : decode cX2_waitingFor 41 = .ok (.invokestatic 28, 3) := by decide +kernel
theorem dX2_waitingFor_44 : decode cX2_waitingFor 44 = .ok (.lor, 1) := by decide +kernel
theorem dX2_waitingFor_45 : decode cX2_waitingFor 45 = .ok (.lstore_n 3, 1) := by decide +kernel
theorem dX2_waitingFor_46 : decode cX2_waitingFor 46 = .ok (.iinc 5 1, 3) := by decide +kernel
theorem dX2_waitingFor_49 : decode cX2_waitingFor 49 = .ok (.goto (-44), 3) := by decide +kernel
theorem dX2_waitingFor_52 : decode cX2_waitingFor 52 = .ok (.lload_n 3, 1) := by decide +kernel
theorem dX2_waitingFor_53 : decode cX2_waitingFor 53 = .ok (.lreturn, 1) := by decide +kernel
theorem dX3_init_0 : decode cX3_init 0 = .ok (.aload_n 0, 1) := by decide +kernel
theorem dX3_init_1 : decode cX3_init 1 = .ok (.invokespecial 3, 3) := by decide +kernel
theorem dX3_init_4 : decode cX3_init 4 = .ok (.aload_n 0, 1) := by decide +kernel
theorem dX3_init_5 : decode cX3_init 5 = .ok (.sipush 200, 3) := by decide +kernel
theorem dX3_init_8 : decode cX3_init 8 = .ok (.newarray .int, 2) := by decide +kernel
theorem dX3_init_10 : decode cX3_init 10 = .ok (.putfield 11, 3) := by decide +kernel
theorem dX3_init_13 : decode cX3_init 13 = .ok (.return_, 1) := by decide +kernel
theorem dX3_open_0 : decode cX3_open 0 = .ok (.aload_n 0, 1) := by decide +kernel
theorem dX3_open_1 : decode cX3_open 1 = .ok (.aload_n 1, 1) := by decide +kernel
theorem dX3_open_2 : decode cX3_open 2 = .ok (.getfield 15, 3) := by decide +kernel
theorem dX3_open_5 : decode cX3_open 5 = .ok (.putfield 21, 3) := by decide +kernel
theorem dX3_open_8 : decode cX3_open 8 = .ok (.aload_n 0, 1) := by decide +kernel
theorem dX3_open_9 : decode cX3_open 9 = .ok (.iconst 0, 1) := by decide +kernel
theorem dX3_open_10 : decode cX3_open 10 = .ok (.putfield 24, 3) := by decide +kernel
theorem dX3_open_13 : decode cX3_open 13 = .ok (.aload_n 0, 1) := by decide +kernel
theorem dX3_open_14 : decode cX3_open 14 = .ok (.iconst 0, 1) := by decide +kernel
theorem dX3_open_15 : decode cX3_open 15 = .ok (.putfield 27, 3) := by decide +kernel
theorem dX3_open_18 : decode cX3_open 18 = .ok (.aload_n 0, 1) := by decide +kernel
theorem dX3_open_19 : decode cX3_open 19 = .ok (.aload_n 1, 1) := by decide +kernel
theorem dX3_open_20 : decode cX3_open 20 = .ok (.invokevirtual 30, 3) := by decide +kernel
theorem dX3_open_23 : decode cX3_open 23 = .ok (.putfield 34, 3) := by decide +kernel
theorem dX3_open_26 : decode cX3_open 26 = .ok (.return_, 1) := by decide +kernel
theorem dX3_add_0 : decode cX3_add 0 = .ok (.aload_n 0, 1) := by decide +kernel
theorem dX3_add_1 : decode cX3_add 1 = .ok (.getfield 24, 3) := by decide +kernel
theorem dX3_add_4 : decode cX3_add 4 = .ok (.bipush 40, 2) := by decide +kernel
theorem dX3_add_6 : decode cX3_add 6 = .ok (.if_icmp .lt 4, 3) := by decide +kernel
theorem dX3_add_9 : decode cX3_add 9 = .ok (.return_, 1) := by decide +kernel
theorem dX3_add_10 : decode cX3_add 10 = .ok (.aload_n 0, 1) := by decide +kernel
theorem dX3_add_11 : decode cX3_add 11 = .ok (.getfield 24, 3) := by decide +kernel
theorem dX3_add_14 : decode cX3_add 14 = .ok (.iconst 5, 1) := by decide +kernel
theorem dX3_add_15 : decode cX3_add 15 = .ok (.imul, 1) := by decide +kernel
theorem dX3_add_16 : decode cX3_add 16 = .ok (.istore 6, 2) := by decide +kernel
theorem dX3_add_18 : decode cX3_add 18 = .ok (.aload_n 0, 1) := by decide +kernel
theorem dX3_add_19 : decode cX3_add 19 = .ok (.getfield 11, 3) := by decide +kernel
theorem dX3_add_22 : decode cX3_add 22 = .ok (.iload 6, 2) := by decide +kernel
theorem dX3_add_24 : decode cX3_add 24 = .ok (.iload_n 1, 1) := by decide +kernel
theorem dX3_add_25 : decode cX3_add 25 = .ok (.iastore, 1) := by decide +kernel
theorem dX3_add_26 : decode cX3_add 26 = .ok (.aload_n 0, 1) := by decide +kernel
theorem dX3_add_27 : decode cX3_add 27 = .ok (.getfield 11, 3) := by decide +kernel
theorem dX3_add_30 : decode cX3_add 30 = .ok (.iload 6, 2) := by decide +kernel
theorem dX3_add_32 : decode cX3_add 32 = .ok (.iconst 1, 1) := by decide +kernel
theorem dX3_add_33 : decode cX3_add 33 = .ok (.iadd, 1) := by decide +kernel
theorem dX3_add_34 : decode cX3_add 34 = .ok (.iload_n 2, 1) := by decide +kernel
theorem dX3_add_35 : decode cX3_add 35 = .ok (.iastore, 1) := by decide +kernel
theorem dX3_add_36 : decode cX3_add 36 = .ok (.aload_n 0, 1) := by decide +kernel
theorem dX3_add_37 : decode cX3_add 37 = .ok (.getfield 11, 3) := by decide +kernel
theorem dX3_add_40 : decode cX3_add 40 = .ok (.iload 6, 2) := by decide +kernel
theorem dX3_add_42 : decode cX3_add 42 = .ok (.iconst 2, 1) := by decide +kernel
theorem dX3_add_43 : decode cX3_add 43 = .ok (.iadd, 1) := by decide +kernel
theorem dX3_add_44 : decode cX3_add 44 = .ok (.iload_n 3, 1) := by decide +kernel
theorem dX3_add_45 : decode cX3_add 45 = .ok (.iastore, 1) := by decide +kernel
theorem dX3_add_46 : decode cX3_add 46 = .ok (.aload_n 0, 1) := by decide +kernel
theorem dX3_add_47 : decode cX3_add 47 = .ok (.getfield 11, 3) := by decide +kernel
theorem dX3_add_50 : decode cX3_add 50 = .ok (.iload 6, 2) := by decide +kernel
theorem dX3_add_52 : decode cX3_add 52 = .ok (.iconst 3, 1) := by decide +kernel
theorem dX3_add_53 : decode cX3_add 53 = .ok (.iadd, 1) := by decide +kernel
theorem dX3_add_54 : decode cX3_add 54 = .ok (.iload 4, 2) := by decide +kernel
theorem dX3_add_56 : decode cX3_add 56 = .ok (.iastore, 1) := by decide +kernel
theorem dX3_add_57 : decode cX3_add 57 = .ok (.aload_n 0, 1) := by decide +kernel
theorem dX3_add_58 : decode cX3_add 58 = .ok (.getfield 11, 3) := by decide +kernel
theorem dX3_add_61 : decode cX3_add 61 = .ok (.iload 6, 2) := by decide +kernel
theorem dX3_add_63 : decode cX3_add 63 = .ok (.iconst 4, 1) := by decide +kernel
theorem dX3_add_64 : decode cX3_add 64 = .ok (.iadd, 1) := by decide +kernel
theorem dX3_add_65 : decode cX3_add 65 = .ok (.iload 5, 2) := by decide +kernel
theorem dX3_add_67 : decode cX3_add 67 = .ok (.iastore, 1) := by decide +kernel
theorem dX3_add_68 : decode cX3_add 68 = .ok (.aload_n 0, 1) := by decide +kernel
theorem dX3_add_69 : decode cX3_add 69 = .ok (.dup, 1) := by decide +kernel
theorem dX3_add_70 : decode cX3_add 70 = .ok (.getfield 24, 3) := by decide +kernel
theorem dX3_add_73 : decode cX3_add 73 = .ok (.iconst 1, 1) := by decide +kernel
theorem dX3_add_74 : decode cX3_add 74 = .ok (.iadd, 1) := by decide +kernel
theorem dX3_add_75 : decode cX3_add 75 = .ok (.putfield 24, 3) := by decide +kernel
theorem dX3_add_78 : decode cX3_add 78 = .ok (.aload_n 0, 1) := by decide +kernel
theorem dX3_add_79 : decode cX3_add 79 = .ok (.dup, 1) := by decide +kernel
theorem dX3_add_80 : decode cX3_add 80 = .ok (.getfield 27, 3) := by decide +kernel
theorem dX3_add_83 : decode cX3_add 83 = .ok (.iload_n 3, 1) := by decide +kernel
theorem dX3_add_84 : decode cX3_add 84 = .ok (.iload_n 2, 1) := by decide +kernel
theorem dX3_add_85 : decode cX3_add 85 = .ok (.isub, 1) := by decide +kernel
theorem dX3_add_86 : decode cX3_add 86 = .ok (.iadd, 1) := by decide +kernel
theorem dX3_add_87 : decode cX3_add 87 = .ok (.putfield 27, 3) := by decide +kernel
theorem dX3_add_90 : decode cX3_add 90 = .ok (.return_, 1) := by decide +kernel
theorem dX3_cell_0 : decode cX3_cell 0 = .ok (.aload_n 0, 1) := by decide +kernel
theorem dX3_cell_1 : decode cX3_cell 1 = .ok (.getfield 11, 3) := by decide +kernel
theorem dX3_cell_4 : decode cX3_cell 4 = .ok (.iload_n 1, 1) := by decide +kernel
theorem dX3_cell_5 : decode cX3_cell 5 = .ok (.iconst 5, 1) := by decide +kernel
theorem dX3_cell_6 : decode cX3_cell 6 = .ok (.imul, 1) := by decide +kernel
theorem dX3_cell_7 : decode cX3_cell 7 = .ok (.iload_n 2, 1) := by decide +kernel
theorem dX3_cell_8 : decode cX3_cell 8 = .ok (.iadd, 1) := by decide +kernel
theorem dX3_cell_9 : decode cX3_cell 9 = .ok (.iaload, 1) := by decide +kernel
theorem dX3_cell_10 : decode cX3_cell 10 = .ok (.ireturn, 1) := by decide +kernel
theorem dX4_init_0 : decode cX4_init 0 = .ok (.aload_n 0, 1) := by decide +kernel
theorem dX4_init_1 : decode cX4_init 1 = .ok (.invokespecial 3, 3) := by decide +kernel
theorem dX4_init_4 : decode cX4_init 4 = .ok (.aload_n 0, 1) := by decide +kernel
theorem dX4_init_5 : decode cX4_init 5 = .ok (.bipush 40, 2) := by decide +kernel
theorem dX4_init_7 : decode cX4_init 7 = .ok (.newarray .int, 2) := by decide +kernel
theorem dX4_init_9 : decode cX4_init 9 = .ok (.putfield 9, 3) := by decide +kernel
theorem dX4_init_12 : decode cX4_init 12 = .ok (.aload_n 0, 1) := by decide +kernel
theorem dX4_init_13 : decode cX4_init 13 = .ok (.bipush 41, 2) := by decide +kernel
theorem dX4_init_15 : decode cX4_init 15 = .ok (.newarray .long, 2) := by decide +kernel
theorem dX4_init_17 : decode cX4_init 17 = .ok (.putfield 15, 3) := by decide +kernel
theorem dX4_init_20 : decode cX4_init 20 = .ok (.return_, 1) := by decide +kernel
theorem dX4_find_0 : decode cX4_find 0 = .ok (.iconst 0, 1) := by decide +kernel
theorem dX4_find_1 : decode cX4_find 1 = .ok (.istore_n 2, 1) := by decide +kernel
theorem dX4_find_2 : decode cX4_find 2 = .ok (.iload_n 2, 1) := by decide +kernel
theorem dX4_find_3 : decode cX4_find 3 = .ok (.bipush 40, 2) := by decide +kernel
theorem dX4_find_5 : decode cX4_find 5 = .ok (.if_icmp .ge 39, 3) := by decide +kernel
theorem dX4_find_8 : decode cX4_find 8 = .ok (.aload_n 1, 1) := by decide +kernel
theorem dX4_find_9 : decode cX4_find 9 = .ok (.getfield 19, 3) := by decide +kernel
theorem dX4_find_12 : decode cX4_find 12 = .ok (.iload_n 2, 1) := by decide +kernel
theorem dX4_find_13 : decode cX4_find 13 = .ok (.invokestatic 25, 3) := by decide +kernel
theorem dX4_find_16 : decode cX4_find 16 = .ok (.ifCond .eq 22, 3) := by decide +kernel
theorem dX4_find_19 : decode cX4_find 19 = .ok (.aload_n 0, 1) := by decide +kernel
theorem dX4_find_20 : decode cX4_find 20 = .ok (.iload_n 2, 1) := by decide +kernel
theorem dX4_find_21 : decode cX4_find 21 = .ok (.aload_n 1, 1) := by decide +kernel
theorem dX4_find_22 : decode cX4_find 22 = .ok (.invokevirtual 29, 3) := by decide +kernel
theorem dX4_find_25 : decode cX4_find 25 = .ok (.istore_n 3, 1) := by decide +kernel
theorem dX4_find_26 : decode cX4_find 26 = .ok (.iload_n 3, 1) := by decide +kernel
theorem dX4_find_27 : decode cX4_find 27 = .ok (.ifCond .le 11, 3) := by decide +kernel
theorem dX4_find_30 : decode cX4_find 30 = .ok (.aload_n 0, 1) := by decide +kernel
theorem dX4_find_31 : decode cX4_find 31 = .ok (.iload_n 2, 1) := by decide +kernel
theorem dX4_find_32 : decode cX4_find 32 = .ok (.iload_n 3, 1) := by decide +kernel
theorem dX4_find_33 : decode cX4_find 33 = .ok (.aload_n 1, 1) := by decide +kernel
theorem dX4_find_34 : decode cX4_find 34 = .ok (.invokevirtual 33, 3) := by decide +kernel
theorem dX4_find_37 : decode cX4_find 37 = .ok (.return_, 1) := by decide +kernel
theorem dX4_find_38 : decode cX4_find 38 = .ok (.iinc 2 1, 3) := by decide +kernel
theorem dX4_find_41 : decode cX4_find 41 = .ok (.goto (-39), 3) := by decide +kernel
theorem dX4_find_44 : decode cX4_find 44 = .ok (.return_, 1) := by decide +kernel
end
section
theorem dX4_measure_0 : decode cX4_measure 0 = .ok (.aload_n 0, 1) := by decide +kernel
theorem dX4_measure_1 : decode cX4_measure 1 = .ok (.getfield 15, 3) := by decide +kernel
theorem dX4_measure_4 : decode cX4_measure 4 = .ok (.iconst 0, 1) := by decide +kernel
theorem dX4_measure_5 : decode cX4_measure 5 = .ok (.iload_n 1, 1) := by decide +kernel
theorem dX4_measure_6 : decode cX4_measure 6 = .ok (.invokestatic 37, 3) := by decide +kernel
theorem dX4_measure_9 : decode cX4_measure 9 = .ok (.lastore, 1) := by decide +kernel
theorem dX4_measure_10 : decode cX4_measure 10 = .ok (.iconst 1, 1) := by decide +kernel
theorem dX4_measure_11 : decode cX4_measure 11 = .ok (.istore_n 3, 1) := by decide +kernel
theorem dX4_measure_12 : decode cX4_measure 12 = .ok (.iload_n 3, 1) := by decide +kernel
theorem dX4_measure_13 : decode cX4_measure 13 = .ok (.bipush 40, 2) := by decide +kernel
theorem dX4_measure_15 : decode cX4_measure 15 = .ok (.if_icmp .gt 42, 3) := by decide +kernel
theorem dX4_measure_18 : decode cX4_measure 18 = .ok (.aload_n 0, 1) := by decide +kernel
theorem dX4_measure_19 : decode cX4_measure 19 = .ok (.getfield 15, 3) := by decide +kernel
theorem dX4_measure_22 : decode cX4_measure 22 = .ok (.iload_n 3, 1) := by decide +kernel
theorem dX4_measure_23 : decode cX4_measure 23 = .ok (.aload_n 2, 1) := by decide +kernel
theorem dX4_measure_24 : decode cX4_measure 24 = .ok (.aload_n 0, 1) := by decide +kernel
theorem dX4_measure_25 : decode cX4_measure 25 = .ok (.getfield 15, 3) := by decide +kernel
theorem dX4_measure_28 : decode cX4_measure 28 = .ok (.iload_n 3, 1) := by decide +kernel
theorem dX4_measure_29 : decode cX4_measure 29 = .ok (.iconst 1, 1) := by decide +kernel
theorem dX4_measure_30 : decode cX4_measure 30 = .ok (.isub, 1) := by decide +kernel
theorem dX4_measure_31 : decode cX4_measure 31 = .ok (.laload, 1) := by decide +kernel
theorem dX4_measure_32 : decode cX4_measure 32 = .ok (.invokevirtual 41, 3) := by decide +kernel
theorem dX4_measure_35 : decode cX4_measure 35 = .ok (.lastore, 1) := by decide +kernel
theorem dX4_measure_36 : decode cX4_measure 36 = .ok (.aload_n 0, 1) := by decide +kernel
theorem dX4_measure_37 : decode cX4_measure 37 = .ok (.getfield 15, 3) := by decide +kernel
theorem dX4_measure_40 : decode cX4_measure 40 = .ok (.iload_n 3, 1) := by decide +kernel
theorem dX4_measure_41 : decode cX4_measure 41 = .ok (.laload, 1) := by decide +kernel
theorem dX4_measure_42 : decode cX4_measure 42 = .ok (.iload_n 1, 1) := by decide +kernel
theorem dX4_measure_43 : decode cX4_measure 43 = .ok (.invokestatic 25, 3) := by decide +kernel
theorem dX4_measure_46 : decode cX4_measure 46 = .ok (.ifCond .eq 5, 3) := by decide +kernel
theorem dX4_measure_49 : decode cX4_measure 49 = .ok (.iload_n 3, 1) := by decide +kernel
theorem dX4_measure_50 : decode cX4_measure 50 = .ok (.ireturn, 1) := by decide +kernel
theorem dX4_measure_51 : decode cX4_measure 51 = .ok (.iinc 3 1, 3) := by decide +kernel
theorem dX4_measure_54 : decode cX4_measure 54 = .ok (.goto (-42), 3) := by decide +kernel
theorem dX4_measure_57 : decode cX4_measure 57 = .ok (.iconst 0, 1) := by decide +kernel
theorem dX4_measure_58 : decode cX4_measure 58 = .ok (.ireturn, 1) := by decide +kernel
theorem dX4_walk_0 : decode cX4_walk 0 = .ok (.iload_n 1, 1) := by decide +kernel
theorem dX4_walk_1 : decode cX4_walk 1 = .ok (.istore 4, 2) := by decide +kernel
theorem dX4_walk_3 : decode cX4_walk 3 = .ok (.iconst 0, 1) := by decide +kernel
theorem dX4_walk_4 : decode cX4_walk 4 = .ok (.istore 5, 2) := by decide +kernel
theorem dX4_walk_6 : decode cX4_walk 6 = .ok (.iload 5, 2) := by decide +kernel
theorem dX4_walk_8 : decode cX4_walk 8 = .ok (.iload_n 2, 1) := by decide +kernel
theorem dX4_walk_9 : decode cX4_walk 9 = .ok (.if_icmp .ge 50, 3) := by decide +kernel
theorem dX4_walk_12 : decode cX4_walk 12 = .ok (.iload 5, 2) := by decide +kernel
theorem dX4_walk_14 : decode cX4_walk 14 = .ok (.bipush 40, 2) := by decide +kernel
theorem dX4_walk_16 : decode cX4_walk 16 = .ok (.if_icmp .ge 43, 3) := by decide +kernel
theorem dX4_walk_19 : decode cX4_walk 19 = .ok (.aload_n 0, 1) := by decide +kernel
theorem dX4_walk_20 : decode cX4_walk 20 = .ok (.getfield 9, 3) := by decide +kernel
theorem dX4_walk_23 : decode cX4_walk 23 = .ok (.iload 5, 2) := by decide +kernel
theorem dX4_walk_25 : decode cX4_walk 25 = .ok (.iload 4, 2) := by decide +kernel
theorem dX4_walk_27 : decode cX4_walk 27 = .ok (.iastore, 1) := by decide +kernel
theorem dX4_walk_28 : decode cX4_walk 28 = .ok (.aload_n 3, 1) := by decide +kernel
theorem dX4_walk_29 : decode cX4_walk 29 = .ok (.getfield 45, 3) := by decide +kernel
theorem dX4_walk_32 : decode cX4_walk 32 = .ok (.iload 4, 2) := by decide +kernel
theorem dX4_walk_34 : decode cX4_walk 34 = .ok (.laload, 1) := by decide +kernel
theorem dX4_walk_35 : decode cX4_walk 35 = .ok (.aload_n 0, 1) := by decide +kernel
theorem dX4_walk_36 : decode cX4_walk 36 = .ok (.getfield 15, 3) := by decide +kernel
theorem dX4_walk_39 : decode cX4_walk 39 = .ok (.iload_n 2, 1) := by decide +kernel
theorem dX4_walk_40 : decode cX4_walk 40 = .ok (.iload 5, 2) := by decide +kernel
theorem dX4_walk_42 : decode cX4_walk 42 = .ok (.isub, 1) := by decide +kernel
theorem dX4_walk_43 : decode cX4_walk 43 = .ok (.iconst 1, 1) := by decide +kernel
theorem dX4_walk_44 : decode cX4_walk 44 = .ok (.isub, 1) := by decide +kernel
theorem dX4_walk_45 : decode cX4_walk 45 = .ok (.laload, 1) := by decide +kernel
theorem dX4_walk_46 : decode cX4_walk 46 = .ok (.land, 1) := by decide +kernel
theorem dX4_walk_47 : decode cX4_walk 47 = .ok (.iload_n 1, 1) := by decide +kernel
theorem dX4_walk_48 : decode cX4_walk 48 = .ok (.invokestatic 48, 3) := by decide +kernel
theorem dX4_walk_51 : decode cX4_walk 51 = .ok (.istore 4, 2) := by decide +kernel
theorem dX4_walk_53 : decode cX4_walk 53 = .ok (.iinc 5 1, 3) := by decide +kernel
theorem dX4_walk_56 : decode cX4_walk 56 = .ok (.goto (-50), 3) := by decide +kernel
theorem dX4_walk_59 : decode cX4_walk 59 = .ok (.aload_n 0, 1) := by decide +kernel
theorem dX4_walk_60 : decode cX4_walk 60 = .ok (.iload_n 2, 1) := by decide +kernel
theorem dX4_walk_61 : decode cX4_walk 61 = .ok (.putfield 52, 3) := by decide +kernel
theorem dX4_walk_64 : decode cX4_walk 64 = .ok (.return_, 1) := by decide +kernel
theorem dX4_least_0 : decode cX4_least 0 = .ok (.iconst 0, 1) := by decide +kernel
theorem dX4_least_1 : decode cX4_least 1 = .ok (.istore_n 3, 1) := by decide +kernel
theorem dX4_least_2 : decode cX4_least 2 = .ok (.iload_n 3, 1) := by decide +kernel
theorem dX4_least_3 : decode cX4_least 3 = .ok (.bipush 40, 2) := by decide +kernel
theorem dX4_least_5 : decode cX4_least 5 = .ok (.if_icmp .ge 19, 3) := by decide +kernel
theorem dX4_least_8 : decode cX4_least 8 = .ok (.lload_n 0, 1) := by decide +kernel
theorem dX4_least_9 : decode cX4_least 9 = .ok (.iload_n 3, 1) := by decide +kernel
theorem dX4_least_10 : decode cX4_least 10 = .ok (.invokestatic 25, 3) := by decide +kernel
theorem dX4_least_13 : decode cX4_least 13 = .ok (.ifCond .eq 5, 3) := by decide +kernel
theorem dX4_least_16 : decode cX4_least 16 = .ok (.iload_n 3, 1) := by decide +kernel
theorem dX4_least_17 : decode cX4_least 17 = .ok (.ireturn, 1) := by decide +kernel
theorem dX4_least_18 : decode cX4_least 18 = .ok (.iinc 3 1, 3) := by decide +kernel
theorem dX4_least_21 : decode cX4_least 21 = .ok (.goto (-19), 3) := by decide +kernel
theorem dX4_least_24 : decode cX4_least 24 = .ok (.iload_n 2, 1) := by decide +kernel
theorem dX4_least_25 : decode cX4_least 25 = .ok (.ireturn, 1) := by decide +kernel
theorem dX5_init_0 : decode cX5_init 0 = .ok (.aload_n 0, 1) := by decide +kernel
theorem dX5_init_1 : decode cX5_init 1 = .ok (.invokespecial 3, 3) := by decide +kernel
theorem dX5_init_4 : decode cX5_init 4 = .ok (.aload_n 0, 1) := by decide +kernel
theorem dX5_init_5 : decode cX5_init 5 = .ok (.bipush 6, 2) := by decide +kernel
theorem dX5_init_7 : decode cX5_init 7 = .ok (.newarray .int, 2) := by decide +kernel
theorem dX5_init_9 : decode cX5_init 9 = .ok (.putfield 9, 3) := by decide +kernel
theorem dX5_init_12 : decode cX5_init 12 = .ok (.aload_n 0, 1) := by decide +kernel
theorem dX5_init_13 : decode cX5_init 13 = .ok (.iconst 3, 1) := by decide +kernel
theorem dX5_init_14 : decode cX5_init 14 = .ok (.newarray .int, 2) := by decide +kernel
theorem dX5_init_16 : decode cX5_init 16 = .ok (.putfield 15, 3) := by decide +kernel
theorem dX5_init_19 : decode cX5_init 19 = .ok (.aload_n 0, 1) := by decide +kernel
theorem dX5_init_20 : decode cX5_init 20 = .ok (.bipush 6, 2) := by decide +kernel
theorem dX5_init_22 : decode cX5_init 22 = .ok (.newarray .int, 2) := by decide +kernel
theorem dX5_init_24 : decode cX5_init 24 = .ok (.putfield 18, 3) := by decide +kernel
theorem dX5_init_27 : decode cX5_init 27 = .ok (.return_, 1) := by decide +kernel
theorem dX5_tell_0 : decode cX5_tell 0 = .ok (.aload_n 0, 1) := by decide +kernel
theorem dX5_tell_1 : decode cX5_tell 1 = .ok (.iconst 1, 1) := by decide +kernel
theorem dX5_tell_2 : decode cX5_tell 2 = .ok (.putfield 21, 3) := by decide +kernel
theorem dX5_tell_5 : decode cX5_tell 5 = .ok (.aload_n 0, 1) := by decide +kernel
theorem dX5_tell_6 : decode cX5_tell 6 = .ok (.iload_n 1, 1) := by decide +kernel
theorem dX5_tell_7 : decode cX5_tell 7 = .ok (.putfield 25, 3) := by decide +kernel
theorem dX5_tell_10 : decode cX5_tell 10 = .ok (.aload_n 0, 1) := by decide +kernel
theorem dX5_tell_11 : decode cX5_tell 11 = .ok (.iload_n 2, 1) := by decide +kernel
theorem dX5_tell_12 : decode cX5_tell 12 = .ok (.putfield 29, 3) := by decide +kernel
theorem dX5_tell_15 : decode cX5_tell 15 = .ok (.aload_n 0, 1) := by decide +kernel
theorem dX5_tell_16 : decode cX5_tell 16 = .ok (.iload_n 3, 1) := by decide +kernel
theorem dX5_tell_17 : decode cX5_tell 17 = .ok (.putfield 32, 3) := by decide +kernel
theorem dX5_tell_20 : decode cX5_tell 20 = .ok (.return_, 1) := by decide +kernel
theorem dX5_addInput_0 : decode cX5_addInput 0 = .ok (.aload_n 0, 1) := by decide +kernel
theorem dX5_addInput_1 : decode cX5_addInput 1 = .ok (.getfield 35, 3) := by decide +kernel
theorem dX5_addInput_4 : decode cX5_addInput 4 = .ok (.bipush 6, 2) := by decide +kernel
theorem dX5_addInput_6 : decode cX5_addInput 6 = .ok (.if_icmp .lt 5, 3) := by decide +kernel
theorem dX5_addInput_9 : decode cX5_addInput 9 = .ok (.iconst 0, 1) := by decide +kernel
theorem dX5_addInput_10 : decode cX5_addInput 10 = .ok (.ireturn, 1) := by decide +kernel
theorem dX5_addInput_11 : decode cX5_addInput 11 = .ok (.aload_n 0, 1) := by decide +kernel
theorem dX5_addInput_12 : decode cX5_addInput 12 = .ok (.getfield 9, 3) := by decide +kernel
theorem dX5_addInput_15 : decode cX5_addInput 15 = .ok (.aload_n 0, 1) := by decide +kernel
theorem dX5_addInput_16 : decode cX5_addInput 16 = .ok (.getfield 35, 3) := by decide +kernel
theorem dX5_addInput_19 : decode cX5_addInput 19 = .ok (.iload_n 1, 1) := by decide +kernel
theorem dX5_addInput_20 : decode cX5_addInput 20 = .ok (.iastore, 1) := by decide +kernel
theorem dX5_addInput_21 : decode cX5_addInput 21 = .ok (.aload_n 0, 1) := by decide +kernel
theorem dX5_addInput_22 : decode cX5_addInput 22 = .ok (.dup, 1) := by decide +kernel
theorem dX5_addInput_23 : decode cX5_addInput 23 = .ok (.getfield 35, 3) := by decide +kernel
theorem dX5_addInput_26 : decode cX5_addInput 26 = .ok (.iconst 1, 1) := by decide +kernel
theorem dX5_addInput_27 : decode cX5_addInput 27 = .ok (.iadd, 1) := by decide +kernel
theorem dX5_addInput_28 : decode cX5_addInput 28 = .ok (.putfield 35, 3) := by decide +kernel
theorem dX5_addInput_31 : decode cX5_addInput 31 = .ok (.iconst 1, 1) := by decide +kernel
theorem dX5_addInput_32 : decode cX5_addInput 32 = .ok (.ireturn, 1) := by decide +kernel
theorem dX5_addOutput_0 : decode cX5_addOutput 0 = .ok (.aload_n 0, 1) := by decide +kernel
theorem dX5_addOutput_1 : decode cX5_addOutput 1 = .ok (.getfield 38, 3) := by decide +kernel
theorem dX5_addOutput_4 : decode cX5_addOutput 4 = .ok (.iconst 3, 1) := by decide +kernel
theorem dX5_addOutput_5 : decode cX5_addOutput 5 = .ok (.if_icmp .lt 5, 3) := by decide +kernel
theorem dX5_addOutput_8 : decode cX5_addOutput 8 = .ok (.iconst 0, 1) := by decide +kernel
theorem dX5_addOutput_9 : decode cX5_addOutput 9 = .ok (.ireturn, 1) := by decide +kernel
theorem dX5_addOutput_10 : decode cX5_addOutput 10 = .ok (.aload_n 0, 1) := by decide +kernel
theorem dX5_addOutput_11 : decode cX5_addOutput 11 = .ok (.getfield 15, 3) := by decide +kernel
theorem dX5_addOutput_14 : decode cX5_addOutput 14 = .ok (.aload_n 0, 1) := by decide +kernel
theorem dX5_addOutput_15 : decode cX5_addOutput 15 = .ok (.getfield 38, 3) := by decide +kernel
theorem dX5_addOutput_18 : decode cX5_addOutput 18 = .ok (.iload_n 1, 1) := by decide +kernel
theorem dX5_addOutput_19 : decode cX5_addOutput 19 = .ok (.iastore, 1) := by decide +kernel
theorem dX5_addOutput_20 : decode cX5_addOutput 20 = .ok (.aload_n 0, 1) := by decide +kernel
theorem dX5_addOutput_21 : decode cX5_addOutput 21 = .ok (.dup, 1) := by decide +kernel
theorem dX5_addOutput_22 : decode cX5_addOutput 22 = .ok (.getfield 38, 3) := by decide +kernel
theorem dX5_addOutput_25 : decode cX5_addOutput 25 = .ok (.iconst 1, 1) := by decide +kernel
theorem dX5_addOutput_26 : decode cX5_addOutput 26 = .ok (.iadd, 1) := by decide +kernel
theorem dX5_addOutput_27 : decode cX5_addOutput 27 = .ok (.putfield 38, 3) := by decide +kernel
theorem dX5_addOutput_30 : decode cX5_addOutput 30 = .ok (.iconst 1, 1) := by decide +kernel
theorem dX5_addOutput_31 : decode cX5_addOutput 31 = .ok (.ireturn, 1) := by decide +kernel
theorem dX5_leave_0 : decode cX5_leave 0 = .ok (.iconst 0, 1) := by decide +kernel
theorem dX5_leave_1 : decode cX5_leave 1 = .ok (.istore_n 2, 1) := by decide +kernel
theorem dX5_leave_2 : decode cX5_leave 2 = .ok (.iload_n 2, 1) := by decide +kernel
theorem dX5_leave_3 : decode cX5_leave 3 = .ok (.aload_n 0, 1) := by decide +kernel
theorem dX5_leave_4 : decode cX5_leave 4 = .ok (.getfield 38, 3) := by decide +kernel
theorem dX5_leave_7 : decode cX5_leave 7 = .ok (.if_icmp .ge 20, 3) := by decide +kernel
theorem dX5_leave_10 : decode cX5_leave 10 = .ok (.aload_n 1, 1) := by decide +kernel
theorem dX5_leave_11 : decode cX5_leave 11 = .ok (.aload_n 0, 1) := by decide +kernel
theorem dX5_leave_12 : decode cX5_leave 12 = .ok (.getfield 15, 3) := by decide +kernel
theorem dX5_leave_15 : decode cX5_leave 15 = .ok (.iload_n 2, 1) := by decide +kernel
theorem dX5_leave_16 : decode cX5_leave 16 = .ok (.iaload, 1) := by decide +kernel
theorem dX5_leave_17 : decode cX5_leave 17 = .ok (.iconst (-1), 1) := by decide +kernel
theorem dX5_leave_18 : decode cX5_leave 18 = .ok (.invokevirtual 41, 3) := by decide +kernel
theorem dX5_leave_21 : decode cX5_leave 21 = .ok (.iinc 2 1, 3) := by decide +kernel
theorem dX5_leave_24 : decode cX5_leave 24 = .ok (.goto (-22), 3) := by decide +kernel
theorem dX5_leave_27 : decode cX5_leave 27 = .ok (.aload_n 0, 1) := by decide +kernel
theorem dX5_leave_28 : decode cX5_leave 28 = .ok (.iconst 0, 1) := by decide +kernel
theorem dX5_leave_29 : decode cX5_leave 29 = .ok (.putfield 21, 3) := by decide +kernel
theorem dX5_leave_32 : decode cX5_leave 32 = .ok (.aload_n 0, 1) := by decide +kernel
theorem dX5_leave_33 : decode cX5_leave 33 = .ok (.iconst 0, 1) := by decide +kernel
theorem dX5_leave_34 : decode cX5_leave 34 = .ok (.putfield 47, 3) := by decide +kernel
theorem dX5_leave_37 : decode cX5_leave 37 = .ok (.aload_n 0, 1) := by decide +kernel
theorem dX5_leave_38 : decode cX5_leave 38 = .ok (.iconst 0, 1) := by decide +kernel
theorem dX5_leave_39 : decode cX5_leave 39 = .ok (.putfield 35, 3) := by decide +kernel
theorem dX5_leave_42 : decode cX5_leave 42 = .ok (.aload_n 0, 1) := by decide +kernel
theorem dX5_leave_43 : decode cX5_leave 43 = .ok (.iconst 0, 1) := by decide +kernel
theorem dX5_leave_44 : decode cX5_leave 44 = .ok (.putfield 38, 3) := by decide +kernel
theorem dX5_leave_47 : decode cX5_leave 47 = .ok (.return_, 1) := by decide +kernel
theorem dX5_waitsFor_0 : decode cX5_waitsFor 0 = .ok (.lconst 0, 1) := by decide +kernel
theorem dX5_waitsFor_1 : decode cX5_waitsFor 1 = .ok (.lstore_n 2, 1) := by decide +kernel
theorem dX5_waitsFor_2 : decode cX5_waitsFor 2 = .ok (.iconst 0, 1) := by decide +kernel
theorem dX5_waitsFor_3 : decode cX5_waitsFor 3 = .ok (.istore 4, 2) := by decide +kernel
theorem dX5_waitsFor_5 : decode cX5_waitsFor 5 = .ok (.iload 4, 2) := by decide +kernel
theorem dX5_waitsFor_7 : decode cX5_waitsFor 7 = .ok (.aload_n 0, 1) := by decide +kernel
theorem dX5_waitsFor_8 : decode cX5_waitsFor 8 = .ok (.getfield 35, 3) := by decide +kernel
theorem dX5_waitsFor_11 : decode cX5_waitsFor 11 = .ok (.if_icmp .ge 36, 3) := by decide +kernel
theorem dX5_waitsFor_14 : decode cX5_waitsFor 14 = .ok (.aload_n 1, 1) := by decide +kernel
theorem dX5_waitsFor_15 : decode cX5_waitsFor 15 = .ok (.aload_n 0, 1) := by decide +kernel
theorem dX5_waitsFor_16 : decode cX5_waitsFor 16 = .ok (.getfield 9, 3) := by decide +kernel
theorem dX5_waitsFor_19 : decode cX5_waitsFor 19 = .ok (.iload 4, 2) := by decide +kernel
theorem dX5_waitsFor_21 : decode cX5_waitsFor 21 = .ok (.iaload, 1) := by decide +kernel
theorem dX5_waitsFor_22 : decode cX5_waitsFor 22 = .ok (.invokevirtual 50, 3) := by decide +kernel
theorem dX5_waitsFor_25 : decode cX5_waitsFor 25 = .ok (.istore 5, 2) := by decide +kernel
theorem dX5_waitsFor_27 : decode cX5_waitsFor 27 = .ok (.iload 5, 2) := by decide +kernel
theorem dX5_waitsFor_29 : decode cX5_waitsFor 29 = .ok (.iconst (-1), 1) := by decide +kernel
theorem dX5_waitsFor_30 : decode cX5_waitsFor 30 = .ok (.if_icmp .eq 11, 3) := by decide +kernel
theorem dX5_waitsFor_33 : decode cX5_waitsFor 33 = .ok (.lload_n 2, 1) := by decide +kernel
theorem dX5_waitsFor_34 : decode cX5_waitsFor 34 = .ok (.iload 5, 2) := by decide +kernel
theorem dX5_waitsFor_36 : decode cX5_waitsFor 36 = .ok (.invokestatic 54, 3) := by decide +kernel
theorem dX5_waitsFor_39 : decode cX5_waitsFor 39 = .ok (.lor, 1) := by decide +kernel
theorem dX5_waitsFor_40 : decode cX5_waitsFor 40 = .ok (.lstore_n 2, 1) := by decide +kernel
theorem dX5_waitsFor_41 : decode cX5_waitsFor 41 = .ok (.iinc 4 1, 3) := by decide +kernel
theorem dX5_waitsFor_44 : decode cX5_waitsFor 44 = .ok (.goto (-39), 3) := by decide +kernel
theorem dX5_waitsFor_47 : decode cX5_waitsFor 47 = .ok (.lload_n 2, 1) := by decide +kernel
theorem dX5_waitsFor_48 : decode cX5_waitsFor 48 = .ok (.lreturn, 1) := by decide +kernel
theorem dX5_lacksSource_0 : decode cX5_lacksSource 0 = .ok (.iconst 0, 1) := by decide +kernel
theorem dX5_lacksSource_1 : decode cX5_lacksSource 1 = .ok (.istore_n 2, 1) := by decide +kernel
theorem dX5_lacksSource_2 : decode cX5_lacksSource 2 = .ok (.iload_n 2, 1) := by decide +kernel
theorem dX5_lacksSource_3 : decode cX5_lacksSource 3 = .ok (.aload_n 0, 1) := by decide +kernel
theorem dX5_lacksSource_4 : decode cX5_lacksSource 4 = .ok (.getfield 35, 3) := by decide +kernel
theorem dX5_lacksSource_7 : decode cX5_lacksSource 7 = .ok (.if_icmp .ge 24, 3) := by decide +kernel
theorem dX5_lacksSource_10 : decode cX5_lacksSource 10 = .ok (.aload_n 1, 1) := by decide +kernel
theorem dX5_lacksSource_11 : decode cX5_lacksSource 11 = .ok (.aload_n 0, 1) := by decide +kernel
theorem dX5_lacksSource_12 : decode cX5_lacksSource 12 = .ok (.getfield 9, 3) := by decide +kernel
theorem dX5_lacksSource_15 : decode cX5_lacksSource 15 = .ok (.iload_n 2, 1) := by decide +kernel
theorem dX5_lacksSource_16 : decode cX5_lacksSource 16 = .ok (.iaload, 1) := by decide +kernel
theorem dX5_lacksSource_17 : decode cX5_lacksSource 17 = .ok (.invokevirtual 58, 3) := by decide +kernel
theorem dX5_lacksSource_20 : decode cX5_lacksSource 20 = .ok (.ifCond .eq 5, 3) := by decide +kernel
theorem dX5_lacksSource_23 : decode cX5_lacksSource 23 = .ok (.iconst 1, 1) := by decide +kernel
theorem dX5_lacksSource_24 : decode cX5_lacksSource 24 = .ok (.ireturn, 1) := by decide +kernel
theorem dX5_lacksSource_25 : decode cX5_lacksSource 25 = .ok (.iinc 2 1, 3) := by decide +kernel
theorem dX5_lacksSource_28 : decode cX5_lacksSource 28 = .ok (.goto (-26), 3) := by decide +kernel
theorem dX5_lacksSource_31 : decode cX5_lacksSource 31 = .ok (.iconst 0, 1) := by decide +kernel
theorem dX5_lacksSource_32 : decode cX5_lacksSource 32 = .ok (.ireturn, 1) := by decide +kernel
theorem dX5_whyDue_0 : decode cX5_whyDue 0 = .ok (.aload_n 0, 1) := by decide +kernel
theorem dX5_whyDue_1 : decode cX5_whyDue 1 = .ok (.getfield 47, 3) := by decide +kernel
theorem dX5_whyDue_4 : decode cX5_whyDue 4 = .ok (.ifCond .ne 5, 3) := by decide +kernel
theorem dX5_whyDue_7 : decode cX5_whyDue 7 = .ok (.iconst 1, 1) := by decide +kernel
theorem dX5_whyDue_8 : decode cX5_whyDue 8 = .ok (.ireturn, 1) := by decide +kernel
theorem dX5_whyDue_9 : decode cX5_whyDue 9 = .ok (.aload_n 0, 1) := by decide +kernel
theorem dX5_whyDue_10 : decode cX5_whyDue 10 = .ok (.invokevirtual 62, 3) := by decide +kernel
theorem dX5_whyDue_13 : decode cX5_whyDue 13 = .ok (.ifCond .eq 5, 3) := by decide +kernel
theorem dX5_whyDue_16 : decode cX5_whyDue 16 = .ok (.iconst 2, 1) := by decide +kernel
theorem dX5_whyDue_17 : decode cX5_whyDue 17 = .ok (.ireturn, 1) := by decide +kernel
theorem dX5_whyDue_18 : decode cX5_whyDue 18 = .ok (.aload_n 0, 1) := by decide +kernel
theorem dX5_whyDue_19 : decode cX5_whyDue 19 = .ok (.aload_n 1, 1) := by decide +kernel
theorem dX5_whyDue_20 : decode cX5_whyDue 20 = .ok (.invokevirtual 66, 3) := by decide +kernel
theorem dX5_whyDue_23 : decode cX5_whyDue 23 = .ok (.ifCond .eq 5, 3) := by decide +kernel
theorem dX5_whyDue_26 : decode cX5_whyDue 26 = .ok (.iconst 3, 1) := by decide +kernel
theorem dX5_whyDue_27 : decode cX5_whyDue 27 = .ok (.ireturn, 1) := by decide +kernel
theorem dX5_whyDue_28 : decode cX5_whyDue 28 = .ok (.aload_n 0, 1) := by decide +kernel
theorem dX5_whyDue_29 : decode cX5_whyDue 29 = .ok (.aload_n 1, 1) := by decide +kernel
theorem dX5_whyDue_30 : decode cX5_whyDue 30 = .ok (.invokevirtual 70, 3) := by decide +kernel
theorem dX5_whyDue_33 : decode cX5_whyDue 33 = .ok (.ifCond .eq 7, 3) := by decide +kernel
theorem dX5_whyDue_36 : decode cX5_whyDue 36 = .ok (.iconst 4, 1) := by decide +kernel
theorem dX5_whyDue_37 : decode cX5_whyDue 37 = .ok (.goto 4, 3) := by decide +kernel
theorem dX5_whyDue_40 : decode cX5_whyDue 40 = .ok (.iconst 0, 1) := by decide +kernel
theorem dX5_whyDue_41 : decode cX5_whyDue 41 = .ok (.ireturn, 1) := by decide +kernel
theorem dX5_isToldOtherwise_0 : decode cX5_isToldOtherwise 0 = .ok (.aload_n 0, 1) := by decide +kernel
theorem dX5_isToldOtherwise_1 : decode cX5_isToldOtherwise 1 = .ok (.getfield 25, 3) := by decide +kernel
theorem dX5_isToldOtherwise_4 : decode cX5_isToldOtherwise 4 = .ok (.aload_n 0, 1) := by decide +kernel
theorem dX5_isToldOtherwise_5 : decode cX5_isToldOtherwise 5 = .ok (.getfield 73, 3) := by decide +kernel
theorem dX5_isToldOtherwise_8 : decode cX5_isToldOtherwise 8 = .ok (.if_icmp .ne 36, 3) := by decide +kernel
theorem dX5_isToldOtherwise_11 : decode cX5_isToldOtherwise 11 = .ok (.aload_n 0, 1) := by decide +kernel
theorem dX5_isToldOtherwise_12 : decode cX5_isToldOtherwise 12 = .ok (.getfield 29, 3) := by decide +kernel
theorem dX5_isToldOtherwise_15 : decode cX5_isToldOtherwise 15 = .ok (.aload_n 0, 1) := by decide +kernel
theorem dX5_isToldOtherwise_16 : decode cX5_isToldOtherwise 16 = .ok (.getfield 76, 3) := by decide +kernel
theorem dX5_isToldOtherwise_19 : decode cX5_isToldOtherwise 19 = .ok (.if_icmp .ne 25, 3) := by decide +kernel
theorem dX5_isToldOtherwise_22 : decode cX5_isToldOtherwise 22 = .ok (.aload_n 0, 1) := by decide +kernel
theorem dX5_isToldOtherwise_23 : decode cX5_isToldOtherwise 23 = .ok (.getfield 35, 3) := by decide +kernel
theorem dX5_isToldOtherwise_26 : decode cX5_isToldOtherwise 26 = .ok (.aload_n 0, 1) := by decide +kernel
theorem dX5_isToldOtherwise_27 : decode cX5_isToldOtherwise 27 = .ok (.getfield 79, 3) := by decide +kernel
theorem dX5_isToldOtherwise_30 : decode cX5_isToldOtherwise 30 = .ok (.if_icmp .ne 14, 3) := by decide +kernel
theorem dX5_isToldOtherwise_33 : decode cX5_isToldOtherwise 33 = .ok (.aload_n 0, 1) := by decide +kernel
theorem dX5_isToldOtherwise_34 : decode cX5_isToldOtherwise 34 = .ok (.getfield 38, 3) := by decide +kernel
theorem dX5_isToldOtherwise_37 : decode cX5_isToldOtherwise 37 = .ok (.aload_n 0, 1) := by decide +kernel
theorem dX5_isToldOtherwise_38 : decode cX5_isToldOtherwise 38 = .ok (.getfield 82, 3) := by decide +kernel
theorem dX5_isToldOtherwise_41 : decode cX5_isToldOtherwise 41 = .ok (.if_icmp .eq 7, 3) := by decide +kernel
theorem dX5_isToldOtherwise_44 : decode cX5_isToldOtherwise 44 = .ok (.iconst 1, 1) := by decide +kernel
theorem dX5_isToldOtherwise_45 : decode cX5_isToldOtherwise 45 = .ok (.goto 4, 3) := by decide +kernel
theorem dX5_isToldOtherwise_48 : decode cX5_isToldOtherwise 48 = .ok (.iconst 0, 1) := by decide +kernel
theorem dX5_isToldOtherwise_49 : decode cX5_isToldOtherwise 49 = .ok (.ireturn, 1) := by decide +kernel
theorem dX5_outputLacks_0 : decode cX5_outputLacks 0 = .ok (.iconst 0, 1) := by decide +kernel
theorem dX5_outputLacks_1 : decode cX5_outputLacks 1 = .ok (.istore_n 2, 1) := by decide +kernel
theorem dX5_outputLacks_2 : decode cX5_outputLacks 2 = .ok (.iload_n 2, 1) := by decide +kernel
theorem dX5_outputLacks_3 : decode cX5_outputLacks 3 = .ok (.aload_n 0, 1) := by decide +kernel
theorem dX5_outputLacks_4 : decode cX5_outputLacks 4 = .ok (.getfield 38, 3) := by decide +kernel
theorem dX5_outputLacks_7 : decode cX5_outputLacks 7 = .ok (.if_icmp .ge 24, 3) := by decide +kernel
theorem dX5_outputLacks_10 : decode cX5_outputLacks 10 = .ok (.aload_n 1, 1) := by decide +kernel
theorem dX5_outputLacks_11 : decode cX5_outputLacks 11 = .ok (.aload_n 0, 1) := by decide +kernel
theorem dX5_outputLacks_12 : decode cX5_outputLacks 12 = .ok (.getfield 15, 3) := by decide +kernel
theorem dX5_outputLacks_15 : decode cX5_outputLacks 15 = .ok (.iload_n 2, 1) := by decide +kernel
theorem dX5_outputLacks_16 : decode cX5_outputLacks 16 = .ok (.iaload, 1) := by decide +kernel
theorem dX5_outputLacks_17 : decode cX5_outputLacks 17 = .ok (.invokevirtual 85, 3) := by decide +kernel
theorem dX5_outputLacks_20 : decode cX5_outputLacks 20 = .ok (.ifCond .ne 5, 3) := by decide +kernel
theorem dX5_outputLacks_23 : decode cX5_outputLacks 23 = .ok (.iconst 1, 1) := by decide +kernel
theorem dX5_outputLacks_24 : decode cX5_outputLacks 24 = .ok (.ireturn, 1) := by decide +kernel
theorem dX5_outputLacks_25 : decode cX5_outputLacks 25 = .ok (.iinc 2 1, 3) := by decide +kernel
theorem dX5_outputLacks_28 : decode cX5_outputLacks 28 = .ok (.goto (-26), 3) := by decide +kernel
theorem dX5_outputLacks_31 : decode cX5_outputLacks 31 = .ok (.iconst 0, 1) := by decide +kernel
theorem dX5_outputLacks_32 : decode cX5_outputLacks 32 = .ok (.ireturn, 1) := by decide +kernel
theorem dX5_inputDiffers_0 : decode cX5_inputDiffers 0 = .ok (.iconst 0, 1) := by decide +kernel
theorem dX5_inputDiffers_1 : decode cX5_inputDiffers 1 = .ok (.istore_n 2, 1) := by decide +kernel
theorem dX5_inputDiffers_2 : decode cX5_inputDiffers 2 = .ok (.iload_n 2, 1) := by decide +kernel
theorem dX5_inputDiffers_3 : decode cX5_inputDiffers 3 = .ok (.aload_n 0, 1) := by decide +kernel
theorem dX5_inputDiffers_4 : decode cX5_inputDiffers 4 = .ok (.getfield 35, 3) := by decide +kernel
theorem dX5_inputDiffers_7 : decode cX5_inputDiffers 7 = .ok (.if_icmp .ge 40, 3) := by decide +kernel
theorem dX5_inputDiffers_10 : decode cX5_inputDiffers 10 = .ok (.aload_n 0, 1) := by decide +kernel
theorem dX5_inputDiffers_11 : decode cX5_inputDiffers 11 = .ok (.getfield 9, 3) := by decide +kernel
theorem dX5_inputDiffers_14 : decode cX5_inputDiffers 14 = .ok (.iload_n 2, 1) := by decide +kernel
theorem dX5_inputDiffers_15 : decode cX5_inputDiffers 15 = .ok (.iaload, 1) := by decide +kernel
theorem dX5_inputDiffers_16 : decode cX5_inputDiffers 16 = .ok (.istore_n 3, 1) := by decide +kernel
theorem dX5_inputDiffers_17 : decode cX5_inputDiffers 17 = .ok (.aload_n 1, 1) := by decide +kernel
theorem dX5_inputDiffers_18 : decode cX5_inputDiffers 18 = .ok (.iload_n 3, 1) := by decide +kernel
theorem dX5_inputDiffers_19 : decode cX5_inputDiffers 19 = .ok (.invokevirtual 85, 3) := by decide +kernel
theorem dX5_inputDiffers_22 : decode cX5_inputDiffers 22 = .ok (.ifCond .eq 17, 3) := by decide +kernel
theorem dX5_inputDiffers_25 : decode cX5_inputDiffers 25 = .ok (.aload_n 1, 1) := by decide +kernel
theorem dX5_inputDiffers_26 : decode cX5_inputDiffers 26 = .ok (.iload_n 3, 1) := by decide +kernel
theorem dX5_inputDiffers_27 : decode cX5_inputDiffers 27 = .ok (.invokevirtual 88, 3) := by decide +kernel
theorem dX5_inputDiffers_30 : decode cX5_inputDiffers 30 = .ok (.aload_n 0, 1) := by decide +kernel
theorem dX5_inputDiffers_31 : decode cX5_inputDiffers 31 = .ok (.getfield 18, 3) := by decide +kernel
theorem dX5_inputDiffers_34 : decode cX5_inputDiffers 34 = .ok (.iload_n 2, 1) := by decide +kernel
theorem dX5_inputDiffers_35 : decode cX5_inputDiffers 35 = .ok (.iaload, 1) := by decide +kernel
theorem dX5_inputDiffers_36 : decode cX5_inputDiffers 36 = .ok (.if_icmp .eq 5, 3) := by decide +kernel
theorem dX5_inputDiffers_39 : decode cX5_inputDiffers 39 = .ok (.iconst 1, 1) := by decide +kernel
theorem dX5_inputDiffers_40 : decode cX5_inputDiffers 40 = .ok (.ireturn, 1) := by decide +kernel
theorem dX5_inputDiffers_41 : decode cX5_inputDiffers 41 = .ok (.iinc 2 1, 3) := by decide +kernel
theorem dX5_inputDiffers_44 : decode cX5_inputDiffers 44 = .ok (.goto (-42), 3) := by decide +kernel
theorem dX5_inputDiffers_47 : decode cX5_inputDiffers 47 = .ok (.iconst 0, 1) := by decide +kernel
theorem dX5_inputDiffers_48 : decode cX5_inputDiffers 48 = .ok (.ireturn, 1) := by decide +kernel
theorem dX5_make_0 : decode cX5_make 0 = .ok (.aload_n 0, 1) := by decide +kernel
theorem dX5_make_1 : decode cX5_make 1 = .ok (.getfield 25, 3) := by decide +kernel
theorem dX5_make_4 : decode cX5_make 4 = .ok (.istore_n 2, 1) := by decide +kernel
theorem dX5_make_5 : decode cX5_make 5 = .ok (.iconst 0, 1) := by decide +kernel
theorem dX5_make_6 : decode cX5_make 6 = .ok (.istore_n 3, 1) := by decide +kernel
theorem dX5_make_7 : decode cX5_make 7 = .ok (.iload_n 3, 1) := by decide +kernel
theorem dX5_make_8 : decode cX5_make 8 = .ok (.aload_n 0, 1) := by decide +kernel
theorem dX5_make_9 : decode cX5_make 9 = .ok (.getfield 35, 3) := by decide +kernel
theorem dX5_make_12 : decode cX5_make 12 = .ok (.if_icmp .ge 37, 3) := by decide +kernel
theorem dX5_make_15 : decode cX5_make 15 = .ok (.aload_n 1, 1) := by decide +kernel
theorem dX5_make_16 : decode cX5_make 16 = .ok (.aload_n 0, 1) := by decide +kernel
theorem dX5_make_17 : decode cX5_make 17 = .ok (.getfield 9, 3) := by decide +kernel
theorem dX5_make_20 : decode cX5_make 20 = .ok (.iload_n 3, 1) := by decide +kernel
theorem dX5_make_21 : decode cX5_make 21 = .ok (.iaload, 1) := by decide +kernel
theorem dX5_make_22 : decode cX5_make 22 = .ok (.invokevirtual 88, 3) := by decide +kernel
theorem dX5_make_25 : decode cX5_make 25 = .ok (.istore 4, 2) := by decide +kernel
theorem dX5_make_27 : decode cX5_make 27 = .ok (.aload_n 0, 1) := by decide +kernel
theorem dX5_make_28 : decode cX5_make 28 = .ok (.getfield 18, 3) := by decide +kernel
theorem dX5_make_31 : decode cX5_make 31 = .ok (.iload_n 3, 1) := by decide +kernel
theorem dX5_make_32 : decode cX5_make 32 = .ok (.iload 4, 2) := by decide +kernel
theorem dX5_make_34 : decode cX5_make 34 = .ok (.iastore, 1) := by decide +kernel
theorem dX5_make_35 : decode cX5_make 35 = .ok (.iload_n 2, 1) := by decide +kernel
theorem dX5_make_36 : decode cX5_make 36 = .ok (.iload 4, 2) := by decide +kernel
theorem dX5_make_38 : decode cX5_make 38 = .ok (.ixor, 1) := by decide +kernel
theorem dX5_make_39 : decode cX5_make 39 = .ok (.ldc 91, 2) := by decide +kernel
theorem dX5_make_41 : decode cX5_make 41 = .ok (.imul, 1) := by decide +kernel
theorem dX5_make_42 : decode cX5_make 42 = .ok (.istore_n 2, 1) := by decide +kernel
theorem dX5_make_43 : decode cX5_make 43 = .ok (.iinc 3 1, 3) := by decide +kernel
theorem dX5_make_46 : decode cX5_make 46 = .ok (.goto (-39), 3) := by decide +kernel
theorem dX5_make_49 : decode cX5_make 49 = .ok (.iconst 0, 1) := by decide +kernel
theorem dX5_make_50 : decode cX5_make 50 = .ok (.istore_n 3, 1) := by decide +kernel
theorem dX5_make_51 : decode cX5_make 51 = .ok (.iload_n 3, 1) := by decide +kernel
theorem dX5_make_52 : decode cX5_make 52 = .ok (.aload_n 0, 1) := by decide +kernel
theorem dX5_make_53 : decode cX5_make 53 = .ok (.getfield 38, 3) := by decide +kernel
theorem dX5_make_56 : decode cX5_make 56 = .ok (.if_icmp .ge 27, 3) := by decide +kernel
theorem dX5_make_59 : decode cX5_make 59 = .ok (.aload_n 1, 1) := by decide +kernel
theorem dX5_make_60 : decode cX5_make 60 = .ok (.aload_n 0, 1) := by decide +kernel
theorem dX5_make_61 : decode cX5_make 61 = .ok (.getfield 15, 3) := by decide +kernel
theorem dX5_make_64 : decode cX5_make 64 = .ok (.iload_n 3, 1) := by decide +kernel
theorem dX5_make_65 : decode cX5_make 65 = .ok (.iaload, 1) := by decide +kernel
theorem dX5_make_66 : decode cX5_make 66 = .ok (.iload_n 2, 1) := by decide +kernel
theorem dX5_make_67 : decode cX5_make 67 = .ok (.iload_n 3, 1) := by decide +kernel
theorem dX5_make_68 : decode cX5_make 68 = .ok (.iadd, 1) := by decide +kernel
theorem dX5_make_69 : decode cX5_make 69 = .ok (.aload_n 0, 1) := by decide +kernel
theorem dX5_make_70 : decode cX5_make 70 = .ok (.getfield 29, 3) := by decide +kernel
theorem dX5_make_73 : decode cX5_make 73 = .ok (.iand, 1) := by decide +kernel
theorem dX5_make_74 : decode cX5_make 74 = .ok (.invokevirtual 92, 3) := by decide +kernel
theorem dX5_make_77 : decode cX5_make 77 = .ok (.iinc 3 1, 3) := by decide +kernel
theorem dX5_make_80 : decode cX5_make 80 = .ok (.goto (-29), 3) := by decide +kernel
theorem dX5_make_83 : decode cX5_make 83 = .ok (.aload_n 0, 1) := by decide +kernel
theorem dX5_make_84 : decode cX5_make 84 = .ok (.iconst 1, 1) := by decide +kernel
theorem dX5_make_85 : decode cX5_make 85 = .ok (.putfield 47, 3) := by decide +kernel
theorem dX5_make_88 : decode cX5_make 88 = .ok (.aload_n 0, 1) := by decide +kernel
theorem dX5_make_89 : decode cX5_make 89 = .ok (.aload_n 0, 1) := by decide +kernel
theorem dX5_make_90 : decode cX5_make 90 = .ok (.getfield 25, 3) := by decide +kernel
theorem dX5_make_93 : decode cX5_make 93 = .ok (.putfield 73, 3) := by decide +kernel
theorem dX5_make_96 : decode cX5_make 96 = .ok (.aload_n 0, 1) := by decide +kernel
theorem dX5_make_97 : decode cX5_make 97 = .ok (.aload_n 0, 1) := by decide +kernel
theorem dX5_make_98 : decode cX5_make 98 = .ok (.getfield 29, 3) := by decide +kernel
theorem dX5_make_101 : decode cX5_make 101 = .ok (.putfield 76, 3) := by decide +kernel
theorem dX5_make_104 : decode cX5_make 104 = .ok (.aload_n 0, 1) := by decide +kernel
theorem dX5_make_105 : decode cX5_make 105 = .ok (.aload_n 0, 1) := by decide +kernel
theorem dX5_make_106 : decode cX5_make 106 = .ok (.getfield 35, 3) := by decide +kernel
theorem dX5_make_109 : decode cX5_make 109 = .ok (.putfield 79, 3) := by decide +kernel
theorem dX5_make_112 : decode cX5_make 112 = .ok (.aload_n 0, 1) := by decide +kernel
theorem dX5_make_113 : decode cX5_make 113 = .ok (.aload_n 0, 1) := by decide +kernel
theorem dX5_make_114 : decode cX5_make 114 = .ok (.getfield 38, 3) := by decide +kernel
theorem dX5_make_117 : decode cX5_make 117 = .ok (.putfield 82, 3) := by decide +kernel
theorem dX5_make_120 : decode cX5_make 120 = .ok (.return_, 1) := by decide +kernel
theorem dX6_init_0 : decode cX6_init 0 = .ok (.aload_n 0, 1) := by decide +kernel
theorem dX6_init_1 : decode cX6_init 1 = .ok (.invokespecial 1, 3) := by decide +kernel
theorem dX6_init_4 : decode cX6_init 4 = .ok (.aload_n 0, 1) := by decide +kernel
theorem dX6_init_5 : decode cX6_init 5 = .ok (.new 7, 3) := by decide +kernel
theorem dX6_init_8 : decode cX6_init 8 = .ok (.dup, 1) := by decide +kernel
theorem dX6_init_9 : decode cX6_init 9 = .ok (.invokespecial 9, 3) := by decide +kernel
theorem dX6_init_12 : decode cX6_init 12 = .ok (.putfield 10, 3) := by decide +kernel
theorem dX6_init_15 : decode cX6_init 15 = .ok (.aload_n 0, 1) := by decide +kernel
theorem dX6_init_16 : decode cX6_init 16 = .ok (.bipush 40, 2) := by decide +kernel
theorem dX6_init_18 : decode cX6_init 18 = .ok (.anewarray 16, 3) := by decide +kernel
theorem dX6_init_21 : decode cX6_init 21 = .ok (.putfield 18, 3) := by decide +kernel
theorem dX6_init_24 : decode cX6_init 24 = .ok (.iconst 0, 1) := by decide +kernel
theorem dX6_init_25 : decode cX6_init 25 = .ok (.istore_n 1, 1) := by decide +kernel
theorem dX6_init_26 : decode cX6_init 26 = .ok (.iload_n 1, 1) := by decide +kernel
theorem dX6_init_27 : decode cX6_init 27 = .ok (.bipush 40, 2) := by decide +kernel
theorem dX6_init_29 : decode cX6_init 29 = .ok (.if_icmp .ge 22, 3) := by decide +kernel
theorem dX6_init_32 : decode cX6_init 32 = .ok (.aload_n 0, 1) := by decide +kernel
theorem dX6_init_33 : decode cX6_init 33 = .ok (.getfield 18, 3) := by decide +kernel
theorem dX6_init_36 : decode cX6_init 36 = .ok (.iload_n 1, 1) := by decide +kernel
theorem dX6_init_37 : decode cX6_init 37 = .ok (.new 16, 3) := by decide +kernel
theorem dX6_init_40 : decode cX6_init 40 = .ok (.dup, 1) := by decide +kernel
theorem dX6_init_41 : decode cX6_init 41 = .ok (.invokespecial 22, 3) := by decide +kernel
theorem dX6_init_44 : decode cX6_init 44 = .ok (.aastore, 1) := by decide +kernel
theorem dX6_init_45 : decode cX6_init 45 = .ok (.iinc 1 1, 3) := by decide +kernel
theorem dX6_init_48 : decode cX6_init 48 = .ok (.goto (-22), 3) := by decide +kernel
theorem dX6_init_51 : decode cX6_init 51 = .ok (.aload_n 0, 1) := by decide +kernel
theorem dX6_init_52 : decode cX6_init 52 = .ok (.new 23, 3) := by decide +kernel
theorem dX6_init_55 : decode cX6_init 55 = .ok (.dup, 1) := by decide +kernel
theorem dX6_init_56 : decode cX6_init 56 = .ok (.invokespecial 25, 3) := by decide +kernel
theorem dX6_init_59 : decode cX6_init 59 = .ok (.putfield 26, 3) := by decide +kernel
theorem dX6_init_62 : decode cX6_init 62 = .ok (.aload_n 0, 1) := by decide +kernel
theorem dX6_init_63 : decode cX6_init 63 = .ok (.new 30, 3) := by decide +kernel
theorem dX6_init_66 : decode cX6_init 66 = .ok (.dup, 1) := by decide +kernel
theorem dX6_init_67 : decode cX6_init 67 = .ok (.invokespecial 32, 3) := by decide +kernel
theorem dX6_init_70 : decode cX6_init 70 = .ok (.putfield 33, 3) := by decide +kernel
theorem dX6_init_73 : decode cX6_init 73 = .ok (.aload_n 0, 1) := by decide +kernel
theorem dX6_init_74 : decode cX6_init 74 = .ok (.new 37, 3) := by decide +kernel
theorem dX6_init_77 : decode cX6_init 77 = .ok (.dup, 1) := by decide +kernel
theorem dX6_init_78 : decode cX6_init 78 = .ok (.invokespecial 39, 3) := by decide +kernel
theorem dX6_init_81 : decode cX6_init 81 = .ok (.putfield 40, 3) := by decide +kernel
theorem dX6_init_84 : decode cX6_init 84 = .ok (.aload_n 0, 1) := by decide +kernel
theorem dX6_init_85 : decode cX6_init 85 = .ok (.new 44, 3) := by decide +kernel
theorem dX6_init_88 : decode cX6_init 88 = .ok (.dup, 1) := by decide +kernel
theorem dX6_init_89 : decode cX6_init 89 = .ok (.invokespecial 46, 3) := by decide +kernel
theorem dX6_init_92 : decode cX6_init 92 = .ok (.putfield 47, 3) := by decide +kernel
theorem dX6_init_95 : decode cX6_init 95 = .ok (.return_, 1) := by decide +kernel
theorem dX6_step_0 : decode cX6_step 0 = .ok (.iload_n 1, 1) := by decide +kernel
theorem dX6_step_1 : decode cX6_step 1 = .ok (.invokestatic 51, 3) := by decide +kernel
theorem dX6_step_4 : decode cX6_step 4 = .ok (.ifCond .eq 16, 3) := by decide +kernel
theorem dX6_step_7 : decode cX6_step 7 = .ok (.iload 4, 2) := by decide +kernel
theorem dX6_step_9 : decode cX6_step 9 = .ok (.iconst 1, 1) := by decide +kernel
theorem dX6_step_10 : decode cX6_step 10 = .ok (.if_icmp .lt 10, 3) := by decide +kernel
theorem dX6_step_13 : decode cX6_step 13 = .ok (.iload 4, 2) := by decide +kernel
theorem dX6_step_15 : decode cX6_step 15 = .ok (.bipush 100, 2) := by decide +kernel
theorem dX6_step_17 : decode cX6_step 17 = .ok (.if_icmp .le 5, 3) := by decide +kernel
theorem dX6_step_20 : decode cX6_step 20 = .ok (.iconst 0, 1) := by decide +kernel
theorem dX6_step_21 : decode cX6_step 21 = .ok (.ireturn, 1) := by decide +kernel
theorem dX6_step_22 : decode cX6_step 22 = .ok (.aload_n 0, 1) := by decide +kernel
theorem dX6_step_23 : decode cX6_step 23 = .ok (.getfield 18, 3) := by decide +kernel
theorem dX6_step_26 : decode cX6_step 26 = .ok (.iload_n 1, 1) := by decide +kernel
theorem dX6_step_27 : decode cX6_step 27 = .ok (.aaload, 1) := by decide +kernel
theorem dX6_step_28 : decode cX6_step 28 = .ok (.iload_n 2, 1) := by decide +kernel
theorem dX6_step_29 : decode cX6_step 29 = .ok (.iload_n 3, 1) := by decide +kernel
theorem dX6_step_30 : decode cX6_step 30 = .ok (.iload 4, 2) := by decide +kernel
theorem dX6_step_32 : decode cX6_step 32 = .ok (.invokevirtual 55, 3) := by decide +kernel
theorem dX6_step_35 : decode cX6_step 35 = .ok (.iconst 1, 1) := by decide +kernel
theorem dX6_step_36 : decode cX6_step 36 = .ok (.ireturn, 1) := by decide +kernel
theorem dX6_input_0 : decode cX6_input 0 = .ok (.aload_n 0, 1) := by decide +kernel
theorem dX6_input_1 : decode cX6_input 1 = .ok (.iload_n 1, 1) := by decide +kernel
theorem dX6_input_2 : decode cX6_input 2 = .ok (.invokevirtual 59, 3) := by decide +kernel
theorem dX6_input_5 : decode cX6_input 5 = .ok (.ifCond .eq 27, 3) := by decide +kernel
theorem dX6_input_8 : decode cX6_input 8 = .ok (.iload_n 2, 1) := by decide +kernel
theorem dX6_input_9 : decode cX6_input 9 = .ok (.invokestatic 62, 3) := by decide +kernel
theorem dX6_input_12 : decode cX6_input 12 = .ok (.ifCond .eq 20, 3) := by decide +kernel
theorem dX6_input_15 : decode cX6_input 15 = .ok (.aload_n 0, 1) := by decide +kernel
theorem dX6_input_16 : decode cX6_input 16 = .ok (.getfield 18, 3) := by decide +kernel
theorem dX6_input_19 : decode cX6_input 19 = .ok (.iload_n 1, 1) := by decide +kernel
theorem dX6_input_20 : decode cX6_input 20 = .ok (.aaload, 1) := by decide +kernel
theorem dX6_input_21 : decode cX6_input 21 = .ok (.iload_n 2, 1) := by decide +kernel
theorem dX6_input_22 : decode cX6_input 22 = .ok (.invokevirtual 65, 3) := by decide +kernel
theorem dX6_input_25 : decode cX6_input 25 = .ok (.ifCond .eq 7, 3) := by decide +kernel
theorem dX6_input_28 : decode cX6_input 28 = .ok (.iconst 1, 1) := by decide +kernel
theorem dX6_input_29 : decode cX6_input 29 = .ok (.goto 4, 3) := by decide +kernel
theorem dX6_input_32 : decode cX6_input 32 = .ok (.iconst 0, 1) := by decide +kernel
theorem dX6_input_33 : decode cX6_input 33 = .ok (.ireturn, 1) := by decide +kernel
theorem dX6_output_0 : decode cX6_output 0 = .ok (.aload_n 0, 1) := by decide +kernel
theorem dX6_output_1 : decode cX6_output 1 = .ok (.iload_n 1, 1) := by decide +kernel
theorem dX6_output_2 : decode cX6_output 2 = .ok (.invokevirtual 59, 3) := by decide +kernel
theorem dX6_output_5 : decode cX6_output 5 = .ok (.ifCond .eq 24, 3) := by decide +kernel
theorem dX6_output_8 : decode cX6_output 8 = .ok (.aload_n 0, 1) := by decide +kernel
theorem dX6_output_9 : decode cX6_output 9 = .ok (.iload_n 2, 1) := by decide +kernel
theorem dX6_output_10 : decode cX6_output 10 = .ok (.invokevirtual 68, 3) := by decide +kernel
theorem dX6_output_13 : decode cX6_output 13 = .ok (.ifCond .eq 16, 3) := by decide +kernel
theorem dX6_output_16 : decode cX6_output 16 = .ok (.aload_n 0, 1) := by decide +kernel
theorem dX6_output_17 : decode cX6_output 17 = .ok (.getfield 18, 3) := by decide +kernel
theorem dX6_output_20 : decode cX6_output 20 = .ok (.iload_n 1, 1) := by decide +kernel
theorem dX6_output_21 : decode cX6_output 21 = .ok (.aaload, 1) := by decide +kernel
theorem dX6_output_22 : decode cX6_output 22 = .ok (.iload_n 2, 1) := by decide +kernel
theorem dX6_output_23 : decode cX6_output 23 = .ok (.invokevirtual 71, 3) := by decide +kernel
theorem dX6_output_26 : decode cX6_output 26 = .ok (.ifCond .ne 5, 3) := by decide +kernel
theorem dX6_output_29 : decode cX6_output 29 = .ok (.iconst 0, 1) := by decide +kernel
theorem dX6_output_30 : decode cX6_output 30 = .ok (.ireturn, 1) := by decide +kernel
theorem dX6_output_31 : decode cX6_output 31 = .ok (.aload_n 0, 1) := by decide +kernel
theorem dX6_output_32 : decode cX6_output 32 = .ok (.getfield 10, 3) := by decide +kernel
theorem dX6_output_35 : decode cX6_output 35 = .ok (.iload_n 2, 1) := by decide +kernel
theorem dX6_output_36 : decode cX6_output 36 = .ok (.iload_n 1, 1) := by decide +kernel
theorem dX6_output_37 : decode cX6_output 37 = .ok (.invokevirtual 74, 3) := by decide +kernel
theorem dX6_output_40 : decode cX6_output 40 = .ok (.iconst 1, 1) := by decide +kernel
theorem dX6_output_41 : decode cX6_output 41 = .ok (.ireturn, 1) := by decide +kernel
theorem dX6_drop_0 : decode cX6_drop 0 = .ok (.aload_n 0, 1) := by decide +kernel
theorem dX6_drop_1 : decode cX6_drop 1 = .ok (.iload_n 1, 1) := by decide +kernel
theorem dX6_drop_2 : decode cX6_drop 2 = .ok (.invokevirtual 59, 3) := by decide +kernel
theorem dX6_drop_5 : decode cX6_drop 5 = .ok (.ifCond .ne 5, 3) := by decide +kernel
theorem dX6_drop_8 : decode cX6_drop 8 = .ok (.iconst 0, 1) := by decide +kernel
theorem dX6_drop_9 : decode cX6_drop 9 = .ok (.ireturn, 1) := by decide +kernel
theorem dX6_drop_10 : decode cX6_drop 10 = .ok (.aload_n 0, 1) := by decide +kernel
theorem dX6_drop_11 : decode cX6_drop 11 = .ok (.getfield 18, 3) := by decide +kernel
theorem dX6_drop_14 : decode cX6_drop 14 = .ok (.iload_n 1, 1) := by decide +kernel
theorem dX6_drop_15 : decode cX6_drop 15 = .ok (.aaload, 1) := by decide +kernel
theorem dX6_drop_16 : decode cX6_drop 16 = .ok (.aload_n 0, 1) := by decide +kernel
theorem dX6_drop_17 : decode cX6_drop 17 = .ok (.getfield 10, 3) := by decide +kernel
theorem dX6_drop_20 : decode cX6_drop 20 = .ok (.invokevirtual 78, 3) := by decide +kernel
theorem dX6_drop_23 : decode cX6_drop 23 = .ok (.iconst 1, 1) := by decide +kernel
theorem dX6_drop_24 : decode cX6_drop 24 = .ok (.ireturn, 1) := by decide +kernel
theorem dX6_source_0 : decode cX6_source 0 = .ok (.aload_n 0, 1) := by decide +kernel
theorem dX6_source_1 : decode cX6_source 1 = .ok (.iload_n 1, 1) := by decide +kernel
theorem dX6_source_2 : decode cX6_source 2 = .ok (.invokevirtual 68, 3) := by decide +kernel
theorem dX6_source_5 : decode cX6_source 5 = .ok (.ifCond .ne 5, 3) := by decide +kernel
theorem dX6_source_8 : decode cX6_source 8 = .ok (.iconst 0, 1) := by decide +kernel
theorem dX6_source_9 : decode cX6_source 9 = .ok (.ireturn, 1) := by decide +kernel
theorem dX6_source_10 : decode cX6_source 10 = .ok (.aload_n 0, 1) := by decide +kernel
theorem dX6_source_11 : decode cX6_source 11 = .ok (.getfield 10, 3) := by decide +kernel
theorem dX6_source_14 : decode cX6_source 14 = .ok (.iload_n 1, 1) := by decide +kernel
theorem dX6_source_15 : decode cX6_source 15 = .ok (.iload_n 2, 1) := by decide +kernel
theorem dX6_source_16 : decode cX6_source 16 = .ok (.invokevirtual 82, 3) := by decide +kernel
theorem dX6_source_19 : decode cX6_source 19 = .ok (.iconst 1, 1) := by decide +kernel
theorem dX6_source_20 : decode cX6_source 20 = .ok (.ireturn, 1) := by decide +kernel
theorem dX6_spoil_0 : decode cX6_spoil 0 = .ok (.iload_n 1, 1) := by decide +kernel
theorem dX6_spoil_1 : decode cX6_spoil 1 = .ok (.invokestatic 62, 3) := by decide +kernel
theorem dX6_spoil_4 : decode cX6_spoil 4 = .ok (.ifCond .eq 18, 3) := by decide +kernel
theorem dX6_spoil_7 : decode cX6_spoil 7 = .ok (.aload_n 0, 1) := by decide +kernel
theorem dX6_spoil_8 : decode cX6_spoil 8 = .ok (.getfield 10, 3) := by decide +kernel
theorem dX6_spoil_11 : decode cX6_spoil 11 = .ok (.iload_n 1, 1) := by decide +kernel
theorem dX6_spoil_12 : decode cX6_spoil 12 = .ok (.invokevirtual 85, 3) := by decide +kernel
theorem dX6_spoil_15 : decode cX6_spoil 15 = .ok (.ifCond .eq 7, 3) := by decide +kernel
theorem dX6_spoil_18 : decode cX6_spoil 18 = .ok (.iconst 1, 1) := by decide +kernel
theorem dX6_spoil_19 : decode cX6_spoil 19 = .ok (.goto 4, 3) := by decide +kernel
theorem dX6_spoil_22 : decode cX6_spoil 22 = .ok (.iconst 0, 1) := by decide +kernel
theorem dX6_spoil_23 : decode cX6_spoil 23 = .ok (.ireturn, 1) := by decide +kernel
theorem dX6_build_0 : decode cX6_build 0 = .ok (.iload_n 1, 1) := by decide +kernel
theorem dX6_build_1 : decode cX6_build 1 = .ok (.invokestatic 62, 3) := by decide +kernel
theorem dX6_build_4 : decode cX6_build 4 = .ok (.ifCond .ne 13, 3) := by decide +kernel
theorem dX6_build_7 : decode cX6_build 7 = .ok (.new 88, 3) := by decide +kernel
theorem dX6_build_10 : decode cX6_build 10 = .ok (.dup, 1) := by decide +kernel
theorem dX6_build_11 : decode cX6_build 11 = .ok (.ldc 90, 2) := by decide +kernel
theorem dX6_build_13 : decode cX6_build 13 = .ok (.invokespecial 92, 3) := by decide +kernel
theorem dX6_build_16 : decode cX6_build 16 = .ok (.athrow, 1) := by decide +kernel
theorem dX6_build_17 : decode cX6_build 17 = .ok (.iload_n 2, 1) := by decide +kernel
theorem dX6_build_18 : decode cX6_build 18 = .ok (.iconst 1, 1) := by decide +kernel
theorem dX6_build_19 : decode cX6_build 19 = .ok (.if_icmp .lt 9, 3) := by decide +kernel
theorem dX6_build_22 : decode cX6_build 22 = .ok (.iload_n 2, 1) := by decide +kernel
theorem dX6_build_23 : decode cX6_build 23 = .ok (.bipush 8, 2) := by decide +kernel
theorem dX6_build_25 : decode cX6_build 25 = .ok (.if_icmp .le 13, 3) := by decide +kernel
theorem dX6_build_28 : decode cX6_build 28 = .ok (.new 88, 3) := by decide +kernel
theorem dX6_build_31 : decode cX6_build 31 = .ok (.dup, 1) := by decide +kernel
theorem dX6_build_32 : decode cX6_build 32 = .ok (.ldc 95, 2) := by decide +kernel
theorem dX6_build_34 : decode cX6_build 34 = .ok (.invokespecial 92, 3) := by decide +kernel
theorem dX6_build_37 : decode cX6_build 37 = .ok (.athrow, 1) := by decide +kernel
theorem dX6_build_38 : decode cX6_build 38 = .ok (.aload_n 0, 1) := by decide +kernel
theorem dX6_build_39 : decode cX6_build 39 = .ok (.getfield 26, 3) := by decide +kernel
theorem dX6_build_42 : decode cX6_build 42 = .ok (.aload_n 0, 1) := by decide +kernel
theorem dX6_build_43 : decode cX6_build 43 = .ok (.getfield 10, 3) := by decide +kernel
theorem dX6_build_46 : decode cX6_build 46 = .ok (.iload_n 1, 1) := by decide +kernel
theorem dX6_build_47 : decode cX6_build 47 = .ok (.invokevirtual 97, 3) := by decide +kernel
theorem dX6_build_50 : decode cX6_build 50 = .ok (.aload_n 0, 1) := by decide +kernel
theorem dX6_build_51 : decode cX6_build 51 = .ok (.getfield 18, 3) := by decide +kernel
theorem dX6_build_54 : decode cX6_build 54 = .ok (.aload_n 0, 1) := by decide +kernel
theorem dX6_build_55 : decode cX6_build 55 = .ok (.getfield 10, 3) := by decide +kernel
theorem dX6_build_58 : decode cX6_build 58 = .ok (.invokevirtual 101, 3) := by decide +kernel
theorem dX6_build_61 : decode cX6_build 61 = .ok (.aload_n 0, 1) := by decide +kernel
theorem dX6_build_62 : decode cX6_build 62 = .ok (.getfield 26, 3) := by decide +kernel
theorem dX6_build_65 : decode cX6_build 65 = .ok (.invokevirtual 105, 3) := by decide +kernel
theorem dX6_build_68 : decode cX6_build 68 = .ok (.ifCond .ne 24, 3) := by decide +kernel
theorem dX6_build_71 : decode cX6_build 71 = .ok (.aload_n 0, 1) := by decide +kernel
theorem dX6_build_72 : decode cX6_build 72 = .ok (.getfield 47, 3) := by decide +kernel
theorem dX6_build_75 : decode cX6_build 75 = .ok (.aload_n 0, 1) := by decide +kernel
theorem dX6_build_76 : decode cX6_build 76 = .ok (.getfield 26, 3) := by decide +kernel
theorem dX6_build_79 : decode cX6_build 79 = .ok (.invokevirtual 109, 3) := by decide +kernel
theorem dX6_build_82 : decode cX6_build 82 = .ok (.new 113, 3) := by decide +kernel
theorem dX6_build_85 : decode cX6_build 85 = .ok (.dup, 1) := by decide +kernel
theorem dX6_build_86 : decode cX6_build 86 = .ok (.ldc 115, 2) := by decide +kernel
theorem dX6_build_88 : decode cX6_build 88 = .ok (.invokespecial 117, 3) := by decide +kernel
theorem dX6_build_91 : decode cX6_build 91 = .ok (.athrow, 1) := by decide +kernel
theorem dX6_build_92 : decode cX6_build 92 = .ok (.aload_n 0, 1) := by decide +kernel
theorem dX6_build_93 : decode cX6_build 93 = .ok (.iload_n 1, 1) := by decide +kernel
theorem dX6_build_94 : decode cX6_build 94 = .ok (.invokevirtual 118, 3) := by decide +kernel
theorem dX6_build_97 : decode cX6_build 97 = .ok (.ifCond .eq 13, 3) := by decide +kernel
theorem dX6_build_100 : decode cX6_build 100 = .ok (.new 113, 3) := by decide +kernel
theorem dX6_build_103 : decode cX6_build 103 = .ok (.dup, 1) := by decide +kernel
theorem dX6_build_104 : decode cX6_build 104 = .ok (.ldc 121, 2) := by decide +kernel
theorem dX6_build_106 : decode cX6_build 106 = .ok (.invokespecial 117, 3) := by decide +kernel
theorem dX6_build_109 : decode cX6_build 109 = .ok (.athrow, 1) := by decide +kernel
theorem dX6_build_110 : decode cX6_build 110 = .ok (.aload_n 0, 1) := by decide +kernel
theorem dX6_build_111 : decode cX6_build 111 = .ok (.getfield 26, 3) := by decide +kernel
theorem dX6_build_114 : decode cX6_build 114 = .ok (.aload_n 0, 1) := by decide +kernel
theorem dX6_build_115 : decode cX6_build 115 = .ok (.getfield 18, 3) := by decide +kernel
theorem dX6_build_118 : decode cX6_build 118 = .ok (.invokevirtual 123, 3) := by decide +kernel
theorem dX6_build_121 : decode cX6_build 121 = .ok (.aload_n 0, 1) := by decide +kernel
theorem dX6_build_122 : decode cX6_build 122 = .ok (.getfield 40, 3) := by decide +kernel
theorem dX6_build_125 : decode cX6_build 125 = .ok (.aload_n 0, 1) := by decide +kernel
theorem dX6_build_126 : decode cX6_build 126 = .ok (.getfield 26, 3) := by decide +kernel
theorem dX6_build_129 : decode cX6_build 129 = .ok (.invokevirtual 127, 3) := by decide +kernel
theorem dX6_build_132 : decode cX6_build 132 = .ok (.aload_n 0, 1) := by decide +kernel
theorem dX6_build_133 : decode cX6_build 133 = .ok (.iload_n 2, 1) := by decide +kernel
theorem dX6_build_134 : decode cX6_build 134 = .ok (.invokevirtual 130, 3) := by decide +kernel
theorem dX6_build_137 : decode cX6_build 137 = .ok (.ireturn, 1) := by decide +kernel
theorem dX6_count_0 : decode cX6_count 0 = .ok (.iload_n 1, 1) := by decide +kernel
theorem dX6_count_1 : decode cX6_count 1 = .ok (.tableswitch 84 0 5 #[39, 47, 55, 63, 71, 79], 39) := by decide +kernel
theorem dX6_count_40 : decode cX6_count 40 = .ok (.aload_n 0, 1) := by decide +kernel
theorem dX6_count_41 : decode cX6_count 41 = .ok (.getfield 40, 3) := by decide +kernel
theorem dX6_count_44 : decode cX6_count 44 = .ok (.getfield 133, 3) := by decide +kernel
theorem dX6_count_47 : decode cX6_count 47 = .ok (.ireturn, 1) := by decide +kernel
theorem dX6_count_48 : decode cX6_count 48 = .ok (.aload_n 0, 1) := by decide +kernel
theorem dX6_count_49 : decode cX6_count 49 = .ok (.getfield 40, 3) := by decide +kernel
theorem dX6_count_52 : decode cX6_count 52 = .ok (.getfield 137, 3) := by decide +kernel
theorem dX6_count_55 : decode cX6_count 55 = .ok (.ireturn, 1) := by decide +kernel
theorem dX6_count_56 : decode cX6_count 56 = .ok (.aload_n 0, 1) := by decide +kernel
theorem dX6_count_57 : decode cX6_count 57 = .ok (.getfield 40, 3) := by decide +kernel
theorem dX6_count_60 : decode cX6_count 60 = .ok (.getfield 140, 3) := by decide +kernel
theorem dX6_count_63 : decode cX6_count 63 = .ok (.ireturn, 1) := by decide +kernel
theorem dX6_count_64 : decode cX6_count 64 = .ok (.aload_n 0, 1) := by decide +kernel
theorem dX6_count_65 : decode cX6_count 65 = .ok (.getfield 40, 3) := by decide +kernel
theorem dX6_count_68 : decode cX6_count 68 = .ok (.getfield 143, 3) := by decide +kernel
theorem dX6_count_71 : decode cX6_count 71 = .ok (.ireturn, 1) := by decide +kernel
theorem dX6_count_72 : decode cX6_count 72 = .ok (.aload_n 0, 1) := by decide +kernel
theorem dX6_count_73 : decode cX6_count 73 = .ok (.getfield 10, 3) := by decide +kernel
theorem dX6_count_76 : decode cX6_count 76 = .ok (.invokevirtual 146, 3) := by decide +kernel
theorem dX6_count_79 : decode cX6_count 79 = .ok (.ireturn, 1) := by decide +kernel
theorem dX6_count_80 : decode cX6_count 80 = .ok (.aload_n 0, 1) := by decide +kernel
theorem dX6_count_81 : decode cX6_count 81 = .ok (.invokevirtual 150, 3) := by decide +kernel
theorem dX6_count_84 : decode cX6_count 84 = .ok (.ireturn, 1) := by decide +kernel
theorem dX6_count_85 : decode cX6_count 85 = .ok (.iconst (-1), 1) := by decide +kernel
theorem dX6_count_86 : decode cX6_count 86 = .ok (.ireturn, 1) := by decide +kernel
theorem dX6_begun_0 : decode cX6_begun 0 = .ok (.iload_n 1, 1) := by decide +kernel
theorem dX6_begun_1 : decode cX6_begun 1 = .ok (.ifCond .lt 23, 3) := by decide +kernel
theorem dX6_begun_4 : decode cX6_begun 4 = .ok (.iload_n 1, 1) := by decide +kernel
theorem dX6_begun_5 : decode cX6_begun 5 = .ok (.aload_n 0, 1) := by decide +kernel
theorem dX6_begun_6 : decode cX6_begun 6 = .ok (.getfield 40, 3) := by decide +kernel
theorem dX6_begun_9 : decode cX6_begun 9 = .ok (.getfield 137, 3) := by decide +kernel
theorem dX6_begun_12 : decode cX6_begun 12 = .ok (.if_icmp .ge 12, 3) := by decide +kernel
theorem dX6_begun_15 : decode cX6_begun 15 = .ok (.iload_n 2, 1) := by decide +kernel
theorem dX6_begun_16 : decode cX6_begun 16 = .ok (.ifCond .lt 8, 3) := by decide +kernel
theorem dX6_begun_19 : decode cX6_begun 19 = .ok (.iload_n 2, 1) := by decide +kernel
theorem dX6_begun_20 : decode cX6_begun 20 = .ok (.iconst 5, 1) := by decide +kernel
theorem dX6_begun_21 : decode cX6_begun 21 = .ok (.if_icmp .lt 13, 3) := by decide +kernel
theorem dX6_begun_24 : decode cX6_begun 24 = .ok (.new 153, 3) := by decide +kernel
theorem dX6_begun_27 : decode cX6_begun 27 = .ok (.dup, 1) := by decide +kernel
theorem dX6_begun_28 : decode cX6_begun 28 = .ok (.ldc 155, 2) := by decide +kernel
theorem dX6_begun_30 : decode cX6_begun 30 = .ok (.invokespecial 157, 3) := by decide +kernel
theorem dX6_begun_33 : decode cX6_begun 33 = .ok (.athrow, 1) := by decide +kernel
theorem dX6_begun_34 : decode cX6_begun 34 = .ok (.aload_n 0, 1) := by decide +kernel
theorem dX6_begun_35 : decode cX6_begun 35 = .ok (.getfield 40, 3) := by decide +kernel
theorem dX6_begun_38 : decode cX6_begun 38 = .ok (.iload_n 1, 1) := by decide +kernel
theorem dX6_begun_39 : decode cX6_begun 39 = .ok (.iload_n 2, 1) := by decide +kernel
theorem dX6_begun_40 : decode cX6_begun 40 = .ok (.invokevirtual 158, 3) := by decide +kernel
theorem dX6_begun_43 : decode cX6_begun 43 = .ok (.ireturn, 1) := by decide +kernel
end
section
theorem dX6_cycle_0 : decode cX6_cycle 0 = .ok (.iload_n 1, 1) := by decide +kernel
theorem dX6_cycle_1 : decode cX6_cycle 1 = .ok (.ifCond .lt 14, 3) := by decide +kernel
theorem dX6_cycle_4 : decode cX6_cycle 4 = .ok (.iload_n 1, 1) := by decide +kernel
theorem dX6_cycle_5 : decode cX6_cycle 5 = .ok (.aload_n 0, 1) := by decide +kernel
theorem dX6_cycle_6 : decode cX6_cycle 6 = .ok (.getfield 47, 3) := by decide +kernel
theorem dX6_cycle_9 : decode cX6_cycle 9 = .ok (.getfield 162, 3) := by decide +kernel
theorem dX6_cycle_12 : decode cX6_cycle 12 = .ok (.if_icmp .lt 13, 3) := by decide +kernel
theorem dX6_cycle_15 : decode cX6_cycle 15 = .ok (.new 153, 3) := by decide +kernel
theorem dX6_cycle_18 : decode cX6_cycle 18 = .ok (.dup, 1) := by decide +kernel
theorem dX6_cycle_19 : decode cX6_cycle 19 = .ok (.ldc 165, 2) := by decide +kernel
theorem dX6_cycle_21 : decode cX6_cycle 21 = .ok (.invokespecial 157, 3) := by decide +kernel
theorem dX6_cycle_24 : decode cX6_cycle 24 = .ok (.athrow, 1) := by decide +kernel
theorem dX6_cycle_25 : decode cX6_cycle 25 = .ok (.aload_n 0, 1) := by decide +kernel
theorem dX6_cycle_26 : decode cX6_cycle 26 = .ok (.getfield 47, 3) := by decide +kernel
theorem dX6_cycle_29 : decode cX6_cycle 29 = .ok (.getfield 167, 3) := by decide +kernel
theorem dX6_cycle_32 : decode cX6_cycle 32 = .ok (.iload_n 1, 1) := by decide +kernel
theorem dX6_cycle_33 : decode cX6_cycle 33 = .ok (.iaload, 1) := by decide +kernel
theorem dX6_cycle_34 : decode cX6_cycle 34 = .ok (.ireturn, 1) := by decide +kernel
theorem dX6_content_0 : decode cX6_content 0 = .ok (.iload_n 1, 1) := by decide +kernel
theorem dX6_content_1 : decode cX6_content 1 = .ok (.invokestatic 62, 3) := by decide +kernel
theorem dX6_content_4 : decode cX6_content 4 = .ok (.ifCond .eq 14, 3) := by decide +kernel
theorem dX6_content_7 : decode cX6_content 7 = .ok (.aload_n 0, 1) := by decide +kernel
theorem dX6_content_8 : decode cX6_content 8 = .ok (.getfield 10, 3) := by decide +kernel
theorem dX6_content_11 : decode cX6_content 11 = .ok (.iload_n 1, 1) := by decide +kernel
theorem dX6_content_12 : decode cX6_content 12 = .ok (.invokevirtual 171, 3) := by decide +kernel
theorem dX6_content_15 : decode cX6_content 15 = .ok (.ifCond .ne 13, 3) := by decide +kernel
theorem dX6_content_18 : decode cX6_content 18 = .ok (.new 153, 3) := by decide +kernel
theorem dX6_content_21 : decode cX6_content 21 = .ok (.dup, 1) := by decide +kernel
theorem dX6_content_22 : decode cX6_content 22 = .ok (.ldc 174, 2) := by decide +kernel
theorem dX6_content_24 : decode cX6_content 24 = .ok (.invokespecial 157, 3) := by decide +kernel
theorem dX6_content_27 : decode cX6_content 27 = .ok (.athrow, 1) := by decide +kernel
theorem dX6_content_28 : decode cX6_content 28 = .ok (.aload_n 0, 1) := by decide +kernel
theorem dX6_content_29 : decode cX6_content 29 = .ok (.getfield 10, 3) := by decide +kernel
theorem dX6_content_32 : decode cX6_content 32 = .ok (.iload_n 1, 1) := by decide +kernel
theorem dX6_content_33 : decode cX6_content 33 = .ok (.invokevirtual 176, 3) := by decide +kernel
theorem dX6_content_36 : decode cX6_content 36 = .ok (.ireturn, 1) := by decide +kernel
theorem dX6_reason_0 : decode cX6_reason 0 = .ok (.aload_n 0, 1) := by decide +kernel
theorem dX6_reason_1 : decode cX6_reason 1 = .ok (.iload_n 1, 1) := by decide +kernel
theorem dX6_reason_2 : decode cX6_reason 2 = .ok (.invokevirtual 59, 3) := by decide +kernel
theorem dX6_reason_5 : decode cX6_reason 5 = .ok (.ifCond .eq 19, 3) := by decide +kernel
theorem dX6_reason_8 : decode cX6_reason 8 = .ok (.aload_n 0, 1) := by decide +kernel
theorem dX6_reason_9 : decode cX6_reason 9 = .ok (.getfield 18, 3) := by decide +kernel
theorem dX6_reason_12 : decode cX6_reason 12 = .ok (.iload_n 1, 1) := by decide +kernel
theorem dX6_reason_13 : decode cX6_reason 13 = .ok (.aaload, 1) := by decide +kernel
theorem dX6_reason_14 : decode cX6_reason 14 = .ok (.aload_n 0, 1) := by decide +kernel
theorem dX6_reason_15 : decode cX6_reason 15 = .ok (.getfield 10, 3) := by decide +kernel
theorem dX6_reason_18 : decode cX6_reason 18 = .ok (.invokevirtual 179, 3) := by decide +kernel
theorem dX6_reason_21 : decode cX6_reason 21 = .ok (.goto 4, 3) := by decide +kernel
theorem dX6_reason_24 : decode cX6_reason 24 = .ok (.iconst (-1), 1) := by decide +kernel
theorem dX6_reason_25 : decode cX6_reason 25 = .ok (.ireturn, 1) := by decide +kernel
theorem dX6_isFile_0 : decode cX6_isFile 0 = .ok (.iload_n 0, 1) := by decide +kernel
theorem dX6_isFile_1 : decode cX6_isFile 1 = .ok (.ifCond .lt 13, 3) := by decide +kernel
theorem dX6_isFile_4 : decode cX6_isFile 4 = .ok (.iload_n 0, 1) := by decide +kernel
theorem dX6_isFile_5 : decode cX6_isFile 5 = .ok (.bipush 64, 2) := by decide +kernel
theorem dX6_isFile_7 : decode cX6_isFile 7 = .ok (.if_icmp .ge 7, 3) := by decide +kernel
theorem dX6_isFile_10 : decode cX6_isFile 10 = .ok (.iconst 1, 1) := by decide +kernel
theorem dX6_isFile_11 : decode cX6_isFile 11 = .ok (.goto 4, 3) := by decide +kernel
theorem dX6_isFile_14 : decode cX6_isFile 14 = .ok (.iconst 0, 1) := by decide +kernel
theorem dX6_isFile_15 : decode cX6_isFile 15 = .ok (.ireturn, 1) := by decide +kernel
theorem dX6_isStepNumber_0 : decode cX6_isStepNumber 0 = .ok (.iload_n 0, 1) := by decide +kernel
theorem dX6_isStepNumber_1 : decode cX6_isStepNumber 1 = .ok (.ifCond .lt 13, 3) := by decide +kernel
theorem dX6_isStepNumber_4 : decode cX6_isStepNumber 4 = .ok (.iload_n 0, 1) := by decide +kernel
theorem dX6_isStepNumber_5 : decode cX6_isStepNumber 5 = .ok (.bipush 40, 2) := by decide +kernel
theorem dX6_isStepNumber_7 : decode cX6_isStepNumber 7 = .ok (.if_icmp .ge 7, 3) := by decide +kernel
theorem dX6_isStepNumber_10 : decode cX6_isStepNumber 10 = .ok (.iconst 1, 1) := by decide +kernel
theorem dX6_isStepNumber_11 : decode cX6_isStepNumber 11 = .ok (.goto 4, 3) := by decide +kernel
theorem dX6_isStepNumber_14 : decode cX6_isStepNumber 14 = .ok (.iconst 0, 1) := by decide +kernel
theorem dX6_isStepNumber_15 : decode cX6_isStepNumber 15 = .ok (.ireturn, 1) := by decide +kernel
theorem dX6_bit_0 : decode cX6_bit 0 = .ok (.lconst 1, 1) := by decide +kernel
theorem dX6_bit_1 : decode cX6_bit 1 = .ok (.iload_n 0, 1) := by decide +kernel
theorem dX6_bit_2 : decode cX6_bit 2 = .ok (.lshl, 1) := by decide +kernel
theorem dX6_bit_3 : decode cX6_bit 3 = .ok (.lreturn, 1) := by decide +kernel
theorem dX6_isIn_0 : decode cX6_isIn 0 = .ok (.lload_n 0, 1) := by decide +kernel
theorem dX6_isIn_1 : decode cX6_isIn 1 = .ok (.iload_n 2, 1) := by decide +kernel
theorem dX6_isIn_2 : decode cX6_isIn 2 = .ok (.invokestatic 183, 3) := by decide +kernel
theorem dX6_isIn_5 : decode cX6_isIn 5 = .ok (.land, 1) := by decide +kernel
theorem dX6_isIn_6 : decode cX6_isIn 6 = .ok (.lconst 0, 1) := by decide +kernel
theorem dX6_isIn_7 : decode cX6_isIn 7 = .ok (.lcmp, 1) := by decide +kernel
theorem dX6_isIn_8 : decode cX6_isIn 8 = .ok (.ifCond .eq 7, 3) := by decide +kernel
theorem dX6_isIn_11 : decode cX6_isIn 11 = .ok (.iconst 1, 1) := by decide +kernel
theorem dX6_isIn_12 : decode cX6_isIn 12 = .ok (.goto 4, 3) := by decide +kernel
theorem dX6_isIn_15 : decode cX6_isIn 15 = .ok (.iconst 0, 1) := by decide +kernel
theorem dX6_isIn_16 : decode cX6_isIn 16 = .ok (.ireturn, 1) := by decide +kernel
theorem dX6_isThere_0 : decode cX6_isThere 0 = .ok (.iload_n 1, 1) := by decide +kernel
theorem dX6_isThere_1 : decode cX6_isThere 1 = .ok (.invokestatic 51, 3) := by decide +kernel
theorem dX6_isThere_4 : decode cX6_isThere 4 = .ok (.ifCond .eq 19, 3) := by decide +kernel
theorem dX6_isThere_7 : decode cX6_isThere 7 = .ok (.aload_n 0, 1) := by decide +kernel
theorem dX6_isThere_8 : decode cX6_isThere 8 = .ok (.getfield 18, 3) := by decide +kernel
theorem dX6_isThere_11 : decode cX6_isThere 11 = .ok (.iload_n 1, 1) := by decide +kernel
theorem dX6_isThere_12 : decode cX6_isThere 12 = .ok (.aaload, 1) := by decide +kernel
theorem dX6_isThere_13 : decode cX6_isThere 13 = .ok (.getfield 187, 3) := by decide +kernel
theorem dX6_isThere_16 : decode cX6_isThere 16 = .ok (.ifCond .eq 7, 3) := by decide +kernel
theorem dX6_isThere_19 : decode cX6_isThere 19 = .ok (.iconst 1, 1) := by decide +kernel
theorem dX6_isThere_20 : decode cX6_isThere 20 = .ok (.goto 4, 3) := by decide +kernel
theorem dX6_isThere_23 : decode cX6_isThere 23 = .ok (.iconst 0, 1) := by decide +kernel
theorem dX6_isThere_24 : decode cX6_isThere 24 = .ok (.ireturn, 1) := by decide +kernel
theorem dX6_isSource_0 : decode cX6_isSource 0 = .ok (.iload_n 1, 1) := by decide +kernel
theorem dX6_isSource_1 : decode cX6_isSource 1 = .ok (.invokestatic 62, 3) := by decide +kernel
theorem dX6_isSource_4 : decode cX6_isSource 4 = .ok (.ifCond .eq 19, 3) := by decide +kernel
theorem dX6_isSource_7 : decode cX6_isSource 7 = .ok (.aload_n 0, 1) := by decide +kernel
theorem dX6_isSource_8 : decode cX6_isSource 8 = .ok (.getfield 10, 3) := by decide +kernel
theorem dX6_isSource_11 : decode cX6_isSource 11 = .ok (.iload_n 1, 1) := by decide +kernel
theorem dX6_isSource_12 : decode cX6_isSource 12 = .ok (.invokevirtual 97, 3) := by decide +kernel
theorem dX6_isSource_15 : decode cX6_isSource 15 = .ok (.iconst (-1), 1) := by decide +kernel
theorem dX6_isSource_16 : decode cX6_isSource 16 = .ok (.if_icmp .ne 7, 3) := by decide +kernel
theorem dX6_isSource_19 : decode cX6_isSource 19 = .ok (.iconst 1, 1) := by decide +kernel
theorem dX6_isSource_20 : decode cX6_isSource 20 = .ok (.goto 4, 3) := by decide +kernel
theorem dX6_isSource_23 : decode cX6_isSource 23 = .ok (.iconst 0, 1) := by decide +kernel
theorem dX6_isSource_24 : decode cX6_isSource 24 = .ok (.ireturn, 1) := by decide +kernel
theorem dX6_countSteps_0 : decode cX6_countSteps 0 = .ok (.iconst 0, 1) := by decide +kernel
theorem dX6_countSteps_1 : decode cX6_countSteps 1 = .ok (.istore_n 1, 1) := by decide +kernel
theorem dX6_countSteps_2 : decode cX6_countSteps 2 = .ok (.iconst 0, 1) := by decide +kernel
theorem dX6_countSteps_3 : decode cX6_countSteps 3 = .ok (.istore_n 2, 1) := by decide +kernel
theorem dX6_countSteps_4 : decode cX6_countSteps 4 = .ok (.iload_n 2, 1) := by decide +kernel
theorem dX6_countSteps_5 : decode cX6_countSteps 5 = .ok (.bipush 40, 2) := by decide +kernel
theorem dX6_countSteps_7 : decode cX6_countSteps 7 = .ok (.if_icmp .ge 24, 3) := by decide +kernel
theorem dX6_countSteps_10 : decode cX6_countSteps 10 = .ok (.aload_n 0, 1) := by decide +kernel
theorem dX6_countSteps_11 : decode cX6_countSteps 11 = .ok (.getfield 18, 3) := by decide +kernel
theorem dX6_countSteps_14 : decode cX6_countSteps 14 = .ok (.iload_n 2, 1) := by decide +kernel
theorem dX6_countSteps_15 : decode cX6_countSteps 15 = .ok (.aaload, 1) := by decide +kernel
theorem dX6_countSteps_16 : decode cX6_countSteps 16 = .ok (.getfield 187, 3) := by decide +kernel
theorem dX6_countSteps_19 : decode cX6_countSteps 19 = .ok (.ifCond .eq 6, 3) := by decide +kernel
theorem dX6_countSteps_22 : decode cX6_countSteps 22 = .ok (.iinc 1 1, 3) := by decide +kernel
theorem dX6_countSteps_25 : decode cX6_countSteps 25 = .ok (.iinc 2 1, 3) := by decide +kernel
theorem dX6_countSteps_28 : decode cX6_countSteps 28 = .ok (.goto (-24), 3) := by decide +kernel
theorem dX6_countSteps_31 : decode cX6_countSteps 31 = .ok (.iload_n 1, 1) := by decide +kernel
theorem dX6_countSteps_32 : decode cX6_countSteps 32 = .ok (.ireturn, 1) := by decide +kernel
theorem dX6_sourceLacks_0 : decode cX6_sourceLacks 0 = .ok (.aload_n 0, 1) := by decide +kernel
theorem dX6_sourceLacks_1 : decode cX6_sourceLacks 1 = .ok (.getfield 10, 3) := by decide +kernel
theorem dX6_sourceLacks_4 : decode cX6_sourceLacks 4 = .ok (.iload_n 1, 1) := by decide +kernel
theorem dX6_sourceLacks_5 : decode cX6_sourceLacks 5 = .ok (.invokevirtual 191, 3) := by decide +kernel
theorem dX6_sourceLacks_8 : decode cX6_sourceLacks 8 = .ok (.ifCond .eq 5, 3) := by decide +kernel
theorem dX6_sourceLacks_11 : decode cX6_sourceLacks 11 = .ok (.iconst 1, 1) := by decide +kernel
theorem dX6_sourceLacks_12 : decode cX6_sourceLacks 12 = .ok (.ireturn, 1) := by decide +kernel
theorem dX6_sourceLacks_13 : decode cX6_sourceLacks 13 = .ok (.iconst 0, 1) := by decide +kernel
theorem dX6_sourceLacks_14 : decode cX6_sourceLacks 14 = .ok (.istore_n 2, 1) := by decide +kernel
theorem dX6_sourceLacks_15 : decode cX6_sourceLacks 15 = .ok (.iload_n 2, 1) := by decide +kernel
theorem dX6_sourceLacks_16 : decode cX6_sourceLacks 16 = .ok (.bipush 40, 2) := by decide +kernel
theorem dX6_sourceLacks_18 : decode cX6_sourceLacks 18 = .ok (.if_icmp .ge 41, 3) := by decide +kernel
theorem dX6_sourceLacks_21 : decode cX6_sourceLacks 21 = .ok (.aload_n 0, 1) := by decide +kernel
theorem dX6_sourceLacks_22 : decode cX6_sourceLacks 22 = .ok (.getfield 26, 3) := by decide +kernel
theorem dX6_sourceLacks_25 : decode cX6_sourceLacks 25 = .ok (.getfield 194, 3) := by decide +kernel
theorem dX6_sourceLacks_28 : decode cX6_sourceLacks 28 = .ok (.iload_n 2, 1) := by decide +kernel
theorem dX6_sourceLacks_29 : decode cX6_sourceLacks 29 = .ok (.invokestatic 197, 3) := by decide +kernel
theorem dX6_sourceLacks_32 : decode cX6_sourceLacks 32 = .ok (.ifCond .eq 21, 3) := by decide +kernel
theorem dX6_sourceLacks_35 : decode cX6_sourceLacks 35 = .ok (.aload_n 0, 1) := by decide +kernel
theorem dX6_sourceLacks_36 : decode cX6_sourceLacks 36 = .ok (.getfield 18, 3) := by decide +kernel
theorem dX6_sourceLacks_39 : decode cX6_sourceLacks 39 = .ok (.iload_n 2, 1) := by decide +kernel
theorem dX6_sourceLacks_40 : decode cX6_sourceLacks 40 = .ok (.aaload, 1) := by decide +kernel
theorem dX6_sourceLacks_41 : decode cX6_sourceLacks 41 = .ok (.aload_n 0, 1) := by decide +kernel
theorem dX6_sourceLacks_42 : decode cX6_sourceLacks 42 = .ok (.getfield 10, 3) := by decide +kernel
theorem dX6_sourceLacks_45 : decode cX6_sourceLacks 45 = .ok (.invokevirtual 201, 3) := by decide +kernel
theorem dX6_sourceLacks_48 : decode cX6_sourceLacks 48 = .ok (.ifCond .eq 5, 3) := by decide +kernel
theorem dX6_sourceLacks_51 : decode cX6_sourceLacks 51 = .ok (.iconst 1, 1) := by decide +kernel
theorem dX6_sourceLacks_52 : decode cX6_sourceLacks 52 = .ok (.ireturn, 1) := by decide +kernel
theorem dX6_sourceLacks_53 : decode cX6_sourceLacks 53 = .ok (.iinc 2 1, 3) := by decide +kernel
theorem dX6_sourceLacks_56 : decode cX6_sourceLacks 56 = .ok (.goto (-41), 3) := by decide +kernel
theorem dX6_sourceLacks_59 : decode cX6_sourceLacks 59 = .ok (.iconst 0, 1) := by decide +kernel
theorem dX6_sourceLacks_60 : decode cX6_sourceLacks 60 = .ok (.ireturn, 1) := by decide +kernel
theorem dX6_makeNeeded_0 : decode cX6_makeNeeded 0 = .ok (.aload_n 0, 1) := by decide +kernel
theorem dX6_makeNeeded_1 : decode cX6_makeNeeded 1 = .ok (.getfield 33, 3) := by decide +kernel
theorem dX6_makeNeeded_4 : decode cX6_makeNeeded 4 = .ok (.invokevirtual 204, 3) := by decide +kernel
theorem dX6_makeNeeded_7 : decode cX6_makeNeeded 7 = .ok (.iconst 0, 1) := by decide +kernel
theorem dX6_makeNeeded_8 : decode cX6_makeNeeded 8 = .ok (.istore_n 2, 1) := by decide +kernel
theorem dX6_makeNeeded_9 : decode cX6_makeNeeded 9 = .ok (.iconst 0, 1) := by decide +kernel
theorem dX6_makeNeeded_10 : decode cX6_makeNeeded 10 = .ok (.istore_n 3, 1) := by decide +kernel
theorem dX6_makeNeeded_11 : decode cX6_makeNeeded 11 = .ok (.iload_n 3, 1) := by decide +kernel
theorem dX6_makeNeeded_12 : decode cX6_makeNeeded 12 = .ok (.bipush 40, 2) := by decide +kernel
theorem dX6_makeNeeded_14 : decode cX6_makeNeeded 14 = .ok (.if_icmp .gt 44, 3) := by decide +kernel
theorem dX6_makeNeeded_17 : decode cX6_makeNeeded 17 = .ok (.aload_n 0, 1) := by decide +kernel
theorem dX6_makeNeeded_18 : decode cX6_makeNeeded 18 = .ok (.iload_n 2, 1) := by decide +kernel
theorem dX6_makeNeeded_19 : decode cX6_makeNeeded 19 = .ok (.invokevirtual 207, 3) := by decide +kernel
theorem dX6_makeNeeded_22 : decode cX6_makeNeeded 22 = .ok (.aload_n 0, 1) := by decide +kernel
theorem dX6_makeNeeded_23 : decode cX6_makeNeeded 23 = .ok (.invokevirtual 211, 3) := by decide +kernel
theorem dX6_makeNeeded_26 : decode cX6_makeNeeded 26 = .ok (.aload_n 0, 1) := by decide +kernel
theorem dX6_makeNeeded_27 : decode cX6_makeNeeded 27 = .ok (.iload_n 2, 1) := by decide +kernel
theorem dX6_makeNeeded_28 : decode cX6_makeNeeded 28 = .ok (.iload_n 1, 1) := by decide +kernel
theorem dX6_makeNeeded_29 : decode cX6_makeNeeded 29 = .ok (.invokevirtual 214, 3) := by decide +kernel
theorem dX6_makeNeeded_32 : decode cX6_makeNeeded 32 = .ok (.aload_n 0, 1) := by decide +kernel
theorem dX6_makeNeeded_33 : decode cX6_makeNeeded 33 = .ok (.getfield 33, 3) := by decide +kernel
theorem dX6_makeNeeded_36 : decode cX6_makeNeeded 36 = .ok (.invokevirtual 217, 3) := by decide +kernel
theorem dX6_makeNeeded_39 : decode cX6_makeNeeded 39 = .ok (.istore 4, 2) := by decide +kernel
theorem dX6_makeNeeded_41 : decode cX6_makeNeeded 41 = .ok (.iload 4, 2) := by decide +kernel
theorem dX6_makeNeeded_43 : decode cX6_makeNeeded 43 = .ok (.iconst (-1), 1) := by decide +kernel
theorem dX6_makeNeeded_44 : decode cX6_makeNeeded 44 = .ok (.if_icmp .ne 5, 3) := by decide +kernel
theorem dX6_makeNeeded_47 : decode cX6_makeNeeded 47 = .ok (.iload_n 2, 1) := by decide +kernel
theorem dX6_makeNeeded_48 : decode cX6_makeNeeded 48 = .ok (.ireturn, 1) := by decide +kernel
theorem dX6_makeNeeded_49 : decode cX6_makeNeeded 49 = .ok (.iload 4, 2) := by decide +kernel
theorem dX6_makeNeeded_51 : decode cX6_makeNeeded 51 = .ok (.istore_n 2, 1) := by decide +kernel
theorem dX6_makeNeeded_52 : decode cX6_makeNeeded 52 = .ok (.iinc 3 1, 3) := by decide +kernel
theorem dX6_makeNeeded_55 : decode cX6_makeNeeded 55 = .ok (.goto (-44), 3) := by decide +kernel
theorem dX6_makeNeeded_58 : decode cX6_makeNeeded 58 = .ok (.iload_n 2, 1) := by decide +kernel
theorem dX6_makeNeeded_59 : decode cX6_makeNeeded 59 = .ok (.ireturn, 1) := by decide +kernel
theorem dX6_endSteps_0 : decode cX6_endSteps 0 = .ok (.iconst 0, 1) := by decide +kernel
theorem dX6_endSteps_1 : decode cX6_endSteps 1 = .ok (.istore_n 2, 1) := by decide +kernel
theorem dX6_endSteps_2 : decode cX6_endSteps 2 = .ok (.iload_n 2, 1) := by decide +kernel
theorem dX6_endSteps_3 : decode cX6_endSteps 3 = .ok (.bipush 40, 2) := by decide +kernel
theorem dX6_endSteps_5 : decode cX6_endSteps 5 = .ok (.if_icmp .ge 42, 3) := by decide +kernel
theorem dX6_endSteps_8 : decode cX6_endSteps 8 = .ok (.aload_n 0, 1) := by decide +kernel
theorem dX6_endSteps_9 : decode cX6_endSteps 9 = .ok (.getfield 33, 3) := by decide +kernel
theorem dX6_endSteps_12 : decode cX6_endSteps 12 = .ok (.iload_n 2, 1) := by decide +kernel
theorem dX6_endSteps_13 : decode cX6_endSteps 13 = .ok (.iload_n 1, 1) := by decide +kernel
theorem dX6_endSteps_14 : decode cX6_endSteps 14 = .ok (.invokevirtual 220, 3) := by decide +kernel
theorem dX6_endSteps_17 : decode cX6_endSteps 17 = .ok (.ifCond .eq 24, 3) := by decide +kernel
theorem dX6_endSteps_20 : decode cX6_endSteps 20 = .ok (.aload_n 0, 1) := by decide +kernel
theorem dX6_endSteps_21 : decode cX6_endSteps 21 = .ok (.getfield 18, 3) := by decide +kernel
theorem dX6_endSteps_24 : decode cX6_endSteps 24 = .ok (.iload_n 2, 1) := by decide +kernel
theorem dX6_endSteps_25 : decode cX6_endSteps 25 = .ok (.aaload, 1) := by decide +kernel
theorem dX6_endSteps_26 : decode cX6_endSteps 26 = .ok (.aload_n 0, 1) := by decide +kernel
theorem dX6_endSteps_27 : decode cX6_endSteps 27 = .ok (.getfield 10, 3) := by decide +kernel
theorem dX6_endSteps_30 : decode cX6_endSteps 30 = .ok (.invokevirtual 224, 3) := by decide +kernel
theorem dX6_endSteps_33 : decode cX6_endSteps 33 = .ok (.aload_n 0, 1) := by decide +kernel
theorem dX6_endSteps_34 : decode cX6_endSteps 34 = .ok (.getfield 33, 3) := by decide +kernel
theorem dX6_endSteps_37 : decode cX6_endSteps 37 = .ok (.iload_n 2, 1) := by decide +kernel
theorem dX6_endSteps_38 : decode cX6_endSteps 38 = .ok (.invokevirtual 227, 3) := by decide +kernel
theorem dX6_endSteps_41 : decode cX6_endSteps 41 = .ok (.iinc 2 1, 3) := by decide +kernel
theorem dX6_endSteps_44 : decode cX6_endSteps 44 = .ok (.goto (-42), 3) := by decide +kernel
theorem dX6_endSteps_47 : decode cX6_endSteps 47 = .ok (.return_, 1) := by decide +kernel
theorem dX6_passOverSteps_0 : decode cX6_passOverSteps 0 = .ok (.iconst 1, 1) := by decide +kernel
theorem dX6_passOverSteps_1 : decode cX6_passOverSteps 1 = .ok (.istore_n 1, 1) := by decide +kernel
theorem dX6_passOverSteps_2 : decode cX6_passOverSteps 2 = .ok (.iconst 0, 1) := by decide +kernel
theorem dX6_passOverSteps_3 : decode cX6_passOverSteps 3 = .ok (.istore_n 2, 1) := by decide +kernel
theorem dX6_passOverSteps_4 : decode cX6_passOverSteps 4 = .ok (.iload_n 1, 1) := by decide +kernel
theorem dX6_passOverSteps_5 : decode cX6_passOverSteps 5 = .ok (.ifCond .eq 65, 3) := by decide +kernel
theorem dX6_passOverSteps_8 : decode cX6_passOverSteps 8 = .ok (.iload_n 2, 1) := by decide +kernel
theorem dX6_passOverSteps_9 : decode cX6_passOverSteps 9 = .ok (.bipush 40, 2) := by decide +kernel
theorem dX6_passOverSteps_11 : decode cX6_passOverSteps 11 = .ok (.if_icmp .ge 59, 3) := by decide +kernel
theorem dX6_passOverSteps_14 : decode cX6_passOverSteps 14 = .ok (.iconst 0, 1) := by decide +kernel
theorem dX6_passOverSteps_15 : decode cX6_passOverSteps 15 = .ok (.istore_n 1, 1) := by decide +kernel
theorem dX6_passOverSteps_16 : decode cX6_passOverSteps 16 = .ok (.iconst 0, 1) := by decide +kernel
theorem dX6_passOverSteps_17 : decode cX6_passOverSteps 17 = .ok (.istore_n 3, 1) := by decide +kernel
theorem dX6_passOverSteps_18 : decode cX6_passOverSteps 18 = .ok (.iload_n 3, 1) := by decide +kernel
theorem dX6_passOverSteps_19 : decode cX6_passOverSteps 19 = .ok (.bipush 40, 2) := by decide +kernel
theorem dX6_passOverSteps_21 : decode cX6_passOverSteps 21 = .ok (.if_icmp .ge 43, 3) := by decide +kernel
theorem dX6_passOverSteps_24 : decode cX6_passOverSteps 24 = .ok (.aload_n 0, 1) := by decide +kernel
theorem dX6_passOverSteps_25 : decode cX6_passOverSteps 25 = .ok (.iload_n 3, 1) := by decide +kernel
theorem dX6_passOverSteps_26 : decode cX6_passOverSteps 26 = .ok (.invokevirtual 230, 3) := by decide +kernel
theorem dX6_passOverSteps_29 : decode cX6_passOverSteps 29 = .ok (.ifCond .eq 29, 3) := by decide +kernel
theorem dX6_passOverSteps_32 : decode cX6_passOverSteps 32 = .ok (.aload_n 0, 1) := by decide +kernel
theorem dX6_passOverSteps_33 : decode cX6_passOverSteps 33 = .ok (.getfield 18, 3) := by decide +kernel
theorem dX6_passOverSteps_36 : decode cX6_passOverSteps 36 = .ok (.iload_n 3, 1) := by decide +kernel
theorem dX6_passOverSteps_37 : decode cX6_passOverSteps 37 = .ok (.aaload, 1) := by decide +kernel
theorem dX6_passOverSteps_38 : decode cX6_passOverSteps 38 = .ok (.aload_n 0, 1) := by decide +kernel
theorem dX6_passOverSteps_39 : decode cX6_passOverSteps 39 = .ok (.getfield 10, 3) := by decide +kernel
theorem dX6_passOverSteps_42 : decode cX6_passOverSteps 42 = .ok (.invokevirtual 179, 3) := by decide +kernel
theorem dX6_passOverSteps_45 : decode cX6_passOverSteps 45 = .ok (.ifCond .ne 13, 3) := by decide +kernel
theorem dX6_passOverSteps_48 : decode cX6_passOverSteps 48 = .ok (.aload_n 0, 1) := by decide +kernel
theorem dX6_passOverSteps_49 : decode cX6_passOverSteps 49 = .ok (.getfield 33, 3) := by decide +kernel
theorem dX6_passOverSteps_52 : decode cX6_passOverSteps 52 = .ok (.iload_n 3, 1) := by decide +kernel
theorem dX6_passOverSteps_53 : decode cX6_passOverSteps 53 = .ok (.invokevirtual 233, 3) := by decide +kernel
theorem dX6_passOverSteps_56 : decode cX6_passOverSteps 56 = .ok (.iconst 1, 1) := by decide +kernel
theorem dX6_passOverSteps_57 : decode cX6_passOverSteps 57 = .ok (.istore_n 1, 1) := by decide +kernel
theorem dX6_passOverSteps_58 : decode cX6_passOverSteps 58 = .ok (.iinc 3 1, 3) := by decide +kernel
theorem dX6_passOverSteps_61 : decode cX6_passOverSteps 61 = .ok (.goto (-43), 3) := by decide +kernel
theorem dX6_passOverSteps_64 : decode cX6_passOverSteps 64 = .ok (.iinc 2 1, 3) := by decide +kernel
theorem dX6_passOverSteps_67 : decode cX6_passOverSteps 67 = .ok (.goto (-63), 3) := by decide +kernel
theorem dX6_passOverSteps_70 : decode cX6_passOverSteps 70 = .ok (.return_, 1) := by decide +kernel
theorem dX6_beginSteps_0 : decode cX6_beginSteps 0 = .ok (.iconst 0, 1) := by decide +kernel
theorem dX6_beginSteps_1 : decode cX6_beginSteps 1 = .ok (.istore_n 3, 1) := by decide +kernel
theorem dX6_beginSteps_2 : decode cX6_beginSteps 2 = .ok (.iload_n 3, 1) := by decide +kernel
theorem dX6_beginSteps_3 : decode cX6_beginSteps 3 = .ok (.iload_n 2, 1) := by decide +kernel
theorem dX6_beginSteps_4 : decode cX6_beginSteps 4 = .ok (.if_icmp .ge 92, 3) := by decide +kernel
theorem dX6_beginSteps_7 : decode cX6_beginSteps 7 = .ok (.iload_n 3, 1) := by decide +kernel
theorem dX6_beginSteps_8 : decode cX6_beginSteps 8 = .ok (.bipush 8, 2) := by decide +kernel
theorem dX6_beginSteps_10 : decode cX6_beginSteps 10 = .ok (.if_icmp .ge 86, 3) := by decide +kernel
theorem dX6_beginSteps_13 : decode cX6_beginSteps 13 = .ok (.aload_n 0, 1) := by decide +kernel
theorem dX6_beginSteps_14 : decode cX6_beginSteps 14 = .ok (.getfield 33, 3) := by decide +kernel
theorem dX6_beginSteps_17 : decode cX6_beginSteps 17 = .ok (.iload_n 3, 1) := by decide +kernel
theorem dX6_beginSteps_18 : decode cX6_beginSteps 18 = .ok (.invokevirtual 236, 3) := by decide +kernel
theorem dX6_beginSteps_21 : decode cX6_beginSteps 21 = .ok (.ifCond .ne 69, 3) := by decide +kernel
theorem dX6_beginSteps_24 : decode cX6_beginSteps 24 = .ok (.aload_n 0, 1) := by decide +kernel
theorem dX6_beginSteps_25 : decode cX6_beginSteps 25 = .ok (.invokevirtual 239, 3) := by decide +kernel
theorem dX6_beginSteps_28 : decode cX6_beginSteps 28 = .ok (.istore 4, 2) := by decide +kernel
theorem dX6_beginSteps_30 : decode cX6_beginSteps 30 = .ok (.iload 4, 2) := by decide +kernel
theorem dX6_beginSteps_32 : decode cX6_beginSteps 32 = .ok (.iconst (-1), 1) := by decide +kernel
theorem dX6_beginSteps_33 : decode cX6_beginSteps 33 = .ok (.if_icmp .ne 4, 3) := by decide +kernel
theorem dX6_beginSteps_36 : decode cX6_beginSteps 36 = .ok (.return_, 1) := by decide +kernel
theorem dX6_beginSteps_37 : decode cX6_beginSteps 37 = .ok (.iload_n 1, 1) := by decide +kernel
theorem dX6_beginSteps_38 : decode cX6_beginSteps 38 = .ok (.aload_n 0, 1) := by decide +kernel
theorem dX6_beginSteps_39 : decode cX6_beginSteps 39 = .ok (.getfield 18, 3) := by decide +kernel
theorem dX6_beginSteps_42 : decode cX6_beginSteps 42 = .ok (.iload 4, 2) := by decide +kernel
theorem dX6_beginSteps_44 : decode cX6_beginSteps 44 = .ok (.aaload, 1) := by decide +kernel
theorem dX6_beginSteps_45 : decode cX6_beginSteps 45 = .ok (.getfield 242, 3) := by decide +kernel
theorem dX6_beginSteps_48 : decode cX6_beginSteps 48 = .ok (.iadd, 1) := by decide +kernel
theorem dX6_beginSteps_49 : decode cX6_beginSteps 49 = .ok (.istore 5, 2) := by decide +kernel
theorem dX6_beginSteps_51 : decode cX6_beginSteps 51 = .ok (.aload_n 0, 1) := by decide +kernel
theorem dX6_beginSteps_52 : decode cX6_beginSteps 52 = .ok (.getfield 40, 3) := by decide +kernel
theorem dX6_beginSteps_55 : decode cX6_beginSteps 55 = .ok (.iload 4, 2) := by decide +kernel
theorem dX6_beginSteps_57 : decode cX6_beginSteps 57 = .ok (.iload_n 1, 1) := by decide +kernel
theorem dX6_beginSteps_58 : decode cX6_beginSteps 58 = .ok (.iload 5, 2) := by decide +kernel
theorem dX6_beginSteps_60 : decode cX6_beginSteps 60 = .ok (.iload_n 3, 1) := by decide +kernel
theorem dX6_beginSteps_61 : decode cX6_beginSteps 61 = .ok (.aload_n 0, 1) := by decide +kernel
theorem dX6_beginSteps_62 : decode cX6_beginSteps 62 = .ok (.getfield 18, 3) := by decide +kernel
theorem dX6_beginSteps_65 : decode cX6_beginSteps 65 = .ok (.iload 4, 2) := by decide +kernel
theorem dX6_beginSteps_67 : decode cX6_beginSteps 67 = .ok (.aaload, 1) := by decide +kernel
theorem dX6_beginSteps_68 : decode cX6_beginSteps 68 = .ok (.aload_n 0, 1) := by decide +kernel
theorem dX6_beginSteps_69 : decode cX6_beginSteps 69 = .ok (.getfield 10, 3) := by decide +kernel
theorem dX6_beginSteps_72 : decode cX6_beginSteps 72 = .ok (.invokevirtual 179, 3) := by decide +kernel
theorem dX6_beginSteps_75 : decode cX6_beginSteps 75 = .ok (.invokevirtual 245, 3) := by decide +kernel
theorem dX6_beginSteps_78 : decode cX6_beginSteps 78 = .ok (.aload_n 0, 1) := by decide +kernel
theorem dX6_beginSteps_79 : decode cX6_beginSteps 79 = .ok (.getfield 33, 3) := by decide +kernel
theorem dX6_beginSteps_82 : decode cX6_beginSteps 82 = .ok (.iload 4, 2) := by decide +kernel
theorem dX6_beginSteps_84 : decode cX6_beginSteps 84 = .ok (.iload_n 3, 1) := by decide +kernel
theorem dX6_beginSteps_85 : decode cX6_beginSteps 85 = .ok (.iload 5, 2) := by decide +kernel
theorem dX6_beginSteps_87 : decode cX6_beginSteps 87 = .ok (.invokevirtual 249, 3) := by decide +kernel
theorem dX6_beginSteps_90 : decode cX6_beginSteps 90 = .ok (.iinc 3 1, 3) := by decide +kernel
theorem dX6_beginSteps_93 : decode cX6_beginSteps 93 = .ok (.goto (-91), 3) := by decide +kernel
theorem dX6_beginSteps_96 : decode cX6_beginSteps 96 = .ok (.return_, 1) := by decide +kernel
theorem dX6_nextToBegin_0 : decode cX6_nextToBegin 0 = .ok (.iconst (-1), 1) := by decide +kernel
theorem dX6_nextToBegin_1 : decode cX6_nextToBegin 1 = .ok (.istore_n 1, 1) := by decide +kernel
theorem dX6_nextToBegin_2 : decode cX6_nextToBegin 2 = .ok (.iconst 0, 1) := by decide +kernel
theorem dX6_nextToBegin_3 : decode cX6_nextToBegin 3 = .ok (.istore_n 2, 1) := by decide +kernel
theorem dX6_nextToBegin_4 : decode cX6_nextToBegin 4 = .ok (.iconst 0, 1) := by decide +kernel
theorem dX6_nextToBegin_5 : decode cX6_nextToBegin 5 = .ok (.istore_n 3, 1) := by decide +kernel
theorem dX6_nextToBegin_6 : decode cX6_nextToBegin 6 = .ok (.iload_n 3, 1) := by decide +kernel
theorem dX6_nextToBegin_7 : decode cX6_nextToBegin 7 = .ok (.bipush 40, 2) := by decide +kernel
theorem dX6_nextToBegin_9 : decode cX6_nextToBegin 9 = .ok (.if_icmp .ge 42, 3) := by decide +kernel
theorem dX6_nextToBegin_12 : decode cX6_nextToBegin 12 = .ok (.aload_n 0, 1) := by decide +kernel
theorem dX6_nextToBegin_13 : decode cX6_nextToBegin 13 = .ok (.iload_n 3, 1) := by decide +kernel
theorem dX6_nextToBegin_14 : decode cX6_nextToBegin 14 = .ok (.invokevirtual 230, 3) := by decide +kernel
theorem dX6_nextToBegin_17 : decode cX6_nextToBegin 17 = .ok (.ifCond .eq 28, 3) := by decide +kernel
theorem dX6_nextToBegin_20 : decode cX6_nextToBegin 20 = .ok (.aload_n 0, 1) := by decide +kernel
theorem dX6_nextToBegin_21 : decode cX6_nextToBegin 21 = .ok (.getfield 26, 3) := by decide +kernel
theorem dX6_nextToBegin_24 : decode cX6_nextToBegin 24 = .ok (.getfield 252, 3) := by decide +kernel
theorem dX6_nextToBegin_27 : decode cX6_nextToBegin 27 = .ok (.iload_n 3, 1) := by decide +kernel
theorem dX6_nextToBegin_28 : decode cX6_nextToBegin 28 = .ok (.iaload, 1) := by decide +kernel
theorem dX6_nextToBegin_29 : decode cX6_nextToBegin 29 = .ok (.iload_n 2, 1) := by decide +kernel
theorem dX6_nextToBegin_30 : decode cX6_nextToBegin 30 = .ok (.if_icmp .le 15, 3) := by decide +kernel
theorem dX6_nextToBegin_33 : decode cX6_nextToBegin 33 = .ok (.iload_n 3, 1) := by decide +kernel
theorem dX6_nextToBegin_34 : decode cX6_nextToBegin 34 = .ok (.istore_n 1, 1) := by decide +kernel
theorem dX6_nextToBegin_35 : decode cX6_nextToBegin 35 = .ok (.aload_n 0, 1) := by decide +kernel
theorem dX6_nextToBegin_36 : decode cX6_nextToBegin 36 = .ok (.getfield 26, 3) := by decide +kernel
theorem dX6_nextToBegin_39 : decode cX6_nextToBegin 39 = .ok (.getfield 252, 3) := by decide +kernel
theorem dX6_nextToBegin_42 : decode cX6_nextToBegin 42 = .ok (.iload_n 3, 1) := by decide +kernel
theorem dX6_nextToBegin_43 : decode cX6_nextToBegin 43 = .ok (.iaload, 1) := by decide +kernel
theorem dX6_nextToBegin_44 : decode cX6_nextToBegin 44 = .ok (.istore_n 2, 1) := by decide +kernel
theorem dX6_nextToBegin_45 : decode cX6_nextToBegin 45 = .ok (.iinc 3 1, 3) := by decide +kernel
theorem dX6_nextToBegin_48 : decode cX6_nextToBegin 48 = .ok (.goto (-42), 3) := by decide +kernel
theorem dX6_nextToBegin_51 : decode cX6_nextToBegin 51 = .ok (.iload_n 1, 1) := by decide +kernel
theorem dX6_nextToBegin_52 : decode cX6_nextToBegin 52 = .ok (.ireturn, 1) := by decide +kernel
theorem dX6_isReady_0 : decode cX6_isReady 0 = .ok (.aload_n 0, 1) := by decide +kernel
theorem dX6_isReady_1 : decode cX6_isReady 1 = .ok (.getfield 26, 3) := by decide +kernel
theorem dX6_isReady_4 : decode cX6_isReady 4 = .ok (.getfield 194, 3) := by decide +kernel
theorem dX6_isReady_7 : decode cX6_isReady 7 = .ok (.iload_n 1, 1) := by decide +kernel
theorem dX6_isReady_8 : decode cX6_isReady 8 = .ok (.invokestatic 197, 3) := by decide +kernel
theorem dX6_isReady_11 : decode cX6_isReady 11 = .ok (.ifCond .eq 37, 3) := by decide +kernel
theorem dX6_isReady_14 : decode cX6_isReady 14 = .ok (.aload_n 0, 1) := by decide +kernel
theorem dX6_isReady_15 : decode cX6_isReady 15 = .ok (.getfield 33, 3) := by decide +kernel
theorem dX6_isReady_18 : decode cX6_isReady 18 = .ok (.iload_n 1, 1) := by decide +kernel
theorem dX6_isReady_19 : decode cX6_isReady 19 = .ok (.invokevirtual 255, 3) := by decide +kernel
theorem dX6_isReady_22 : decode cX6_isReady 22 = .ok (.ifCond .eq 26, 3) := by decide +kernel
theorem dX6_isReady_25 : decode cX6_isReady 25 = .ok (.aload_n 0, 1) := by decide +kernel
theorem dX6_isReady_26 : decode cX6_isReady 26 = .ok (.getfield 33, 3) := by decide +kernel
theorem dX6_isReady_29 : decode cX6_isReady 29 = .ok (.aload_n 0, 1) := by decide +kernel
theorem dX6_isReady_30 : decode cX6_isReady 30 = .ok (.getfield 26, 3) := by decide +kernel
theorem dX6_isReady_33 : decode cX6_isReady 33 = .ok (.getfield 258, 3) := by decide +kernel
theorem dX6_isReady_36 : decode cX6_isReady 36 = .ok (.iload_n 1, 1) := by decide +kernel
theorem dX6_isReady_37 : decode cX6_isReady 37 = .ok (.laload, 1) := by decide +kernel
theorem dX6_isReady_38 : decode cX6_isReady 38 = .ok (.invokevirtual 262, 3) := by decide +kernel
theorem dX6_isReady_41 : decode cX6_isReady 41 = .ok (.ifCond .eq 7, 3) := by decide +kernel
theorem dX6_isReady_44 : decode cX6_isReady 44 = .ok (.iconst 1, 1) := by decide +kernel
theorem dX6_isReady_45 : decode cX6_isReady 45 = .ok (.goto 4, 3) := by decide +kernel
theorem dX6_isReady_48 : decode cX6_isReady 48 = .ok (.iconst 0, 1) := by decide +kernel
theorem dX6_isReady_49 : decode cX6_isReady 49 = .ok (.ireturn, 1) := by decide +kernel
theorem dX7_init_0 : decode cX7_init 0 = .ok (.aload_n 0, 1) := by decide +kernel
theorem dX7_init_1 : decode cX7_init 1 = .ok (.invokespecial 1, 3) := by decide +kernel
theorem dX7_init_4 : decode cX7_init 4 = .ok (.aload_n 0, 1) := by decide +kernel
theorem dX7_init_5 : decode cX7_init 5 = .ok (.bipush 64, 2) := by decide +kernel
theorem dX7_init_7 : decode cX7_init 7 = .ok (.newarray .boolean, 2) := by decide +kernel
theorem dX7_init_9 : decode cX7_init 9 = .ok (.putfield 7, 3) := by decide +kernel
theorem dX7_init_12 : decode cX7_init 12 = .ok (.aload_n 0, 1) := by decide +kernel
theorem dX7_init_13 : decode cX7_init 13 = .ok (.bipush 64, 2) := by decide +kernel
theorem dX7_init_15 : decode cX7_init 15 = .ok (.newarray .int, 2) := by decide +kernel
theorem dX7_init_17 : decode cX7_init 17 = .ok (.putfield 13, 3) := by decide +kernel
theorem dX7_init_20 : decode cX7_init 20 = .ok (.aload_n 0, 1) := by decide +kernel
theorem dX7_init_21 : decode cX7_init 21 = .ok (.bipush 64, 2) := by decide +kernel
theorem dX7_init_23 : decode cX7_init 23 = .ok (.newarray .int, 2) := by decide +kernel
theorem dX7_init_25 : decode cX7_init 25 = .ok (.putfield 17, 3) := by decide +kernel
theorem dX7_init_28 : decode cX7_init 28 = .ok (.aload_n 0, 1) := by decide +kernel
theorem dX7_init_29 : decode cX7_init 29 = .ok (.bipush 40, 2) := by decide +kernel
theorem dX7_init_31 : decode cX7_init 31 = .ok (.newarray .boolean, 2) := by decide +kernel
theorem dX7_init_33 : decode cX7_init 33 = .ok (.putfield 20, 3) := by decide +kernel
theorem dX7_init_36 : decode cX7_init 36 = .ok (.aload_n 0, 1) := by decide +kernel
theorem dX7_init_37 : decode cX7_init 37 = .ok (.bipush 40, 2) := by decide +kernel
theorem dX7_init_39 : decode cX7_init 39 = .ok (.newarray .int, 2) := by decide +kernel
theorem dX7_init_41 : decode cX7_init 41 = .ok (.putfield 23, 3) := by decide +kernel
theorem dX7_init_44 : decode cX7_init 44 = .ok (.aload_n 0, 1) := by decide +kernel
theorem dX7_init_45 : decode cX7_init 45 = .ok (.bipush 40, 2) := by decide +kernel
theorem dX7_init_47 : decode cX7_init 47 = .ok (.newarray .int, 2) := by decide +kernel
theorem dX7_init_49 : decode cX7_init 49 = .ok (.putfield 26, 3) := by decide +kernel
theorem dX7_init_52 : decode cX7_init 52 = .ok (.aload_n 0, 1) := by decide +kernel
theorem dX7_init_53 : decode cX7_init 53 = .ok (.bipush 40, 2) := by decide +kernel
theorem dX7_init_55 : decode cX7_init 55 = .ok (.newarray .int, 2) := by decide +kernel
theorem dX7_init_57 : decode cX7_init 57 = .ok (.putfield 29, 3) := by decide +kernel
theorem dX7_init_60 : decode cX7_init 60 = .ok (.aload_n 0, 1) := by decide +kernel
theorem dX7_init_61 : decode cX7_init 61 = .ok (.bipush 40, 2) := by decide +kernel
theorem dX7_init_63 : decode cX7_init 63 = .ok (.newarray .int, 2) := by decide +kernel
theorem dX7_init_65 : decode cX7_init 65 = .ok (.putfield 32, 3) := by decide +kernel
theorem dX7_init_68 : decode cX7_init 68 = .ok (.aload_n 0, 1) := by decide +kernel
theorem dX7_init_69 : decode cX7_init 69 = .ok (.bipush 40, 2) := by decide +kernel
theorem dX7_init_71 : decode cX7_init 71 = .ok (.newarray .int, 2) := by decide +kernel
theorem dX7_init_73 : decode cX7_init 73 = .ok (.putfield 35, 3) := by decide +kernel
theorem dX7_init_76 : decode cX7_init 76 = .ok (.aload_n 0, 1) := by decide +kernel
theorem dX7_init_77 : decode cX7_init 77 = .ok (.sipush 240, 3) := by decide +kernel
theorem dX7_init_80 : decode cX7_init 80 = .ok (.newarray .int, 2) := by decide +kernel
theorem dX7_init_82 : decode cX7_init 82 = .ok (.putfield 38, 3) := by decide +kernel
theorem dX7_init_85 : decode cX7_init 85 = .ok (.aload_n 0, 1) := by decide +kernel
theorem dX7_init_86 : decode cX7_init 86 = .ok (.bipush 120, 2) := by decide +kernel
theorem dX7_init_88 : decode cX7_init 88 = .ok (.newarray .int, 2) := by decide +kernel
theorem dX7_init_90 : decode cX7_init 90 = .ok (.putfield 41, 3) := by decide +kernel
theorem dX7_init_93 : decode cX7_init 93 = .ok (.aload_n 0, 1) := by decide +kernel
theorem dX7_init_94 : decode cX7_init 94 = .ok (.bipush 40, 2) := by decide +kernel
theorem dX7_init_96 : decode cX7_init 96 = .ok (.newarray .boolean, 2) := by decide +kernel
theorem dX7_init_98 : decode cX7_init 98 = .ok (.putfield 44, 3) := by decide +kernel
theorem dX7_init_101 : decode cX7_init 101 = .ok (.aload_n 0, 1) := by decide +kernel
theorem dX7_init_102 : decode cX7_init 102 = .ok (.bipush 40, 2) := by decide +kernel
theorem dX7_init_104 : decode cX7_init 104 = .ok (.newarray .int, 2) := by decide +kernel
theorem dX7_init_106 : decode cX7_init 106 = .ok (.putfield 47, 3) := by decide +kernel
theorem dX7_init_109 : decode cX7_init 109 = .ok (.aload_n 0, 1) := by decide +kernel
theorem dX7_init_110 : decode cX7_init 110 = .ok (.bipush 40, 2) := by decide +kernel
theorem dX7_init_112 : decode cX7_init 112 = .ok (.newarray .int, 2) := by decide +kernel
theorem dX7_init_114 : decode cX7_init 114 = .ok (.putfield 50, 3) := by decide +kernel
theorem dX7_init_117 : decode cX7_init 117 = .ok (.aload_n 0, 1) := by decide +kernel
theorem dX7_init_118 : decode cX7_init 118 = .ok (.bipush 40, 2) := by decide +kernel
theorem dX7_init_120 : decode cX7_init 120 = .ok (.newarray .int, 2) := by decide +kernel
theorem dX7_init_122 : decode cX7_init 122 = .ok (.putfield 53, 3) := by decide +kernel
theorem dX7_init_125 : decode cX7_init 125 = .ok (.aload_n 0, 1) := by decide +kernel
theorem dX7_init_126 : decode cX7_init 126 = .ok (.bipush 40, 2) := by decide +kernel
theorem dX7_init_128 : decode cX7_init 128 = .ok (.newarray .int, 2) := by decide +kernel
theorem dX7_init_130 : decode cX7_init 130 = .ok (.putfield 56, 3) := by decide +kernel
theorem dX7_init_133 : decode cX7_init 133 = .ok (.aload_n 0, 1) := by decide +kernel
theorem dX7_init_134 : decode cX7_init 134 = .ok (.sipush 240, 3) := by decide +kernel
theorem dX7_init_137 : decode cX7_init 137 = .ok (.newarray .int, 2) := by decide +kernel
theorem dX7_init_139 : decode cX7_init 139 = .ok (.putfield 59, 3) := by decide +kernel
theorem dX7_init_142 : decode cX7_init 142 = .ok (.aload_n 0, 1) := by decide +kernel
theorem dX7_init_143 : decode cX7_init 143 = .ok (.bipush 120, 2) := by decide +kernel
theorem dX7_init_145 : decode cX7_init 145 = .ok (.newarray .int, 2) := by decide +kernel
theorem dX7_init_147 : decode cX7_init 147 = .ok (.putfield 62, 3) := by decide +kernel
theorem dX7_init_150 : decode cX7_init 150 = .ok (.aload_n 0, 1) := by decide +kernel
theorem dX7_init_151 : decode cX7_init 151 = .ok (.sipush 240, 3) := by decide +kernel
theorem dX7_init_154 : decode cX7_init 154 = .ok (.newarray .int, 2) := by decide +kernel
theorem dX7_init_156 : decode cX7_init 156 = .ok (.putfield 65, 3) := by decide +kernel
theorem dX7_init_159 : decode cX7_init 159 = .ok (.aload_n 0, 1) := by decide +kernel
theorem dX7_init_160 : decode cX7_init 160 = .ok (.bipush 40, 2) := by decide +kernel
theorem dX7_init_162 : decode cX7_init 162 = .ok (.newarray .boolean, 2) := by decide +kernel
theorem dX7_init_164 : decode cX7_init 164 = .ok (.putfield 68, 3) := by decide +kernel
theorem dX7_init_167 : decode cX7_init 167 = .ok (.aload_n 0, 1) := by decide +kernel
theorem dX7_init_168 : decode cX7_init 168 = .ok (.bipush 40, 2) := by decide +kernel
theorem dX7_init_170 : decode cX7_init 170 = .ok (.newarray .int, 2) := by decide +kernel
theorem dX7_init_172 : decode cX7_init 172 = .ok (.putfield 71, 3) := by decide +kernel
theorem dX7_init_175 : decode cX7_init 175 = .ok (.aload_n 0, 1) := by decide +kernel
theorem dX7_init_176 : decode cX7_init 176 = .ok (.bipush 40, 2) := by decide +kernel
theorem dX7_init_178 : decode cX7_init 178 = .ok (.newarray .int, 2) := by decide +kernel
theorem dX7_init_180 : decode cX7_init 180 = .ok (.putfield 74, 3) := by decide +kernel
theorem dX7_init_183 : decode cX7_init 183 = .ok (.aload_n 0, 1) := by decide +kernel
theorem dX7_init_184 : decode cX7_init 184 = .ok (.bipush 40, 2) := by decide +kernel
theorem dX7_init_186 : decode cX7_init 186 = .ok (.newarray .int, 2) := by decide +kernel
theorem dX7_init_188 : decode cX7_init 188 = .ok (.putfield 77, 3) := by decide +kernel
theorem dX7_init_191 : decode cX7_init 191 = .ok (.aload_n 0, 1) := by decide +kernel
theorem dX7_init_192 : decode cX7_init 192 = .ok (.bipush 40, 2) := by decide +kernel
theorem dX7_init_194 : decode cX7_init 194 = .ok (.newarray .int, 2) := by decide +kernel
theorem dX7_init_196 : decode cX7_init 196 = .ok (.putfield 80, 3) := by decide +kernel
theorem dX7_init_199 : decode cX7_init 199 = .ok (.aload_n 0, 1) := by decide +kernel
theorem dX7_init_200 : decode cX7_init 200 = .ok (.bipush 40, 2) := by decide +kernel
theorem dX7_init_202 : decode cX7_init 202 = .ok (.newarray .int, 2) := by decide +kernel
theorem dX7_init_204 : decode cX7_init 204 = .ok (.putfield 83, 3) := by decide +kernel
theorem dX7_init_207 : decode cX7_init 207 = .ok (.aload_n 0, 1) := by decide +kernel
theorem dX7_init_208 : decode cX7_init 208 = .ok (.bipush 8, 2) := by decide +kernel
theorem dX7_init_210 : decode cX7_init 210 = .ok (.newarray .boolean, 2) := by decide +kernel
theorem dX7_init_212 : decode cX7_init 212 = .ok (.putfield 86, 3) := by decide +kernel
theorem dX7_init_215 : decode cX7_init 215 = .ok (.aload_n 0, 1) := by decide +kernel
theorem dX7_init_216 : decode cX7_init 216 = .ok (.bipush 40, 2) := by decide +kernel
theorem dX7_init_218 : decode cX7_init 218 = .ok (.newarray .int, 2) := by decide +kernel
theorem dX7_init_220 : decode cX7_init 220 = .ok (.putfield 89, 3) := by decide +kernel
theorem dX7_init_223 : decode cX7_init 223 = .ok (.aload_n 0, 1) := by decide +kernel
theorem dX7_init_224 : decode cX7_init 224 = .ok (.bipush 40, 2) := by decide +kernel
theorem dX7_init_226 : decode cX7_init 226 = .ok (.newarray .int, 2) := by decide +kernel
theorem dX7_init_228 : decode cX7_init 228 = .ok (.putfield 92, 3) := by decide +kernel
theorem dX7_init_231 : decode cX7_init 231 = .ok (.aload_n 0, 1) := by decide +kernel
theorem dX7_init_232 : decode cX7_init 232 = .ok (.bipush 40, 2) := by decide +kernel
theorem dX7_init_234 : decode cX7_init 234 = .ok (.newarray .int, 2) := by decide +kernel
theorem dX7_init_236 : decode cX7_init 236 = .ok (.putfield 95, 3) := by decide +kernel
theorem dX7_init_239 : decode cX7_init 239 = .ok (.aload_n 0, 1) := by decide +kernel
theorem dX7_init_240 : decode cX7_init 240 = .ok (.bipush 40, 2) := by decide +kernel
theorem dX7_init_242 : decode cX7_init 242 = .ok (.newarray .int, 2) := by decide +kernel
theorem dX7_init_244 : decode cX7_init 244 = .ok (.putfield 98, 3) := by decide +kernel
theorem dX7_init_247 : decode cX7_init 247 = .ok (.aload_n 0, 1) := by decide +kernel
theorem dX7_init_248 : decode cX7_init 248 = .ok (.bipush 40, 2) := by decide +kernel
theorem dX7_init_250 : decode cX7_init 250 = .ok (.newarray .int, 2) := by decide +kernel
theorem dX7_init_252 : decode cX7_init 252 = .ok (.putfield 101, 3) := by decide +kernel
theorem dX7_init_255 : decode cX7_init 255 = .ok (.aload_n 0, 1) := by decide +kernel
theorem dX7_init_256 : decode cX7_init 256 = .ok (.bipush 40, 2) := by decide +kernel
theorem dX7_init_258 : decode cX7_init 258 = .ok (.newarray .int, 2) := by decide +kernel
theorem dX7_init_260 : decode cX7_init 260 = .ok (.putfield 104, 3) := by decide +kernel
theorem dX7_init_263 : decode cX7_init 263 = .ok (.aload_n 0, 1) := by decide +kernel
theorem dX7_init_264 : decode cX7_init 264 = .ok (.bipush 40, 2) := by decide +kernel
theorem dX7_init_266 : decode cX7_init 266 = .ok (.newarray .int, 2) := by decide +kernel
theorem dX7_init_268 : decode cX7_init 268 = .ok (.putfield 107, 3) := by decide +kernel
theorem dX7_init_271 : decode cX7_init 271 = .ok (.iconst 0, 1) := by decide +kernel
theorem dX7_init_272 : decode cX7_init 272 = .ok (.istore_n 1, 1) := by decide +kernel
theorem dX7_init_273 : decode cX7_init 273 = .ok (.iload_n 1, 1) := by decide +kernel
theorem dX7_init_274 : decode cX7_init 274 = .ok (.bipush 64, 2) := by decide +kernel
theorem dX7_init_276 : decode cX7_init 276 = .ok (.if_icmp .ge 16, 3) := by decide +kernel
theorem dX7_init_279 : decode cX7_init 279 = .ok (.aload_n 0, 1) := by decide +kernel
theorem dX7_init_280 : decode cX7_init 280 = .ok (.getfield 17, 3) := by decide +kernel
theorem dX7_init_283 : decode cX7_init 283 = .ok (.iload_n 1, 1) := by decide +kernel
theorem dX7_init_284 : decode cX7_init 284 = .ok (.iconst (-1), 1) := by decide +kernel
theorem dX7_init_285 : decode cX7_init 285 = .ok (.iastore, 1) := by decide +kernel
theorem dX7_init_286 : decode cX7_init 286 = .ok (.iinc 1 1, 3) := by decide +kernel
theorem dX7_init_289 : decode cX7_init 289 = .ok (.goto (-16), 3) := by decide +kernel
theorem dX7_init_292 : decode cX7_init 292 = .ok (.return_, 1) := by decide +kernel
theorem dX7_thrown_0 : decode cX7_thrown 0 = .ok (.aload_n 0, 1) := by decide +kernel
theorem dX7_thrown_1 : decode cX7_thrown 1 = .ok (.getfield 110, 3) := by decide +kernel
theorem dX7_thrown_4 : decode cX7_thrown 4 = .ok (.ireturn, 1) := by decide +kernel
theorem dX7_raise_0 : decode cX7_raise 0 = .ok (.aload_n 0, 1) := by decide +kernel
theorem dX7_raise_1 : decode cX7_raise 1 = .ok (.iload_n 1, 1) := by decide +kernel
theorem dX7_raise_2 : decode cX7_raise 2 = .ok (.putfield 110, 3) := by decide +kernel
theorem dX7_raise_5 : decode cX7_raise 5 = .ok (.iconst 0, 1) := by decide +kernel
theorem dX7_raise_6 : decode cX7_raise 6 = .ok (.ireturn, 1) := by decide +kernel
theorem dX7_isFile_0 : decode cX7_isFile 0 = .ok (.iload_n 0, 1) := by decide +kernel
theorem dX7_isFile_1 : decode cX7_isFile 1 = .ok (.ifCond .lt 13, 3) := by decide +kernel
theorem dX7_isFile_4 : decode cX7_isFile 4 = .ok (.iload_n 0, 1) := by decide +kernel
theorem dX7_isFile_5 : decode cX7_isFile 5 = .ok (.bipush 64, 2) := by decide +kernel
theorem dX7_isFile_7 : decode cX7_isFile 7 = .ok (.if_icmp .ge 7, 3) := by decide +kernel
theorem dX7_isFile_10 : decode cX7_isFile 10 = .ok (.iconst 1, 1) := by decide +kernel
theorem dX7_isFile_11 : decode cX7_isFile 11 = .ok (.goto 4, 3) := by decide +kernel
theorem dX7_isFile_14 : decode cX7_isFile 14 = .ok (.iconst 0, 1) := by decide +kernel
theorem dX7_isFile_15 : decode cX7_isFile 15 = .ok (.ireturn, 1) := by decide +kernel
theorem dX7_isStep_0 : decode cX7_isStep 0 = .ok (.iload_n 1, 1) := by decide +kernel
theorem dX7_isStep_1 : decode cX7_isStep 1 = .ok (.ifCond .lt 22, 3) := by decide +kernel
theorem dX7_isStep_4 : decode cX7_isStep 4 = .ok (.iload_n 1, 1) := by decide +kernel
theorem dX7_isStep_5 : decode cX7_isStep 5 = .ok (.bipush 40, 2) := by decide +kernel
theorem dX7_isStep_7 : decode cX7_isStep 7 = .ok (.if_icmp .ge 16, 3) := by decide +kernel
theorem dX7_isStep_10 : decode cX7_isStep 10 = .ok (.aload_n 0, 1) := by decide +kernel
theorem dX7_isStep_11 : decode cX7_isStep 11 = .ok (.getfield 20, 3) := by decide +kernel
theorem dX7_isStep_14 : decode cX7_isStep 14 = .ok (.iload_n 1, 1) := by decide +kernel
theorem dX7_isStep_15 : decode cX7_isStep 15 = .ok (.baload, 1) := by decide +kernel
theorem dX7_isStep_16 : decode cX7_isStep 16 = .ok (.ifCond .eq 7, 3) := by decide +kernel
theorem dX7_isStep_19 : decode cX7_isStep 19 = .ok (.iconst 1, 1) := by decide +kernel
theorem dX7_isStep_20 : decode cX7_isStep 20 = .ok (.goto 4, 3) := by decide +kernel
theorem dX7_isStep_23 : decode cX7_isStep 23 = .ok (.iconst 0, 1) := by decide +kernel
theorem dX7_isStep_24 : decode cX7_isStep 24 = .ok (.ireturn, 1) := by decide +kernel
theorem dX7_step_0 : decode cX7_step 0 = .ok (.aload_n 0, 1) := by decide +kernel
theorem dX7_step_1 : decode cX7_step 1 = .ok (.iconst 0, 1) := by decide +kernel
theorem dX7_step_2 : decode cX7_step 2 = .ok (.putfield 110, 3) := by decide +kernel
theorem dX7_step_5 : decode cX7_step 5 = .ok (.iload_n 1, 1) := by decide +kernel
theorem dX7_step_6 : decode cX7_step 6 = .ok (.ifCond .lt 22, 3) := by decide +kernel
theorem dX7_step_9 : decode cX7_step 9 = .ok (.iload_n 1, 1) := by decide +kernel
theorem dX7_step_10 : decode cX7_step 10 = .ok (.bipush 40, 2) := by decide +kernel
theorem dX7_step_12 : decode cX7_step 12 = .ok (.if_icmp .ge 16, 3) := by decide +kernel
theorem dX7_step_15 : decode cX7_step 15 = .ok (.iload 4, 2) := by decide +kernel
theorem dX7_step_17 : decode cX7_step 17 = .ok (.iconst 1, 1) := by decide +kernel
theorem dX7_step_18 : decode cX7_step 18 = .ok (.if_icmp .lt 10, 3) := by decide +kernel
theorem dX7_step_21 : decode cX7_step 21 = .ok (.iload 4, 2) := by decide +kernel
theorem dX7_step_23 : decode cX7_step 23 = .ok (.bipush 100, 2) := by decide +kernel
theorem dX7_step_25 : decode cX7_step 25 = .ok (.if_icmp .le 5, 3) := by decide +kernel
theorem dX7_step_28 : decode cX7_step 28 = .ok (.iconst 0, 1) := by decide +kernel
theorem dX7_step_29 : decode cX7_step 29 = .ok (.ireturn, 1) := by decide +kernel
theorem dX7_step_30 : decode cX7_step 30 = .ok (.aload_n 0, 1) := by decide +kernel
theorem dX7_step_31 : decode cX7_step 31 = .ok (.getfield 20, 3) := by decide +kernel
theorem dX7_step_34 : decode cX7_step 34 = .ok (.iload_n 1, 1) := by decide +kernel
theorem dX7_step_35 : decode cX7_step 35 = .ok (.baload, 1) := by decide +kernel
theorem dX7_step_36 : decode cX7_step 36 = .ok (.ifCond .ne 31, 3) := by decide +kernel
theorem dX7_step_39 : decode cX7_step 39 = .ok (.aload_n 0, 1) := by decide +kernel
theorem dX7_step_40 : decode cX7_step 40 = .ok (.getfield 20, 3) := by decide +kernel
theorem dX7_step_43 : decode cX7_step 43 = .ok (.iload_n 1, 1) := by decide +kernel
theorem dX7_step_44 : decode cX7_step 44 = .ok (.iconst 1, 1) := by decide +kernel
theorem dX7_step_45 : decode cX7_step 45 = .ok (.bastore, 1) := by decide +kernel
theorem dX7_step_46 : decode cX7_step 46 = .ok (.aload_n 0, 1) := by decide +kernel
theorem dX7_step_47 : decode cX7_step 47 = .ok (.getfield 32, 3) := by decide +kernel
theorem dX7_step_50 : decode cX7_step 50 = .ok (.iload_n 1, 1) := by decide +kernel
theorem dX7_step_51 : decode cX7_step 51 = .ok (.iconst 0, 1) := by decide +kernel
theorem dX7_step_52 : decode cX7_step 52 = .ok (.iastore, 1) := by decide +kernel
theorem dX7_step_53 : decode cX7_step 53 = .ok (.aload_n 0, 1) := by decide +kernel
theorem dX7_step_54 : decode cX7_step 54 = .ok (.getfield 35, 3) := by decide +kernel
theorem dX7_step_57 : decode cX7_step 57 = .ok (.iload_n 1, 1) := by decide +kernel
theorem dX7_step_58 : decode cX7_step 58 = .ok (.iconst 0, 1) := by decide +kernel
theorem dX7_step_59 : decode cX7_step 59 = .ok (.iastore, 1) := by decide +kernel
theorem dX7_step_60 : decode cX7_step 60 = .ok (.aload_n 0, 1) := by decide +kernel
theorem dX7_step_61 : decode cX7_step 61 = .ok (.getfield 44, 3) := by decide +kernel
theorem dX7_step_64 : decode cX7_step 64 = .ok (.iload_n 1, 1) := by decide +kernel
theorem dX7_step_65 : decode cX7_step 65 = .ok (.iconst 0, 1) := by decide +kernel
theorem dX7_step_66 : decode cX7_step 66 = .ok (.bastore, 1) := by decide +kernel
theorem dX7_step_67 : decode cX7_step 67 = .ok (.aload_n 0, 1) := by decide +kernel
theorem dX7_step_68 : decode cX7_step 68 = .ok (.getfield 23, 3) := by decide +kernel
theorem dX7_step_71 : decode cX7_step 71 = .ok (.iload_n 1, 1) := by decide +kernel
theorem dX7_step_72 : decode cX7_step 72 = .ok (.iload_n 2, 1) := by decide +kernel
theorem dX7_step_73 : decode cX7_step 73 = .ok (.iastore, 1) := by decide +kernel
theorem dX7_step_74 : decode cX7_step 74 = .ok (.aload_n 0, 1) := by decide +kernel
theorem dX7_step_75 : decode cX7_step 75 = .ok (.getfield 26, 3) := by decide +kernel
theorem dX7_step_78 : decode cX7_step 78 = .ok (.iload_n 1, 1) := by decide +kernel
theorem dX7_step_79 : decode cX7_step 79 = .ok (.iload_n 3, 1) := by decide +kernel
theorem dX7_step_80 : decode cX7_step 80 = .ok (.iastore, 1) := by decide +kernel
theorem dX7_step_81 : decode cX7_step 81 = .ok (.aload_n 0, 1) := by decide +kernel
theorem dX7_step_82 : decode cX7_step 82 = .ok (.getfield 29, 3) := by decide +kernel
theorem dX7_step_85 : decode cX7_step 85 = .ok (.iload_n 1, 1) := by decide +kernel
theorem dX7_step_86 : decode cX7_step 86 = .ok (.iload 4, 2) := by decide +kernel
theorem dX7_step_88 : decode cX7_step 88 = .ok (.iastore, 1) := by decide +kernel
theorem dX7_step_89 : decode cX7_step 89 = .ok (.iconst 1, 1) := by decide +kernel
theorem dX7_step_90 : decode cX7_step 90 = .ok (.ireturn, 1) := by decide +kernel
theorem dX7_input_0 : decode cX7_input 0 = .ok (.aload_n 0, 1) := by decide +kernel
theorem dX7_input_1 : decode cX7_input 1 = .ok (.iconst 0, 1) := by decide +kernel
theorem dX7_input_2 : decode cX7_input 2 = .ok (.putfield 110, 3) := by decide +kernel
theorem dX7_input_5 : decode cX7_input 5 = .ok (.aload_n 0, 1) := by decide +kernel
theorem dX7_input_6 : decode cX7_input 6 = .ok (.iload_n 1, 1) := by decide +kernel
theorem dX7_input_7 : decode cX7_input 7 = .ok (.invokevirtual 114, 3) := by decide +kernel
theorem dX7_input_10 : decode cX7_input 10 = .ok (.ifCond .eq 21, 3) := by decide +kernel
theorem dX7_input_13 : decode cX7_input 13 = .ok (.iload_n 2, 1) := by decide +kernel
theorem dX7_input_14 : decode cX7_input 14 = .ok (.invokestatic 118, 3) := by decide +kernel
theorem dX7_input_17 : decode cX7_input 17 = .ok (.ifCond .eq 14, 3) := by decide +kernel
theorem dX7_input_20 : decode cX7_input 20 = .ok (.aload_n 0, 1) := by decide +kernel
theorem dX7_input_21 : decode cX7_input 21 = .ok (.getfield 32, 3) := by decide +kernel
theorem dX7_input_24 : decode cX7_input 24 = .ok (.iload_n 1, 1) := by decide +kernel
theorem dX7_input_25 : decode cX7_input 25 = .ok (.iaload, 1) := by decide +kernel
theorem dX7_input_26 : decode cX7_input 26 = .ok (.bipush 6, 2) := by decide +kernel
theorem dX7_input_28 : decode cX7_input 28 = .ok (.if_icmp .ne 5, 3) := by decide +kernel
theorem dX7_input_31 : decode cX7_input 31 = .ok (.iconst 0, 1) := by decide +kernel
theorem dX7_input_32 : decode cX7_input 32 = .ok (.ireturn, 1) := by decide +kernel
theorem dX7_input_33 : decode cX7_input 33 = .ok (.aload_n 0, 1) := by decide +kernel
theorem dX7_input_34 : decode cX7_input 34 = .ok (.getfield 38, 3) := by decide +kernel
theorem dX7_input_37 : decode cX7_input 37 = .ok (.bipush 6, 2) := by decide +kernel
theorem dX7_input_39 : decode cX7_input 39 = .ok (.iload_n 1, 1) := by decide +kernel
theorem dX7_input_40 : decode cX7_input 40 = .ok (.imul, 1) := by decide +kernel
theorem dX7_input_41 : decode cX7_input 41 = .ok (.aload_n 0, 1) := by decide +kernel
theorem dX7_input_42 : decode cX7_input 42 = .ok (.getfield 32, 3) := by decide +kernel
theorem dX7_input_45 : decode cX7_input 45 = .ok (.iload_n 1, 1) := by decide +kernel
theorem dX7_input_46 : decode cX7_input 46 = .ok (.iaload, 1) := by decide +kernel
theorem dX7_input_47 : decode cX7_input 47 = .ok (.iadd, 1) := by decide +kernel
theorem dX7_input_48 : decode cX7_input 48 = .ok (.iload_n 2, 1) := by decide +kernel
theorem dX7_input_49 : decode cX7_input 49 = .ok (.iastore, 1) := by decide +kernel
theorem dX7_input_50 : decode cX7_input 50 = .ok (.aload_n 0, 1) := by decide +kernel
theorem dX7_input_51 : decode cX7_input 51 = .ok (.getfield 32, 3) := by decide +kernel
theorem dX7_input_54 : decode cX7_input 54 = .ok (.iload_n 1, 1) := by decide +kernel
theorem dX7_input_55 : decode cX7_input 55 = .ok (.dup2, 1) := by decide +kernel
theorem dX7_input_56 : decode cX7_input 56 = .ok (.iaload, 1) := by decide +kernel
theorem dX7_input_57 : decode cX7_input 57 = .ok (.iconst 1, 1) := by decide +kernel
theorem dX7_input_58 : decode cX7_input 58 = .ok (.iadd, 1) := by decide +kernel
theorem dX7_input_59 : decode cX7_input 59 = .ok (.iastore, 1) := by decide +kernel
theorem dX7_input_60 : decode cX7_input 60 = .ok (.iconst 1, 1) := by decide +kernel
theorem dX7_input_61 : decode cX7_input 61 = .ok (.ireturn, 1) := by decide +kernel
theorem dX7_output_0 : decode cX7_output 0 = .ok (.aload_n 0, 1) := by decide +kernel
theorem dX7_output_1 : decode cX7_output 1 = .ok (.iconst 0, 1) := by decide +kernel
theorem dX7_output_2 : decode cX7_output 2 = .ok (.putfield 110, 3) := by decide +kernel
theorem dX7_output_5 : decode cX7_output 5 = .ok (.aload_n 0, 1) := by decide +kernel
theorem dX7_output_6 : decode cX7_output 6 = .ok (.iload_n 1, 1) := by decide +kernel
theorem dX7_output_7 : decode cX7_output 7 = .ok (.invokevirtual 114, 3) := by decide +kernel
theorem dX7_output_10 : decode cX7_output 10 = .ok (.ifCond .eq 30, 3) := by decide +kernel
theorem dX7_output_13 : decode cX7_output 13 = .ok (.iload_n 2, 1) := by decide +kernel
theorem dX7_output_14 : decode cX7_output 14 = .ok (.invokestatic 118, 3) := by decide +kernel
theorem dX7_output_17 : decode cX7_output 17 = .ok (.ifCond .eq 23, 3) := by decide +kernel
theorem dX7_output_20 : decode cX7_output 20 = .ok (.aload_n 0, 1) := by decide +kernel
theorem dX7_output_21 : decode cX7_output 21 = .ok (.getfield 17, 3) := by decide +kernel
theorem dX7_output_24 : decode cX7_output 24 = .ok (.iload_n 2, 1) := by decide +kernel
theorem dX7_output_25 : decode cX7_output 25 = .ok (.iaload, 1) := by decide +kernel
theorem dX7_output_26 : decode cX7_output 26 = .ok (.iconst (-1), 1) := by decide +kernel
theorem dX7_output_27 : decode cX7_output 27 = .ok (.if_icmp .ne 13, 3) := by decide +kernel
theorem dX7_output_30 : decode cX7_output 30 = .ok (.aload_n 0, 1) := by decide +kernel
theorem dX7_output_31 : decode cX7_output 31 = .ok (.getfield 35, 3) := by decide +kernel
theorem dX7_output_34 : decode cX7_output 34 = .ok (.iload_n 1, 1) := by decide +kernel
theorem dX7_output_35 : decode cX7_output 35 = .ok (.iaload, 1) := by decide +kernel
theorem dX7_output_36 : decode cX7_output 36 = .ok (.iconst 3, 1) := by decide +kernel
theorem dX7_output_37 : decode cX7_output 37 = .ok (.if_icmp .ne 5, 3) := by decide +kernel
theorem dX7_output_40 : decode cX7_output 40 = .ok (.iconst 0, 1) := by decide +kernel
theorem dX7_output_41 : decode cX7_output 41 = .ok (.ireturn, 1) := by decide +kernel
theorem dX7_output_42 : decode cX7_output 42 = .ok (.aload_n 0, 1) := by decide +kernel
theorem dX7_output_43 : decode cX7_output 43 = .ok (.getfield 41, 3) := by decide +kernel
theorem dX7_output_46 : decode cX7_output 46 = .ok (.iconst 3, 1) := by decide +kernel
theorem dX7_output_47 : decode cX7_output 47 = .ok (.iload_n 1, 1) := by decide +kernel
theorem dX7_output_48 : decode cX7_output 48 = .ok (.imul, 1) := by decide +kernel
theorem dX7_output_49 : decode cX7_output 49 = .ok (.aload_n 0, 1) := by decide +kernel
theorem dX7_output_50 : decode cX7_output 50 = .ok (.getfield 35, 3) := by decide +kernel
theorem dX7_output_53 : decode cX7_output 53 = .ok (.iload_n 1, 1) := by decide +kernel
theorem dX7_output_54 : decode cX7_output 54 = .ok (.iaload, 1) := by decide +kernel
theorem dX7_output_55 : decode cX7_output 55 = .ok (.iadd, 1) := by decide +kernel
theorem dX7_output_56 : decode cX7_output 56 = .ok (.iload_n 2, 1) := by decide +kernel
theorem dX7_output_57 : decode cX7_output 57 = .ok (.iastore, 1) := by decide +kernel
theorem dX7_output_58 : decode cX7_output 58 = .ok (.aload_n 0, 1) := by decide +kernel
theorem dX7_output_59 : decode cX7_output 59 = .ok (.getfield 35, 3) := by decide +kernel
theorem dX7_output_62 : decode cX7_output 62 = .ok (.iload_n 1, 1) := by decide +kernel
theorem dX7_output_63 : decode cX7_output 63 = .ok (.dup2, 1) := by decide +kernel
theorem dX7_output_64 : decode cX7_output 64 = .ok (.iaload, 1) := by decide +kernel
theorem dX7_output_65 : decode cX7_output 65 = .ok (.iconst 1, 1) := by decide +kernel
theorem dX7_output_66 : decode cX7_output 66 = .ok (.iadd, 1) := by decide +kernel
theorem dX7_output_67 : decode cX7_output 67 = .ok (.iastore, 1) := by decide +kernel
theorem dX7_output_68 : decode cX7_output 68 = .ok (.aload_n 0, 1) := by decide +kernel
theorem dX7_output_69 : decode cX7_output 69 = .ok (.getfield 17, 3) := by decide +kernel
theorem dX7_output_72 : decode cX7_output 72 = .ok (.iload_n 2, 1) := by decide +kernel
theorem dX7_output_73 : decode cX7_output 73 = .ok (.iload_n 1, 1) := by decide +kernel
theorem dX7_output_74 : decode cX7_output 74 = .ok (.iastore, 1) := by decide +kernel
theorem dX7_output_75 : decode cX7_output 75 = .ok (.iconst 1, 1) := by decide +kernel
theorem dX7_output_76 : decode cX7_output 76 = .ok (.ireturn, 1) := by decide +kernel
end
section
theorem dX7_drop_0 : decode cX7_drop 0 = .ok (.aload_n 0, 1) := by decide +kernel
theorem dX7_drop_1 : decode cX7_drop 1 = .ok (.iconst 0, 1) := by decide +kernel
theorem dX7_drop_2 : decode cX7_drop 2 = .ok (.putfield 110, 3) := by decide +kernel
theorem dX7_drop_5 : decode cX7_drop 5 = .ok (.aload_n 0, 1) := by decide +kernel
theorem dX7_drop_6 : decode cX7_drop 6 = .ok (.iload_n 1, 1) := by decide +kernel
theorem dX7_drop_7 : decode cX7_drop 7 = .ok (.invokevirtual 114, 3) := by decide +kernel
theorem dX7_drop_10 : decode cX7_drop 10 = .ok (.ifCond .ne 5, 3) := by decide +kernel
theorem dX7_drop_13 : decode cX7_drop 13 = .ok (.iconst 0, 1) := by decide +kernel
theorem dX7_drop_14 : decode cX7_drop 14 = .ok (.ireturn, 1) := by decide +kernel
theorem dX7_drop_15 : decode cX7_drop 15 = .ok (.aload_n 0, 1) := by decide +kernel
theorem dX7_drop_16 : decode cX7_drop 16 = .ok (.getfield 20, 3) := by decide +kernel
theorem dX7_drop_19 : decode cX7_drop 19 = .ok (.iload_n 1, 1) := by decide +kernel
theorem dX7_drop_20 : decode cX7_drop 20 = .ok (.iconst 0, 1) := by decide +kernel
theorem dX7_drop_21 : decode cX7_drop 21 = .ok (.bastore, 1) := by decide +kernel
theorem dX7_drop_22 : decode cX7_drop 22 = .ok (.iconst 0, 1) := by decide +kernel
theorem dX7_drop_23 : decode cX7_drop 23 = .ok (.istore_n 2, 1) := by decide +kernel
theorem dX7_drop_24 : decode cX7_drop 24 = .ok (.iload_n 2, 1) := by decide +kernel
theorem dX7_drop_25 : decode cX7_drop 25 = .ok (.bipush 64, 2) := by decide +kernel
theorem dX7_drop_27 : decode cX7_drop 27 = .ok (.if_icmp .ge 26, 3) := by decide +kernel
theorem dX7_drop_30 : decode cX7_drop 30 = .ok (.aload_n 0, 1) := by decide +kernel
theorem dX7_drop_31 : decode cX7_drop 31 = .ok (.getfield 17, 3) := by decide +kernel
theorem dX7_drop_34 : decode cX7_drop 34 = .ok (.iload_n 2, 1) := by decide +kernel
theorem dX7_drop_35 : decode cX7_drop 35 = .ok (.iaload, 1) := by decide +kernel
theorem dX7_drop_36 : decode cX7_drop 36 = .ok (.iload_n 1, 1) := by decide +kernel
theorem dX7_drop_37 : decode cX7_drop 37 = .ok (.if_icmp .ne 10, 3) := by decide +kernel
theorem dX7_drop_40 : decode cX7_drop 40 = .ok (.aload_n 0, 1) := by decide +kernel
theorem dX7_drop_41 : decode cX7_drop 41 = .ok (.getfield 17, 3) := by decide +kernel
theorem dX7_drop_44 : decode cX7_drop 44 = .ok (.iload_n 2, 1) := by decide +kernel
theorem dX7_drop_45 : decode cX7_drop 45 = .ok (.iconst (-1), 1) := by decide +kernel
theorem dX7_drop_46 : decode cX7_drop 46 = .ok (.iastore, 1) := by decide +kernel
theorem dX7_drop_47 : decode cX7_drop 47 = .ok (.iinc 2 1, 3) := by decide +kernel
theorem dX7_drop_50 : decode cX7_drop 50 = .ok (.goto (-26), 3) := by decide +kernel
theorem dX7_drop_53 : decode cX7_drop 53 = .ok (.iconst 1, 1) := by decide +kernel
theorem dX7_drop_54 : decode cX7_drop 54 = .ok (.ireturn, 1) := by decide +kernel
theorem dX7_source_0 : decode cX7_source 0 = .ok (.aload_n 0, 1) := by decide +kernel
theorem dX7_source_1 : decode cX7_source 1 = .ok (.iconst 0, 1) := by decide +kernel
theorem dX7_source_2 : decode cX7_source 2 = .ok (.putfield 110, 3) := by decide +kernel
theorem dX7_source_5 : decode cX7_source 5 = .ok (.iload_n 1, 1) := by decide +kernel
theorem dX7_source_6 : decode cX7_source 6 = .ok (.invokestatic 118, 3) := by decide +kernel
theorem dX7_source_9 : decode cX7_source 9 = .ok (.ifCond .eq 13, 3) := by decide +kernel
theorem dX7_source_12 : decode cX7_source 12 = .ok (.aload_n 0, 1) := by decide +kernel
theorem dX7_source_13 : decode cX7_source 13 = .ok (.getfield 17, 3) := by decide +kernel
theorem dX7_source_16 : decode cX7_source 16 = .ok (.iload_n 1, 1) := by decide +kernel
theorem dX7_source_17 : decode cX7_source 17 = .ok (.iaload, 1) := by decide +kernel
theorem dX7_source_18 : decode cX7_source 18 = .ok (.iconst (-1), 1) := by decide +kernel
theorem dX7_source_19 : decode cX7_source 19 = .ok (.if_icmp .eq 5, 3) := by decide +kernel
theorem dX7_source_22 : decode cX7_source 22 = .ok (.iconst 0, 1) := by decide +kernel
theorem dX7_source_23 : decode cX7_source 23 = .ok (.ireturn, 1) := by decide +kernel
theorem dX7_source_24 : decode cX7_source 24 = .ok (.aload_n 0, 1) := by decide +kernel
theorem dX7_source_25 : decode cX7_source 25 = .ok (.getfield 7, 3) := by decide +kernel
theorem dX7_source_28 : decode cX7_source 28 = .ok (.iload_n 1, 1) := by decide +kernel
theorem dX7_source_29 : decode cX7_source 29 = .ok (.iconst 1, 1) := by decide +kernel
theorem dX7_source_30 : decode cX7_source 30 = .ok (.bastore, 1) := by decide +kernel
theorem dX7_source_31 : decode cX7_source 31 = .ok (.aload_n 0, 1) := by decide +kernel
theorem dX7_source_32 : decode cX7_source 32 = .ok (.getfield 13, 3) := by decide +kernel
theorem dX7_source_35 : decode cX7_source 35 = .ok (.iload_n 1, 1) := by decide +kernel
theorem dX7_source_36 : decode cX7_source 36 = .ok (.iload_n 2, 1) := by decide +kernel
theorem dX7_source_37 : decode cX7_source 37 = .ok (.iastore, 1) := by decide +kernel
theorem dX7_source_38 : decode cX7_source 38 = .ok (.iconst 1, 1) := by decide +kernel
theorem dX7_source_39 : decode cX7_source 39 = .ok (.ireturn, 1) := by decide +kernel
theorem dX7_spoil_0 : decode cX7_spoil 0 = .ok (.aload_n 0, 1) := by decide +kernel
theorem dX7_spoil_1 : decode cX7_spoil 1 = .ok (.iconst 0, 1) := by decide +kernel
theorem dX7_spoil_2 : decode cX7_spoil 2 = .ok (.putfield 110, 3) := by decide +kernel
theorem dX7_spoil_5 : decode cX7_spoil 5 = .ok (.iload_n 1, 1) := by decide +kernel
theorem dX7_spoil_6 : decode cX7_spoil 6 = .ok (.invokestatic 118, 3) := by decide +kernel
theorem dX7_spoil_9 : decode cX7_spoil 9 = .ok (.ifCond .eq 12, 3) := by decide +kernel
theorem dX7_spoil_12 : decode cX7_spoil 12 = .ok (.aload_n 0, 1) := by decide +kernel
theorem dX7_spoil_13 : decode cX7_spoil 13 = .ok (.getfield 7, 3) := by decide +kernel
theorem dX7_spoil_16 : decode cX7_spoil 16 = .ok (.iload_n 1, 1) := by decide +kernel
theorem dX7_spoil_17 : decode cX7_spoil 17 = .ok (.baload, 1) := by decide +kernel
theorem dX7_spoil_18 : decode cX7_spoil 18 = .ok (.ifCond .ne 5, 3) := by decide +kernel
theorem dX7_spoil_21 : decode cX7_spoil 21 = .ok (.iconst 0, 1) := by decide +kernel
theorem dX7_spoil_22 : decode cX7_spoil 22 = .ok (.ireturn, 1) := by decide +kernel
theorem dX7_spoil_23 : decode cX7_spoil 23 = .ok (.aload_n 0, 1) := by decide +kernel
theorem dX7_spoil_24 : decode cX7_spoil 24 = .ok (.getfield 7, 3) := by decide +kernel
theorem dX7_spoil_27 : decode cX7_spoil 27 = .ok (.iload_n 1, 1) := by decide +kernel
theorem dX7_spoil_28 : decode cX7_spoil 28 = .ok (.iconst 0, 1) := by decide +kernel
theorem dX7_spoil_29 : decode cX7_spoil 29 = .ok (.bastore, 1) := by decide +kernel
theorem dX7_spoil_30 : decode cX7_spoil 30 = .ok (.iconst 1, 1) := by decide +kernel
theorem dX7_spoil_31 : decode cX7_spoil 31 = .ok (.ireturn, 1) := by decide +kernel
theorem dX7_isOther_0 : decode cX7_isOther 0 = .ok (.aload_n 0, 1) := by decide +kernel
theorem dX7_isOther_1 : decode cX7_isOther 1 = .ok (.getfield 23, 3) := by decide +kernel
theorem dX7_isOther_4 : decode cX7_isOther 4 = .ok (.iload_n 1, 1) := by decide +kernel
theorem dX7_isOther_5 : decode cX7_isOther 5 = .ok (.iaload, 1) := by decide +kernel
theorem dX7_isOther_6 : decode cX7_isOther 6 = .ok (.aload_n 0, 1) := by decide +kernel
theorem dX7_isOther_7 : decode cX7_isOther 7 = .ok (.getfield 47, 3) := by decide +kernel
theorem dX7_isOther_10 : decode cX7_isOther 10 = .ok (.iload_n 1, 1) := by decide +kernel
theorem dX7_isOther_11 : decode cX7_isOther 11 = .ok (.iaload, 1) := by decide +kernel
theorem dX7_isOther_12 : decode cX7_isOther 12 = .ok (.if_icmp .ne 48, 3) := by decide +kernel
theorem dX7_isOther_15 : decode cX7_isOther 15 = .ok (.aload_n 0, 1) := by decide +kernel
theorem dX7_isOther_16 : decode cX7_isOther 16 = .ok (.getfield 26, 3) := by decide +kernel
theorem dX7_isOther_19 : decode cX7_isOther 19 = .ok (.iload_n 1, 1) := by decide +kernel
theorem dX7_isOther_20 : decode cX7_isOther 20 = .ok (.iaload, 1) := by decide +kernel
theorem dX7_isOther_21 : decode cX7_isOther 21 = .ok (.aload_n 0, 1) := by decide +kernel
theorem dX7_isOther_22 : decode cX7_isOther 22 = .ok (.getfield 50, 3) := by decide +kernel
theorem dX7_isOther_25 : decode cX7_isOther 25 = .ok (.iload_n 1, 1) := by decide +kernel
theorem dX7_isOther_26 : decode cX7_isOther 26 = .ok (.iaload, 1) := by decide +kernel
theorem dX7_isOther_27 : decode cX7_isOther 27 = .ok (.if_icmp .ne 33, 3) := by decide +kernel
theorem dX7_isOther_30 : decode cX7_isOther 30 = .ok (.aload_n 0, 1) := by decide +kernel
theorem dX7_isOther_31 : decode cX7_isOther 31 = .ok (.getfield 32, 3) := by decide +kernel
theorem dX7_isOther_34 : decode cX7_isOther 34 = .ok (.iload_n 1, 1) := by decide +kernel
theorem dX7_isOther_35 : decode cX7_isOther 35 = .ok (.iaload, 1) := by decide +kernel
theorem dX7_isOther_36 : decode cX7_isOther 36 = .ok (.aload_n 0, 1) := by decide +kernel
theorem dX7_isOther_37 : decode cX7_isOther 37 = .ok (.getfield 53, 3) := by decide +kernel
theorem dX7_isOther_40 : decode cX7_isOther 40 = .ok (.iload_n 1, 1) := by decide +kernel
theorem dX7_isOther_41 : decode cX7_isOther 41 = .ok (.iaload, 1) := by decide +kernel
theorem dX7_isOther_42 : decode cX7_isOther 42 = .ok (.if_icmp .ne 18, 3) := by decide +kernel
theorem dX7_isOther_45 : decode cX7_isOther 45 = .ok (.aload_n 0, 1) := by decide +kernel
theorem dX7_isOther_46 : decode cX7_isOther 46 = .ok (.getfield 35, 3) := by decide +kernel
theorem dX7_isOther_49 : decode cX7_isOther 49 = .ok (.iload_n 1, 1) := by decide +kernel
theorem dX7_isOther_50 : decode cX7_isOther 50 = .ok (.iaload, 1) := by decide +kernel
theorem dX7_isOther_51 : decode cX7_isOther 51 = .ok (.aload_n 0, 1) := by decide +kernel
theorem dX7_isOther_52 : decode cX7_isOther 52 = .ok (.getfield 56, 3) := by decide +kernel
theorem dX7_isOther_55 : decode cX7_isOther 55 = .ok (.iload_n 1, 1) := by decide +kernel
theorem dX7_isOther_56 : decode cX7_isOther 56 = .ok (.iaload, 1) := by decide +kernel
theorem dX7_isOther_57 : decode cX7_isOther 57 = .ok (.if_icmp .eq 5, 3) := by decide +kernel
theorem dX7_isOther_60 : decode cX7_isOther 60 = .ok (.iconst 1, 1) := by decide +kernel
theorem dX7_isOther_61 : decode cX7_isOther 61 = .ok (.ireturn, 1) := by decide +kernel
theorem dX7_isOther_62 : decode cX7_isOther 62 = .ok (.iconst 0, 1) := by decide +kernel
theorem dX7_isOther_63 : decode cX7_isOther 63 = .ok (.istore_n 2, 1) := by decide +kernel
theorem dX7_isOther_64 : decode cX7_isOther 64 = .ok (.iconst 0, 1) := by decide +kernel
theorem dX7_isOther_65 : decode cX7_isOther 65 = .ok (.istore_n 3, 1) := by decide +kernel
theorem dX7_isOther_66 : decode cX7_isOther 66 = .ok (.iload_n 3, 1) := by decide +kernel
theorem dX7_isOther_67 : decode cX7_isOther 67 = .ok (.aload_n 0, 1) := by decide +kernel
theorem dX7_isOther_68 : decode cX7_isOther 68 = .ok (.getfield 32, 3) := by decide +kernel
theorem dX7_isOther_71 : decode cX7_isOther 71 = .ok (.iload_n 1, 1) := by decide +kernel
theorem dX7_isOther_72 : decode cX7_isOther 72 = .ok (.iaload, 1) := by decide +kernel
theorem dX7_isOther_73 : decode cX7_isOther 73 = .ok (.if_icmp .ge 44, 3) := by decide +kernel
theorem dX7_isOther_76 : decode cX7_isOther 76 = .ok (.iload_n 2, 1) := by decide +kernel
theorem dX7_isOther_77 : decode cX7_isOther 77 = .ok (.ifCond .ne 28, 3) := by decide +kernel
theorem dX7_isOther_80 : decode cX7_isOther 80 = .ok (.aload_n 0, 1) := by decide +kernel
theorem dX7_isOther_81 : decode cX7_isOther 81 = .ok (.getfield 38, 3) := by decide +kernel
theorem dX7_isOther_84 : decode cX7_isOther 84 = .ok (.bipush 6, 2) := by decide +kernel
theorem dX7_isOther_86 : decode cX7_isOther 86 = .ok (.iload_n 1, 1) := by decide +kernel
theorem dX7_isOther_87 : decode cX7_isOther 87 = .ok (.imul, 1) := by decide +kernel
theorem dX7_isOther_88 : decode cX7_isOther 88 = .ok (.iload_n 3, 1) := by decide +kernel
theorem dX7_isOther_89 : decode cX7_isOther 89 = .ok (.iadd, 1) := by decide +kernel
theorem dX7_isOther_90 : decode cX7_isOther 90 = .ok (.iaload, 1) := by decide +kernel
theorem dX7_isOther_91 : decode cX7_isOther 91 = .ok (.aload_n 0, 1) := by decide +kernel
theorem dX7_isOther_92 : decode cX7_isOther 92 = .ok (.getfield 59, 3) := by decide +kernel
theorem dX7_isOther_95 : decode cX7_isOther 95 = .ok (.bipush 6, 2) := by decide +kernel
theorem dX7_isOther_97 : decode cX7_isOther 97 = .ok (.iload_n 1, 1) := by decide +kernel
theorem dX7_isOther_98 : decode cX7_isOther 98 = .ok (.imul, 1) := by decide +kernel
theorem dX7_isOther_99 : decode cX7_isOther 99 = .ok (.iload_n 3, 1) := by decide +kernel
theorem dX7_isOther_100 : decode cX7_isOther 100 = .ok (.iadd, 1) := by decide +kernel
theorem dX7_isOther_101 : decode cX7_isOther 101 = .ok (.iaload, 1) := by decide +kernel
theorem dX7_isOther_102 : decode cX7_isOther 102 = .ok (.if_icmp .eq 7, 3) := by decide +kernel
theorem dX7_isOther_105 : decode cX7_isOther 105 = .ok (.iconst 1, 1) := by decide +kernel
theorem dX7_isOther_106 : decode cX7_isOther 106 = .ok (.goto 4, 3) := by decide +kernel
theorem dX7_isOther_109 : decode cX7_isOther 109 = .ok (.iconst 0, 1) := by decide +kernel
theorem dX7_isOther_110 : decode cX7_isOther 110 = .ok (.istore_n 2, 1) := by decide +kernel
theorem dX7_isOther_111 : decode cX7_isOther 111 = .ok (.iinc 3 1, 3) := by decide +kernel
theorem dX7_isOther_114 : decode cX7_isOther 114 = .ok (.goto (-48), 3) := by decide +kernel
theorem dX7_isOther_117 : decode cX7_isOther 117 = .ok (.iconst 0, 1) := by decide +kernel
theorem dX7_isOther_118 : decode cX7_isOther 118 = .ok (.istore_n 3, 1) := by decide +kernel
theorem dX7_isOther_119 : decode cX7_isOther 119 = .ok (.iload_n 3, 1) := by decide +kernel
theorem dX7_isOther_120 : decode cX7_isOther 120 = .ok (.aload_n 0, 1) := by decide +kernel
theorem dX7_isOther_121 : decode cX7_isOther 121 = .ok (.getfield 35, 3) := by decide +kernel
theorem dX7_isOther_124 : decode cX7_isOther 124 = .ok (.iload_n 1, 1) := by decide +kernel
theorem dX7_isOther_125 : decode cX7_isOther 125 = .ok (.iaload, 1) := by decide +kernel
theorem dX7_isOther_126 : decode cX7_isOther 126 = .ok (.if_icmp .ge 42, 3) := by decide +kernel
theorem dX7_isOther_129 : decode cX7_isOther 129 = .ok (.iload_n 2, 1) := by decide +kernel
theorem dX7_isOther_130 : decode cX7_isOther 130 = .ok (.ifCond .ne 26, 3) := by decide +kernel
theorem dX7_isOther_133 : decode cX7_isOther 133 = .ok (.aload_n 0, 1) := by decide +kernel
theorem dX7_isOther_134 : decode cX7_isOther 134 = .ok (.getfield 41, 3) := by decide +kernel
theorem dX7_isOther_137 : decode cX7_isOther 137 = .ok (.iconst 3, 1) := by decide +kernel
theorem dX7_isOther_138 : decode cX7_isOther 138 = .ok (.iload_n 1, 1) := by decide +kernel
theorem dX7_isOther_139 : decode cX7_isOther 139 = .ok (.imul, 1) := by decide +kernel
theorem dX7_isOther_140 : decode cX7_isOther 140 = .ok (.iload_n 3, 1) := by decide +kernel
theorem dX7_isOther_141 : decode cX7_isOther 141 = .ok (.iadd, 1) := by decide +kernel
theorem dX7_isOther_142 : decode cX7_isOther 142 = .ok (.iaload, 1) := by decide +kernel
theorem dX7_isOther_143 : decode cX7_isOther 143 = .ok (.aload_n 0, 1) := by decide +kernel
theorem dX7_isOther_144 : decode cX7_isOther 144 = .ok (.getfield 62, 3) := by decide +kernel
theorem dX7_isOther_147 : decode cX7_isOther 147 = .ok (.iconst 3, 1) := by decide +kernel
theorem dX7_isOther_148 : decode cX7_isOther 148 = .ok (.iload_n 1, 1) := by decide +kernel
theorem dX7_isOther_149 : decode cX7_isOther 149 = .ok (.imul, 1) := by decide +kernel
theorem dX7_isOther_150 : decode cX7_isOther 150 = .ok (.iload_n 3, 1) := by decide +kernel
theorem dX7_isOther_151 : decode cX7_isOther 151 = .ok (.iadd, 1) := by decide +kernel
theorem dX7_isOther_152 : decode cX7_isOther 152 = .ok (.iaload, 1) := by decide +kernel
theorem dX7_isOther_153 : decode cX7_isOther 153 = .ok (.if_icmp .eq 7, 3) := by decide +kernel
theorem dX7_isOther_156 : decode cX7_isOther 156 = .ok (.iconst 1, 1) := by decide +kernel
theorem dX7_isOther_157 : decode cX7_isOther 157 = .ok (.goto 4, 3) := by decide +kernel
theorem dX7_isOther_160 : decode cX7_isOther 160 = .ok (.iconst 0, 1) := by decide +kernel
theorem dX7_isOther_161 : decode cX7_isOther 161 = .ok (.istore_n 2, 1) := by decide +kernel
theorem dX7_isOther_162 : decode cX7_isOther 162 = .ok (.iinc 3 1, 3) := by decide +kernel
theorem dX7_isOther_165 : decode cX7_isOther 165 = .ok (.goto (-46), 3) := by decide +kernel
theorem dX7_isOther_168 : decode cX7_isOther 168 = .ok (.iload_n 2, 1) := by decide +kernel
theorem dX7_isOther_169 : decode cX7_isOther 169 = .ok (.ireturn, 1) := by decide +kernel
theorem dX7_why_0 : decode cX7_why 0 = .ok (.aload_n 0, 1) := by decide +kernel
theorem dX7_why_1 : decode cX7_why 1 = .ok (.getfield 44, 3) := by decide +kernel
theorem dX7_why_4 : decode cX7_why 4 = .ok (.iload_n 1, 1) := by decide +kernel
theorem dX7_why_5 : decode cX7_why 5 = .ok (.baload, 1) := by decide +kernel
theorem dX7_why_6 : decode cX7_why 6 = .ok (.ifCond .ne 5, 3) := by decide +kernel
theorem dX7_why_9 : decode cX7_why 9 = .ok (.iconst 1, 1) := by decide +kernel
theorem dX7_why_10 : decode cX7_why 10 = .ok (.ireturn, 1) := by decide +kernel
theorem dX7_why_11 : decode cX7_why 11 = .ok (.aload_n 0, 1) := by decide +kernel
theorem dX7_why_12 : decode cX7_why 12 = .ok (.iload_n 1, 1) := by decide +kernel
theorem dX7_why_13 : decode cX7_why 13 = .ok (.invokevirtual 121, 3) := by decide +kernel
theorem dX7_why_16 : decode cX7_why 16 = .ok (.ifCond .eq 5, 3) := by decide +kernel
theorem dX7_why_19 : decode cX7_why 19 = .ok (.iconst 2, 1) := by decide +kernel
theorem dX7_why_20 : decode cX7_why 20 = .ok (.ireturn, 1) := by decide +kernel
theorem dX7_why_21 : decode cX7_why 21 = .ok (.iconst 0, 1) := by decide +kernel
theorem dX7_why_22 : decode cX7_why 22 = .ok (.istore_n 2, 1) := by decide +kernel
theorem dX7_why_23 : decode cX7_why 23 = .ok (.iconst 0, 1) := by decide +kernel
theorem dX7_why_24 : decode cX7_why 24 = .ok (.istore_n 3, 1) := by decide +kernel
theorem dX7_why_25 : decode cX7_why 25 = .ok (.iload_n 3, 1) := by decide +kernel
theorem dX7_why_26 : decode cX7_why 26 = .ok (.aload_n 0, 1) := by decide +kernel
theorem dX7_why_27 : decode cX7_why 27 = .ok (.getfield 35, 3) := by decide +kernel
theorem dX7_why_30 : decode cX7_why 30 = .ok (.iload_n 1, 1) := by decide +kernel
theorem dX7_why_31 : decode cX7_why 31 = .ok (.iaload, 1) := by decide +kernel
theorem dX7_why_32 : decode cX7_why 32 = .ok (.if_icmp .ge 37, 3) := by decide +kernel
theorem dX7_why_35 : decode cX7_why 35 = .ok (.iload_n 2, 1) := by decide +kernel
theorem dX7_why_36 : decode cX7_why 36 = .ok (.ifCond .ne 21, 3) := by decide +kernel
theorem dX7_why_39 : decode cX7_why 39 = .ok (.aload_n 0, 1) := by decide +kernel
theorem dX7_why_40 : decode cX7_why 40 = .ok (.getfield 7, 3) := by decide +kernel
theorem dX7_why_43 : decode cX7_why 43 = .ok (.aload_n 0, 1) := by decide +kernel
theorem dX7_why_44 : decode cX7_why 44 = .ok (.getfield 41, 3) := by decide +kernel
theorem dX7_why_47 : decode cX7_why 47 = .ok (.iconst 3, 1) := by decide +kernel
theorem dX7_why_48 : decode cX7_why 48 = .ok (.iload_n 1, 1) := by decide +kernel
theorem dX7_why_49 : decode cX7_why 49 = .ok (.imul, 1) := by decide +kernel
theorem dX7_why_50 : decode cX7_why 50 = .ok (.iload_n 3, 1) := by decide +kernel
theorem dX7_why_51 : decode cX7_why 51 = .ok (.iadd, 1) := by decide +kernel
theorem dX7_why_52 : decode cX7_why 52 = .ok (.iaload, 1) := by decide +kernel
theorem dX7_why_53 : decode cX7_why 53 = .ok (.baload, 1) := by decide +kernel
theorem dX7_why_54 : decode cX7_why 54 = .ok (.ifCond .ne 7, 3) := by decide +kernel
theorem dX7_why_57 : decode cX7_why 57 = .ok (.iconst 1, 1) := by decide +kernel
theorem dX7_why_58 : decode cX7_why 58 = .ok (.goto 4, 3) := by decide +kernel
theorem dX7_why_61 : decode cX7_why 61 = .ok (.iconst 0, 1) := by decide +kernel
theorem dX7_why_62 : decode cX7_why 62 = .ok (.istore_n 2, 1) := by decide +kernel
theorem dX7_why_63 : decode cX7_why 63 = .ok (.iinc 3 1, 3) := by decide +kernel
theorem dX7_why_66 : decode cX7_why 66 = .ok (.goto (-41), 3) := by decide +kernel
theorem dX7_why_69 : decode cX7_why 69 = .ok (.iload_n 2, 1) := by decide +kernel
theorem dX7_why_70 : decode cX7_why 70 = .ok (.ifCond .eq 5, 3) := by decide +kernel
theorem dX7_why_73 : decode cX7_why 73 = .ok (.iconst 3, 1) := by decide +kernel
theorem dX7_why_74 : decode cX7_why 74 = .ok (.ireturn, 1) := by decide +kernel
theorem dX7_why_75 : decode cX7_why 75 = .ok (.iconst 0, 1) := by decide +kernel
theorem dX7_why_76 : decode cX7_why 76 = .ok (.istore_n 3, 1) := by decide +kernel
theorem dX7_why_77 : decode cX7_why 77 = .ok (.iconst 0, 1) := by decide +kernel
theorem dX7_why_78 : decode cX7_why 78 = .ok (.istore 4, 2) := by decide +kernel
theorem dX7_why_80 : decode cX7_why 80 = .ok (.iload 4, 2) := by decide +kernel
theorem dX7_why_82 : decode cX7_why 82 = .ok (.aload_n 0, 1) := by decide +kernel
theorem dX7_why_83 : decode cX7_why 83 = .ok (.getfield 32, 3) := by decide +kernel
theorem dX7_why_86 : decode cX7_why 86 = .ok (.iload_n 1, 1) := by decide +kernel
theorem dX7_why_87 : decode cX7_why 87 = .ok (.iaload, 1) := by decide +kernel
theorem dX7_why_88 : decode cX7_why 88 = .ok (.if_icmp .ge 65, 3) := by decide +kernel
theorem dX7_why_91 : decode cX7_why 91 = .ok (.aload_n 0, 1) := by decide +kernel
theorem dX7_why_92 : decode cX7_why 92 = .ok (.getfield 38, 3) := by decide +kernel
theorem dX7_why_95 : decode cX7_why 95 = .ok (.bipush 6, 2) := by decide +kernel
theorem dX7_why_97 : decode cX7_why 97 = .ok (.iload_n 1, 1) := by decide +kernel
theorem dX7_why_98 : decode cX7_why 98 = .ok (.imul, 1) := by decide +kernel
theorem dX7_why_99 : decode cX7_why 99 = .ok (.iload 4, 2) := by decide +kernel
theorem dX7_why_101 : decode cX7_why 101 = .ok (.iadd, 1) := by decide +kernel
theorem dX7_why_102 : decode cX7_why 102 = .ok (.iaload, 1) := by decide +kernel
theorem dX7_why_103 : decode cX7_why 103 = .ok (.istore 5, 2) := by decide +kernel
theorem dX7_why_105 : decode cX7_why 105 = .ok (.iload_n 3, 1) := by decide +kernel
theorem dX7_why_106 : decode cX7_why 106 = .ok (.ifCond .ne 35, 3) := by decide +kernel
theorem dX7_why_109 : decode cX7_why 109 = .ok (.aload_n 0, 1) := by decide +kernel
theorem dX7_why_110 : decode cX7_why 110 = .ok (.getfield 7, 3) := by decide +kernel
theorem dX7_why_113 : decode cX7_why 113 = .ok (.iload 5, 2) := by decide +kernel
theorem dX7_why_115 : decode cX7_why 115 = .ok (.baload, 1) := by decide +kernel
theorem dX7_why_116 : decode cX7_why 116 = .ok (.ifCond .eq 25, 3) := by decide +kernel
theorem dX7_why_119 : decode cX7_why 119 = .ok (.aload_n 0, 1) := by decide +kernel
theorem dX7_why_120 : decode cX7_why 120 = .ok (.getfield 13, 3) := by decide +kernel
theorem dX7_why_123 : decode cX7_why 123 = .ok (.iload 5, 2) := by decide +kernel
theorem dX7_why_125 : decode cX7_why 125 = .ok (.iaload, 1) := by decide +kernel
theorem dX7_why_126 : decode cX7_why 126 = .ok (.aload_n 0, 1) := by decide +kernel
theorem dX7_why_127 : decode cX7_why 127 = .ok (.getfield 65, 3) := by decide +kernel
theorem dX7_why_130 : decode cX7_why 130 = .ok (.bipush 6, 2) := by decide +kernel
theorem dX7_why_132 : decode cX7_why 132 = .ok (.iload_n 1, 1) := by decide +kernel
theorem dX7_why_133 : decode cX7_why 133 = .ok (.imul, 1) := by decide +kernel
theorem dX7_why_134 : decode cX7_why 134 = .ok (.iload 4, 2) := by decide +kernel
theorem dX7_why_136 : decode cX7_why 136 = .ok (.iadd, 1) := by decide +kernel
theorem dX7_why_137 : decode cX7_why 137 = .ok (.iaload, 1) := by decide +kernel
theorem dX7_why_138 : decode cX7_why 138 = .ok (.if_icmp .eq 7, 3) := by decide +kernel
theorem dX7_why_141 : decode cX7_why 141 = .ok (.iconst 1, 1) := by decide +kernel
theorem dX7_why_142 : decode cX7_why 142 = .ok (.goto 4, 3) := by decide +kernel
theorem dX7_why_145 : decode cX7_why 145 = .ok (.iconst 0, 1) := by decide +kernel
theorem dX7_why_146 : decode cX7_why 146 = .ok (.istore_n 3, 1) := by decide +kernel
theorem dX7_why_147 : decode cX7_why 147 = .ok (.iinc 4 1, 3) := by decide +kernel
theorem dX7_why_150 : decode cX7_why 150 = .ok (.goto (-70), 3) := by decide +kernel
theorem dX7_why_153 : decode cX7_why 153 = .ok (.iload_n 3, 1) := by decide +kernel
theorem dX7_why_154 : decode cX7_why 154 = .ok (.ifCond .eq 7, 3) := by decide +kernel
theorem dX7_why_157 : decode cX7_why 157 = .ok (.iconst 4, 1) := by decide +kernel
theorem dX7_why_158 : decode cX7_why 158 = .ok (.goto 4, 3) := by decide +kernel
theorem dX7_why_161 : decode cX7_why 161 = .ok (.iconst 0, 1) := by decide +kernel
theorem dX7_why_162 : decode cX7_why 162 = .ok (.ireturn, 1) := by decide +kernel
theorem dX7_reason_0 : decode cX7_reason 0 = .ok (.aload_n 0, 1) := by decide +kernel
theorem dX7_reason_1 : decode cX7_reason 1 = .ok (.iconst 0, 1) := by decide +kernel
theorem dX7_reason_2 : decode cX7_reason 2 = .ok (.putfield 110, 3) := by decide +kernel
theorem dX7_reason_5 : decode cX7_reason 5 = .ok (.aload_n 0, 1) := by decide +kernel
theorem dX7_reason_6 : decode cX7_reason 6 = .ok (.iload_n 1, 1) := by decide +kernel
theorem dX7_reason_7 : decode cX7_reason 7 = .ok (.invokevirtual 114, 3) := by decide +kernel
theorem dX7_reason_10 : decode cX7_reason 10 = .ok (.ifCond .eq 11, 3) := by decide +kernel
theorem dX7_reason_13 : decode cX7_reason 13 = .ok (.aload_n 0, 1) := by decide +kernel
theorem dX7_reason_14 : decode cX7_reason 14 = .ok (.iload_n 1, 1) := by decide +kernel
theorem dX7_reason_15 : decode cX7_reason 15 = .ok (.invokevirtual 124, 3) := by decide +kernel
theorem dX7_reason_18 : decode cX7_reason 18 = .ok (.goto 4, 3) := by decide +kernel
theorem dX7_reason_21 : decode cX7_reason 21 = .ok (.iconst (-1), 1) := by decide +kernel
theorem dX7_reason_22 : decode cX7_reason 22 = .ok (.ireturn, 1) := by decide +kernel
theorem dX7_takes_0 : decode cX7_takes 0 = .ok (.iconst 0, 1) := by decide +kernel
theorem dX7_takes_1 : decode cX7_takes 1 = .ok (.istore_n 3, 1) := by decide +kernel
theorem dX7_takes_2 : decode cX7_takes 2 = .ok (.iconst 0, 1) := by decide +kernel
theorem dX7_takes_3 : decode cX7_takes 3 = .ok (.istore 4, 2) := by decide +kernel
theorem dX7_takes_5 : decode cX7_takes 5 = .ok (.iload 4, 2) := by decide +kernel
theorem dX7_takes_7 : decode cX7_takes 7 = .ok (.aload_n 0, 1) := by decide +kernel
theorem dX7_takes_8 : decode cX7_takes 8 = .ok (.getfield 32, 3) := by decide +kernel
theorem dX7_takes_11 : decode cX7_takes 11 = .ok (.iload_n 1, 1) := by decide +kernel
theorem dX7_takes_12 : decode cX7_takes 12 = .ok (.iaload, 1) := by decide +kernel
theorem dX7_takes_13 : decode cX7_takes 13 = .ok (.if_icmp .ge 40, 3) := by decide +kernel
theorem dX7_takes_16 : decode cX7_takes 16 = .ok (.iload_n 3, 1) := by decide +kernel
theorem dX7_takes_17 : decode cX7_takes 17 = .ok (.ifCond .ne 24, 3) := by decide +kernel
theorem dX7_takes_20 : decode cX7_takes 20 = .ok (.aload_n 0, 1) := by decide +kernel
theorem dX7_takes_21 : decode cX7_takes 21 = .ok (.getfield 17, 3) := by decide +kernel
theorem dX7_takes_24 : decode cX7_takes 24 = .ok (.aload_n 0, 1) := by decide +kernel
theorem dX7_takes_25 : decode cX7_takes 25 = .ok (.getfield 38, 3) := by decide +kernel
theorem dX7_takes_28 : decode cX7_takes 28 = .ok (.bipush 6, 2) := by decide +kernel
theorem dX7_takes_30 : decode cX7_takes 30 = .ok (.iload_n 1, 1) := by decide +kernel
theorem dX7_takes_31 : decode cX7_takes 31 = .ok (.imul, 1) := by decide +kernel
theorem dX7_takes_32 : decode cX7_takes 32 = .ok (.iload 4, 2) := by decide +kernel
theorem dX7_takes_34 : decode cX7_takes 34 = .ok (.iadd, 1) := by decide +kernel
theorem dX7_takes_35 : decode cX7_takes 35 = .ok (.iaload, 1) := by decide +kernel
theorem dX7_takes_36 : decode cX7_takes 36 = .ok (.iaload, 1) := by decide +kernel
theorem dX7_takes_37 : decode cX7_takes 37 = .ok (.iload_n 2, 1) := by decide +kernel
theorem dX7_takes_38 : decode cX7_takes 38 = .ok (.if_icmp .ne 7, 3) := by decide +kernel
theorem dX7_takes_41 : decode cX7_takes 41 = .ok (.iconst 1, 1) := by decide +kernel
theorem dX7_takes_42 : decode cX7_takes 42 = .ok (.goto 4, 3) := by decide +kernel
theorem dX7_takes_45 : decode cX7_takes 45 = .ok (.iconst 0, 1) := by decide +kernel
theorem dX7_takes_46 : decode cX7_takes 46 = .ok (.istore_n 3, 1) := by decide +kernel
theorem dX7_takes_47 : decode cX7_takes 47 = .ok (.iinc 4 1, 3) := by decide +kernel
theorem dX7_takes_50 : decode cX7_takes 50 = .ok (.goto (-45), 3) := by decide +kernel
theorem dX7_takes_53 : decode cX7_takes 53 = .ok (.iload_n 3, 1) := by decide +kernel
theorem dX7_takes_54 : decode cX7_takes 54 = .ok (.ireturn, 1) := by decide +kernel
theorem dX7_spread_0 : decode cX7_spread 0 = .ok (.iconst 0, 1) := by decide +kernel
theorem dX7_spread_1 : decode cX7_spread 1 = .ok (.istore_n 2, 1) := by decide +kernel
theorem dX7_spread_2 : decode cX7_spread 2 = .ok (.iload_n 2, 1) := by decide +kernel
theorem dX7_spread_3 : decode cX7_spread 3 = .ok (.bipush 40, 2) := by decide +kernel
theorem dX7_spread_5 : decode cX7_spread 5 = .ok (.if_icmp .ge 30, 3) := by decide +kernel
theorem dX7_spread_8 : decode cX7_spread 8 = .ok (.aload_n 0, 1) := by decide +kernel
theorem dX7_spread_9 : decode cX7_spread 9 = .ok (.getfield 68, 3) := by decide +kernel
theorem dX7_spread_12 : decode cX7_spread 12 = .ok (.iload_n 2, 1) := by decide +kernel
theorem dX7_spread_13 : decode cX7_spread 13 = .ok (.aload_n 0, 1) := by decide +kernel
theorem dX7_spread_14 : decode cX7_spread 14 = .ok (.getfield 17, 3) := by decide +kernel
theorem dX7_spread_17 : decode cX7_spread 17 = .ok (.iload_n 1, 1) := by decide +kernel
theorem dX7_spread_18 : decode cX7_spread 18 = .ok (.iaload, 1) := by decide +kernel
theorem dX7_spread_19 : decode cX7_spread 19 = .ok (.iload_n 2, 1) := by decide +kernel
theorem dX7_spread_20 : decode cX7_spread 20 = .ok (.if_icmp .ne 7, 3) := by decide +kernel
theorem dX7_spread_23 : decode cX7_spread 23 = .ok (.iconst 1, 1) := by decide +kernel
theorem dX7_spread_24 : decode cX7_spread 24 = .ok (.goto 4, 3) := by decide +kernel
theorem dX7_spread_27 : decode cX7_spread 27 = .ok (.iconst 0, 1) := by decide +kernel
theorem dX7_spread_28 : decode cX7_spread 28 = .ok (.bastore, 1) := by decide +kernel
theorem dX7_spread_29 : decode cX7_spread 29 = .ok (.iinc 2 1, 3) := by decide +kernel
theorem dX7_spread_32 : decode cX7_spread 32 = .ok (.goto (-30), 3) := by decide +kernel
theorem dX7_spread_35 : decode cX7_spread 35 = .ok (.iconst 1, 1) := by decide +kernel
theorem dX7_spread_36 : decode cX7_spread 36 = .ok (.istore_n 2, 1) := by decide +kernel
theorem dX7_spread_37 : decode cX7_spread 37 = .ok (.iload_n 2, 1) := by decide +kernel
theorem dX7_spread_38 : decode cX7_spread 38 = .ok (.ifCond .eq 107, 3) := by decide +kernel
theorem dX7_spread_41 : decode cX7_spread 41 = .ok (.iconst 0, 1) := by decide +kernel
theorem dX7_spread_42 : decode cX7_spread 42 = .ok (.istore_n 2, 1) := by decide +kernel
theorem dX7_spread_43 : decode cX7_spread 43 = .ok (.iconst 0, 1) := by decide +kernel
theorem dX7_spread_44 : decode cX7_spread 44 = .ok (.istore_n 3, 1) := by decide +kernel
theorem dX7_spread_45 : decode cX7_spread 45 = .ok (.iload_n 3, 1) := by decide +kernel
theorem dX7_spread_46 : decode cX7_spread 46 = .ok (.bipush 40, 2) := by decide +kernel
theorem dX7_spread_48 : decode cX7_spread 48 = .ok (.if_icmp .ge 94, 3) := by decide +kernel
theorem dX7_spread_51 : decode cX7_spread 51 = .ok (.aload_n 0, 1) := by decide +kernel
theorem dX7_spread_52 : decode cX7_spread 52 = .ok (.getfield 68, 3) := by decide +kernel
theorem dX7_spread_55 : decode cX7_spread 55 = .ok (.iload_n 3, 1) := by decide +kernel
theorem dX7_spread_56 : decode cX7_spread 56 = .ok (.baload, 1) := by decide +kernel
theorem dX7_spread_57 : decode cX7_spread 57 = .ok (.istore 4, 2) := by decide +kernel
theorem dX7_spread_59 : decode cX7_spread 59 = .ok (.iconst 0, 1) := by decide +kernel
theorem dX7_spread_60 : decode cX7_spread 60 = .ok (.istore 5, 2) := by decide +kernel
theorem dX7_spread_62 : decode cX7_spread 62 = .ok (.iload 5, 2) := by decide +kernel
theorem dX7_spread_64 : decode cX7_spread 64 = .ok (.bipush 40, 2) := by decide +kernel
theorem dX7_spread_66 : decode cX7_spread 66 = .ok (.if_icmp .ge 41, 3) := by decide +kernel
theorem dX7_spread_69 : decode cX7_spread 69 = .ok (.iload 4, 2) := by decide +kernel
theorem dX7_spread_71 : decode cX7_spread 71 = .ok (.ifCond .ne 36, 3) := by decide +kernel
theorem dX7_spread_74 : decode cX7_spread 74 = .ok (.aload_n 0, 1) := by decide +kernel
theorem dX7_spread_75 : decode cX7_spread 75 = .ok (.getfield 68, 3) := by decide +kernel
theorem dX7_spread_78 : decode cX7_spread 78 = .ok (.iload 5, 2) := by decide +kernel
theorem dX7_spread_80 : decode cX7_spread 80 = .ok (.baload, 1) := by decide +kernel
theorem dX7_spread_81 : decode cX7_spread 81 = .ok (.ifCond .eq 17, 3) := by decide +kernel
theorem dX7_spread_84 : decode cX7_spread 84 = .ok (.aload_n 0, 1) := by decide +kernel
theorem dX7_spread_85 : decode cX7_spread 85 = .ok (.iload 5, 2) := by decide +kernel
theorem dX7_spread_87 : decode cX7_spread 87 = .ok (.iload_n 3, 1) := by decide +kernel
theorem dX7_spread_88 : decode cX7_spread 88 = .ok (.invokevirtual 128, 3) := by decide +kernel
theorem dX7_spread_91 : decode cX7_spread 91 = .ok (.ifCond .eq 7, 3) := by decide +kernel
theorem dX7_spread_94 : decode cX7_spread 94 = .ok (.iconst 1, 1) := by decide +kernel
theorem dX7_spread_95 : decode cX7_spread 95 = .ok (.goto 4, 3) := by decide +kernel
theorem dX7_spread_98 : decode cX7_spread 98 = .ok (.iconst 0, 1) := by decide +kernel
theorem dX7_spread_99 : decode cX7_spread 99 = .ok (.istore 4, 2) := by decide +kernel
theorem dX7_spread_101 : decode cX7_spread 101 = .ok (.iinc 5 1, 3) := by decide +kernel
theorem dX7_spread_104 : decode cX7_spread 104 = .ok (.goto (-42), 3) := by decide +kernel
theorem dX7_spread_107 : decode cX7_spread 107 = .ok (.iload_n 2, 1) := by decide +kernel
theorem dX7_spread_108 : decode cX7_spread 108 = .ok (.ifCond .ne 14, 3) := by decide +kernel
theorem dX7_spread_111 : decode cX7_spread 111 = .ok (.iload 4, 2) := by decide +kernel
theorem dX7_spread_113 : decode cX7_spread 113 = .ok (.aload_n 0, 1) := by decide +kernel
theorem dX7_spread_114 : decode cX7_spread 114 = .ok (.getfield 68, 3) := by decide +kernel
theorem dX7_spread_117 : decode cX7_spread 117 = .ok (.iload_n 3, 1) := by decide +kernel
theorem dX7_spread_118 : decode cX7_spread 118 = .ok (.baload, 1) := by decide +kernel
theorem dX7_spread_119 : decode cX7_spread 119 = .ok (.if_icmp .eq 7, 3) := by decide +kernel
theorem dX7_spread_122 : decode cX7_spread 122 = .ok (.iconst 1, 1) := by decide +kernel
theorem dX7_spread_123 : decode cX7_spread 123 = .ok (.goto 4, 3) := by decide +kernel
theorem dX7_spread_126 : decode cX7_spread 126 = .ok (.iconst 0, 1) := by decide +kernel
theorem dX7_spread_127 : decode cX7_spread 127 = .ok (.istore_n 2, 1) := by decide +kernel
theorem dX7_spread_128 : decode cX7_spread 128 = .ok (.aload_n 0, 1) := by decide +kernel
theorem dX7_spread_129 : decode cX7_spread 129 = .ok (.getfield 68, 3) := by decide +kernel
theorem dX7_spread_132 : decode cX7_spread 132 = .ok (.iload_n 3, 1) := by decide +kernel
theorem dX7_spread_133 : decode cX7_spread 133 = .ok (.iload 4, 2) := by decide +kernel
theorem dX7_spread_135 : decode cX7_spread 135 = .ok (.bastore, 1) := by decide +kernel
theorem dX7_spread_136 : decode cX7_spread 136 = .ok (.iinc 3 1, 3) := by decide +kernel
theorem dX7_spread_139 : decode cX7_spread 139 = .ok (.goto (-94), 3) := by decide +kernel
theorem dX7_spread_142 : decode cX7_spread 142 = .ok (.goto (-105), 3) := by decide +kernel
theorem dX7_spread_145 : decode cX7_spread 145 = .ok (.return_, 1) := by decide +kernel
theorem dX7_measure_0 : decode cX7_measure 0 = .ok (.iconst 0, 1) := by decide +kernel
theorem dX7_measure_1 : decode cX7_measure 1 = .ok (.istore_n 2, 1) := by decide +kernel
theorem dX7_measure_2 : decode cX7_measure 2 = .ok (.iload_n 2, 1) := by decide +kernel
theorem dX7_measure_3 : decode cX7_measure 3 = .ok (.bipush 40, 2) := by decide +kernel
theorem dX7_measure_5 : decode cX7_measure 5 = .ok (.if_icmp .ge 27, 3) := by decide +kernel
theorem dX7_measure_8 : decode cX7_measure 8 = .ok (.aload_n 0, 1) := by decide +kernel
theorem dX7_measure_9 : decode cX7_measure 9 = .ok (.getfield 107, 3) := by decide +kernel
theorem dX7_measure_12 : decode cX7_measure 12 = .ok (.iload_n 2, 1) := by decide +kernel
theorem dX7_measure_13 : decode cX7_measure 13 = .ok (.iload_n 2, 1) := by decide +kernel
theorem dX7_measure_14 : decode cX7_measure 14 = .ok (.iload_n 1, 1) := by decide +kernel
theorem dX7_measure_15 : decode cX7_measure 15 = .ok (.if_icmp .ne 7, 3) := by decide +kernel
theorem dX7_measure_18 : decode cX7_measure 18 = .ok (.iconst 0, 1) := by decide +kernel
theorem dX7_measure_19 : decode cX7_measure 19 = .ok (.goto 6, 3) := by decide +kernel
theorem dX7_measure_22 : decode cX7_measure 22 = .ok (.sipush 1000, 3) := by decide +kernel
theorem dX7_measure_25 : decode cX7_measure 25 = .ok (.iastore, 1) := by decide +kernel
theorem dX7_measure_26 : decode cX7_measure 26 = .ok (.iinc 2 1, 3) := by decide +kernel
theorem dX7_measure_29 : decode cX7_measure 29 = .ok (.goto (-27), 3) := by decide +kernel
theorem dX7_measure_32 : decode cX7_measure 32 = .ok (.iconst 1, 1) := by decide +kernel
theorem dX7_measure_33 : decode cX7_measure 33 = .ok (.istore_n 2, 1) := by decide +kernel
theorem dX7_measure_34 : decode cX7_measure 34 = .ok (.iload_n 2, 1) := by decide +kernel
theorem dX7_measure_35 : decode cX7_measure 35 = .ok (.ifCond .eq 100, 3) := by decide +kernel
theorem dX7_measure_38 : decode cX7_measure 38 = .ok (.iconst 0, 1) := by decide +kernel
theorem dX7_measure_39 : decode cX7_measure 39 = .ok (.istore_n 2, 1) := by decide +kernel
theorem dX7_measure_40 : decode cX7_measure 40 = .ok (.iconst 0, 1) := by decide +kernel
theorem dX7_measure_41 : decode cX7_measure 41 = .ok (.istore_n 3, 1) := by decide +kernel
theorem dX7_measure_42 : decode cX7_measure 42 = .ok (.iload_n 3, 1) := by decide +kernel
theorem dX7_measure_43 : decode cX7_measure 43 = .ok (.bipush 40, 2) := by decide +kernel
theorem dX7_measure_45 : decode cX7_measure 45 = .ok (.if_icmp .ge 87, 3) := by decide +kernel
theorem dX7_measure_48 : decode cX7_measure 48 = .ok (.iconst 0, 1) := by decide +kernel
theorem dX7_measure_49 : decode cX7_measure 49 = .ok (.istore 4, 2) := by decide +kernel
theorem dX7_measure_51 : decode cX7_measure 51 = .ok (.iload 4, 2) := by decide +kernel
theorem dX7_measure_53 : decode cX7_measure 53 = .ok (.bipush 40, 2) := by decide +kernel
theorem dX7_measure_55 : decode cX7_measure 55 = .ok (.if_icmp .ge 71, 3) := by decide +kernel
theorem dX7_measure_58 : decode cX7_measure 58 = .ok (.aload_n 0, 1) := by decide +kernel
theorem dX7_measure_59 : decode cX7_measure 59 = .ok (.getfield 68, 3) := by decide +kernel
theorem dX7_measure_62 : decode cX7_measure 62 = .ok (.iload_n 3, 1) := by decide +kernel
theorem dX7_measure_63 : decode cX7_measure 63 = .ok (.baload, 1) := by decide +kernel
theorem dX7_measure_64 : decode cX7_measure 64 = .ok (.ifCond .eq 62, 3) := by decide +kernel
theorem dX7_measure_67 : decode cX7_measure 67 = .ok (.iload_n 3, 1) := by decide +kernel
theorem dX7_measure_68 : decode cX7_measure 68 = .ok (.iload_n 1, 1) := by decide +kernel
theorem dX7_measure_69 : decode cX7_measure 69 = .ok (.if_icmp .eq 57, 3) := by decide +kernel
theorem dX7_measure_72 : decode cX7_measure 72 = .ok (.aload_n 0, 1) := by decide +kernel
theorem dX7_measure_73 : decode cX7_measure 73 = .ok (.iload_n 3, 1) := by decide +kernel
theorem dX7_measure_74 : decode cX7_measure 74 = .ok (.iload 4, 2) := by decide +kernel
theorem dX7_measure_76 : decode cX7_measure 76 = .ok (.invokevirtual 128, 3) := by decide +kernel
theorem dX7_measure_79 : decode cX7_measure 79 = .ok (.ifCond .eq 41, 3) := by decide +kernel
theorem dX7_measure_82 : decode cX7_measure 82 = .ok (.aload_n 0, 1) := by decide +kernel
theorem dX7_measure_83 : decode cX7_measure 83 = .ok (.getfield 107, 3) := by decide +kernel
theorem dX7_measure_86 : decode cX7_measure 86 = .ok (.iload 4, 2) := by decide +kernel
theorem dX7_measure_88 : decode cX7_measure 88 = .ok (.iaload, 1) := by decide +kernel
theorem dX7_measure_89 : decode cX7_measure 89 = .ok (.iconst 1, 1) := by decide +kernel
theorem dX7_measure_90 : decode cX7_measure 90 = .ok (.iadd, 1) := by decide +kernel
theorem dX7_measure_91 : decode cX7_measure 91 = .ok (.aload_n 0, 1) := by decide +kernel
theorem dX7_measure_92 : decode cX7_measure 92 = .ok (.getfield 107, 3) := by decide +kernel
theorem dX7_measure_95 : decode cX7_measure 95 = .ok (.iload_n 3, 1) := by decide +kernel
theorem dX7_measure_96 : decode cX7_measure 96 = .ok (.iaload, 1) := by decide +kernel
theorem dX7_measure_97 : decode cX7_measure 97 = .ok (.if_icmp .lt 6, 3) := by decide +kernel
theorem dX7_measure_100 : decode cX7_measure 100 = .ok (.goto 20, 3) := by decide +kernel
theorem dX7_measure_103 : decode cX7_measure 103 = .ok (.aload_n 0, 1) := by decide +kernel
theorem dX7_measure_104 : decode cX7_measure 104 = .ok (.getfield 107, 3) := by decide +kernel
theorem dX7_measure_107 : decode cX7_measure 107 = .ok (.iload_n 3, 1) := by decide +kernel
theorem dX7_measure_108 : decode cX7_measure 108 = .ok (.aload_n 0, 1) := by decide +kernel
theorem dX7_measure_109 : decode cX7_measure 109 = .ok (.getfield 107, 3) := by decide +kernel
theorem dX7_measure_112 : decode cX7_measure 112 = .ok (.iload 4, 2) := by decide +kernel
theorem dX7_measure_114 : decode cX7_measure 114 = .ok (.iaload, 1) := by decide +kernel
theorem dX7_measure_115 : decode cX7_measure 115 = .ok (.iconst 1, 1) := by decide +kernel
theorem dX7_measure_116 : decode cX7_measure 116 = .ok (.iadd, 1) := by decide +kernel
theorem dX7_measure_117 : decode cX7_measure 117 = .ok (.iastore, 1) := by decide +kernel
theorem dX7_measure_118 : decode cX7_measure 118 = .ok (.iconst 1, 1) := by decide +kernel
theorem dX7_measure_119 : decode cX7_measure 119 = .ok (.istore_n 2, 1) := by decide +kernel
theorem dX7_measure_120 : decode cX7_measure 120 = .ok (.iinc 4 1, 3) := by decide +kernel
theorem dX7_measure_123 : decode cX7_measure 123 = .ok (.goto (-72), 3) := by decide +kernel
theorem dX7_measure_126 : decode cX7_measure 126 = .ok (.iinc 3 1, 3) := by decide +kernel
theorem dX7_measure_129 : decode cX7_measure 129 = .ok (.goto (-87), 3) := by decide +kernel
theorem dX7_measure_132 : decode cX7_measure 132 = .ok (.goto (-98), 3) := by decide +kernel
theorem dX7_measure_135 : decode cX7_measure 135 = .ok (.return_, 1) := by decide +kernel
theorem dX7_nearest_0 : decode cX7_nearest 0 = .ok (.iconst (-1), 1) := by decide +kernel
theorem dX7_nearest_1 : decode cX7_nearest 1 = .ok (.istore_n 2, 1) := by decide +kernel
theorem dX7_nearest_2 : decode cX7_nearest 2 = .ok (.iconst 0, 1) := by decide +kernel
theorem dX7_nearest_3 : decode cX7_nearest 3 = .ok (.istore_n 3, 1) := by decide +kernel
theorem dX7_nearest_4 : decode cX7_nearest 4 = .ok (.iload_n 3, 1) := by decide +kernel
theorem dX7_nearest_5 : decode cX7_nearest 5 = .ok (.bipush 40, 2) := by decide +kernel
theorem dX7_nearest_7 : decode cX7_nearest 7 = .ok (.if_icmp .ge 52, 3) := by decide +kernel
theorem dX7_nearest_10 : decode cX7_nearest 10 = .ok (.aload_n 0, 1) := by decide +kernel
theorem dX7_nearest_11 : decode cX7_nearest 11 = .ok (.iload_n 1, 1) := by decide +kernel
theorem dX7_nearest_12 : decode cX7_nearest 12 = .ok (.iload_n 3, 1) := by decide +kernel
theorem dX7_nearest_13 : decode cX7_nearest 13 = .ok (.invokevirtual 128, 3) := by decide +kernel
theorem dX7_nearest_16 : decode cX7_nearest 16 = .ok (.ifCond .eq 37, 3) := by decide +kernel
theorem dX7_nearest_19 : decode cX7_nearest 19 = .ok (.aload_n 0, 1) := by decide +kernel
theorem dX7_nearest_20 : decode cX7_nearest 20 = .ok (.getfield 107, 3) := by decide +kernel
theorem dX7_nearest_23 : decode cX7_nearest 23 = .ok (.iload_n 3, 1) := by decide +kernel
theorem dX7_nearest_24 : decode cX7_nearest 24 = .ok (.iaload, 1) := by decide +kernel
theorem dX7_nearest_25 : decode cX7_nearest 25 = .ok (.sipush 1000, 3) := by decide +kernel
theorem dX7_nearest_28 : decode cX7_nearest 28 = .ok (.if_icmp .ge 25, 3) := by decide +kernel
theorem dX7_nearest_31 : decode cX7_nearest 31 = .ok (.iload_n 2, 1) := by decide +kernel
theorem dX7_nearest_32 : decode cX7_nearest 32 = .ok (.iconst (-1), 1) := by decide +kernel
theorem dX7_nearest_33 : decode cX7_nearest 33 = .ok (.if_icmp .eq 18, 3) := by decide +kernel
theorem dX7_nearest_36 : decode cX7_nearest 36 = .ok (.aload_n 0, 1) := by decide +kernel
theorem dX7_nearest_37 : decode cX7_nearest 37 = .ok (.getfield 107, 3) := by decide +kernel
theorem dX7_nearest_40 : decode cX7_nearest 40 = .ok (.iload_n 3, 1) := by decide +kernel
theorem dX7_nearest_41 : decode cX7_nearest 41 = .ok (.iaload, 1) := by decide +kernel
theorem dX7_nearest_42 : decode cX7_nearest 42 = .ok (.aload_n 0, 1) := by decide +kernel
theorem dX7_nearest_43 : decode cX7_nearest 43 = .ok (.getfield 107, 3) := by decide +kernel
theorem dX7_nearest_46 : decode cX7_nearest 46 = .ok (.iload_n 2, 1) := by decide +kernel
theorem dX7_nearest_47 : decode cX7_nearest 47 = .ok (.iaload, 1) := by decide +kernel
theorem dX7_nearest_48 : decode cX7_nearest 48 = .ok (.if_icmp .ge 5, 3) := by decide +kernel
theorem dX7_nearest_51 : decode cX7_nearest 51 = .ok (.iload_n 3, 1) := by decide +kernel
theorem dX7_nearest_52 : decode cX7_nearest 52 = .ok (.istore_n 2, 1) := by decide +kernel
theorem dX7_nearest_53 : decode cX7_nearest 53 = .ok (.iinc 3 1, 3) := by decide +kernel
theorem dX7_nearest_56 : decode cX7_nearest 56 = .ok (.goto (-52), 3) := by decide +kernel
theorem dX7_nearest_59 : decode cX7_nearest 59 = .ok (.iload_n 2, 1) := by decide +kernel
theorem dX7_nearest_60 : decode cX7_nearest 60 = .ok (.ireturn, 1) := by decide +kernel
theorem dX7_isRound_0 : decode cX7_isRound 0 = .ok (.iconst 0, 1) := by decide +kernel
theorem dX7_isRound_1 : decode cX7_isRound 1 = .ok (.istore_n 1, 1) := by decide +kernel
theorem dX7_isRound_2 : decode cX7_isRound 2 = .ok (.iload_n 1, 1) := by decide +kernel
theorem dX7_isRound_3 : decode cX7_isRound 3 = .ok (.bipush 40, 2) := by decide +kernel
theorem dX7_isRound_5 : decode cX7_isRound 5 = .ok (.if_icmp .ge 88, 3) := by decide +kernel
theorem dX7_isRound_8 : decode cX7_isRound 8 = .ok (.aload_n 0, 1) := by decide +kernel
theorem dX7_isRound_9 : decode cX7_isRound 9 = .ok (.getfield 68, 3) := by decide +kernel
theorem dX7_isRound_12 : decode cX7_isRound 12 = .ok (.iload_n 1, 1) := by decide +kernel
theorem dX7_isRound_13 : decode cX7_isRound 13 = .ok (.baload, 1) := by decide +kernel
theorem dX7_isRound_14 : decode cX7_isRound 14 = .ok (.ifCond .ne 6, 3) := by decide +kernel
theorem dX7_isRound_17 : decode cX7_isRound 17 = .ok (.goto 70, 3) := by decide +kernel
theorem dX7_isRound_20 : decode cX7_isRound 20 = .ok (.aload_n 0, 1) := by decide +kernel
theorem dX7_isRound_21 : decode cX7_isRound 21 = .ok (.iload_n 1, 1) := by decide +kernel
theorem dX7_isRound_22 : decode cX7_isRound 22 = .ok (.invokevirtual 132, 3) := by decide +kernel
theorem dX7_isRound_25 : decode cX7_isRound 25 = .ok (.aload_n 0, 1) := by decide +kernel
theorem dX7_isRound_26 : decode cX7_isRound 26 = .ok (.iload_n 1, 1) := by decide +kernel
theorem dX7_isRound_27 : decode cX7_isRound 27 = .ok (.invokevirtual 136, 3) := by decide +kernel
theorem dX7_isRound_30 : decode cX7_isRound 30 = .ok (.istore_n 2, 1) := by decide +kernel
theorem dX7_isRound_31 : decode cX7_isRound 31 = .ok (.iload_n 2, 1) := by decide +kernel
theorem dX7_isRound_32 : decode cX7_isRound 32 = .ok (.iconst (-1), 1) := by decide +kernel
theorem dX7_isRound_33 : decode cX7_isRound 33 = .ok (.if_icmp .ne 6, 3) := by decide +kernel
theorem dX7_isRound_36 : decode cX7_isRound 36 = .ok (.goto 51, 3) := by decide +kernel
theorem dX7_isRound_39 : decode cX7_isRound 39 = .ok (.aload_n 0, 1) := by decide +kernel
theorem dX7_isRound_40 : decode cX7_isRound 40 = .ok (.getfield 104, 3) := by decide +kernel
theorem dX7_isRound_43 : decode cX7_isRound 43 = .ok (.iconst 0, 1) := by decide +kernel
theorem dX7_isRound_44 : decode cX7_isRound 44 = .ok (.iload_n 1, 1) := by decide +kernel
theorem dX7_isRound_45 : decode cX7_isRound 45 = .ok (.iastore, 1) := by decide +kernel
theorem dX7_isRound_46 : decode cX7_isRound 46 = .ok (.aload_n 0, 1) := by decide +kernel
theorem dX7_isRound_47 : decode cX7_isRound 47 = .ok (.iconst 1, 1) := by decide +kernel
theorem dX7_isRound_48 : decode cX7_isRound 48 = .ok (.putfield 139, 3) := by decide +kernel
theorem dX7_isRound_51 : decode cX7_isRound 51 = .ok (.iload_n 2, 1) := by decide +kernel
theorem dX7_isRound_52 : decode cX7_isRound 52 = .ok (.iload_n 1, 1) := by decide +kernel
theorem dX7_isRound_53 : decode cX7_isRound 53 = .ok (.if_icmp .eq 32, 3) := by decide +kernel
theorem dX7_isRound_56 : decode cX7_isRound 56 = .ok (.aload_n 0, 1) := by decide +kernel
theorem dX7_isRound_57 : decode cX7_isRound 57 = .ok (.getfield 104, 3) := by decide +kernel
theorem dX7_isRound_60 : decode cX7_isRound 60 = .ok (.aload_n 0, 1) := by decide +kernel
theorem dX7_isRound_61 : decode cX7_isRound 61 = .ok (.getfield 139, 3) := by decide +kernel
theorem dX7_isRound_64 : decode cX7_isRound 64 = .ok (.iload_n 2, 1) := by decide +kernel
theorem dX7_isRound_65 : decode cX7_isRound 65 = .ok (.iastore, 1) := by decide +kernel
theorem dX7_isRound_66 : decode cX7_isRound 66 = .ok (.aload_n 0, 1) := by decide +kernel
theorem dX7_isRound_67 : decode cX7_isRound 67 = .ok (.dup, 1) := by decide +kernel
theorem dX7_isRound_68 : decode cX7_isRound 68 = .ok (.getfield 139, 3) := by decide +kernel
theorem dX7_isRound_71 : decode cX7_isRound 71 = .ok (.iconst 1, 1) := by decide +kernel
theorem dX7_isRound_72 : decode cX7_isRound 72 = .ok (.iadd, 1) := by decide +kernel
theorem dX7_isRound_73 : decode cX7_isRound 73 = .ok (.putfield 139, 3) := by decide +kernel
theorem dX7_isRound_76 : decode cX7_isRound 76 = .ok (.aload_n 0, 1) := by decide +kernel
theorem dX7_isRound_77 : decode cX7_isRound 77 = .ok (.iload_n 2, 1) := by decide +kernel
theorem dX7_isRound_78 : decode cX7_isRound 78 = .ok (.invokevirtual 136, 3) := by decide +kernel
theorem dX7_isRound_81 : decode cX7_isRound 81 = .ok (.istore_n 2, 1) := by decide +kernel
theorem dX7_isRound_82 : decode cX7_isRound 82 = .ok (.goto (-31), 3) := by decide +kernel
theorem dX7_isRound_85 : decode cX7_isRound 85 = .ok (.iconst 1, 1) := by decide +kernel
theorem dX7_isRound_86 : decode cX7_isRound 86 = .ok (.ireturn, 1) := by decide +kernel
theorem dX7_isRound_87 : decode cX7_isRound 87 = .ok (.iinc 1 1, 3) := by decide +kernel
theorem dX7_isRound_90 : decode cX7_isRound 90 = .ok (.goto (-88), 3) := by decide +kernel
theorem dX7_isRound_93 : decode cX7_isRound 93 = .ok (.iconst 0, 1) := by decide +kernel
theorem dX7_isRound_94 : decode cX7_isRound 94 = .ok (.ireturn, 1) := by decide +kernel
theorem dX7_isLacking_0 : decode cX7_isLacking 0 = .ok (.aload_n 0, 1) := by decide +kernel
theorem dX7_isLacking_1 : decode cX7_isLacking 1 = .ok (.getfield 17, 3) := by decide +kernel
theorem dX7_isLacking_4 : decode cX7_isLacking 4 = .ok (.iload_n 1, 1) := by decide +kernel
theorem dX7_isLacking_5 : decode cX7_isLacking 5 = .ok (.iaload, 1) := by decide +kernel
theorem dX7_isLacking_6 : decode cX7_isLacking 6 = .ok (.iconst (-1), 1) := by decide +kernel
theorem dX7_isLacking_7 : decode cX7_isLacking 7 = .ok (.if_icmp .ne 14, 3) := by decide +kernel
theorem dX7_isLacking_10 : decode cX7_isLacking 10 = .ok (.aload_n 0, 1) := by decide +kernel
theorem dX7_isLacking_11 : decode cX7_isLacking 11 = .ok (.getfield 7, 3) := by decide +kernel
theorem dX7_isLacking_14 : decode cX7_isLacking 14 = .ok (.iload_n 1, 1) := by decide +kernel
theorem dX7_isLacking_15 : decode cX7_isLacking 15 = .ok (.baload, 1) := by decide +kernel
theorem dX7_isLacking_16 : decode cX7_isLacking 16 = .ok (.ifCond .ne 5, 3) := by decide +kernel
theorem dX7_isLacking_19 : decode cX7_isLacking 19 = .ok (.iconst 1, 1) := by decide +kernel
theorem dX7_isLacking_20 : decode cX7_isLacking 20 = .ok (.ireturn, 1) := by decide +kernel
theorem dX7_isLacking_21 : decode cX7_isLacking 21 = .ok (.iconst 0, 1) := by decide +kernel
theorem dX7_isLacking_22 : decode cX7_isLacking 22 = .ok (.istore_n 2, 1) := by decide +kernel
theorem dX7_isLacking_23 : decode cX7_isLacking 23 = .ok (.iconst 0, 1) := by decide +kernel
theorem dX7_isLacking_24 : decode cX7_isLacking 24 = .ok (.istore_n 3, 1) := by decide +kernel
theorem dX7_isLacking_25 : decode cX7_isLacking 25 = .ok (.iload_n 3, 1) := by decide +kernel
theorem dX7_isLacking_26 : decode cX7_isLacking 26 = .ok (.bipush 40, 2) := by decide +kernel
theorem dX7_isLacking_28 : decode cX7_isLacking 28 = .ok (.if_icmp .ge 83, 3) := by decide +kernel
theorem dX7_isLacking_31 : decode cX7_isLacking 31 = .ok (.iconst 0, 1) := by decide +kernel
theorem dX7_isLacking_32 : decode cX7_isLacking 32 = .ok (.istore 4, 2) := by decide +kernel
theorem dX7_isLacking_34 : decode cX7_isLacking 34 = .ok (.iload 4, 2) := by decide +kernel
theorem dX7_isLacking_36 : decode cX7_isLacking 36 = .ok (.aload_n 0, 1) := by decide +kernel
theorem dX7_isLacking_37 : decode cX7_isLacking 37 = .ok (.getfield 32, 3) := by decide +kernel
theorem dX7_isLacking_40 : decode cX7_isLacking 40 = .ok (.iload_n 3, 1) := by decide +kernel
theorem dX7_isLacking_41 : decode cX7_isLacking 41 = .ok (.iaload, 1) := by decide +kernel
theorem dX7_isLacking_42 : decode cX7_isLacking 42 = .ok (.if_icmp .ge 63, 3) := by decide +kernel
theorem dX7_isLacking_45 : decode cX7_isLacking 45 = .ok (.aload_n 0, 1) := by decide +kernel
theorem dX7_isLacking_46 : decode cX7_isLacking 46 = .ok (.getfield 68, 3) := by decide +kernel
theorem dX7_isLacking_49 : decode cX7_isLacking 49 = .ok (.iload_n 3, 1) := by decide +kernel
theorem dX7_isLacking_50 : decode cX7_isLacking 50 = .ok (.baload, 1) := by decide +kernel
theorem dX7_isLacking_51 : decode cX7_isLacking 51 = .ok (.ifCond .eq 54, 3) := by decide +kernel
theorem dX7_isLacking_54 : decode cX7_isLacking 54 = .ok (.aload_n 0, 1) := by decide +kernel
theorem dX7_isLacking_55 : decode cX7_isLacking 55 = .ok (.getfield 38, 3) := by decide +kernel
theorem dX7_isLacking_58 : decode cX7_isLacking 58 = .ok (.bipush 6, 2) := by decide +kernel
theorem dX7_isLacking_60 : decode cX7_isLacking 60 = .ok (.iload_n 3, 1) := by decide +kernel
theorem dX7_isLacking_61 : decode cX7_isLacking 61 = .ok (.imul, 1) := by decide +kernel
theorem dX7_isLacking_62 : decode cX7_isLacking 62 = .ok (.iload 4, 2) := by decide +kernel
theorem dX7_isLacking_64 : decode cX7_isLacking 64 = .ok (.iadd, 1) := by decide +kernel
theorem dX7_isLacking_65 : decode cX7_isLacking 65 = .ok (.iaload, 1) := by decide +kernel
theorem dX7_isLacking_66 : decode cX7_isLacking 66 = .ok (.istore 5, 2) := by decide +kernel
theorem dX7_isLacking_68 : decode cX7_isLacking 68 = .ok (.iload_n 2, 1) := by decide +kernel
theorem dX7_isLacking_69 : decode cX7_isLacking 69 = .ok (.ifCond .ne 24, 3) := by decide +kernel
theorem dX7_isLacking_72 : decode cX7_isLacking 72 = .ok (.aload_n 0, 1) := by decide +kernel
theorem dX7_isLacking_73 : decode cX7_isLacking 73 = .ok (.getfield 17, 3) := by decide +kernel
theorem dX7_isLacking_76 : decode cX7_isLacking 76 = .ok (.iload 5, 2) := by decide +kernel
theorem dX7_isLacking_78 : decode cX7_isLacking 78 = .ok (.iaload, 1) := by decide +kernel
theorem dX7_isLacking_79 : decode cX7_isLacking 79 = .ok (.iconst (-1), 1) := by decide +kernel
theorem dX7_isLacking_80 : decode cX7_isLacking 80 = .ok (.if_icmp .ne 17, 3) := by decide +kernel
theorem dX7_isLacking_83 : decode cX7_isLacking 83 = .ok (.aload_n 0, 1) := by decide +kernel
theorem dX7_isLacking_84 : decode cX7_isLacking 84 = .ok (.getfield 7, 3) := by decide +kernel
theorem dX7_isLacking_87 : decode cX7_isLacking 87 = .ok (.iload 5, 2) := by decide +kernel
theorem dX7_isLacking_89 : decode cX7_isLacking 89 = .ok (.baload, 1) := by decide +kernel
theorem dX7_isLacking_90 : decode cX7_isLacking 90 = .ok (.ifCond .ne 7, 3) := by decide +kernel
theorem dX7_isLacking_93 : decode cX7_isLacking 93 = .ok (.iconst 1, 1) := by decide +kernel
theorem dX7_isLacking_94 : decode cX7_isLacking 94 = .ok (.goto 4, 3) := by decide +kernel
theorem dX7_isLacking_97 : decode cX7_isLacking 97 = .ok (.iconst 0, 1) := by decide +kernel
theorem dX7_isLacking_98 : decode cX7_isLacking 98 = .ok (.istore_n 2, 1) := by decide +kernel
theorem dX7_isLacking_99 : decode cX7_isLacking 99 = .ok (.iinc 4 1, 3) := by decide +kernel
theorem dX7_isLacking_102 : decode cX7_isLacking 102 = .ok (.goto (-68), 3) := by decide +kernel
theorem dX7_isLacking_105 : decode cX7_isLacking 105 = .ok (.iinc 3 1, 3) := by decide +kernel
theorem dX7_isLacking_108 : decode cX7_isLacking 108 = .ok (.goto (-83), 3) := by decide +kernel
theorem dX7_isLacking_111 : decode cX7_isLacking 111 = .ok (.iload_n 2, 1) := by decide +kernel
theorem dX7_isLacking_112 : decode cX7_isLacking 112 = .ok (.ireturn, 1) := by decide +kernel
theorem dX7_order_0 : decode cX7_order 0 = .ok (.iconst 0, 1) := by decide +kernel
theorem dX7_order_1 : decode cX7_order 1 = .ok (.istore_n 1, 1) := by decide +kernel
theorem dX7_order_2 : decode cX7_order 2 = .ok (.iload_n 1, 1) := by decide +kernel
theorem dX7_order_3 : decode cX7_order 3 = .ok (.bipush 40, 2) := by decide +kernel
theorem dX7_order_5 : decode cX7_order 5 = .ok (.if_icmp .ge 34, 3) := by decide +kernel
theorem dX7_order_8 : decode cX7_order 8 = .ok (.aload_n 0, 1) := by decide +kernel
theorem dX7_order_9 : decode cX7_order 9 = .ok (.getfield 71, 3) := by decide +kernel
theorem dX7_order_12 : decode cX7_order 12 = .ok (.iload_n 1, 1) := by decide +kernel
theorem dX7_order_13 : decode cX7_order 13 = .ok (.aload_n 0, 1) := by decide +kernel
theorem dX7_order_14 : decode cX7_order 14 = .ok (.getfield 68, 3) := by decide +kernel
theorem dX7_order_17 : decode cX7_order 17 = .ok (.iload_n 1, 1) := by decide +kernel
theorem dX7_order_18 : decode cX7_order 18 = .ok (.baload, 1) := by decide +kernel
theorem dX7_order_19 : decode cX7_order 19 = .ok (.ifCond .eq 12, 3) := by decide +kernel
theorem dX7_order_22 : decode cX7_order 22 = .ok (.aload_n 0, 1) := by decide +kernel
theorem dX7_order_23 : decode cX7_order 23 = .ok (.getfield 29, 3) := by decide +kernel
theorem dX7_order_26 : decode cX7_order 26 = .ok (.iload_n 1, 1) := by decide +kernel
theorem dX7_order_27 : decode cX7_order 27 = .ok (.iaload, 1) := by decide +kernel
theorem dX7_order_28 : decode cX7_order 28 = .ok (.goto 4, 3) := by decide +kernel
theorem dX7_order_31 : decode cX7_order 31 = .ok (.iconst 0, 1) := by decide +kernel
theorem dX7_order_32 : decode cX7_order 32 = .ok (.iastore, 1) := by decide +kernel
theorem dX7_order_33 : decode cX7_order 33 = .ok (.iinc 1 1, 3) := by decide +kernel
theorem dX7_order_36 : decode cX7_order 36 = .ok (.goto (-34), 3) := by decide +kernel
theorem dX7_order_39 : decode cX7_order 39 = .ok (.iconst 1, 1) := by decide +kernel
theorem dX7_order_40 : decode cX7_order 40 = .ok (.istore_n 1, 1) := by decide +kernel
theorem dX7_order_41 : decode cX7_order 41 = .ok (.iload_n 1, 1) := by decide +kernel
theorem dX7_order_42 : decode cX7_order 42 = .ok (.ifCond .eq 109, 3) := by decide +kernel
theorem dX7_order_45 : decode cX7_order 45 = .ok (.iconst 0, 1) := by decide +kernel
theorem dX7_order_46 : decode cX7_order 46 = .ok (.istore_n 1, 1) := by decide +kernel
theorem dX7_order_47 : decode cX7_order 47 = .ok (.iconst 0, 1) := by decide +kernel
theorem dX7_order_48 : decode cX7_order 48 = .ok (.istore_n 2, 1) := by decide +kernel
theorem dX7_order_49 : decode cX7_order 49 = .ok (.iload_n 2, 1) := by decide +kernel
theorem dX7_order_50 : decode cX7_order 50 = .ok (.bipush 40, 2) := by decide +kernel
theorem dX7_order_52 : decode cX7_order 52 = .ok (.if_icmp .ge 96, 3) := by decide +kernel
theorem dX7_order_55 : decode cX7_order 55 = .ok (.iconst 0, 1) := by decide +kernel
theorem dX7_order_56 : decode cX7_order 56 = .ok (.istore_n 3, 1) := by decide +kernel
theorem dX7_order_57 : decode cX7_order 57 = .ok (.iload_n 3, 1) := by decide +kernel
theorem dX7_order_58 : decode cX7_order 58 = .ok (.bipush 40, 2) := by decide +kernel
theorem dX7_order_60 : decode cX7_order 60 = .ok (.if_icmp .ge 82, 3) := by decide +kernel
theorem dX7_order_63 : decode cX7_order 63 = .ok (.aload_n 0, 1) := by decide +kernel
theorem dX7_order_64 : decode cX7_order 64 = .ok (.getfield 68, 3) := by decide +kernel
theorem dX7_order_67 : decode cX7_order 67 = .ok (.iload_n 2, 1) := by decide +kernel
theorem dX7_order_68 : decode cX7_order 68 = .ok (.baload, 1) := by decide +kernel
theorem dX7_order_69 : decode cX7_order 69 = .ok (.ifCond .eq 73, 3) := by decide +kernel
theorem dX7_order_72 : decode cX7_order 72 = .ok (.aload_n 0, 1) := by decide +kernel
theorem dX7_order_73 : decode cX7_order 73 = .ok (.getfield 68, 3) := by decide +kernel
theorem dX7_order_76 : decode cX7_order 76 = .ok (.iload_n 3, 1) := by decide +kernel
theorem dX7_order_77 : decode cX7_order 77 = .ok (.baload, 1) := by decide +kernel
theorem dX7_order_78 : decode cX7_order 78 = .ok (.ifCond .eq 58, 3) := by decide +kernel
theorem dX7_order_81 : decode cX7_order 81 = .ok (.aload_n 0, 1) := by decide +kernel
theorem dX7_order_82 : decode cX7_order 82 = .ok (.iload_n 3, 1) := by decide +kernel
theorem dX7_order_83 : decode cX7_order 83 = .ok (.iload_n 2, 1) := by decide +kernel
theorem dX7_order_84 : decode cX7_order 84 = .ok (.invokevirtual 128, 3) := by decide +kernel
theorem dX7_order_87 : decode cX7_order 87 = .ok (.ifCond .eq 49, 3) := by decide +kernel
theorem dX7_order_90 : decode cX7_order 90 = .ok (.aload_n 0, 1) := by decide +kernel
theorem dX7_order_91 : decode cX7_order 91 = .ok (.getfield 71, 3) := by decide +kernel
theorem dX7_order_94 : decode cX7_order 94 = .ok (.iload_n 3, 1) := by decide +kernel
theorem dX7_order_95 : decode cX7_order 95 = .ok (.iaload, 1) := by decide +kernel
theorem dX7_order_96 : decode cX7_order 96 = .ok (.aload_n 0, 1) := by decide +kernel
theorem dX7_order_97 : decode cX7_order 97 = .ok (.getfield 29, 3) := by decide +kernel
theorem dX7_order_100 : decode cX7_order 100 = .ok (.iload_n 2, 1) := by decide +kernel
theorem dX7_order_101 : decode cX7_order 101 = .ok (.iaload, 1) := by decide +kernel
theorem dX7_order_102 : decode cX7_order 102 = .ok (.iadd, 1) := by decide +kernel
theorem dX7_order_103 : decode cX7_order 103 = .ok (.aload_n 0, 1) := by decide +kernel
theorem dX7_order_104 : decode cX7_order 104 = .ok (.getfield 71, 3) := by decide +kernel
theorem dX7_order_107 : decode cX7_order 107 = .ok (.iload_n 2, 1) := by decide +kernel
theorem dX7_order_108 : decode cX7_order 108 = .ok (.iaload, 1) := by decide +kernel
theorem dX7_order_109 : decode cX7_order 109 = .ok (.if_icmp .gt 6, 3) := by decide +kernel
theorem dX7_order_112 : decode cX7_order 112 = .ok (.goto 24, 3) := by decide +kernel
theorem dX7_order_115 : decode cX7_order 115 = .ok (.aload_n 0, 1) := by decide +kernel
theorem dX7_order_116 : decode cX7_order 116 = .ok (.getfield 71, 3) := by decide +kernel
theorem dX7_order_119 : decode cX7_order 119 = .ok (.iload_n 2, 1) := by decide +kernel
theorem dX7_order_120 : decode cX7_order 120 = .ok (.aload_n 0, 1) := by decide +kernel
theorem dX7_order_121 : decode cX7_order 121 = .ok (.getfield 71, 3) := by decide +kernel
theorem dX7_order_124 : decode cX7_order 124 = .ok (.iload_n 3, 1) := by decide +kernel
theorem dX7_order_125 : decode cX7_order 125 = .ok (.iaload, 1) := by decide +kernel
theorem dX7_order_126 : decode cX7_order 126 = .ok (.aload_n 0, 1) := by decide +kernel
theorem dX7_order_127 : decode cX7_order 127 = .ok (.getfield 29, 3) := by decide +kernel
theorem dX7_order_130 : decode cX7_order 130 = .ok (.iload_n 2, 1) := by decide +kernel
theorem dX7_order_131 : decode cX7_order 131 = .ok (.iaload, 1) := by decide +kernel
theorem dX7_order_132 : decode cX7_order 132 = .ok (.iadd, 1) := by decide +kernel
theorem dX7_order_133 : decode cX7_order 133 = .ok (.iastore, 1) := by decide +kernel
theorem dX7_order_134 : decode cX7_order 134 = .ok (.iconst 1, 1) := by decide +kernel
theorem dX7_order_135 : decode cX7_order 135 = .ok (.istore_n 1, 1) := by decide +kernel
theorem dX7_order_136 : decode cX7_order 136 = .ok (.iinc 3 1, 3) := by decide +kernel
theorem dX7_order_139 : decode cX7_order 139 = .ok (.goto (-82), 3) := by decide +kernel
theorem dX7_order_142 : decode cX7_order 142 = .ok (.iinc 2 1, 3) := by decide +kernel
theorem dX7_order_145 : decode cX7_order 145 = .ok (.goto (-96), 3) := by decide +kernel
theorem dX7_order_148 : decode cX7_order 148 = .ok (.goto (-107), 3) := by decide +kernel
theorem dX7_order_151 : decode cX7_order 151 = .ok (.return_, 1) := by decide +kernel
end
section
theorem dX7_isReady_0 : decode cX7_isReady 0 = .ok (.aload_n 0, 1) := by decide +kernel
theorem dX7_isReady_1 : decode cX7_isReady 1 = .ok (.getfield 68, 3) := by decide +kernel
theorem dX7_isReady_4 : decode cX7_isReady 4 = .ok (.iload_n 1, 1) := by decide +kernel
theorem dX7_isReady_5 : decode cX7_isReady 5 = .ok (.baload, 1) := by decide +kernel
theorem dX7_isReady_6 : decode cX7_isReady 6 = .ok (.ifCond .eq 12, 3) := by decide +kernel
theorem dX7_isReady_9 : decode cX7_isReady 9 = .ok (.aload_n 0, 1) := by decide +kernel
theorem dX7_isReady_10 : decode cX7_isReady 10 = .ok (.getfield 74, 3) := by decide +kernel
theorem dX7_isReady_13 : decode cX7_isReady 13 = .ok (.iload_n 1, 1) := by decide +kernel
theorem dX7_isReady_14 : decode cX7_isReady 14 = .ok (.iaload, 1) := by decide +kernel
theorem dX7_isReady_15 : decode cX7_isReady 15 = .ok (.ifCond .eq 5, 3) := by decide +kernel
theorem dX7_isReady_18 : decode cX7_isReady 18 = .ok (.iconst 0, 1) := by decide +kernel
theorem dX7_isReady_19 : decode cX7_isReady 19 = .ok (.ireturn, 1) := by decide +kernel
theorem dX7_isReady_20 : decode cX7_isReady 20 = .ok (.iconst 1, 1) := by decide +kernel
theorem dX7_isReady_21 : decode cX7_isReady 21 = .ok (.istore_n 2, 1) := by decide +kernel
theorem dX7_isReady_22 : decode cX7_isReady 22 = .ok (.iconst 0, 1) := by decide +kernel
theorem dX7_isReady_23 : decode cX7_isReady 23 = .ok (.istore_n 3, 1) := by decide +kernel
theorem dX7_isReady_24 : decode cX7_isReady 24 = .ok (.iload_n 3, 1) := by decide +kernel
theorem dX7_isReady_25 : decode cX7_isReady 25 = .ok (.aload_n 0, 1) := by decide +kernel
theorem dX7_isReady_26 : decode cX7_isReady 26 = .ok (.getfield 32, 3) := by decide +kernel
theorem dX7_isReady_29 : decode cX7_isReady 29 = .ok (.iload_n 1, 1) := by decide +kernel
theorem dX7_isReady_30 : decode cX7_isReady 30 = .ok (.iaload, 1) := by decide +kernel
theorem dX7_isReady_31 : decode cX7_isReady 31 = .ok (.if_icmp .ge 54, 3) := by decide +kernel
theorem dX7_isReady_34 : decode cX7_isReady 34 = .ok (.aload_n 0, 1) := by decide +kernel
theorem dX7_isReady_35 : decode cX7_isReady 35 = .ok (.getfield 17, 3) := by decide +kernel
theorem dX7_isReady_38 : decode cX7_isReady 38 = .ok (.aload_n 0, 1) := by decide +kernel
theorem dX7_isReady_39 : decode cX7_isReady 39 = .ok (.getfield 38, 3) := by decide +kernel
theorem dX7_isReady_42 : decode cX7_isReady 42 = .ok (.bipush 6, 2) := by decide +kernel
theorem dX7_isReady_44 : decode cX7_isReady 44 = .ok (.iload_n 1, 1) := by decide +kernel
theorem dX7_isReady_45 : decode cX7_isReady 45 = .ok (.imul, 1) := by decide +kernel
theorem dX7_isReady_46 : decode cX7_isReady 46 = .ok (.iload_n 3, 1) := by decide +kernel
theorem dX7_isReady_47 : decode cX7_isReady 47 = .ok (.iadd, 1) := by decide +kernel
theorem dX7_isReady_48 : decode cX7_isReady 48 = .ok (.iaload, 1) := by decide +kernel
theorem dX7_isReady_49 : decode cX7_isReady 49 = .ok (.iaload, 1) := by decide +kernel
theorem dX7_isReady_50 : decode cX7_isReady 50 = .ok (.istore 4, 2) := by decide +kernel
theorem dX7_isReady_52 : decode cX7_isReady 52 = .ok (.iload_n 2, 1) := by decide +kernel
theorem dX7_isReady_53 : decode cX7_isReady 53 = .ok (.ifCond .eq 24, 3) := by decide +kernel
theorem dX7_isReady_56 : decode cX7_isReady 56 = .ok (.iload 4, 2) := by decide +kernel
theorem dX7_isReady_58 : decode cX7_isReady 58 = .ok (.iconst (-1), 1) := by decide +kernel
theorem dX7_isReady_59 : decode cX7_isReady 59 = .ok (.if_icmp .eq 14, 3) := by decide +kernel
theorem dX7_isReady_62 : decode cX7_isReady 62 = .ok (.aload_n 0, 1) := by decide +kernel
theorem dX7_isReady_63 : decode cX7_isReady 63 = .ok (.getfield 74, 3) := by decide +kernel
theorem dX7_isReady_66 : decode cX7_isReady 66 = .ok (.iload 4, 2) := by decide +kernel
theorem dX7_isReady_68 : decode cX7_isReady 68 = .ok (.iaload, 1) := by decide +kernel
theorem dX7_isReady_69 : decode cX7_isReady 69 = .ok (.iconst 2, 1) := by decide +kernel
theorem dX7_isReady_70 : decode cX7_isReady 70 = .ok (.if_icmp .ne 7, 3) := by decide +kernel
theorem dX7_isReady_73 : decode cX7_isReady 73 = .ok (.iconst 1, 1) := by decide +kernel
theorem dX7_isReady_74 : decode cX7_isReady 74 = .ok (.goto 4, 3) := by decide +kernel
theorem dX7_isReady_77 : decode cX7_isReady 77 = .ok (.iconst 0, 1) := by decide +kernel
theorem dX7_isReady_78 : decode cX7_isReady 78 = .ok (.istore_n 2, 1) := by decide +kernel
theorem dX7_isReady_79 : decode cX7_isReady 79 = .ok (.iinc 3 1, 3) := by decide +kernel
theorem dX7_isReady_82 : decode cX7_isReady 82 = .ok (.goto (-58), 3) := by decide +kernel
theorem dX7_isReady_85 : decode cX7_isReady 85 = .ok (.iload_n 2, 1) := by decide +kernel
theorem dX7_isReady_86 : decode cX7_isReady 86 = .ok (.ireturn, 1) := by decide +kernel
theorem dX7_end_0 : decode cX7_end 0 = .ok (.aload_n 0, 1) := by decide +kernel
theorem dX7_end_1 : decode cX7_end 1 = .ok (.getfield 74, 3) := by decide +kernel
theorem dX7_end_4 : decode cX7_end 4 = .ok (.iload_n 1, 1) := by decide +kernel
theorem dX7_end_5 : decode cX7_end 5 = .ok (.iconst 2, 1) := by decide +kernel
theorem dX7_end_6 : decode cX7_end 6 = .ok (.iastore, 1) := by decide +kernel
theorem dX7_end_7 : decode cX7_end 7 = .ok (.aload_n 0, 1) := by decide +kernel
theorem dX7_end_8 : decode cX7_end 8 = .ok (.getfield 86, 3) := by decide +kernel
theorem dX7_end_11 : decode cX7_end 11 = .ok (.aload_n 0, 1) := by decide +kernel
theorem dX7_end_12 : decode cX7_end 12 = .ok (.getfield 83, 3) := by decide +kernel
theorem dX7_end_15 : decode cX7_end 15 = .ok (.iload_n 1, 1) := by decide +kernel
theorem dX7_end_16 : decode cX7_end 16 = .ok (.iaload, 1) := by decide +kernel
theorem dX7_end_17 : decode cX7_end 17 = .ok (.iconst 0, 1) := by decide +kernel
theorem dX7_end_18 : decode cX7_end 18 = .ok (.bastore, 1) := by decide +kernel
theorem dX7_end_19 : decode cX7_end 19 = .ok (.iconst 0, 1) := by decide +kernel
theorem dX7_end_20 : decode cX7_end 20 = .ok (.istore_n 2, 1) := by decide +kernel
theorem dX7_end_21 : decode cX7_end 21 = .ok (.iload_n 2, 1) := by decide +kernel
theorem dX7_end_22 : decode cX7_end 22 = .ok (.aload_n 0, 1) := by decide +kernel
theorem dX7_end_23 : decode cX7_end 23 = .ok (.getfield 35, 3) := by decide +kernel
theorem dX7_end_26 : decode cX7_end 26 = .ok (.iload_n 1, 1) := by decide +kernel
theorem dX7_end_27 : decode cX7_end 27 = .ok (.iaload, 1) := by decide +kernel
theorem dX7_end_28 : decode cX7_end 28 = .ok (.if_icmp .ge 59, 3) := by decide +kernel
theorem dX7_end_31 : decode cX7_end 31 = .ok (.aload_n 0, 1) := by decide +kernel
theorem dX7_end_32 : decode cX7_end 32 = .ok (.getfield 41, 3) := by decide +kernel
theorem dX7_end_35 : decode cX7_end 35 = .ok (.iconst 3, 1) := by decide +kernel
theorem dX7_end_36 : decode cX7_end 36 = .ok (.iload_n 1, 1) := by decide +kernel
theorem dX7_end_37 : decode cX7_end 37 = .ok (.imul, 1) := by decide +kernel
theorem dX7_end_38 : decode cX7_end 38 = .ok (.iload_n 2, 1) := by decide +kernel
theorem dX7_end_39 : decode cX7_end 39 = .ok (.iadd, 1) := by decide +kernel
theorem dX7_end_40 : decode cX7_end 40 = .ok (.iaload, 1) := by decide +kernel
theorem dX7_end_41 : decode cX7_end 41 = .ok (.istore_n 3, 1) := by decide +kernel
theorem dX7_end_42 : decode cX7_end 42 = .ok (.aload_n 0, 1) := by decide +kernel
theorem dX7_end_43 : decode cX7_end 43 = .ok (.getfield 7, 3) := by decide +kernel
theorem dX7_end_46 : decode cX7_end 46 = .ok (.iload_n 3, 1) := by decide +kernel
theorem dX7_end_47 : decode cX7_end 47 = .ok (.iconst 1, 1) := by decide +kernel
theorem dX7_end_48 : decode cX7_end 48 = .ok (.bastore, 1) := by decide +kernel
theorem dX7_end_49 : decode cX7_end 49 = .ok (.aload_n 0, 1) := by decide +kernel
theorem dX7_end_50 : decode cX7_end 50 = .ok (.getfield 13, 3) := by decide +kernel
theorem dX7_end_53 : decode cX7_end 53 = .ok (.iload_n 3, 1) := by decide +kernel
theorem dX7_end_54 : decode cX7_end 54 = .ok (.aload_n 0, 1) := by decide +kernel
theorem dX7_end_55 : decode cX7_end 55 = .ok (.getfield 80, 3) := by decide +kernel
theorem dX7_end_58 : decode cX7_end 58 = .ok (.iload_n 1, 1) := by decide +kernel
theorem dX7_end_59 : decode cX7_end 59 = .ok (.iaload, 1) := by decide +kernel
theorem dX7_end_60 : decode cX7_end 60 = .ok (.iload_n 2, 1) := by decide +kernel
theorem dX7_end_61 : decode cX7_end 61 = .ok (.iadd, 1) := by decide +kernel
theorem dX7_end_62 : decode cX7_end 62 = .ok (.aload_n 0, 1) := by decide +kernel
theorem dX7_end_63 : decode cX7_end 63 = .ok (.getfield 26, 3) := by decide +kernel
theorem dX7_end_66 : decode cX7_end 66 = .ok (.iload_n 1, 1) := by decide +kernel
theorem dX7_end_67 : decode cX7_end 67 = .ok (.iaload, 1) := by decide +kernel
theorem dX7_end_68 : decode cX7_end 68 = .ok (.iand, 1) := by decide +kernel
theorem dX7_end_69 : decode cX7_end 69 = .ok (.iastore, 1) := by decide +kernel
theorem dX7_end_70 : decode cX7_end 70 = .ok (.aload_n 0, 1) := by decide +kernel
theorem dX7_end_71 : decode cX7_end 71 = .ok (.getfield 62, 3) := by decide +kernel
theorem dX7_end_74 : decode cX7_end 74 = .ok (.iconst 3, 1) := by decide +kernel
theorem dX7_end_75 : decode cX7_end 75 = .ok (.iload_n 1, 1) := by decide +kernel
theorem dX7_end_76 : decode cX7_end 76 = .ok (.imul, 1) := by decide +kernel
theorem dX7_end_77 : decode cX7_end 77 = .ok (.iload_n 2, 1) := by decide +kernel
theorem dX7_end_78 : decode cX7_end 78 = .ok (.iadd, 1) := by decide +kernel
theorem dX7_end_79 : decode cX7_end 79 = .ok (.iload_n 3, 1) := by decide +kernel
theorem dX7_end_80 : decode cX7_end 80 = .ok (.iastore, 1) := by decide +kernel
theorem dX7_end_81 : decode cX7_end 81 = .ok (.iinc 2 1, 3) := by decide +kernel
theorem dX7_end_84 : decode cX7_end 84 = .ok (.goto (-63), 3) := by decide +kernel
theorem dX7_end_87 : decode cX7_end 87 = .ok (.aload_n 0, 1) := by decide +kernel
theorem dX7_end_88 : decode cX7_end 88 = .ok (.getfield 44, 3) := by decide +kernel
theorem dX7_end_91 : decode cX7_end 91 = .ok (.iload_n 1, 1) := by decide +kernel
theorem dX7_end_92 : decode cX7_end 92 = .ok (.iconst 1, 1) := by decide +kernel
theorem dX7_end_93 : decode cX7_end 93 = .ok (.bastore, 1) := by decide +kernel
theorem dX7_end_94 : decode cX7_end 94 = .ok (.aload_n 0, 1) := by decide +kernel
theorem dX7_end_95 : decode cX7_end 95 = .ok (.getfield 47, 3) := by decide +kernel
theorem dX7_end_98 : decode cX7_end 98 = .ok (.iload_n 1, 1) := by decide +kernel
theorem dX7_end_99 : decode cX7_end 99 = .ok (.aload_n 0, 1) := by decide +kernel
theorem dX7_end_100 : decode cX7_end 100 = .ok (.getfield 23, 3) := by decide +kernel
theorem dX7_end_103 : decode cX7_end 103 = .ok (.iload_n 1, 1) := by decide +kernel
theorem dX7_end_104 : decode cX7_end 104 = .ok (.iaload, 1) := by decide +kernel
theorem dX7_end_105 : decode cX7_end 105 = .ok (.iastore, 1) := by decide +kernel
theorem dX7_end_106 : decode cX7_end 106 = .ok (.aload_n 0, 1) := by decide +kernel
theorem dX7_end_107 : decode cX7_end 107 = .ok (.getfield 50, 3) := by decide +kernel
theorem dX7_end_110 : decode cX7_end 110 = .ok (.iload_n 1, 1) := by decide +kernel
theorem dX7_end_111 : decode cX7_end 111 = .ok (.aload_n 0, 1) := by decide +kernel
theorem dX7_end_112 : decode cX7_end 112 = .ok (.getfield 26, 3) := by decide +kernel
theorem dX7_end_115 : decode cX7_end 115 = .ok (.iload_n 1, 1) := by decide +kernel
theorem dX7_end_116 : decode cX7_end 116 = .ok (.iaload, 1) := by decide +kernel
theorem dX7_end_117 : decode cX7_end 117 = .ok (.iastore, 1) := by decide +kernel
theorem dX7_end_118 : decode cX7_end 118 = .ok (.aload_n 0, 1) := by decide +kernel
theorem dX7_end_119 : decode cX7_end 119 = .ok (.getfield 53, 3) := by decide +kernel
theorem dX7_end_122 : decode cX7_end 122 = .ok (.iload_n 1, 1) := by decide +kernel
theorem dX7_end_123 : decode cX7_end 123 = .ok (.aload_n 0, 1) := by decide +kernel
theorem dX7_end_124 : decode cX7_end 124 = .ok (.getfield 32, 3) := by decide +kernel
theorem dX7_end_127 : decode cX7_end 127 = .ok (.iload_n 1, 1) := by decide +kernel
theorem dX7_end_128 : decode cX7_end 128 = .ok (.iaload, 1) := by decide +kernel
theorem dX7_end_129 : decode cX7_end 129 = .ok (.iastore, 1) := by decide +kernel
theorem dX7_end_130 : decode cX7_end 130 = .ok (.aload_n 0, 1) := by decide +kernel
theorem dX7_end_131 : decode cX7_end 131 = .ok (.getfield 56, 3) := by decide +kernel
theorem dX7_end_134 : decode cX7_end 134 = .ok (.iload_n 1, 1) := by decide +kernel
theorem dX7_end_135 : decode cX7_end 135 = .ok (.aload_n 0, 1) := by decide +kernel
theorem dX7_end_136 : decode cX7_end 136 = .ok (.getfield 35, 3) := by decide +kernel
theorem dX7_end_139 : decode cX7_end 139 = .ok (.iload_n 1, 1) := by decide +kernel
theorem dX7_end_140 : decode cX7_end 140 = .ok (.iaload, 1) := by decide +kernel
theorem dX7_end_141 : decode cX7_end 141 = .ok (.iastore, 1) := by decide +kernel
theorem dX7_end_142 : decode cX7_end 142 = .ok (.return_, 1) := by decide +kernel
theorem dX7_pass_0 : decode cX7_pass 0 = .ok (.iconst 1, 1) := by decide +kernel
theorem dX7_pass_1 : decode cX7_pass 1 = .ok (.istore_n 1, 1) := by decide +kernel
theorem dX7_pass_2 : decode cX7_pass 2 = .ok (.iload_n 1, 1) := by decide +kernel
theorem dX7_pass_3 : decode cX7_pass 3 = .ok (.ifCond .eq 50, 3) := by decide +kernel
theorem dX7_pass_6 : decode cX7_pass 6 = .ok (.iconst 0, 1) := by decide +kernel
theorem dX7_pass_7 : decode cX7_pass 7 = .ok (.istore_n 1, 1) := by decide +kernel
theorem dX7_pass_8 : decode cX7_pass 8 = .ok (.iconst 0, 1) := by decide +kernel
theorem dX7_pass_9 : decode cX7_pass 9 = .ok (.istore_n 2, 1) := by decide +kernel
theorem dX7_pass_10 : decode cX7_pass 10 = .ok (.iload_n 2, 1) := by decide +kernel
theorem dX7_pass_11 : decode cX7_pass 11 = .ok (.bipush 40, 2) := by decide +kernel
theorem dX7_pass_13 : decode cX7_pass 13 = .ok (.if_icmp .ge 37, 3) := by decide +kernel
theorem dX7_pass_16 : decode cX7_pass 16 = .ok (.aload_n 0, 1) := by decide +kernel
theorem dX7_pass_17 : decode cX7_pass 17 = .ok (.iload_n 2, 1) := by decide +kernel
theorem dX7_pass_18 : decode cX7_pass 18 = .ok (.invokevirtual 142, 3) := by decide +kernel
theorem dX7_pass_21 : decode cX7_pass 21 = .ok (.ifCond .eq 23, 3) := by decide +kernel
theorem dX7_pass_24 : decode cX7_pass 24 = .ok (.aload_n 0, 1) := by decide +kernel
theorem dX7_pass_25 : decode cX7_pass 25 = .ok (.iload_n 2, 1) := by decide +kernel
theorem dX7_pass_26 : decode cX7_pass 26 = .ok (.invokevirtual 124, 3) := by decide +kernel
theorem dX7_pass_29 : decode cX7_pass 29 = .ok (.ifCond .le 6, 3) := by decide +kernel
theorem dX7_pass_32 : decode cX7_pass 32 = .ok (.goto 12, 3) := by decide +kernel
theorem dX7_pass_35 : decode cX7_pass 35 = .ok (.aload_n 0, 1) := by decide +kernel
theorem dX7_pass_36 : decode cX7_pass 36 = .ok (.getfield 74, 3) := by decide +kernel
theorem dX7_pass_39 : decode cX7_pass 39 = .ok (.iload_n 2, 1) := by decide +kernel
theorem dX7_pass_40 : decode cX7_pass 40 = .ok (.iconst 2, 1) := by decide +kernel
theorem dX7_pass_41 : decode cX7_pass 41 = .ok (.iastore, 1) := by decide +kernel
theorem dX7_pass_42 : decode cX7_pass 42 = .ok (.iconst 1, 1) := by decide +kernel
theorem dX7_pass_43 : decode cX7_pass 43 = .ok (.istore_n 1, 1) := by decide +kernel
theorem dX7_pass_44 : decode cX7_pass 44 = .ok (.iinc 2 1, 3) := by decide +kernel
theorem dX7_pass_47 : decode cX7_pass 47 = .ok (.goto (-37), 3) := by decide +kernel
theorem dX7_pass_50 : decode cX7_pass 50 = .ok (.goto (-48), 3) := by decide +kernel
theorem dX7_pass_53 : decode cX7_pass 53 = .ok (.return_, 1) := by decide +kernel
theorem dX7_start_0 : decode cX7_start 0 = .ok (.aload_n 0, 1) := by decide +kernel
theorem dX7_start_1 : decode cX7_start 1 = .ok (.getfield 23, 3) := by decide +kernel
theorem dX7_start_4 : decode cX7_start 4 = .ok (.iload_n 1, 1) := by decide +kernel
theorem dX7_start_5 : decode cX7_start 5 = .ok (.iaload, 1) := by decide +kernel
theorem dX7_start_6 : decode cX7_start 6 = .ok (.istore_n 3, 1) := by decide +kernel
theorem dX7_start_7 : decode cX7_start 7 = .ok (.iconst 0, 1) := by decide +kernel
theorem dX7_start_8 : decode cX7_start 8 = .ok (.istore 4, 2) := by decide +kernel
theorem dX7_start_10 : decode cX7_start 10 = .ok (.iload 4, 2) := by decide +kernel
theorem dX7_start_12 : decode cX7_start 12 = .ok (.aload_n 0, 1) := by decide +kernel
theorem dX7_start_13 : decode cX7_start 13 = .ok (.getfield 32, 3) := by decide +kernel
theorem dX7_start_16 : decode cX7_start 16 = .ok (.iload_n 1, 1) := by decide +kernel
theorem dX7_start_17 : decode cX7_start 17 = .ok (.iaload, 1) := by decide +kernel
theorem dX7_start_18 : decode cX7_start 18 = .ok (.if_icmp .ge 69, 3) := by decide +kernel
theorem dX7_start_21 : decode cX7_start 21 = .ok (.aload_n 0, 1) := by decide +kernel
theorem dX7_start_22 : decode cX7_start 22 = .ok (.getfield 38, 3) := by decide +kernel
theorem dX7_start_25 : decode cX7_start 25 = .ok (.bipush 6, 2) := by decide +kernel
theorem dX7_start_27 : decode cX7_start 27 = .ok (.iload_n 1, 1) := by decide +kernel
theorem dX7_start_28 : decode cX7_start 28 = .ok (.imul, 1) := by decide +kernel
theorem dX7_start_29 : decode cX7_start 29 = .ok (.iload 4, 2) := by decide +kernel
theorem dX7_start_31 : decode cX7_start 31 = .ok (.iadd, 1) := by decide +kernel
theorem dX7_start_32 : decode cX7_start 32 = .ok (.iaload, 1) := by decide +kernel
theorem dX7_start_33 : decode cX7_start 33 = .ok (.istore 5, 2) := by decide +kernel
theorem dX7_start_35 : decode cX7_start 35 = .ok (.iload_n 3, 1) := by decide +kernel
theorem dX7_start_36 : decode cX7_start 36 = .ok (.aload_n 0, 1) := by decide +kernel
theorem dX7_start_37 : decode cX7_start 37 = .ok (.getfield 13, 3) := by decide +kernel
theorem dX7_start_40 : decode cX7_start 40 = .ok (.iload 5, 2) := by decide +kernel
theorem dX7_start_42 : decode cX7_start 42 = .ok (.iaload, 1) := by decide +kernel
theorem dX7_start_43 : decode cX7_start 43 = .ok (.ixor, 1) := by decide +kernel
theorem dX7_start_44 : decode cX7_start 44 = .ok (.ldc 145, 2) := by decide +kernel
theorem dX7_start_46 : decode cX7_start 46 = .ok (.imul, 1) := by decide +kernel
theorem dX7_start_47 : decode cX7_start 47 = .ok (.istore_n 3, 1) := by decide +kernel
theorem dX7_start_48 : decode cX7_start 48 = .ok (.aload_n 0, 1) := by decide +kernel
theorem dX7_start_49 : decode cX7_start 49 = .ok (.getfield 59, 3) := by decide +kernel
theorem dX7_start_52 : decode cX7_start 52 = .ok (.bipush 6, 2) := by decide +kernel
theorem dX7_start_54 : decode cX7_start 54 = .ok (.iload_n 1, 1) := by decide +kernel
theorem dX7_start_55 : decode cX7_start 55 = .ok (.imul, 1) := by decide +kernel
theorem dX7_start_56 : decode cX7_start 56 = .ok (.iload 4, 2) := by decide +kernel
theorem dX7_start_58 : decode cX7_start 58 = .ok (.iadd, 1) := by decide +kernel
theorem dX7_start_59 : decode cX7_start 59 = .ok (.iload 5, 2) := by decide +kernel
theorem dX7_start_61 : decode cX7_start 61 = .ok (.iastore, 1) := by decide +kernel
theorem dX7_start_62 : decode cX7_start 62 = .ok (.aload_n 0, 1) := by decide +kernel
theorem dX7_start_63 : decode cX7_start 63 = .ok (.getfield 65, 3) := by decide +kernel
theorem dX7_start_66 : decode cX7_start 66 = .ok (.bipush 6, 2) := by decide +kernel
theorem dX7_start_68 : decode cX7_start 68 = .ok (.iload_n 1, 1) := by decide +kernel
theorem dX7_start_69 : decode cX7_start 69 = .ok (.imul, 1) := by decide +kernel
theorem dX7_start_70 : decode cX7_start 70 = .ok (.iload 4, 2) := by decide +kernel
theorem dX7_start_72 : decode cX7_start 72 = .ok (.iadd, 1) := by decide +kernel
theorem dX7_start_73 : decode cX7_start 73 = .ok (.aload_n 0, 1) := by decide +kernel
theorem dX7_start_74 : decode cX7_start 74 = .ok (.getfield 13, 3) := by decide +kernel
theorem dX7_start_77 : decode cX7_start 77 = .ok (.iload 5, 2) := by decide +kernel
theorem dX7_start_79 : decode cX7_start 79 = .ok (.iaload, 1) := by decide +kernel
theorem dX7_start_80 : decode cX7_start 80 = .ok (.iastore, 1) := by decide +kernel
theorem dX7_start_81 : decode cX7_start 81 = .ok (.iinc 4 1, 3) := by decide +kernel
theorem dX7_start_84 : decode cX7_start 84 = .ok (.goto (-74), 3) := by decide +kernel
theorem dX7_start_87 : decode cX7_start 87 = .ok (.aload_n 0, 1) := by decide +kernel
theorem dX7_start_88 : decode cX7_start 88 = .ok (.getfield 89, 3) := by decide +kernel
theorem dX7_start_91 : decode cX7_start 91 = .ok (.aload_n 0, 1) := by decide +kernel
theorem dX7_start_92 : decode cX7_start 92 = .ok (.getfield 146, 3) := by decide +kernel
theorem dX7_start_95 : decode cX7_start 95 = .ok (.iload_n 1, 1) := by decide +kernel
theorem dX7_start_96 : decode cX7_start 96 = .ok (.iastore, 1) := by decide +kernel
theorem dX7_start_97 : decode cX7_start 97 = .ok (.aload_n 0, 1) := by decide +kernel
theorem dX7_start_98 : decode cX7_start 98 = .ok (.getfield 92, 3) := by decide +kernel
theorem dX7_start_101 : decode cX7_start 101 = .ok (.aload_n 0, 1) := by decide +kernel
theorem dX7_start_102 : decode cX7_start 102 = .ok (.getfield 146, 3) := by decide +kernel
theorem dX7_start_105 : decode cX7_start 105 = .ok (.aload_n 0, 1) := by decide +kernel
theorem dX7_start_106 : decode cX7_start 106 = .ok (.getfield 149, 3) := by decide +kernel
theorem dX7_start_109 : decode cX7_start 109 = .ok (.iastore, 1) := by decide +kernel
theorem dX7_start_110 : decode cX7_start 110 = .ok (.aload_n 0, 1) := by decide +kernel
theorem dX7_start_111 : decode cX7_start 111 = .ok (.getfield 95, 3) := by decide +kernel
theorem dX7_start_114 : decode cX7_start 114 = .ok (.aload_n 0, 1) := by decide +kernel
theorem dX7_start_115 : decode cX7_start 115 = .ok (.getfield 146, 3) := by decide +kernel
theorem dX7_start_118 : decode cX7_start 118 = .ok (.aload_n 0, 1) := by decide +kernel
theorem dX7_start_119 : decode cX7_start 119 = .ok (.getfield 149, 3) := by decide +kernel
theorem dX7_start_122 : decode cX7_start 122 = .ok (.aload_n 0, 1) := by decide +kernel
theorem dX7_start_123 : decode cX7_start 123 = .ok (.getfield 29, 3) := by decide +kernel
theorem dX7_start_126 : decode cX7_start 126 = .ok (.iload_n 1, 1) := by decide +kernel
theorem dX7_start_127 : decode cX7_start 127 = .ok (.iaload, 1) := by decide +kernel
theorem dX7_start_128 : decode cX7_start 128 = .ok (.iadd, 1) := by decide +kernel
theorem dX7_start_129 : decode cX7_start 129 = .ok (.iastore, 1) := by decide +kernel
theorem dX7_start_130 : decode cX7_start 130 = .ok (.aload_n 0, 1) := by decide +kernel
theorem dX7_start_131 : decode cX7_start 131 = .ok (.getfield 98, 3) := by decide +kernel
theorem dX7_start_134 : decode cX7_start 134 = .ok (.aload_n 0, 1) := by decide +kernel
theorem dX7_start_135 : decode cX7_start 135 = .ok (.getfield 146, 3) := by decide +kernel
theorem dX7_start_138 : decode cX7_start 138 = .ok (.iload_n 2, 1) := by decide +kernel
theorem dX7_start_139 : decode cX7_start 139 = .ok (.iastore, 1) := by decide +kernel
theorem dX7_start_140 : decode cX7_start 140 = .ok (.aload_n 0, 1) := by decide +kernel
theorem dX7_start_141 : decode cX7_start 141 = .ok (.dup, 1) := by decide +kernel
theorem dX7_start_142 : decode cX7_start 142 = .ok (.getfield 146, 3) := by decide +kernel
theorem dX7_start_145 : decode cX7_start 145 = .ok (.iconst 1, 1) := by decide +kernel
theorem dX7_start_146 : decode cX7_start 146 = .ok (.iadd, 1) := by decide +kernel
theorem dX7_start_147 : decode cX7_start 147 = .ok (.putfield 146, 3) := by decide +kernel
theorem dX7_start_150 : decode cX7_start 150 = .ok (.aload_n 0, 1) := by decide +kernel
theorem dX7_start_151 : decode cX7_start 151 = .ok (.dup, 1) := by decide +kernel
theorem dX7_start_152 : decode cX7_start 152 = .ok (.getfield 152, 3) := by decide +kernel
theorem dX7_start_155 : decode cX7_start 155 = .ok (.aload_n 0, 1) := by decide +kernel
theorem dX7_start_156 : decode cX7_start 156 = .ok (.getfield 29, 3) := by decide +kernel
theorem dX7_start_159 : decode cX7_start 159 = .ok (.iload_n 1, 1) := by decide +kernel
theorem dX7_start_160 : decode cX7_start 160 = .ok (.iaload, 1) := by decide +kernel
theorem dX7_start_161 : decode cX7_start 161 = .ok (.iadd, 1) := by decide +kernel
theorem dX7_start_162 : decode cX7_start 162 = .ok (.putfield 152, 3) := by decide +kernel
theorem dX7_start_165 : decode cX7_start 165 = .ok (.aload_n 0, 1) := by decide +kernel
theorem dX7_start_166 : decode cX7_start 166 = .ok (.getfield 80, 3) := by decide +kernel
theorem dX7_start_169 : decode cX7_start 169 = .ok (.iload_n 1, 1) := by decide +kernel
theorem dX7_start_170 : decode cX7_start 170 = .ok (.iload_n 3, 1) := by decide +kernel
theorem dX7_start_171 : decode cX7_start 171 = .ok (.iastore, 1) := by decide +kernel
theorem dX7_start_172 : decode cX7_start 172 = .ok (.aload_n 0, 1) := by decide +kernel
theorem dX7_start_173 : decode cX7_start 173 = .ok (.getfield 74, 3) := by decide +kernel
theorem dX7_start_176 : decode cX7_start 176 = .ok (.iload_n 1, 1) := by decide +kernel
theorem dX7_start_177 : decode cX7_start 177 = .ok (.iconst 1, 1) := by decide +kernel
theorem dX7_start_178 : decode cX7_start 178 = .ok (.iastore, 1) := by decide +kernel
theorem dX7_start_179 : decode cX7_start 179 = .ok (.aload_n 0, 1) := by decide +kernel
theorem dX7_start_180 : decode cX7_start 180 = .ok (.getfield 77, 3) := by decide +kernel
theorem dX7_start_183 : decode cX7_start 183 = .ok (.iload_n 1, 1) := by decide +kernel
theorem dX7_start_184 : decode cX7_start 184 = .ok (.aload_n 0, 1) := by decide +kernel
theorem dX7_start_185 : decode cX7_start 185 = .ok (.getfield 149, 3) := by decide +kernel
theorem dX7_start_188 : decode cX7_start 188 = .ok (.aload_n 0, 1) := by decide +kernel
theorem dX7_start_189 : decode cX7_start 189 = .ok (.getfield 29, 3) := by decide +kernel
theorem dX7_start_192 : decode cX7_start 192 = .ok (.iload_n 1, 1) := by decide +kernel
theorem dX7_start_193 : decode cX7_start 193 = .ok (.iaload, 1) := by decide +kernel
theorem dX7_start_194 : decode cX7_start 194 = .ok (.iadd, 1) := by decide +kernel
theorem dX7_start_195 : decode cX7_start 195 = .ok (.iastore, 1) := by decide +kernel
theorem dX7_start_196 : decode cX7_start 196 = .ok (.aload_n 0, 1) := by decide +kernel
theorem dX7_start_197 : decode cX7_start 197 = .ok (.getfield 83, 3) := by decide +kernel
theorem dX7_start_200 : decode cX7_start 200 = .ok (.iload_n 1, 1) := by decide +kernel
theorem dX7_start_201 : decode cX7_start 201 = .ok (.iload_n 2, 1) := by decide +kernel
theorem dX7_start_202 : decode cX7_start 202 = .ok (.iastore, 1) := by decide +kernel
theorem dX7_start_203 : decode cX7_start 203 = .ok (.aload_n 0, 1) := by decide +kernel
theorem dX7_start_204 : decode cX7_start 204 = .ok (.getfield 86, 3) := by decide +kernel
theorem dX7_start_207 : decode cX7_start 207 = .ok (.iload_n 2, 1) := by decide +kernel
theorem dX7_start_208 : decode cX7_start 208 = .ok (.iconst 1, 1) := by decide +kernel
theorem dX7_start_209 : decode cX7_start 209 = .ok (.bastore, 1) := by decide +kernel
theorem dX7_start_210 : decode cX7_start 210 = .ok (.return_, 1) := by decide +kernel
theorem dX7_hire_0 : decode cX7_hire 0 = .ok (.iconst 0, 1) := by decide +kernel
theorem dX7_hire_1 : decode cX7_hire 1 = .ok (.istore_n 2, 1) := by decide +kernel
theorem dX7_hire_2 : decode cX7_hire 2 = .ok (.iload_n 2, 1) := by decide +kernel
theorem dX7_hire_3 : decode cX7_hire 3 = .ok (.iload_n 1, 1) := by decide +kernel
theorem dX7_hire_4 : decode cX7_hire 4 = .ok (.if_icmp .ge 98, 3) := by decide +kernel
theorem dX7_hire_7 : decode cX7_hire 7 = .ok (.aload_n 0, 1) := by decide +kernel
theorem dX7_hire_8 : decode cX7_hire 8 = .ok (.getfield 86, 3) := by decide +kernel
theorem dX7_hire_11 : decode cX7_hire 11 = .ok (.iload_n 2, 1) := by decide +kernel
theorem dX7_hire_12 : decode cX7_hire 12 = .ok (.baload, 1) := by decide +kernel
theorem dX7_hire_13 : decode cX7_hire 13 = .ok (.ifCond .eq 6, 3) := by decide +kernel
theorem dX7_hire_16 : decode cX7_hire 16 = .ok (.goto 80, 3) := by decide +kernel
theorem dX7_hire_19 : decode cX7_hire 19 = .ok (.iconst (-1), 1) := by decide +kernel
theorem dX7_hire_20 : decode cX7_hire 20 = .ok (.istore_n 3, 1) := by decide +kernel
theorem dX7_hire_21 : decode cX7_hire 21 = .ok (.iconst 0, 1) := by decide +kernel
theorem dX7_hire_22 : decode cX7_hire 22 = .ok (.istore 4, 2) := by decide +kernel
theorem dX7_hire_24 : decode cX7_hire 24 = .ok (.iload 4, 2) := by decide +kernel
theorem dX7_hire_26 : decode cX7_hire 26 = .ok (.bipush 40, 2) := by decide +kernel
theorem dX7_hire_28 : decode cX7_hire 28 = .ok (.if_icmp .ge 42, 3) := by decide +kernel
theorem dX7_hire_31 : decode cX7_hire 31 = .ok (.aload_n 0, 1) := by decide +kernel
theorem dX7_hire_32 : decode cX7_hire 32 = .ok (.iload 4, 2) := by decide +kernel
theorem dX7_hire_34 : decode cX7_hire 34 = .ok (.invokevirtual 142, 3) := by decide +kernel
theorem dX7_hire_37 : decode cX7_hire 37 = .ok (.ifCond .eq 27, 3) := by decide +kernel
theorem dX7_hire_40 : decode cX7_hire 40 = .ok (.iload_n 3, 1) := by decide +kernel
theorem dX7_hire_41 : decode cX7_hire 41 = .ok (.iconst (-1), 1) := by decide +kernel
theorem dX7_hire_42 : decode cX7_hire 42 = .ok (.if_icmp .eq 19, 3) := by decide +kernel
theorem dX7_hire_45 : decode cX7_hire 45 = .ok (.aload_n 0, 1) := by decide +kernel
theorem dX7_hire_46 : decode cX7_hire 46 = .ok (.getfield 71, 3) := by decide +kernel
theorem dX7_hire_49 : decode cX7_hire 49 = .ok (.iload 4, 2) := by decide +kernel
theorem dX7_hire_51 : decode cX7_hire 51 = .ok (.iaload, 1) := by decide +kernel
theorem dX7_hire_52 : decode cX7_hire 52 = .ok (.aload_n 0, 1) := by decide +kernel
theorem dX7_hire_53 : decode cX7_hire 53 = .ok (.getfield 71, 3) := by decide +kernel
theorem dX7_hire_56 : decode cX7_hire 56 = .ok (.iload_n 3, 1) := by decide +kernel
theorem dX7_hire_57 : decode cX7_hire 57 = .ok (.iaload, 1) := by decide +kernel
theorem dX7_hire_58 : decode cX7_hire 58 = .ok (.if_icmp .le 6, 3) := by decide +kernel
theorem dX7_hire_61 : decode cX7_hire 61 = .ok (.iload 4, 2) := by decide +kernel
theorem dX7_hire_63 : decode cX7_hire 63 = .ok (.istore_n 3, 1) := by decide +kernel
theorem dX7_hire_64 : decode cX7_hire 64 = .ok (.iinc 4 1, 3) := by decide +kernel
theorem dX7_hire_67 : decode cX7_hire 67 = .ok (.goto (-43), 3) := by decide +kernel
theorem dX7_hire_70 : decode cX7_hire 70 = .ok (.iload_n 3, 1) := by decide +kernel
theorem dX7_hire_71 : decode cX7_hire 71 = .ok (.iconst (-1), 1) := by decide +kernel
theorem dX7_hire_72 : decode cX7_hire 72 = .ok (.if_icmp .ne 4, 3) := by decide +kernel
theorem dX7_hire_75 : decode cX7_hire 75 = .ok (.return_, 1) := by decide +kernel
theorem dX7_hire_76 : decode cX7_hire 76 = .ok (.aload_n 0, 1) := by decide +kernel
theorem dX7_hire_77 : decode cX7_hire 77 = .ok (.getfield 101, 3) := by decide +kernel
theorem dX7_hire_80 : decode cX7_hire 80 = .ok (.aload_n 0, 1) := by decide +kernel
theorem dX7_hire_81 : decode cX7_hire 81 = .ok (.getfield 146, 3) := by decide +kernel
theorem dX7_hire_84 : decode cX7_hire 84 = .ok (.aload_n 0, 1) := by decide +kernel
theorem dX7_hire_85 : decode cX7_hire 85 = .ok (.iload_n 3, 1) := by decide +kernel
theorem dX7_hire_86 : decode cX7_hire 86 = .ok (.invokevirtual 124, 3) := by decide +kernel
theorem dX7_hire_89 : decode cX7_hire 89 = .ok (.iastore, 1) := by decide +kernel
theorem dX7_hire_90 : decode cX7_hire 90 = .ok (.aload_n 0, 1) := by decide +kernel
theorem dX7_hire_91 : decode cX7_hire 91 = .ok (.iload_n 3, 1) := by decide +kernel
theorem dX7_hire_92 : decode cX7_hire 92 = .ok (.iload_n 2, 1) := by decide +kernel
theorem dX7_hire_93 : decode cX7_hire 93 = .ok (.invokevirtual 155, 3) := by decide +kernel
theorem dX7_hire_96 : decode cX7_hire 96 = .ok (.iinc 2 1, 3) := by decide +kernel
theorem dX7_hire_99 : decode cX7_hire 99 = .ok (.goto (-97), 3) := by decide +kernel
theorem dX7_hire_102 : decode cX7_hire 102 = .ok (.return_, 1) := by decide +kernel
theorem dX7_build_0 : decode cX7_build 0 = .ok (.iload_n 1, 1) := by decide +kernel
theorem dX7_build_1 : decode cX7_build 1 = .ok (.invokestatic 118, 3) := by decide +kernel
theorem dX7_build_4 : decode cX7_build 4 = .ok (.ifCond .eq 14, 3) := by decide +kernel
theorem dX7_build_7 : decode cX7_build 7 = .ok (.iload_n 2, 1) := by decide +kernel
theorem dX7_build_8 : decode cX7_build 8 = .ok (.iconst 1, 1) := by decide +kernel
theorem dX7_build_9 : decode cX7_build 9 = .ok (.if_icmp .lt 9, 3) := by decide +kernel
theorem dX7_build_12 : decode cX7_build 12 = .ok (.iload_n 2, 1) := by decide +kernel
theorem dX7_build_13 : decode cX7_build 13 = .ok (.bipush 8, 2) := by decide +kernel
theorem dX7_build_15 : decode cX7_build 15 = .ok (.if_icmp .le 9, 3) := by decide +kernel
theorem dX7_build_18 : decode cX7_build 18 = .ok (.aload_n 0, 1) := by decide +kernel
theorem dX7_build_19 : decode cX7_build 19 = .ok (.iconst 1, 1) := by decide +kernel
theorem dX7_build_20 : decode cX7_build 20 = .ok (.invokevirtual 159, 3) := by decide +kernel
theorem dX7_build_23 : decode cX7_build 23 = .ok (.ireturn, 1) := by decide +kernel
theorem dX7_build_24 : decode cX7_build 24 = .ok (.aload_n 0, 1) := by decide +kernel
theorem dX7_build_25 : decode cX7_build 25 = .ok (.iload_n 1, 1) := by decide +kernel
theorem dX7_build_26 : decode cX7_build 26 = .ok (.invokevirtual 162, 3) := by decide +kernel
theorem dX7_build_29 : decode cX7_build 29 = .ok (.aload_n 0, 1) := by decide +kernel
theorem dX7_build_30 : decode cX7_build 30 = .ok (.invokevirtual 165, 3) := by decide +kernel
theorem dX7_build_33 : decode cX7_build 33 = .ok (.ifCond .ne 11, 3) := by decide +kernel
theorem dX7_build_36 : decode cX7_build 36 = .ok (.aload_n 0, 1) := by decide +kernel
theorem dX7_build_37 : decode cX7_build 37 = .ok (.iload_n 1, 1) := by decide +kernel
theorem dX7_build_38 : decode cX7_build 38 = .ok (.invokevirtual 169, 3) := by decide +kernel
theorem dX7_build_41 : decode cX7_build 41 = .ok (.ifCond .eq 9, 3) := by decide +kernel
theorem dX7_build_44 : decode cX7_build 44 = .ok (.aload_n 0, 1) := by decide +kernel
theorem dX7_build_45 : decode cX7_build 45 = .ok (.iconst 2, 1) := by decide +kernel
theorem dX7_build_46 : decode cX7_build 46 = .ok (.invokevirtual 159, 3) := by decide +kernel
theorem dX7_build_49 : decode cX7_build 49 = .ok (.ireturn, 1) := by decide +kernel
theorem dX7_build_50 : decode cX7_build 50 = .ok (.aload_n 0, 1) := by decide +kernel
theorem dX7_build_51 : decode cX7_build 51 = .ok (.iconst 0, 1) := by decide +kernel
theorem dX7_build_52 : decode cX7_build 52 = .ok (.putfield 110, 3) := by decide +kernel
theorem dX7_build_55 : decode cX7_build 55 = .ok (.aload_n 0, 1) := by decide +kernel
theorem dX7_build_56 : decode cX7_build 56 = .ok (.invokevirtual 172, 3) := by decide +kernel
theorem dX7_build_59 : decode cX7_build 59 = .ok (.aload_n 0, 1) := by decide +kernel
theorem dX7_build_60 : decode cX7_build 60 = .ok (.iconst 0, 1) := by decide +kernel
theorem dX7_build_61 : decode cX7_build 61 = .ok (.putfield 146, 3) := by decide +kernel
theorem dX7_build_64 : decode cX7_build 64 = .ok (.aload_n 0, 1) := by decide +kernel
theorem dX7_build_65 : decode cX7_build 65 = .ok (.iconst 0, 1) := by decide +kernel
theorem dX7_build_66 : decode cX7_build 66 = .ok (.putfield 175, 3) := by decide +kernel
theorem dX7_build_69 : decode cX7_build 69 = .ok (.aload_n 0, 1) := by decide +kernel
theorem dX7_build_70 : decode cX7_build 70 = .ok (.iconst 0, 1) := by decide +kernel
theorem dX7_build_71 : decode cX7_build 71 = .ok (.putfield 152, 3) := by decide +kernel
theorem dX7_build_74 : decode cX7_build 74 = .ok (.aload_n 0, 1) := by decide +kernel
theorem dX7_build_75 : decode cX7_build 75 = .ok (.iconst 0, 1) := by decide +kernel
theorem dX7_build_76 : decode cX7_build 76 = .ok (.putfield 178, 3) := by decide +kernel
theorem dX7_build_79 : decode cX7_build 79 = .ok (.aload_n 0, 1) := by decide +kernel
theorem dX7_build_80 : decode cX7_build 80 = .ok (.iconst 0, 1) := by decide +kernel
theorem dX7_build_81 : decode cX7_build 81 = .ok (.putfield 149, 3) := by decide +kernel
theorem dX7_build_84 : decode cX7_build 84 = .ok (.iconst 0, 1) := by decide +kernel
theorem dX7_build_85 : decode cX7_build 85 = .ok (.istore_n 3, 1) := by decide +kernel
theorem dX7_build_86 : decode cX7_build 86 = .ok (.iload_n 3, 1) := by decide +kernel
theorem dX7_build_87 : decode cX7_build 87 = .ok (.bipush 40, 2) := by decide +kernel
theorem dX7_build_89 : decode cX7_build 89 = .ok (.if_icmp .ge 69, 3) := by decide +kernel
theorem dX7_build_92 : decode cX7_build 92 = .ok (.aload_n 0, 1) := by decide +kernel
theorem dX7_build_93 : decode cX7_build 93 = .ok (.getfield 74, 3) := by decide +kernel
theorem dX7_build_96 : decode cX7_build 96 = .ok (.iload_n 3, 1) := by decide +kernel
theorem dX7_build_97 : decode cX7_build 97 = .ok (.iconst 0, 1) := by decide +kernel
theorem dX7_build_98 : decode cX7_build 98 = .ok (.iastore, 1) := by decide +kernel
theorem dX7_build_99 : decode cX7_build 99 = .ok (.aload_n 0, 1) := by decide +kernel
theorem dX7_build_100 : decode cX7_build 100 = .ok (.dup, 1) := by decide +kernel
theorem dX7_build_101 : decode cX7_build 101 = .ok (.getfield 175, 3) := by decide +kernel
theorem dX7_build_104 : decode cX7_build 104 = .ok (.aload_n 0, 1) := by decide +kernel
theorem dX7_build_105 : decode cX7_build 105 = .ok (.getfield 68, 3) := by decide +kernel
theorem dX7_build_108 : decode cX7_build 108 = .ok (.iload_n 3, 1) := by decide +kernel
theorem dX7_build_109 : decode cX7_build 109 = .ok (.baload, 1) := by decide +kernel
theorem dX7_build_110 : decode cX7_build 110 = .ok (.ifCond .eq 7, 3) := by decide +kernel
theorem dX7_build_113 : decode cX7_build 113 = .ok (.iconst 1, 1) := by decide +kernel
theorem dX7_build_114 : decode cX7_build 114 = .ok (.goto 4, 3) := by decide +kernel
theorem dX7_build_117 : decode cX7_build 117 = .ok (.iconst 0, 1) := by decide +kernel
theorem dX7_build_118 : decode cX7_build 118 = .ok (.iadd, 1) := by decide +kernel
theorem dX7_build_119 : decode cX7_build 119 = .ok (.putfield 175, 3) := by decide +kernel
theorem dX7_build_122 : decode cX7_build 122 = .ok (.aload_n 0, 1) := by decide +kernel
theorem dX7_build_123 : decode cX7_build 123 = .ok (.aload_n 0, 1) := by decide +kernel
theorem dX7_build_124 : decode cX7_build 124 = .ok (.getfield 71, 3) := by decide +kernel
theorem dX7_build_127 : decode cX7_build 127 = .ok (.iload_n 3, 1) := by decide +kernel
theorem dX7_build_128 : decode cX7_build 128 = .ok (.iaload, 1) := by decide +kernel
theorem dX7_build_129 : decode cX7_build 129 = .ok (.aload_n 0, 1) := by decide +kernel
theorem dX7_build_130 : decode cX7_build 130 = .ok (.getfield 178, 3) := by decide +kernel
theorem dX7_build_133 : decode cX7_build 133 = .ok (.if_icmp .le 12, 3) := by decide +kernel
theorem dX7_build_136 : decode cX7_build 136 = .ok (.aload_n 0, 1) := by decide +kernel
theorem dX7_build_137 : decode cX7_build 137 = .ok (.getfield 71, 3) := by decide +kernel
theorem dX7_build_140 : decode cX7_build 140 = .ok (.iload_n 3, 1) := by decide +kernel
theorem dX7_build_141 : decode cX7_build 141 = .ok (.iaload, 1) := by decide +kernel
theorem dX7_build_142 : decode cX7_build 142 = .ok (.goto 7, 3) := by decide +kernel
theorem dX7_build_145 : decode cX7_build 145 = .ok (.aload_n 0, 1) := by decide +kernel
theorem dX7_build_146 : decode cX7_build 146 = .ok (.getfield 178, 3) := by decide +kernel
theorem dX7_build_149 : decode cX7_build 149 = .ok (.putfield 178, 3) := by decide +kernel
theorem dX7_build_152 : decode cX7_build 152 = .ok (.iinc 3 1, 3) := by decide +kernel
theorem dX7_build_155 : decode cX7_build 155 = .ok (.goto (-69), 3) := by decide +kernel
theorem dX7_build_158 : decode cX7_build 158 = .ok (.iconst 0, 1) := by decide +kernel
theorem dX7_build_159 : decode cX7_build 159 = .ok (.istore_n 3, 1) := by decide +kernel
theorem dX7_build_160 : decode cX7_build 160 = .ok (.iload_n 3, 1) := by decide +kernel
theorem dX7_build_161 : decode cX7_build 161 = .ok (.bipush 8, 2) := by decide +kernel
theorem dX7_build_163 : decode cX7_build 163 = .ok (.if_icmp .ge 16, 3) := by decide +kernel
theorem dX7_build_166 : decode cX7_build 166 = .ok (.aload_n 0, 1) := by decide +kernel
theorem dX7_build_167 : decode cX7_build 167 = .ok (.getfield 86, 3) := by decide +kernel
theorem dX7_build_170 : decode cX7_build 170 = .ok (.iload_n 3, 1) := by decide +kernel
theorem dX7_build_171 : decode cX7_build 171 = .ok (.iconst 0, 1) := by decide +kernel
theorem dX7_build_172 : decode cX7_build 172 = .ok (.bastore, 1) := by decide +kernel
theorem dX7_build_173 : decode cX7_build 173 = .ok (.iinc 3 1, 3) := by decide +kernel
theorem dX7_build_176 : decode cX7_build 176 = .ok (.goto (-16), 3) := by decide +kernel
theorem dX7_build_179 : decode cX7_build 179 = .ok (.iconst 1, 1) := by decide +kernel
theorem dX7_build_180 : decode cX7_build 180 = .ok (.istore_n 3, 1) := by decide +kernel
theorem dX7_build_181 : decode cX7_build 181 = .ok (.iload_n 3, 1) := by decide +kernel
theorem dX7_build_182 : decode cX7_build 182 = .ok (.ifCond .eq 141, 3) := by decide +kernel
theorem dX7_build_185 : decode cX7_build 185 = .ok (.iconst 0, 1) := by decide +kernel
theorem dX7_build_186 : decode cX7_build 186 = .ok (.istore 4, 2) := by decide +kernel
theorem dX7_build_188 : decode cX7_build 188 = .ok (.iload 4, 2) := by decide +kernel
theorem dX7_build_190 : decode cX7_build 190 = .ok (.bipush 40, 2) := by decide +kernel
theorem dX7_build_192 : decode cX7_build 192 = .ok (.if_icmp .ge 40, 3) := by decide +kernel
theorem dX7_build_195 : decode cX7_build 195 = .ok (.aload_n 0, 1) := by decide +kernel
theorem dX7_build_196 : decode cX7_build 196 = .ok (.getfield 74, 3) := by decide +kernel
theorem dX7_build_199 : decode cX7_build 199 = .ok (.iload 4, 2) := by decide +kernel
theorem dX7_build_201 : decode cX7_build 201 = .ok (.iaload, 1) := by decide +kernel
theorem dX7_build_202 : decode cX7_build 202 = .ok (.iconst 1, 1) := by decide +kernel
theorem dX7_build_203 : decode cX7_build 203 = .ok (.if_icmp .ne 23, 3) := by decide +kernel
theorem dX7_build_206 : decode cX7_build 206 = .ok (.aload_n 0, 1) := by decide +kernel
theorem dX7_build_207 : decode cX7_build 207 = .ok (.getfield 77, 3) := by decide +kernel
theorem dX7_build_210 : decode cX7_build 210 = .ok (.iload 4, 2) := by decide +kernel
theorem dX7_build_212 : decode cX7_build 212 = .ok (.iaload, 1) := by decide +kernel
theorem dX7_build_213 : decode cX7_build 213 = .ok (.aload_n 0, 1) := by decide +kernel
theorem dX7_build_214 : decode cX7_build 214 = .ok (.getfield 149, 3) := by decide +kernel
theorem dX7_build_217 : decode cX7_build 217 = .ok (.if_icmp .ne 9, 3) := by decide +kernel
theorem dX7_build_220 : decode cX7_build 220 = .ok (.aload_n 0, 1) := by decide +kernel
theorem dX7_build_221 : decode cX7_build 221 = .ok (.iload 4, 2) := by decide +kernel
theorem dX7_build_223 : decode cX7_build 223 = .ok (.invokevirtual 181, 3) := by decide +kernel
theorem dX7_build_226 : decode cX7_build 226 = .ok (.iinc 4 1, 3) := by decide +kernel
theorem dX7_build_229 : decode cX7_build 229 = .ok (.goto (-41), 3) := by decide +kernel
theorem dX7_build_232 : decode cX7_build 232 = .ok (.aload_n 0, 1) := by decide +kernel
theorem dX7_build_233 : decode cX7_build 233 = .ok (.invokevirtual 184, 3) := by decide +kernel
theorem dX7_build_236 : decode cX7_build 236 = .ok (.aload_n 0, 1) := by decide +kernel
theorem dX7_build_237 : decode cX7_build 237 = .ok (.iload_n 2, 1) := by decide +kernel
theorem dX7_build_238 : decode cX7_build 238 = .ok (.invokevirtual 187, 3) := by decide +kernel
theorem dX7_build_241 : decode cX7_build 241 = .ok (.iconst (-1), 1) := by decide +kernel
theorem dX7_build_242 : decode cX7_build 242 = .ok (.istore 4, 2) := by decide +kernel
theorem dX7_build_244 : decode cX7_build 244 = .ok (.iconst 0, 1) := by decide +kernel
theorem dX7_build_245 : decode cX7_build 245 = .ok (.istore 5, 2) := by decide +kernel
theorem dX7_build_247 : decode cX7_build 247 = .ok (.iload 5, 2) := by decide +kernel
theorem dX7_build_249 : decode cX7_build 249 = .ok (.bipush 40, 2) := by decide +kernel
theorem dX7_build_251 : decode cX7_build 251 = .ok (.if_icmp .ge 47, 3) := by decide +kernel
theorem dX7_build_254 : decode cX7_build 254 = .ok (.aload_n 0, 1) := by decide +kernel
theorem dX7_build_255 : decode cX7_build 255 = .ok (.getfield 74, 3) := by decide +kernel
theorem dX7_build_258 : decode cX7_build 258 = .ok (.iload 5, 2) := by decide +kernel
theorem dX7_build_260 : decode cX7_build 260 = .ok (.iaload, 1) := by decide +kernel
theorem dX7_build_261 : decode cX7_build 261 = .ok (.iconst 1, 1) := by decide +kernel
theorem dX7_build_262 : decode cX7_build 262 = .ok (.if_icmp .ne 30, 3) := by decide +kernel
theorem dX7_build_265 : decode cX7_build 265 = .ok (.iload 4, 2) := by decide +kernel
theorem dX7_build_267 : decode cX7_build 267 = .ok (.iconst (-1), 1) := by decide +kernel
theorem dX7_build_268 : decode cX7_build 268 = .ok (.if_icmp .eq 15, 3) := by decide +kernel
theorem dX7_build_271 : decode cX7_build 271 = .ok (.aload_n 0, 1) := by decide +kernel
theorem dX7_build_272 : decode cX7_build 272 = .ok (.getfield 77, 3) := by decide +kernel
theorem dX7_build_275 : decode cX7_build 275 = .ok (.iload 5, 2) := by decide +kernel
theorem dX7_build_277 : decode cX7_build 277 = .ok (.iaload, 1) := by decide +kernel
theorem dX7_build_278 : decode cX7_build 278 = .ok (.iload 4, 2) := by decide +kernel
theorem dX7_build_280 : decode cX7_build 280 = .ok (.if_icmp .ge 12, 3) := by decide +kernel
theorem dX7_build_283 : decode cX7_build 283 = .ok (.aload_n 0, 1) := by decide +kernel
theorem dX7_build_284 : decode cX7_build 284 = .ok (.getfield 77, 3) := by decide +kernel
theorem dX7_build_287 : decode cX7_build 287 = .ok (.iload 5, 2) := by decide +kernel
theorem dX7_build_289 : decode cX7_build 289 = .ok (.iaload, 1) := by decide +kernel
theorem dX7_build_290 : decode cX7_build 290 = .ok (.istore 4, 2) := by decide +kernel
theorem dX7_build_292 : decode cX7_build 292 = .ok (.iinc 5 1, 3) := by decide +kernel
theorem dX7_build_295 : decode cX7_build 295 = .ok (.goto (-48), 3) := by decide +kernel
theorem dX7_build_298 : decode cX7_build 298 = .ok (.iload 4, 2) := by decide +kernel
theorem dX7_build_300 : decode cX7_build 300 = .ok (.iconst (-1), 1) := by decide +kernel
theorem dX7_build_301 : decode cX7_build 301 = .ok (.if_icmp .eq 7, 3) := by decide +kernel
theorem dX7_build_304 : decode cX7_build 304 = .ok (.iconst 1, 1) := by decide +kernel
theorem dX7_build_305 : decode cX7_build 305 = .ok (.goto 4, 3) := by decide +kernel
theorem dX7_build_308 : decode cX7_build 308 = .ok (.iconst 0, 1) := by decide +kernel
theorem dX7_build_309 : decode cX7_build 309 = .ok (.istore_n 3, 1) := by decide +kernel
theorem dX7_build_310 : decode cX7_build 310 = .ok (.iload_n 3, 1) := by decide +kernel
theorem dX7_build_311 : decode cX7_build 311 = .ok (.ifCond .eq 9, 3) := by decide +kernel
theorem dX7_build_314 : decode cX7_build 314 = .ok (.aload_n 0, 1) := by decide +kernel
theorem dX7_build_315 : decode cX7_build 315 = .ok (.iload 4, 2) := by decide +kernel
theorem dX7_build_317 : decode cX7_build 317 = .ok (.putfield 149, 3) := by decide +kernel
theorem dX7_build_320 : decode cX7_build 320 = .ok (.goto (-139), 3) := by decide +kernel
theorem dX7_build_323 : decode cX7_build 323 = .ok (.aload_n 0, 1) := by decide +kernel
theorem dX7_build_324 : decode cX7_build 324 = .ok (.getfield 149, 3) := by decide +kernel
theorem dX7_build_327 : decode cX7_build 327 = .ok (.ireturn, 1) := by decide +kernel
theorem dX7_count_0 : decode cX7_count 0 = .ok (.aload_n 0, 1) := by decide +kernel
theorem dX7_count_1 : decode cX7_count 1 = .ok (.iconst 0, 1) := by decide +kernel
theorem dX7_count_2 : decode cX7_count 2 = .ok (.putfield 110, 3) := by decide +kernel
theorem dX7_count_5 : decode cX7_count 5 = .ok (.iconst 0, 1) := by decide +kernel
theorem dX7_count_6 : decode cX7_count 6 = .ok (.istore_n 2, 1) := by decide +kernel
theorem dX7_count_7 : decode cX7_count 7 = .ok (.iload_n 1, 1) := by decide +kernel
theorem dX7_count_8 : decode cX7_count 8 = .ok (.tableswitch 126 0 5 #[40, 45, 50, 55, 60, 93], 40) := by decide +kernel
theorem dX7_count_48 : decode cX7_count 48 = .ok (.aload_n 0, 1) := by decide +kernel
theorem dX7_count_49 : decode cX7_count 49 = .ok (.getfield 175, 3) := by decide +kernel
theorem dX7_count_52 : decode cX7_count 52 = .ok (.ireturn, 1) := by decide +kernel
theorem dX7_count_53 : decode cX7_count 53 = .ok (.aload_n 0, 1) := by decide +kernel
theorem dX7_count_54 : decode cX7_count 54 = .ok (.getfield 146, 3) := by decide +kernel
theorem dX7_count_57 : decode cX7_count 57 = .ok (.ireturn, 1) := by decide +kernel
theorem dX7_count_58 : decode cX7_count 58 = .ok (.aload_n 0, 1) := by decide +kernel
theorem dX7_count_59 : decode cX7_count 59 = .ok (.getfield 152, 3) := by decide +kernel
theorem dX7_count_62 : decode cX7_count 62 = .ok (.ireturn, 1) := by decide +kernel
theorem dX7_count_63 : decode cX7_count 63 = .ok (.aload_n 0, 1) := by decide +kernel
theorem dX7_count_64 : decode cX7_count 64 = .ok (.getfield 178, 3) := by decide +kernel
theorem dX7_count_67 : decode cX7_count 67 = .ok (.ireturn, 1) := by decide +kernel
theorem dX7_count_68 : decode cX7_count 68 = .ok (.iconst 0, 1) := by decide +kernel
theorem dX7_count_69 : decode cX7_count 69 = .ok (.istore_n 3, 1) := by decide +kernel
theorem dX7_count_70 : decode cX7_count 70 = .ok (.iload_n 3, 1) := by decide +kernel
theorem dX7_count_71 : decode cX7_count 71 = .ok (.bipush 64, 2) := by decide +kernel
theorem dX7_count_73 : decode cX7_count 73 = .ok (.if_icmp .ge 26, 3) := by decide +kernel
theorem dX7_count_76 : decode cX7_count 76 = .ok (.iload_n 2, 1) := by decide +kernel
theorem dX7_count_77 : decode cX7_count 77 = .ok (.aload_n 0, 1) := by decide +kernel
theorem dX7_count_78 : decode cX7_count 78 = .ok (.getfield 7, 3) := by decide +kernel
theorem dX7_count_81 : decode cX7_count 81 = .ok (.iload_n 3, 1) := by decide +kernel
theorem dX7_count_82 : decode cX7_count 82 = .ok (.baload, 1) := by decide +kernel
theorem dX7_count_83 : decode cX7_count 83 = .ok (.ifCond .eq 7, 3) := by decide +kernel
theorem dX7_count_86 : decode cX7_count 86 = .ok (.iconst 1, 1) := by decide +kernel
theorem dX7_count_87 : decode cX7_count 87 = .ok (.goto 4, 3) := by decide +kernel
theorem dX7_count_90 : decode cX7_count 90 = .ok (.iconst 0, 1) := by decide +kernel
theorem dX7_count_91 : decode cX7_count 91 = .ok (.iadd, 1) := by decide +kernel
theorem dX7_count_92 : decode cX7_count 92 = .ok (.istore_n 2, 1) := by decide +kernel
theorem dX7_count_93 : decode cX7_count 93 = .ok (.iinc 3 1, 3) := by decide +kernel
theorem dX7_count_96 : decode cX7_count 96 = .ok (.goto (-26), 3) := by decide +kernel
theorem dX7_count_99 : decode cX7_count 99 = .ok (.iload_n 2, 1) := by decide +kernel
theorem dX7_count_100 : decode cX7_count 100 = .ok (.ireturn, 1) := by decide +kernel
theorem dX7_count_101 : decode cX7_count 101 = .ok (.iconst 0, 1) := by decide +kernel
theorem dX7_count_102 : decode cX7_count 102 = .ok (.istore_n 3, 1) := by decide +kernel
theorem dX7_count_103 : decode cX7_count 103 = .ok (.iload_n 3, 1) := by decide +kernel
theorem dX7_count_104 : decode cX7_count 104 = .ok (.bipush 40, 2) := by decide +kernel
theorem dX7_count_106 : decode cX7_count 106 = .ok (.if_icmp .ge 26, 3) := by decide +kernel
theorem dX7_count_109 : decode cX7_count 109 = .ok (.iload_n 2, 1) := by decide +kernel
theorem dX7_count_110 : decode cX7_count 110 = .ok (.aload_n 0, 1) := by decide +kernel
theorem dX7_count_111 : decode cX7_count 111 = .ok (.getfield 20, 3) := by decide +kernel
theorem dX7_count_114 : decode cX7_count 114 = .ok (.iload_n 3, 1) := by decide +kernel
theorem dX7_count_115 : decode cX7_count 115 = .ok (.baload, 1) := by decide +kernel
theorem dX7_count_116 : decode cX7_count 116 = .ok (.ifCond .eq 7, 3) := by decide +kernel
theorem dX7_count_119 : decode cX7_count 119 = .ok (.iconst 1, 1) := by decide +kernel
theorem dX7_count_120 : decode cX7_count 120 = .ok (.goto 4, 3) := by decide +kernel
theorem dX7_count_123 : decode cX7_count 123 = .ok (.iconst 0, 1) := by decide +kernel
theorem dX7_count_124 : decode cX7_count 124 = .ok (.iadd, 1) := by decide +kernel
theorem dX7_count_125 : decode cX7_count 125 = .ok (.istore_n 2, 1) := by decide +kernel
theorem dX7_count_126 : decode cX7_count 126 = .ok (.iinc 3 1, 3) := by decide +kernel
theorem dX7_count_129 : decode cX7_count 129 = .ok (.goto (-26), 3) := by decide +kernel
theorem dX7_count_132 : decode cX7_count 132 = .ok (.iload_n 2, 1) := by decide +kernel
theorem dX7_count_133 : decode cX7_count 133 = .ok (.ireturn, 1) := by decide +kernel
theorem dX7_count_134 : decode cX7_count 134 = .ok (.iconst (-1), 1) := by decide +kernel
theorem dX7_count_135 : decode cX7_count 135 = .ok (.ireturn, 1) := by decide +kernel
theorem dX7_begun_0 : decode cX7_begun 0 = .ok (.aload_n 0, 1) := by decide +kernel
theorem dX7_begun_1 : decode cX7_begun 1 = .ok (.iload_n 1, 1) := by decide +kernel
theorem dX7_begun_2 : decode cX7_begun 2 = .ok (.ifCond .lt 20, 3) := by decide +kernel
theorem dX7_begun_5 : decode cX7_begun 5 = .ok (.iload_n 1, 1) := by decide +kernel
theorem dX7_begun_6 : decode cX7_begun 6 = .ok (.aload_n 0, 1) := by decide +kernel
theorem dX7_begun_7 : decode cX7_begun 7 = .ok (.getfield 146, 3) := by decide +kernel
theorem dX7_begun_10 : decode cX7_begun 10 = .ok (.if_icmp .ge 12, 3) := by decide +kernel
theorem dX7_begun_13 : decode cX7_begun 13 = .ok (.iload_n 2, 1) := by decide +kernel
theorem dX7_begun_14 : decode cX7_begun 14 = .ok (.ifCond .lt 8, 3) := by decide +kernel
theorem dX7_begun_17 : decode cX7_begun 17 = .ok (.iload_n 2, 1) := by decide +kernel
theorem dX7_begun_18 : decode cX7_begun 18 = .ok (.iconst 4, 1) := by decide +kernel
theorem dX7_begun_19 : decode cX7_begun 19 = .ok (.if_icmp .le 7, 3) := by decide +kernel
theorem dX7_begun_22 : decode cX7_begun 22 = .ok (.iconst 1, 1) := by decide +kernel
theorem dX7_begun_23 : decode cX7_begun 23 = .ok (.goto 4, 3) := by decide +kernel
theorem dX7_begun_26 : decode cX7_begun 26 = .ok (.iconst 0, 1) := by decide +kernel
theorem dX7_begun_27 : decode cX7_begun 27 = .ok (.putfield 110, 3) := by decide +kernel
theorem dX7_begun_30 : decode cX7_begun 30 = .ok (.aload_n 0, 1) := by decide +kernel
theorem dX7_begun_31 : decode cX7_begun 31 = .ok (.getfield 110, 3) := by decide +kernel
theorem dX7_begun_34 : decode cX7_begun 34 = .ok (.ifCond .le 5, 3) := by decide +kernel
theorem dX7_begun_37 : decode cX7_begun 37 = .ok (.iconst 0, 1) := by decide +kernel
theorem dX7_begun_38 : decode cX7_begun 38 = .ok (.ireturn, 1) := by decide +kernel
theorem dX7_begun_39 : decode cX7_begun 39 = .ok (.iload_n 2, 1) := by decide +kernel
theorem dX7_begun_40 : decode cX7_begun 40 = .ok (.tableswitch 60 0 3 #[32, 39, 46, 53], 32) := by decide +kernel
theorem dX7_begun_72 : decode cX7_begun 72 = .ok (.aload_n 0, 1) := by decide +kernel
theorem dX7_begun_73 : decode cX7_begun 73 = .ok (.getfield 89, 3) := by decide +kernel
theorem dX7_begun_76 : decode cX7_begun 76 = .ok (.iload_n 1, 1) := by decide +kernel
theorem dX7_begun_77 : decode cX7_begun 77 = .ok (.iaload, 1) := by decide +kernel
theorem dX7_begun_78 : decode cX7_begun 78 = .ok (.ireturn, 1) := by decide +kernel
theorem dX7_begun_79 : decode cX7_begun 79 = .ok (.aload_n 0, 1) := by decide +kernel
theorem dX7_begun_80 : decode cX7_begun 80 = .ok (.getfield 92, 3) := by decide +kernel
theorem dX7_begun_83 : decode cX7_begun 83 = .ok (.iload_n 1, 1) := by decide +kernel
theorem dX7_begun_84 : decode cX7_begun 84 = .ok (.iaload, 1) := by decide +kernel
theorem dX7_begun_85 : decode cX7_begun 85 = .ok (.ireturn, 1) := by decide +kernel
theorem dX7_begun_86 : decode cX7_begun 86 = .ok (.aload_n 0, 1) := by decide +kernel
theorem dX7_begun_87 : decode cX7_begun 87 = .ok (.getfield 95, 3) := by decide +kernel
theorem dX7_begun_90 : decode cX7_begun 90 = .ok (.iload_n 1, 1) := by decide +kernel
theorem dX7_begun_91 : decode cX7_begun 91 = .ok (.iaload, 1) := by decide +kernel
theorem dX7_begun_92 : decode cX7_begun 92 = .ok (.ireturn, 1) := by decide +kernel
theorem dX7_begun_93 : decode cX7_begun 93 = .ok (.aload_n 0, 1) := by decide +kernel
theorem dX7_begun_94 : decode cX7_begun 94 = .ok (.getfield 98, 3) := by decide +kernel
theorem dX7_begun_97 : decode cX7_begun 97 = .ok (.iload_n 1, 1) := by decide +kernel
theorem dX7_begun_98 : decode cX7_begun 98 = .ok (.iaload, 1) := by decide +kernel
theorem dX7_begun_99 : decode cX7_begun 99 = .ok (.ireturn, 1) := by decide +kernel
theorem dX7_begun_100 : decode cX7_begun 100 = .ok (.aload_n 0, 1) := by decide +kernel
theorem dX7_begun_101 : decode cX7_begun 101 = .ok (.getfield 101, 3) := by decide +kernel
theorem dX7_begun_104 : decode cX7_begun 104 = .ok (.iload_n 1, 1) := by decide +kernel
theorem dX7_begun_105 : decode cX7_begun 105 = .ok (.iaload, 1) := by decide +kernel
theorem dX7_begun_106 : decode cX7_begun 106 = .ok (.ireturn, 1) := by decide +kernel
end
section
theorem dX7_cycle_0 : decode cX7_cycle 0 = .ok (.aload_n 0, 1) := by decide +kernel
theorem dX7_cycle_1 : decode cX7_cycle 1 = .ok (.iload_n 1, 1) := by decide +kernel
theorem dX7_cycle_2 : decode cX7_cycle 2 = .ok (.ifCond .lt 11, 3) := by decide +kernel
theorem dX7_cycle_5 : decode cX7_cycle 5 = .ok (.iload_n 1, 1) := by decide +kernel
theorem dX7_cycle_6 : decode cX7_cycle 6 = .ok (.aload_n 0, 1) := by decide +kernel
theorem dX7_cycle_7 : decode cX7_cycle 7 = .ok (.getfield 139, 3) := by decide +kernel
theorem dX7_cycle_10 : decode cX7_cycle 10 = .ok (.if_icmp .lt 7, 3) := by decide +kernel
theorem dX7_cycle_13 : decode cX7_cycle 13 = .ok (.iconst 1, 1) := by decide +kernel
theorem dX7_cycle_14 : decode cX7_cycle 14 = .ok (.goto 4, 3) := by decide +kernel
theorem dX7_cycle_17 : decode cX7_cycle 17 = .ok (.iconst 0, 1) := by decide +kernel
theorem dX7_cycle_18 : decode cX7_cycle 18 = .ok (.putfield 110, 3) := by decide +kernel
theorem dX7_cycle_21 : decode cX7_cycle 21 = .ok (.aload_n 0, 1) := by decide +kernel
theorem dX7_cycle_22 : decode cX7_cycle 22 = .ok (.getfield 110, 3) := by decide +kernel
theorem dX7_cycle_25 : decode cX7_cycle 25 = .ok (.ifCond .le 7, 3) := by decide +kernel
theorem dX7_cycle_28 : decode cX7_cycle 28 = .ok (.iconst 0, 1) := by decide +kernel
theorem dX7_cycle_29 : decode cX7_cycle 29 = .ok (.goto 9, 3) := by decide +kernel
theorem dX7_cycle_32 : decode cX7_cycle 32 = .ok (.aload_n 0, 1) := by decide +kernel
theorem dX7_cycle_33 : decode cX7_cycle 33 = .ok (.getfield 104, 3) := by decide +kernel
theorem dX7_cycle_36 : decode cX7_cycle 36 = .ok (.iload_n 1, 1) := by decide +kernel
theorem dX7_cycle_37 : decode cX7_cycle 37 = .ok (.iaload, 1) := by decide +kernel
theorem dX7_cycle_38 : decode cX7_cycle 38 = .ok (.ireturn, 1) := by decide +kernel
theorem dX7_content_0 : decode cX7_content 0 = .ok (.aload_n 0, 1) := by decide +kernel
theorem dX7_content_1 : decode cX7_content 1 = .ok (.iload_n 1, 1) := by decide +kernel
theorem dX7_content_2 : decode cX7_content 2 = .ok (.invokestatic 118, 3) := by decide +kernel
theorem dX7_content_5 : decode cX7_content 5 = .ok (.ifCond .eq 16, 3) := by decide +kernel
theorem dX7_content_8 : decode cX7_content 8 = .ok (.aload_n 0, 1) := by decide +kernel
theorem dX7_content_9 : decode cX7_content 9 = .ok (.getfield 7, 3) := by decide +kernel
theorem dX7_content_12 : decode cX7_content 12 = .ok (.iload_n 1, 1) := by decide +kernel
theorem dX7_content_13 : decode cX7_content 13 = .ok (.baload, 1) := by decide +kernel
theorem dX7_content_14 : decode cX7_content 14 = .ok (.ifCond .eq 7, 3) := by decide +kernel
theorem dX7_content_17 : decode cX7_content 17 = .ok (.iconst 0, 1) := by decide +kernel
theorem dX7_content_18 : decode cX7_content 18 = .ok (.goto 4, 3) := by decide +kernel
theorem dX7_content_21 : decode cX7_content 21 = .ok (.iconst 1, 1) := by decide +kernel
theorem dX7_content_22 : decode cX7_content 22 = .ok (.putfield 110, 3) := by decide +kernel
theorem dX7_content_25 : decode cX7_content 25 = .ok (.aload_n 0, 1) := by decide +kernel
theorem dX7_content_26 : decode cX7_content 26 = .ok (.getfield 110, 3) := by decide +kernel
theorem dX7_content_29 : decode cX7_content 29 = .ok (.ifCond .le 7, 3) := by decide +kernel
theorem dX7_content_32 : decode cX7_content 32 = .ok (.iconst 0, 1) := by decide +kernel
theorem dX7_content_33 : decode cX7_content 33 = .ok (.goto 9, 3) := by decide +kernel
theorem dX7_content_36 : decode cX7_content 36 = .ok (.aload_n 0, 1) := by decide +kernel
theorem dX7_content_37 : decode cX7_content 37 = .ok (.getfield 13, 3) := by decide +kernel
theorem dX7_content_40 : decode cX7_content 40 = .ok (.iload_n 1, 1) := by decide +kernel
theorem dX7_content_41 : decode cX7_content 41 = .ok (.iaload, 1) := by decide +kernel
theorem dX7_content_42 : decode cX7_content 42 = .ok (.ireturn, 1) := by decide +kernel
theorem dL_build_0 : decode cL_build 0 = .ok (.aload_n 3, 1) := by decide +kernel
theorem dL_build_1 : decode cL_build 1 = .ok (.iconst 0, 1) := by decide +kernel
theorem dL_build_2 : decode cL_build 2 = .ok (.aload_n 0, 1) := by decide +kernel
theorem dL_build_3 : decode cL_build 3 = .ok (.iload_n 1, 1) := by decide +kernel
theorem dL_build_4 : decode cL_build 4 = .ok (.iload_n 2, 1) := by decide +kernel
theorem dL_build_5 : decode cL_build 5 = .ok (.invokevirtual 7, 3) := by decide +kernel
theorem dL_build_8 : decode cL_build 8 = .ok (.i2l, 1) := by decide +kernel
theorem dL_build_9 : decode cL_build 9 = .ok (.lastore, 1) := by decide +kernel
theorem dL_build_10 : decode cL_build 10 = .ok (.goto 11, 3) := by decide +kernel
theorem dL_build_13 : decode cL_build 13 = .ok (.astore 4, 2) := by decide +kernel
theorem dL_build_15 : decode cL_build 15 = .ok (.iconst 1, 1) := by decide +kernel
theorem dL_build_16 : decode cL_build 16 = .ok (.ireturn, 1) := by decide +kernel
theorem dL_build_17 : decode cL_build 17 = .ok (.astore 4, 2) := by decide +kernel
theorem dL_build_19 : decode cL_build 19 = .ok (.iconst 2, 1) := by decide +kernel
theorem dL_build_20 : decode cL_build 20 = .ok (.ireturn, 1) := by decide +kernel
theorem dL_build_21 : decode cL_build 21 = .ok (.iconst 0, 1) := by decide +kernel
theorem dL_build_22 : decode cL_build 22 = .ok (.ireturn, 1) := by decide +kernel
theorem dL_begun_0 : decode cL_begun 0 = .ok (.aload_n 3, 1) := by decide +kernel
theorem dL_begun_1 : decode cL_begun 1 = .ok (.iconst 0, 1) := by decide +kernel
theorem dL_begun_2 : decode cL_begun 2 = .ok (.aload_n 0, 1) := by decide +kernel
theorem dL_begun_3 : decode cL_begun 3 = .ok (.iload_n 1, 1) := by decide +kernel
theorem dL_begun_4 : decode cL_begun 4 = .ok (.iload_n 2, 1) := by decide +kernel
theorem dL_begun_5 : decode cL_begun 5 = .ok (.invokevirtual 17, 3) := by decide +kernel
theorem dL_begun_8 : decode cL_begun 8 = .ok (.i2l, 1) := by decide +kernel
theorem dL_begun_9 : decode cL_begun 9 = .ok (.lastore, 1) := by decide +kernel
theorem dL_begun_10 : decode cL_begun 10 = .ok (.goto 7, 3) := by decide +kernel
theorem dL_begun_13 : decode cL_begun 13 = .ok (.astore 4, 2) := by decide +kernel
theorem dL_begun_15 : decode cL_begun 15 = .ok (.iconst 1, 1) := by decide +kernel
theorem dL_begun_16 : decode cL_begun 16 = .ok (.ireturn, 1) := by decide +kernel
theorem dL_begun_17 : decode cL_begun 17 = .ok (.iconst 0, 1) := by decide +kernel
theorem dL_begun_18 : decode cL_begun 18 = .ok (.ireturn, 1) := by decide +kernel
theorem dL_cycle_0 : decode cL_cycle 0 = .ok (.aload_n 2, 1) := by decide +kernel
theorem dL_cycle_1 : decode cL_cycle 1 = .ok (.iconst 0, 1) := by decide +kernel
theorem dL_cycle_2 : decode cL_cycle 2 = .ok (.aload_n 0, 1) := by decide +kernel
theorem dL_cycle_3 : decode cL_cycle 3 = .ok (.iload_n 1, 1) := by decide +kernel
theorem dL_cycle_4 : decode cL_cycle 4 = .ok (.invokevirtual 22, 3) := by decide +kernel
theorem dL_cycle_7 : decode cL_cycle 7 = .ok (.i2l, 1) := by decide +kernel
theorem dL_cycle_8 : decode cL_cycle 8 = .ok (.lastore, 1) := by decide +kernel
theorem dL_cycle_9 : decode cL_cycle 9 = .ok (.goto 6, 3) := by decide +kernel
theorem dL_cycle_12 : decode cL_cycle 12 = .ok (.astore_n 3, 1) := by decide +kernel
theorem dL_cycle_13 : decode cL_cycle 13 = .ok (.iconst 1, 1) := by decide +kernel
theorem dL_cycle_14 : decode cL_cycle 14 = .ok (.ireturn, 1) := by decide +kernel
theorem dL_cycle_15 : decode cL_cycle 15 = .ok (.iconst 0, 1) := by decide +kernel
theorem dL_cycle_16 : decode cL_cycle 16 = .ok (.ireturn, 1) := by decide +kernel
theorem dL_content_0 : decode cL_content 0 = .ok (.aload_n 2, 1) := by decide +kernel
theorem dL_content_1 : decode cL_content 1 = .ok (.iconst 0, 1) := by decide +kernel
theorem dL_content_2 : decode cL_content 2 = .ok (.aload_n 0, 1) := by decide +kernel
theorem dL_content_3 : decode cL_content 3 = .ok (.iload_n 1, 1) := by decide +kernel
theorem dL_content_4 : decode cL_content 4 = .ok (.invokevirtual 26, 3) := by decide +kernel
theorem dL_content_7 : decode cL_content 7 = .ok (.i2l, 1) := by decide +kernel
theorem dL_content_8 : decode cL_content 8 = .ok (.lastore, 1) := by decide +kernel
theorem dL_content_9 : decode cL_content 9 = .ok (.goto 6, 3) := by decide +kernel
theorem dL_content_12 : decode cL_content 12 = .ok (.astore_n 3, 1) := by decide +kernel
theorem dL_content_13 : decode cL_content 13 = .ok (.iconst 1, 1) := by decide +kernel
theorem dL_content_14 : decode cL_content 14 = .ok (.ireturn, 1) := by decide +kernel
theorem dL_content_15 : decode cL_content 15 = .ok (.iconst 0, 1) := by decide +kernel
theorem dL_content_16 : decode cL_content 16 = .ok (.ireturn, 1) := by decide +kernel
theorem dL_law_0 : decode cL_law 0 = .ok (.new 8, 3) := by decide +kernel
theorem dL_law_3 : decode cL_law 3 = .ok (.dup, 1) := by decide +kernel
theorem dL_law_4 : decode cL_law 4 = .ok (.invokespecial 29, 3) := by decide +kernel
theorem dL_law_7 : decode cL_law 7 = .ok (.astore_n 1, 1) := by decide +kernel
theorem dL_law_8 : decode cL_law 8 = .ok (.new 30, 3) := by decide +kernel
theorem dL_law_11 : decode cL_law 11 = .ok (.dup, 1) := by decide +kernel
theorem dL_law_12 : decode cL_law 12 = .ok (.invokespecial 32, 3) := by decide +kernel
theorem dL_law_15 : decode cL_law 15 = .ok (.astore_n 2, 1) := by decide +kernel
theorem dL_law_16 : decode cL_law 16 = .ok (.iconst 1, 1) := by decide +kernel
theorem dL_law_17 : decode cL_law 17 = .ok (.newarray .long, 2) := by decide +kernel
theorem dL_law_19 : decode cL_law 19 = .ok (.astore_n 3, 1) := by decide +kernel
theorem dL_law_20 : decode cL_law 20 = .ok (.iconst 0, 1) := by decide +kernel
theorem dL_law_21 : decode cL_law 21 = .ok (.istore 4, 2) := by decide +kernel
theorem dL_law_23 : decode cL_law 23 = .ok (.iload 4, 2) := by decide +kernel
theorem dL_law_25 : decode cL_law 25 = .ok (.aload_n 0, 1) := by decide +kernel
theorem dL_law_26 : decode cL_law 26 = .ok (.arraylength, 1) := by decide +kernel
theorem dL_law_27 : decode cL_law 27 = .ok (.iconst 5, 1) := by decide +kernel
theorem dL_law_28 : decode cL_law 28 = .ok (.isub, 1) := by decide +kernel
theorem dL_law_29 : decode cL_law 29 = .ok (.if_icmp .gt 597, 3) := by decide +kernel
theorem dL_law_32 : decode cL_law 32 = .ok (.aload_n 0, 1) := by decide +kernel
theorem dL_law_33 : decode cL_law 33 = .ok (.iload 4, 2) := by decide +kernel
theorem dL_law_35 : decode cL_law 35 = .ok (.iaload, 1) := by decide +kernel
theorem dL_law_36 : decode cL_law 36 = .ok (.bipush 15, 2) := by decide +kernel
theorem dL_law_38 : decode cL_law 38 = .ok (.iand, 1) := by decide +kernel
theorem dL_law_39 : decode cL_law 39 = .ok (.tableswitch 581 0 11 #[61, 122, 159, 196, 221, 258, 283, 351, 376, 444, 500, 556], 61) := by decide +kernel
theorem dL_law_100 : decode cL_law 100 = .ok (.aload_n 1, 1) := by decide +kernel
theorem dL_law_101 : decode cL_law 101 = .ok (.aload_n 0, 1) := by decide +kernel
theorem dL_law_102 : decode cL_law 102 = .ok (.iload 4, 2) := by decide +kernel
theorem dL_law_104 : decode cL_law 104 = .ok (.iconst 1, 1) := by decide +kernel
theorem dL_law_105 : decode cL_law 105 = .ok (.iadd, 1) := by decide +kernel
theorem dL_law_106 : decode cL_law 106 = .ok (.iaload, 1) := by decide +kernel
theorem dL_law_107 : decode cL_law 107 = .ok (.aload_n 0, 1) := by decide +kernel
theorem dL_law_108 : decode cL_law 108 = .ok (.iload 4, 2) := by decide +kernel
theorem dL_law_110 : decode cL_law 110 = .ok (.iconst 2, 1) := by decide +kernel
theorem dL_law_111 : decode cL_law 111 = .ok (.iadd, 1) := by decide +kernel
theorem dL_law_112 : decode cL_law 112 = .ok (.iaload, 1) := by decide +kernel
theorem dL_law_113 : decode cL_law 113 = .ok (.aload_n 0, 1) := by decide +kernel
theorem dL_law_114 : decode cL_law 114 = .ok (.iload 4, 2) := by decide +kernel
theorem dL_law_116 : decode cL_law 116 = .ok (.iconst 3, 1) := by decide +kernel
theorem dL_law_117 : decode cL_law 117 = .ok (.iadd, 1) := by decide +kernel
theorem dL_law_118 : decode cL_law 118 = .ok (.iaload, 1) := by decide +kernel
theorem dL_law_119 : decode cL_law 119 = .ok (.aload_n 0, 1) := by decide +kernel
theorem dL_law_120 : decode cL_law 120 = .ok (.iload 4, 2) := by decide +kernel
theorem dL_law_122 : decode cL_law 122 = .ok (.iconst 4, 1) := by decide +kernel
theorem dL_law_123 : decode cL_law 123 = .ok (.iadd, 1) := by decide +kernel
theorem dL_law_124 : decode cL_law 124 = .ok (.iaload, 1) := by decide +kernel
theorem dL_law_125 : decode cL_law 125 = .ok (.invokevirtual 33, 3) := by decide +kernel
theorem dL_law_128 : decode cL_law 128 = .ok (.aload_n 2, 1) := by decide +kernel
theorem dL_law_129 : decode cL_law 129 = .ok (.aload_n 0, 1) := by decide +kernel
theorem dL_law_130 : decode cL_law 130 = .ok (.iload 4, 2) := by decide +kernel
theorem dL_law_132 : decode cL_law 132 = .ok (.iconst 1, 1) := by decide +kernel
theorem dL_law_133 : decode cL_law 133 = .ok (.iadd, 1) := by decide +kernel
theorem dL_law_134 : decode cL_law 134 = .ok (.iaload, 1) := by decide +kernel
theorem dL_law_135 : decode cL_law 135 = .ok (.aload_n 0, 1) := by decide +kernel
theorem dL_law_136 : decode cL_law 136 = .ok (.iload 4, 2) := by decide +kernel
theorem dL_law_138 : decode cL_law 138 = .ok (.iconst 2, 1) := by decide +kernel
theorem dL_law_139 : decode cL_law 139 = .ok (.iadd, 1) := by decide +kernel
theorem dL_law_140 : decode cL_law 140 = .ok (.iaload, 1) := by decide +kernel
theorem dL_law_141 : decode cL_law 141 = .ok (.aload_n 0, 1) := by decide +kernel
theorem dL_law_142 : decode cL_law 142 = .ok (.iload 4, 2) := by decide +kernel
theorem dL_law_144 : decode cL_law 144 = .ok (.iconst 3, 1) := by decide +kernel
theorem dL_law_145 : decode cL_law 145 = .ok (.iadd, 1) := by decide +kernel
theorem dL_law_146 : decode cL_law 146 = .ok (.iaload, 1) := by decide +kernel
theorem dL_law_147 : decode cL_law 147 = .ok (.aload_n 0, 1) := by decide +kernel
theorem dL_law_148 : decode cL_law 148 = .ok (.iload 4, 2) := by decide +kernel
theorem dL_law_150 : decode cL_law 150 = .ok (.iconst 4, 1) := by decide +kernel
theorem dL_law_151 : decode cL_law 151 = .ok (.iadd, 1) := by decide +kernel
theorem dL_law_152 : decode cL_law 152 = .ok (.iaload, 1) := by decide +kernel
theorem dL_law_153 : decode cL_law 153 = .ok (.invokevirtual 37, 3) := by decide +kernel
theorem dL_law_156 : decode cL_law 156 = .ok (.if_icmp .eq 464, 3) := by decide +kernel
theorem dL_law_159 : decode cL_law 159 = .ok (.iconst 0, 1) := by decide +kernel
theorem dL_law_160 : decode cL_law 160 = .ok (.ireturn, 1) := by decide +kernel
theorem dL_law_161 : decode cL_law 161 = .ok (.aload_n 1, 1) := by decide +kernel
theorem dL_law_162 : decode cL_law 162 = .ok (.aload_n 0, 1) := by decide +kernel
theorem dL_law_163 : decode cL_law 163 = .ok (.iload 4, 2) := by decide +kernel
theorem dL_law_165 : decode cL_law 165 = .ok (.iconst 1, 1) := by decide +kernel
theorem dL_law_166 : decode cL_law 166 = .ok (.iadd, 1) := by decide +kernel
theorem dL_law_167 : decode cL_law 167 = .ok (.iaload, 1) := by decide +kernel
theorem dL_law_168 : decode cL_law 168 = .ok (.aload_n 0, 1) := by decide +kernel
theorem dL_law_169 : decode cL_law 169 = .ok (.iload 4, 2) := by decide +kernel
theorem dL_law_171 : decode cL_law 171 = .ok (.iconst 2, 1) := by decide +kernel
theorem dL_law_172 : decode cL_law 172 = .ok (.iadd, 1) := by decide +kernel
theorem dL_law_173 : decode cL_law 173 = .ok (.iaload, 1) := by decide +kernel
theorem dL_law_174 : decode cL_law 174 = .ok (.invokevirtual 38, 3) := by decide +kernel
theorem dL_law_177 : decode cL_law 177 = .ok (.aload_n 2, 1) := by decide +kernel
theorem dL_law_178 : decode cL_law 178 = .ok (.aload_n 0, 1) := by decide +kernel
theorem dL_law_179 : decode cL_law 179 = .ok (.iload 4, 2) := by decide +kernel
theorem dL_law_181 : decode cL_law 181 = .ok (.iconst 1, 1) := by decide +kernel
theorem dL_law_182 : decode cL_law 182 = .ok (.iadd, 1) := by decide +kernel
theorem dL_law_183 : decode cL_law 183 = .ok (.iaload, 1) := by decide +kernel
theorem dL_law_184 : decode cL_law 184 = .ok (.aload_n 0, 1) := by decide +kernel
theorem dL_law_185 : decode cL_law 185 = .ok (.iload 4, 2) := by decide +kernel
theorem dL_law_187 : decode cL_law 187 = .ok (.iconst 2, 1) := by decide +kernel
theorem dL_law_188 : decode cL_law 188 = .ok (.iadd, 1) := by decide +kernel
theorem dL_law_189 : decode cL_law 189 = .ok (.iaload, 1) := by decide +kernel
theorem dL_law_190 : decode cL_law 190 = .ok (.invokevirtual 42, 3) := by decide +kernel
theorem dL_law_193 : decode cL_law 193 = .ok (.if_icmp .eq 427, 3) := by decide +kernel
theorem dL_law_196 : decode cL_law 196 = .ok (.iconst 0, 1) := by decide +kernel
theorem dL_law_197 : decode cL_law 197 = .ok (.ireturn, 1) := by decide +kernel
theorem dL_law_198 : decode cL_law 198 = .ok (.aload_n 1, 1) := by decide +kernel
theorem dL_law_199 : decode cL_law 199 = .ok (.aload_n 0, 1) := by decide +kernel
theorem dL_law_200 : decode cL_law 200 = .ok (.iload 4, 2) := by decide +kernel
theorem dL_law_202 : decode cL_law 202 = .ok (.iconst 1, 1) := by decide +kernel
theorem dL_law_203 : decode cL_law 203 = .ok (.iadd, 1) := by decide +kernel
theorem dL_law_204 : decode cL_law 204 = .ok (.iaload, 1) := by decide +kernel
theorem dL_law_205 : decode cL_law 205 = .ok (.aload_n 0, 1) := by decide +kernel
theorem dL_law_206 : decode cL_law 206 = .ok (.iload 4, 2) := by decide +kernel
theorem dL_law_208 : decode cL_law 208 = .ok (.iconst 2, 1) := by decide +kernel
theorem dL_law_209 : decode cL_law 209 = .ok (.iadd, 1) := by decide +kernel
theorem dL_law_210 : decode cL_law 210 = .ok (.iaload, 1) := by decide +kernel
theorem dL_law_211 : decode cL_law 211 = .ok (.invokevirtual 43, 3) := by decide +kernel
theorem dL_law_214 : decode cL_law 214 = .ok (.aload_n 2, 1) := by decide +kernel
theorem dL_law_215 : decode cL_law 215 = .ok (.aload_n 0, 1) := by decide +kernel
theorem dL_law_216 : decode cL_law 216 = .ok (.iload 4, 2) := by decide +kernel
theorem dL_law_218 : decode cL_law 218 = .ok (.iconst 1, 1) := by decide +kernel
theorem dL_law_219 : decode cL_law 219 = .ok (.iadd, 1) := by decide +kernel
theorem dL_law_220 : decode cL_law 220 = .ok (.iaload, 1) := by decide +kernel
theorem dL_law_221 : decode cL_law 221 = .ok (.aload_n 0, 1) := by decide +kernel
theorem dL_law_222 : decode cL_law 222 = .ok (.iload 4, 2) := by decide +kernel
theorem dL_law_224 : decode cL_law 224 = .ok (.iconst 2, 1) := by decide +kernel
theorem dL_law_225 : decode cL_law 225 = .ok (.iadd, 1) := by decide +kernel
theorem dL_law_226 : decode cL_law 226 = .ok (.iaload, 1) := by decide +kernel
theorem dL_law_227 : decode cL_law 227 = .ok (.invokevirtual 46, 3) := by decide +kernel
theorem dL_law_230 : decode cL_law 230 = .ok (.if_icmp .eq 390, 3) := by decide +kernel
theorem dL_law_233 : decode cL_law 233 = .ok (.iconst 0, 1) := by decide +kernel
theorem dL_law_234 : decode cL_law 234 = .ok (.ireturn, 1) := by decide +kernel
theorem dL_law_235 : decode cL_law 235 = .ok (.aload_n 1, 1) := by decide +kernel
theorem dL_law_236 : decode cL_law 236 = .ok (.aload_n 0, 1) := by decide +kernel
theorem dL_law_237 : decode cL_law 237 = .ok (.iload 4, 2) := by decide +kernel
theorem dL_law_239 : decode cL_law 239 = .ok (.iconst 1, 1) := by decide +kernel
theorem dL_law_240 : decode cL_law 240 = .ok (.iadd, 1) := by decide +kernel
theorem dL_law_241 : decode cL_law 241 = .ok (.iaload, 1) := by decide +kernel
theorem dL_law_242 : decode cL_law 242 = .ok (.invokevirtual 47, 3) := by decide +kernel
theorem dL_law_245 : decode cL_law 245 = .ok (.aload_n 2, 1) := by decide +kernel
theorem dL_law_246 : decode cL_law 246 = .ok (.aload_n 0, 1) := by decide +kernel
theorem dL_law_247 : decode cL_law 247 = .ok (.iload 4, 2) := by decide +kernel
theorem dL_law_249 : decode cL_law 249 = .ok (.iconst 1, 1) := by decide +kernel
theorem dL_law_250 : decode cL_law 250 = .ok (.iadd, 1) := by decide +kernel
theorem dL_law_251 : decode cL_law 251 = .ok (.iaload, 1) := by decide +kernel
theorem dL_law_252 : decode cL_law 252 = .ok (.invokevirtual 51, 3) := by decide +kernel
theorem dL_law_255 : decode cL_law 255 = .ok (.if_icmp .eq 365, 3) := by decide +kernel
theorem dL_law_258 : decode cL_law 258 = .ok (.iconst 0, 1) := by decide +kernel
theorem dL_law_259 : decode cL_law 259 = .ok (.ireturn, 1) := by decide +kernel
theorem dL_law_260 : decode cL_law 260 = .ok (.aload_n 1, 1) := by decide +kernel
theorem dL_law_261 : decode cL_law 261 = .ok (.aload_n 0, 1) := by decide +kernel
theorem dL_law_262 : decode cL_law 262 = .ok (.iload 4, 2) := by decide +kernel
theorem dL_law_264 : decode cL_law 264 = .ok (.iconst 1, 1) := by decide +kernel
theorem dL_law_265 : decode cL_law 265 = .ok (.iadd, 1) := by decide +kernel
theorem dL_law_266 : decode cL_law 266 = .ok (.iaload, 1) := by decide +kernel
theorem dL_law_267 : decode cL_law 267 = .ok (.aload_n 0, 1) := by decide +kernel
theorem dL_law_268 : decode cL_law 268 = .ok (.iload 4, 2) := by decide +kernel
theorem dL_law_270 : decode cL_law 270 = .ok (.iconst 2, 1) := by decide +kernel
theorem dL_law_271 : decode cL_law 271 = .ok (.iadd, 1) := by decide +kernel
theorem dL_law_272 : decode cL_law 272 = .ok (.iaload, 1) := by decide +kernel
theorem dL_law_273 : decode cL_law 273 = .ok (.invokevirtual 52, 3) := by decide +kernel
theorem dL_law_276 : decode cL_law 276 = .ok (.aload_n 2, 1) := by decide +kernel
theorem dL_law_277 : decode cL_law 277 = .ok (.aload_n 0, 1) := by decide +kernel
theorem dL_law_278 : decode cL_law 278 = .ok (.iload 4, 2) := by decide +kernel
theorem dL_law_280 : decode cL_law 280 = .ok (.iconst 1, 1) := by decide +kernel
theorem dL_law_281 : decode cL_law 281 = .ok (.iadd, 1) := by decide +kernel
theorem dL_law_282 : decode cL_law 282 = .ok (.iaload, 1) := by decide +kernel
theorem dL_law_283 : decode cL_law 283 = .ok (.aload_n 0, 1) := by decide +kernel
theorem dL_law_284 : decode cL_law 284 = .ok (.iload 4, 2) := by decide +kernel
theorem dL_law_286 : decode cL_law 286 = .ok (.iconst 2, 1) := by decide +kernel
theorem dL_law_287 : decode cL_law 287 = .ok (.iadd, 1) := by decide +kernel
theorem dL_law_288 : decode cL_law 288 = .ok (.iaload, 1) := by decide +kernel
theorem dL_law_289 : decode cL_law 289 = .ok (.invokevirtual 55, 3) := by decide +kernel
theorem dL_law_292 : decode cL_law 292 = .ok (.if_icmp .eq 328, 3) := by decide +kernel
theorem dL_law_295 : decode cL_law 295 = .ok (.iconst 0, 1) := by decide +kernel
theorem dL_law_296 : decode cL_law 296 = .ok (.ireturn, 1) := by decide +kernel
theorem dL_law_297 : decode cL_law 297 = .ok (.aload_n 1, 1) := by decide +kernel
theorem dL_law_298 : decode cL_law 298 = .ok (.aload_n 0, 1) := by decide +kernel
theorem dL_law_299 : decode cL_law 299 = .ok (.iload 4, 2) := by decide +kernel
theorem dL_law_301 : decode cL_law 301 = .ok (.iconst 1, 1) := by decide +kernel
theorem dL_law_302 : decode cL_law 302 = .ok (.iadd, 1) := by decide +kernel
theorem dL_law_303 : decode cL_law 303 = .ok (.iaload, 1) := by decide +kernel
theorem dL_law_304 : decode cL_law 304 = .ok (.invokevirtual 56, 3) := by decide +kernel
theorem dL_law_307 : decode cL_law 307 = .ok (.aload_n 2, 1) := by decide +kernel
theorem dL_law_308 : decode cL_law 308 = .ok (.aload_n 0, 1) := by decide +kernel
theorem dL_law_309 : decode cL_law 309 = .ok (.iload 4, 2) := by decide +kernel
theorem dL_law_311 : decode cL_law 311 = .ok (.iconst 1, 1) := by decide +kernel
theorem dL_law_312 : decode cL_law 312 = .ok (.iadd, 1) := by decide +kernel
theorem dL_law_313 : decode cL_law 313 = .ok (.iaload, 1) := by decide +kernel
theorem dL_law_314 : decode cL_law 314 = .ok (.invokevirtual 59, 3) := by decide +kernel
theorem dL_law_317 : decode cL_law 317 = .ok (.if_icmp .eq 303, 3) := by decide +kernel
theorem dL_law_320 : decode cL_law 320 = .ok (.iconst 0, 1) := by decide +kernel
theorem dL_law_321 : decode cL_law 321 = .ok (.ireturn, 1) := by decide +kernel
theorem dL_law_322 : decode cL_law 322 = .ok (.aload_n 1, 1) := by decide +kernel
theorem dL_law_323 : decode cL_law 323 = .ok (.aload_n 0, 1) := by decide +kernel
theorem dL_law_324 : decode cL_law 324 = .ok (.iload 4, 2) := by decide +kernel
theorem dL_law_326 : decode cL_law 326 = .ok (.iconst 1, 1) := by decide +kernel
theorem dL_law_327 : decode cL_law 327 = .ok (.iadd, 1) := by decide +kernel
theorem dL_law_328 : decode cL_law 328 = .ok (.iaload, 1) := by decide +kernel
theorem dL_law_329 : decode cL_law 329 = .ok (.aload_n 0, 1) := by decide +kernel
theorem dL_law_330 : decode cL_law 330 = .ok (.iload 4, 2) := by decide +kernel
theorem dL_law_332 : decode cL_law 332 = .ok (.iconst 2, 1) := by decide +kernel
theorem dL_law_333 : decode cL_law 333 = .ok (.iadd, 1) := by decide +kernel
theorem dL_law_334 : decode cL_law 334 = .ok (.iaload, 1) := by decide +kernel
theorem dL_law_335 : decode cL_law 335 = .ok (.aload_n 3, 1) := by decide +kernel
theorem dL_law_336 : decode cL_law 336 = .ok (.invokestatic 60, 3) := by decide +kernel
theorem dL_law_339 : decode cL_law 339 = .ok (.istore 5, 2) := by decide +kernel
theorem dL_law_341 : decode cL_law 341 = .ok (.aload_n 2, 1) := by decide +kernel
theorem dL_law_342 : decode cL_law 342 = .ok (.aload_n 0, 1) := by decide +kernel
theorem dL_law_343 : decode cL_law 343 = .ok (.iload 4, 2) := by decide +kernel
theorem dL_law_345 : decode cL_law 345 = .ok (.iconst 1, 1) := by decide +kernel
theorem dL_law_346 : decode cL_law 346 = .ok (.iadd, 1) := by decide +kernel
theorem dL_law_347 : decode cL_law 347 = .ok (.iaload, 1) := by decide +kernel
theorem dL_law_348 : decode cL_law 348 = .ok (.aload_n 0, 1) := by decide +kernel
theorem dL_law_349 : decode cL_law 349 = .ok (.iload 4, 2) := by decide +kernel
theorem dL_law_351 : decode cL_law 351 = .ok (.iconst 2, 1) := by decide +kernel
theorem dL_law_352 : decode cL_law 352 = .ok (.iadd, 1) := by decide +kernel
theorem dL_law_353 : decode cL_law 353 = .ok (.iaload, 1) := by decide +kernel
theorem dL_law_354 : decode cL_law 354 = .ok (.invokevirtual 65, 3) := by decide +kernel
theorem dL_law_357 : decode cL_law 357 = .ok (.istore 6, 2) := by decide +kernel
theorem dL_law_359 : decode cL_law 359 = .ok (.aload_n 2, 1) := by decide +kernel
theorem dL_law_360 : decode cL_law 360 = .ok (.invokevirtual 66, 3) := by decide +kernel
theorem dL_law_363 : decode cL_law 363 = .ok (.iload 5, 2) := by decide +kernel
theorem dL_law_365 : decode cL_law 365 = .ok (.if_icmp .eq 5, 3) := by decide +kernel
theorem dL_law_368 : decode cL_law 368 = .ok (.iconst 0, 1) := by decide +kernel
theorem dL_law_369 : decode cL_law 369 = .ok (.ireturn, 1) := by decide +kernel
theorem dL_law_370 : decode cL_law 370 = .ok (.iload 5, 2) := by decide +kernel
theorem dL_law_372 : decode cL_law 372 = .ok (.ifCond .ne 15, 3) := by decide +kernel
theorem dL_law_375 : decode cL_law 375 = .ok (.aload_n 3, 1) := by decide +kernel
theorem dL_law_376 : decode cL_law 376 = .ok (.iconst 0, 1) := by decide +kernel
theorem dL_law_377 : decode cL_law 377 = .ok (.laload, 1) := by decide +kernel
theorem dL_law_378 : decode cL_law 378 = .ok (.iload 6, 2) := by decide +kernel
theorem dL_law_380 : decode cL_law 380 = .ok (.i2l, 1) := by decide +kernel
theorem dL_law_381 : decode cL_law 381 = .ok (.lcmp, 1) := by decide +kernel
theorem dL_law_382 : decode cL_law 382 = .ok (.ifCond .eq 5, 3) := by decide +kernel
theorem dL_law_385 : decode cL_law 385 = .ok (.iconst 0, 1) := by decide +kernel
theorem dL_law_386 : decode cL_law 386 = .ok (.ireturn, 1) := by decide +kernel
theorem dL_law_387 : decode cL_law 387 = .ok (.goto 233, 3) := by decide +kernel
theorem dL_law_390 : decode cL_law 390 = .ok (.aload_n 1, 1) := by decide +kernel
theorem dL_law_391 : decode cL_law 391 = .ok (.aload_n 0, 1) := by decide +kernel
theorem dL_law_392 : decode cL_law 392 = .ok (.iload 4, 2) := by decide +kernel
theorem dL_law_394 : decode cL_law 394 = .ok (.iconst 1, 1) := by decide +kernel
theorem dL_law_395 : decode cL_law 395 = .ok (.iadd, 1) := by decide +kernel
theorem dL_law_396 : decode cL_law 396 = .ok (.iaload, 1) := by decide +kernel
theorem dL_law_397 : decode cL_law 397 = .ok (.invokevirtual 70, 3) := by decide +kernel
theorem dL_law_400 : decode cL_law 400 = .ok (.aload_n 2, 1) := by decide +kernel
theorem dL_law_401 : decode cL_law 401 = .ok (.aload_n 0, 1) := by decide +kernel
theorem dL_law_402 : decode cL_law 402 = .ok (.iload 4, 2) := by decide +kernel
theorem dL_law_404 : decode cL_law 404 = .ok (.iconst 1, 1) := by decide +kernel
theorem dL_law_405 : decode cL_law 405 = .ok (.iadd, 1) := by decide +kernel
theorem dL_law_406 : decode cL_law 406 = .ok (.iaload, 1) := by decide +kernel
theorem dL_law_407 : decode cL_law 407 = .ok (.invokevirtual 73, 3) := by decide +kernel
theorem dL_law_410 : decode cL_law 410 = .ok (.if_icmp .eq 210, 3) := by decide +kernel
theorem dL_law_413 : decode cL_law 413 = .ok (.iconst 0, 1) := by decide +kernel
theorem dL_law_414 : decode cL_law 414 = .ok (.ireturn, 1) := by decide +kernel
theorem dL_law_415 : decode cL_law 415 = .ok (.aload_n 1, 1) := by decide +kernel
theorem dL_law_416 : decode cL_law 416 = .ok (.aload_n 0, 1) := by decide +kernel
theorem dL_law_417 : decode cL_law 417 = .ok (.iload 4, 2) := by decide +kernel
theorem dL_law_419 : decode cL_law 419 = .ok (.iconst 1, 1) := by decide +kernel
theorem dL_law_420 : decode cL_law 420 = .ok (.iadd, 1) := by decide +kernel
theorem dL_law_421 : decode cL_law 421 = .ok (.iaload, 1) := by decide +kernel
theorem dL_law_422 : decode cL_law 422 = .ok (.aload_n 0, 1) := by decide +kernel
theorem dL_law_423 : decode cL_law 423 = .ok (.iload 4, 2) := by decide +kernel
theorem dL_law_425 : decode cL_law 425 = .ok (.iconst 2, 1) := by decide +kernel
theorem dL_law_426 : decode cL_law 426 = .ok (.iadd, 1) := by decide +kernel
theorem dL_law_427 : decode cL_law 427 = .ok (.iaload, 1) := by decide +kernel
theorem dL_law_428 : decode cL_law 428 = .ok (.aload_n 3, 1) := by decide +kernel
theorem dL_law_429 : decode cL_law 429 = .ok (.invokestatic 74, 3) := by decide +kernel
theorem dL_law_432 : decode cL_law 432 = .ok (.istore 5, 2) := by decide +kernel
theorem dL_law_434 : decode cL_law 434 = .ok (.aload_n 2, 1) := by decide +kernel
theorem dL_law_435 : decode cL_law 435 = .ok (.aload_n 0, 1) := by decide +kernel
theorem dL_law_436 : decode cL_law 436 = .ok (.iload 4, 2) := by decide +kernel
theorem dL_law_438 : decode cL_law 438 = .ok (.iconst 1, 1) := by decide +kernel
theorem dL_law_439 : decode cL_law 439 = .ok (.iadd, 1) := by decide +kernel
theorem dL_law_440 : decode cL_law 440 = .ok (.iaload, 1) := by decide +kernel
theorem dL_law_441 : decode cL_law 441 = .ok (.aload_n 0, 1) := by decide +kernel
theorem dL_law_442 : decode cL_law 442 = .ok (.iload 4, 2) := by decide +kernel
theorem dL_law_444 : decode cL_law 444 = .ok (.iconst 2, 1) := by decide +kernel
theorem dL_law_445 : decode cL_law 445 = .ok (.iadd, 1) := by decide +kernel
theorem dL_law_446 : decode cL_law 446 = .ok (.iaload, 1) := by decide +kernel
theorem dL_law_447 : decode cL_law 447 = .ok (.invokevirtual 76, 3) := by decide +kernel
theorem dL_law_450 : decode cL_law 450 = .ok (.istore 6, 2) := by decide +kernel
theorem dL_law_452 : decode cL_law 452 = .ok (.aload_n 2, 1) := by decide +kernel
theorem dL_law_453 : decode cL_law 453 = .ok (.invokevirtual 66, 3) := by decide +kernel
theorem dL_law_456 : decode cL_law 456 = .ok (.iload 5, 2) := by decide +kernel
theorem dL_law_458 : decode cL_law 458 = .ok (.if_icmp .eq 5, 3) := by decide +kernel
theorem dL_law_461 : decode cL_law 461 = .ok (.iconst 0, 1) := by decide +kernel
theorem dL_law_462 : decode cL_law 462 = .ok (.ireturn, 1) := by decide +kernel
theorem dL_law_463 : decode cL_law 463 = .ok (.iload 5, 2) := by decide +kernel
theorem dL_law_465 : decode cL_law 465 = .ok (.ifCond .ne 15, 3) := by decide +kernel
theorem dL_law_468 : decode cL_law 468 = .ok (.aload_n 3, 1) := by decide +kernel
theorem dL_law_469 : decode cL_law 469 = .ok (.iconst 0, 1) := by decide +kernel
theorem dL_law_470 : decode cL_law 470 = .ok (.laload, 1) := by decide +kernel
theorem dL_law_471 : decode cL_law 471 = .ok (.iload 6, 2) := by decide +kernel
theorem dL_law_473 : decode cL_law 473 = .ok (.i2l, 1) := by decide +kernel
theorem dL_law_474 : decode cL_law 474 = .ok (.lcmp, 1) := by decide +kernel
theorem dL_law_475 : decode cL_law 475 = .ok (.ifCond .eq 5, 3) := by decide +kernel
theorem dL_law_478 : decode cL_law 478 = .ok (.iconst 0, 1) := by decide +kernel
theorem dL_law_479 : decode cL_law 479 = .ok (.ireturn, 1) := by decide +kernel
theorem dL_law_480 : decode cL_law 480 = .ok (.goto 140, 3) := by decide +kernel
theorem dL_law_483 : decode cL_law 483 = .ok (.aload_n 1, 1) := by decide +kernel
theorem dL_law_484 : decode cL_law 484 = .ok (.aload_n 0, 1) := by decide +kernel
theorem dL_law_485 : decode cL_law 485 = .ok (.iload 4, 2) := by decide +kernel
theorem dL_law_487 : decode cL_law 487 = .ok (.iconst 1, 1) := by decide +kernel
theorem dL_law_488 : decode cL_law 488 = .ok (.iadd, 1) := by decide +kernel
theorem dL_law_489 : decode cL_law 489 = .ok (.iaload, 1) := by decide +kernel
theorem dL_law_490 : decode cL_law 490 = .ok (.aload_n 3, 1) := by decide +kernel
theorem dL_law_491 : decode cL_law 491 = .ok (.invokestatic 77, 3) := by decide +kernel
theorem dL_law_494 : decode cL_law 494 = .ok (.istore 5, 2) := by decide +kernel
theorem dL_law_496 : decode cL_law 496 = .ok (.aload_n 2, 1) := by decide +kernel
theorem dL_law_497 : decode cL_law 497 = .ok (.aload_n 0, 1) := by decide +kernel
theorem dL_law_498 : decode cL_law 498 = .ok (.iload 4, 2) := by decide +kernel
theorem dL_law_500 : decode cL_law 500 = .ok (.iconst 1, 1) := by decide +kernel
theorem dL_law_501 : decode cL_law 501 = .ok (.iadd, 1) := by decide +kernel
theorem dL_law_502 : decode cL_law 502 = .ok (.iaload, 1) := by decide +kernel
theorem dL_law_503 : decode cL_law 503 = .ok (.invokevirtual 80, 3) := by decide +kernel
theorem dL_law_506 : decode cL_law 506 = .ok (.istore 6, 2) := by decide +kernel
theorem dL_law_508 : decode cL_law 508 = .ok (.aload_n 2, 1) := by decide +kernel
theorem dL_law_509 : decode cL_law 509 = .ok (.invokevirtual 66, 3) := by decide +kernel
theorem dL_law_512 : decode cL_law 512 = .ok (.iload 5, 2) := by decide +kernel
theorem dL_law_514 : decode cL_law 514 = .ok (.if_icmp .eq 5, 3) := by decide +kernel
theorem dL_law_517 : decode cL_law 517 = .ok (.iconst 0, 1) := by decide +kernel
theorem dL_law_518 : decode cL_law 518 = .ok (.ireturn, 1) := by decide +kernel
theorem dL_law_519 : decode cL_law 519 = .ok (.iload 5, 2) := by decide +kernel
theorem dL_law_521 : decode cL_law 521 = .ok (.ifCond .ne 15, 3) := by decide +kernel
theorem dL_law_524 : decode cL_law 524 = .ok (.aload_n 3, 1) := by decide +kernel
theorem dL_law_525 : decode cL_law 525 = .ok (.iconst 0, 1) := by decide +kernel
theorem dL_law_526 : decode cL_law 526 = .ok (.laload, 1) := by decide +kernel
theorem dL_law_527 : decode cL_law 527 = .ok (.iload 6, 2) := by decide +kernel
theorem dL_law_529 : decode cL_law 529 = .ok (.i2l, 1) := by decide +kernel
theorem dL_law_530 : decode cL_law 530 = .ok (.lcmp, 1) := by decide +kernel
theorem dL_law_531 : decode cL_law 531 = .ok (.ifCond .eq 5, 3) := by decide +kernel
theorem dL_law_534 : decode cL_law 534 = .ok (.iconst 0, 1) := by decide +kernel
theorem dL_law_535 : decode cL_law 535 = .ok (.ireturn, 1) := by decide +kernel
theorem dL_law_536 : decode cL_law 536 = .ok (.goto 84, 3) := by decide +kernel
theorem dL_law_539 : decode cL_law 539 = .ok (.aload_n 1, 1) := by decide +kernel
theorem dL_law_540 : decode cL_law 540 = .ok (.aload_n 0, 1) := by decide +kernel
theorem dL_law_541 : decode cL_law 541 = .ok (.iload 4, 2) := by decide +kernel
theorem dL_law_543 : decode cL_law 543 = .ok (.iconst 1, 1) := by decide +kernel
theorem dL_law_544 : decode cL_law 544 = .ok (.iadd, 1) := by decide +kernel
theorem dL_law_545 : decode cL_law 545 = .ok (.iaload, 1) := by decide +kernel
theorem dL_law_546 : decode cL_law 546 = .ok (.aload_n 3, 1) := by decide +kernel
theorem dL_law_547 : decode cL_law 547 = .ok (.invokestatic 81, 3) := by decide +kernel
theorem dL_law_550 : decode cL_law 550 = .ok (.istore 5, 2) := by decide +kernel
theorem dL_law_552 : decode cL_law 552 = .ok (.aload_n 2, 1) := by decide +kernel
theorem dL_law_553 : decode cL_law 553 = .ok (.aload_n 0, 1) := by decide +kernel
theorem dL_law_554 : decode cL_law 554 = .ok (.iload 4, 2) := by decide +kernel
theorem dL_law_556 : decode cL_law 556 = .ok (.iconst 1, 1) := by decide +kernel
theorem dL_law_557 : decode cL_law 557 = .ok (.iadd, 1) := by decide +kernel
theorem dL_law_558 : decode cL_law 558 = .ok (.iaload, 1) := by decide +kernel
theorem dL_law_559 : decode cL_law 559 = .ok (.invokevirtual 83, 3) := by decide +kernel
theorem dL_law_562 : decode cL_law 562 = .ok (.istore 6, 2) := by decide +kernel
theorem dL_law_564 : decode cL_law 564 = .ok (.aload_n 2, 1) := by decide +kernel
theorem dL_law_565 : decode cL_law 565 = .ok (.invokevirtual 66, 3) := by decide +kernel
theorem dL_law_568 : decode cL_law 568 = .ok (.iload 5, 2) := by decide +kernel
theorem dL_law_570 : decode cL_law 570 = .ok (.if_icmp .eq 5, 3) := by decide +kernel
theorem dL_law_573 : decode cL_law 573 = .ok (.iconst 0, 1) := by decide +kernel
theorem dL_law_574 : decode cL_law 574 = .ok (.ireturn, 1) := by decide +kernel
theorem dL_law_575 : decode cL_law 575 = .ok (.iload 5, 2) := by decide +kernel
theorem dL_law_577 : decode cL_law 577 = .ok (.ifCond .ne 15, 3) := by decide +kernel
theorem dL_law_580 : decode cL_law 580 = .ok (.aload_n 3, 1) := by decide +kernel
theorem dL_law_581 : decode cL_law 581 = .ok (.iconst 0, 1) := by decide +kernel
theorem dL_law_582 : decode cL_law 582 = .ok (.laload, 1) := by decide +kernel
theorem dL_law_583 : decode cL_law 583 = .ok (.iload 6, 2) := by decide +kernel
theorem dL_law_585 : decode cL_law 585 = .ok (.i2l, 1) := by decide +kernel
theorem dL_law_586 : decode cL_law 586 = .ok (.lcmp, 1) := by decide +kernel
theorem dL_law_587 : decode cL_law 587 = .ok (.ifCond .eq 5, 3) := by decide +kernel
theorem dL_law_590 : decode cL_law 590 = .ok (.iconst 0, 1) := by decide +kernel
theorem dL_law_591 : decode cL_law 591 = .ok (.ireturn, 1) := by decide +kernel
theorem dL_law_592 : decode cL_law 592 = .ok (.goto 28, 3) := by decide +kernel
theorem dL_law_595 : decode cL_law 595 = .ok (.aload_n 1, 1) := by decide +kernel
theorem dL_law_596 : decode cL_law 596 = .ok (.aload_n 0, 1) := by decide +kernel
theorem dL_law_597 : decode cL_law 597 = .ok (.iload 4, 2) := by decide +kernel
theorem dL_law_599 : decode cL_law 599 = .ok (.iconst 1, 1) := by decide +kernel
theorem dL_law_600 : decode cL_law 600 = .ok (.iadd, 1) := by decide +kernel
theorem dL_law_601 : decode cL_law 601 = .ok (.iaload, 1) := by decide +kernel
theorem dL_law_602 : decode cL_law 602 = .ok (.invokevirtual 84, 3) := by decide +kernel
theorem dL_law_605 : decode cL_law 605 = .ok (.aload_n 2, 1) := by decide +kernel
theorem dL_law_606 : decode cL_law 606 = .ok (.aload_n 0, 1) := by decide +kernel
theorem dL_law_607 : decode cL_law 607 = .ok (.iload 4, 2) := by decide +kernel
theorem dL_law_609 : decode cL_law 609 = .ok (.iconst 1, 1) := by decide +kernel
theorem dL_law_610 : decode cL_law 610 = .ok (.iadd, 1) := by decide +kernel
theorem dL_law_611 : decode cL_law 611 = .ok (.iaload, 1) := by decide +kernel
theorem dL_law_612 : decode cL_law 612 = .ok (.invokevirtual 87, 3) := by decide +kernel
theorem dL_law_615 : decode cL_law 615 = .ok (.if_icmp .eq 5, 3) := by decide +kernel
theorem dL_law_618 : decode cL_law 618 = .ok (.iconst 0, 1) := by decide +kernel
theorem dL_law_619 : decode cL_law 619 = .ok (.ireturn, 1) := by decide +kernel
theorem dL_law_620 : decode cL_law 620 = .ok (.iinc 4 5, 3) := by decide +kernel
theorem dL_law_623 : decode cL_law 623 = .ok (.goto (-600), 3) := by decide +kernel
theorem dL_law_626 : decode cL_law 626 = .ok (.iconst 1, 1) := by decide +kernel
theorem dL_law_627 : decode cL_law 627 = .ok (.ireturn, 1) := by decide +kernel
end
section
/-! ABSTRACT HEAPS: a size, and at some addresses what lies there: an array (its type's place in tys, length, contents) or an object (its class's place in vwCl, its fields). Every method of the system is a function J_.. over them; the rows rp_.. say that the machine does what the function does. -/
abbrev HE : Type := (Nat × vp_A) ⊕ (Nat × List Value)
abbrev Hp : Type := Nat × (Nat → Option HE)
def hU (M : Nat → Option HE) (a : Nat) (e : HE) : Nat → Option HE := fun q => if q = a then some e else M q
def gO (h : Hp) (ci a : Nat) : Option (List Value) := match h.2 a with
  | some (.inr (c, fs)) => if c = ci then some fs else none
  | _ => none
def gA (h : Hp) (t a : Nat) : Option vp_A := match h.2 a with
  | some (.inl (c, x)) => if c = t then some x else none
  | _ => none
def vI (v : Option Value) : Option Int32 := match v with
  | some (.int x) => some x
  | _ => none
def vJ (v : Option Value) : Option Int64 := match v with
  | some (.long x) => some x
  | _ => none
def vR (v : Option Value) : Option Nat := match v with
  | some (.ref x) => some x
  | _ => none
def fI (h : Hp) (ci a k : Nat) : Option Int32 := (gO h ci a).bind fun fs => vI fs[k]?
def fJ (h : Hp) (ci a k : Nat) : Option Int64 := (gO h ci a).bind fun fs => vJ fs[k]?
def fR (h : Hp) (ci a k : Nat) : Option Nat := (gO h ci a).bind fun fs => vR fs[k]?
def isO (h : Hp) (ci a : Nat) : Option Unit := (gO h ci a).bind fun _ => some ()
def sF (h : Hp) (ci a k : Nat) (v : Value) : Option Hp := (gO h ci a).bind fun fs => if k < fs.length then some (h.1, hU h.2 a (.inr (ci, fs.set k v))) else none
def sZ (h : Hp) (ci a k : Nat) (x : Int32) : Option Hp := if x = 0 ∨ x = 1 then sF h ci a k (.int x) else none
def xI (x : vp_A) : Option (Nat × (Nat → Int32)) := match x with
  | (n, .inl f) => some (n, f)
  | _ => none
def xJ (x : vp_A) : Option (Nat × (Nat → Int64)) := match x with
  | (n, .inr (.inl f)) => some (n, f)
  | _ => none
def xR (x : vp_A) : Option (Nat × (Nat → Option Nat)) := match x with
  | (n, .inr (.inr (.inr (.inr f)))) => some (n, f)
  | _ => none
def iX (i : Int32) (n : Nat) : Option Nat := if i < 0 ∨ n ≤ i.toNatClampNeg then none else some i.toNatClampNeg
def aI (h : Hp) (t a : Nat) (i : Int32) : Option Int32 := ((gA h t a).bind xI).bind fun x => (iX i x.1).bind fun k => some (x.2 k)
def aJ (h : Hp) (t a : Nat) (i : Int32) : Option Int64 := ((gA h t a).bind xJ).bind fun x => (iX i x.1).bind fun k => some (x.2 k)
def aR (h : Hp) (t a : Nat) (i : Int32) : Option Nat := ((gA h t a).bind xR).bind fun x => (iX i x.1).bind fun k => x.2 k
def sI (h : Hp) (t a : Nat) (i x : Int32) : Option Hp := ((gA h t a).bind xI).bind fun y => (iX i y.1).bind fun k => some (h.1, hU h.2 a (.inl (t, y.1, .inl (upd y.2 k x))))
def sB (h : Hp) (t a : Nat) (i x : Int32) : Option Hp := ((gA h t a).bind xI).bind fun y => (iX i y.1).bind fun k => some (h.1, hU h.2 a (.inl (t, y.1, .inl (upd y.2 k (vp_nar .boolean x)))))
def sJ (h : Hp) (t a : Nat) (i : Int32) (x : Int64) : Option Hp := ((gA h t a).bind xJ).bind fun y => (iX i y.1).bind fun k => some (h.1, hU h.2 a (.inl (t, y.1, .inr (.inl (vp_updL y.2 k x)))))
def sR (h : Hp) (t ci a : Nat) (i : Int32) (v : Nat) : Option Hp := ((gA h t a).bind xR).bind fun y => (iX i y.1).bind fun k => (gO h ci v).bind fun _ => some (h.1, hU h.2 a (.inl (t, y.1, .inr (.inr (.inr (.inr (va_up y.2 k (some v))))))))
def nO_ (h : Hp) (ci : Nat) (fs : List Value) : Option (Nat × Hp) := some (h.1, (h.1 + 1, hU h.2 h.1 (.inr (ci, fs))))
def nI_ (h : Hp) (t : Nat) (n : Int32) : Option (Nat × Hp) := if n < 0 ∨ 100000 < n.toNatClampNeg then none else some (h.1, (h.1 + 1, hU h.2 h.1 (.inl (t, n.toNatClampNeg, .inl (fun _ => 0)))))
def nJ_ (h : Hp) (t : Nat) (n : Int32) : Option (Nat × Hp) := if n < 0 ∨ 100000 < n.toNatClampNeg then none else some (h.1, (h.1 + 1, hU h.2 h.1 (.inl (t, n.toNatClampNeg, .inr (.inl (fun _ => 0))))))
def nR_ (h : Hp) (t : Nat) (n : Int32) : Option (Nat × Hp) := if n < 0 ∨ 100000 < n.toNatClampNeg then none else some (h.1, (h.1 + 1, hU h.2 h.1 (.inl (t, n.toNatClampNeg, .inr (.inr (.inr (.inr (fun _ => none))))))))
def zR (v : Int32) (h : Hp) : Option (Int32 × Hp) := if v = 0 ∨ v = 1 then some (v, h) else none
def m_max (a b : Int32) : Int32 := if a < b then b else a
def m_min (a b : Int32) : Int32 := if b < a then b else a
theorem rp_b {α β : Type} {o : Option α} {f : α → Option β} {r : β} (h : o.bind f = some r) : ∃ v, o = some v ∧ f v = some r := by
  cases o with
  | none => cases h
  | some v => exact ⟨v, rfl, h⟩
theorem gO_s {h : Hp} {ci a : Nat} {fs : List Value} (g : gO h ci a = some fs) : h.2 a = some (.inr (ci, fs)) := by
  unfold gO at g
  split at g
  · rename_i c fs' hq
    split at g
    · rename_i hc
      cases g
      rw [hq, hc]
    · cases g
  · cases g
theorem gA_s {h : Hp} {t a : Nat} {x : vp_A} (g : gA h t a = some x) : h.2 a = some (.inl (t, x)) := by
  unfold gA at g
  split at g
  · rename_i c fs' hq
    split at g
    · rename_i hc
      cases g
      rw [hq, hc]
    · cases g
  · cases g
theorem vI_s {v : Option Value} {x : Int32} (g : vI v = some x) : v = some (.int x) := by
  unfold vI at g
  split at g
  · cases g; rfl
  · cases g
theorem vJ_s {v : Option Value} {x : Int64} (g : vJ v = some x) : v = some (.long x) := by
  unfold vJ at g
  split at g
  · cases g; rfl
  · cases g
theorem vR_s {v : Option Value} {x : Nat} (g : vR v = some x) : v = some (.ref x) := by
  unfold vR at g
  split at g
  · cases g; rfl
  · cases g
theorem xI_s {x : vp_A} {n : Nat} {f : Nat → Int32} (g : xI x = some (n, f)) : x = (n, .inl f) := by
  unfold xI at g
  split at g
  · cases g; rfl
  · cases g
theorem xJ_s {x : vp_A} {n : Nat} {f : Nat → Int64} (g : xJ x = some (n, f)) : x = (n, .inr (.inl f)) := by
  unfold xJ at g
  split at g
  · cases g; rfl
  · cases g
theorem xR_s {x : vp_A} {n : Nat} {f : Nat → Option Nat} (g : xR x = some (n, f)) : x = (n, .inr (.inr (.inr (.inr f)))) := by
  unfold xR at g
  split at g
  · cases g; rfl
  · cases g
theorem iX_s {i : Int32} {n k : Nat} (g : iX i n = some k) : vp_in i n ∧ k = i.toNatClampNeg := by
  unfold iX at g
  split at g
  · cases g
  · rename_i hq
    cases g
    exact ⟨hq, rfl⟩
def hC (tys : List (ClassId × FieldType)) (e : HE) : va_E := match e with
  | .inl (t, x) => .inl ((tys.getD t (0, .int)).1, x)
  | .inr o => .inr o
def Rp (D : va_G) (cl : List vw_C) (tys : List (ClassId × FieldType)) (A : Nat → Prop) (h : Hp) (H : Heap) : Prop := H.size = h.1 ∧ ∀ (a : Nat) (e : HE), h.2 a = some e → A a ∧ va_at D cl (a, hC tys e) H
def In (D : va_G) (cl : List vw_C) (tys : List (ClassId × FieldType)) (A : Nat → Prop) (s : State) (h : Hp) (H : Heap) (locs : List Loc) : Prop := Rp D cl tys A h H ∧ va_S A s.heap H locs ∧ ∀ q : Nat, s.heap.size ≤ q → A q
theorem rp_upd {D : va_G} {cl : List vw_C} {tys : List (ClassId × FieldType)} {A : Nat → Prop} {s : State} {h : Hp} {H H1 : Heap} {locs : List Loc} {a k : Nat} {e : HE} (I : In D cl tys A s h H locs) (ha : A a) (he : va_at D cl (a, hC tys e) H1) (hz : H1.size = H.size) (oq : ∀ q : Nat, q ≠ a → H1[q]? = H[q]?) : In D cl tys A s (h.1, hU h.2 a e) H1 (locs ++ [⟨a, k⟩]) := by
  obtain ⟨⟨R1, R2⟩, S, hA⟩ := I
  refine ⟨⟨by rw [hz]; exact R1, fun b e' hb => ?_⟩, S.put hz oq ha, hA⟩
  dsimp only [hU] at hb
  split at hb
  · rename_i hq
    cases hb
    subst hq
    exact ⟨ha, he⟩
  · rename_i hq
    obtain ⟨x, y⟩ := R2 b e' hb
    exact ⟨x, y.kept (oq b hq)⟩
theorem rp_push {D : va_G} {cl : List vw_C} {tys : List (ClassId × FieldType)} {A : Nat → Prop} {s : State} {h : Hp} {H H1 : Heap} {locs : List Loc} {e : HE} (I : In D cl tys A s h H locs) (he : va_at D cl (h.1, hC tys e) H1) (hz : H1.size = h.1 + 1) (oq : ∀ q : Nat, q < h.1 → H1[q]? = H[q]?) : In D cl tys A s (h.1 + 1, hU h.2 h.1 e) H1 locs := by
  obtain ⟨⟨R1, R2⟩, S, hA⟩ := I
  refine ⟨⟨hz, fun b e' hb => ?_⟩, ⟨?_, fun q h1 h2 => ?_, S.2.2⟩, hA⟩
  · dsimp only [hU] at hb
    split at hb
    · rename_i hq
      cases hb
      subst hq
      exact ⟨hA _ (by rw [← R1]; exact S.1), he⟩
    · obtain ⟨x, y⟩ := R2 b e' hb
      have hl := y.lt
      dsimp only at hl
      exact ⟨x, y.kept (oq b (by rw [← R1]; exact hl))⟩
  · have := S.1
    omega
  · rw [oq q (by have := S.1; omega)]
    exact S.2.1 q h1 h2
section RP
variable {p : Program} {l : Launch} {e : Env} {R : Room} {s : State} {m : MethodId} {args : Array Value} {below : List Frame} {meth : Method} {c : Code} {H : Heap} {locs : List Loc} {cells slots : Nat} {Q : State → Prop}
variable {cc : ByteArray} {pc nL : Nat} {ls : Array Slot} {rest : List Value} {D : va_G} {cl : List vw_C} {A : Nat → Prop} {a : Nat} {tys : List (ClassId × FieldType)} {h : Hp} {Ts : List Cond} {own : String}
theorem rp_one {q : Nat × va_E} (h : va_at D cl q H) : va_P D cl [q] H := by
  intro k q' hk
  cases k with
  | zero => cases hk; exact h
  | succ k => simp at hk
theorem rp_obj {ci : Nat} {fs : List Value} (I : In D cl tys A s h H locs) (g : gO h ci a = some fs) : A a ∧ va_at D cl (a, .inr (ci, fs)) H := I.1.2 a _ (gO_s g)
/-- what a method's proof has at hand all the time -/
def Cx (p : Program) (s : State) (m : MethodId) (args : Array Value) (meth : Method) (c : Code) (D : va_G) (cl : List vw_C) (tys : List (ClassId × FieldType)) (cc : ByteArray) (nL : Nat) (own : String) (Ts : List Cond) : Prop := CallFix p m c cc nL s args Ts own ∧ va_K D cl tys s ∧ meth.locks = false ∧ tys.map (fun q => q.2) = tyS
theorem rp_get {C : String} {T : u_T} {N ci index k : Nat} {fs : List Value} {v : Value} (X : Cx p s m args meth c D cl tys cc nL own Ts) (I : In D cl tys A s h H locs) (g : gO h ci a = some fs) (hv : fs[k]? = some v) (hc : cl[ci]? = some (C, T, N)) (hin : ∀ w ∈ u_ws C T N, w ∈ Ts) (hk : k < N) (hl : Cond.fieldLink own index (T k).1 (T k).2.1 (T k).2.2.1 ∈ Ts) (hdg : decode cc pc = .ok (.getfield index, 3))
    (kk : W p l e R s m args below meth c H locs cells slots Q (F0 m (pc + 3) ls (v :: rest))) : W p l e R s m args below meth c H locs cells slots Q (F0 m pc ls (.ref a :: rest)) := by
  obtain ⟨⟨hx, hb, hml, ho, hts⟩, hK, -, hT⟩ := X
  exact va_get (D := D) hx hb hts hin ho hK (rp_one (rp_obj I g).2) 0 rfl hc k hk (hts _ hl) (fun _ h9 => h9) hv hdg kk
theorem rp_getN {C host : String} {T : u_T} {N ci index k : Nat} {fs : List Value} {v : Value} (X : Cx p s m args meth c D cl tys cc nL own Ts) (I : In D cl tys A s h H locs) (g : gO h ci a = some fs) (hv : fs[k]? = some v) (hc : cl[ci]? = some (C, T, N)) (hin : ∀ w ∈ u_ws C T N, w ∈ Ts) (hk : k < N) (hl : va_Nw (.fieldLinkNest own index (T k).1 (T k).2.1 (T k).2.2.1 host) s) (hdg : decode cc pc = .ok (.getfield index, 3))
    (kk : W p l e R s m args below meth c H locs cells slots Q (F0 m (pc + 3) ls (v :: rest))) : W p l e R s m args below meth c H locs cells slots Q (F0 m pc ls (.ref a :: rest)) := by
  obtain ⟨⟨hx, hb, hml, ho, hts⟩, hK, -, hT⟩ := X
  exact va_getN (D := D) hx hb hts hin ho hK (rp_one (rp_obj I g).2) 0 rfl hc k hk (va_Nw.use rfl hl) (fun _ h9 => h9) hv hdg kk
theorem fI_s {ci k : Nat} {v : Int32} (g : fI h ci a k = some v) : ∃ fs, gO h ci a = some fs ∧ fs[k]? = some (.int v) := by
  obtain ⟨fs, g1, g2⟩ := rp_b g
  exact ⟨fs, g1, vI_s g2⟩
theorem fJ_s {ci k : Nat} {v : Int64} (g : fJ h ci a k = some v) : ∃ fs, gO h ci a = some fs ∧ fs[k]? = some (.long v) := by
  obtain ⟨fs, g1, g2⟩ := rp_b g
  exact ⟨fs, g1, vJ_s g2⟩
theorem fR_s {ci k : Nat} {v : Nat} (g : fR h ci a k = some v) : ∃ fs, gO h ci a = some fs ∧ fs[k]? = some (.ref v) := by
  obtain ⟨fs, g1, g2⟩ := rp_b g
  exact ⟨fs, g1, vR_s g2⟩
theorem isO_s {ci : Nat} {v : Unit} (g : isO h ci a = some v) : ∃ fs, gO h ci a = some fs := by
  obtain ⟨fs, g1, g2⟩ := rp_b g
  exact ⟨fs, g1⟩
theorem sF_s {ci k : Nat} {v : Value} {h' : Hp} (g : sF h ci a k v = some h') : ∃ fs, gO h ci a = some fs ∧ k < fs.length ∧ h' = (h.1, hU h.2 a (.inr (ci, fs.set k v))) := by
  obtain ⟨fs, g1, g2⟩ := rp_b g
  split at g2
  · rename_i hq
    cases g2
    exact ⟨fs, g1, hq, rfl⟩
  · cases g2
theorem rp_fz {x : Int32} (h : x = 0 ∨ x = 1) : fits .boolean (.int x) = true := by
  rcases h with rfl | rfl <;> rfl
theorem sZ_s {ci k : Nat} {x : Int32} {h' : Hp} (g : sZ h ci a k x = some h') : (x = 0 ∨ x = 1) ∧ sF h ci a k (.int x) = some h' := by
  unfold sZ at g
  split at g
  · rename_i hq
    exact ⟨hq, g⟩
  · cases g
/-- a field is written: what the machine does, as the abstract heap has it -/
theorem rp_wr {C : String} {T : u_T} {N ci k : Nat} {fs : List Value} {v : Value} (X : Cx p s m args meth c D cl tys cc nL own Ts) (I : In D cl tys A s h H locs) (g : gO h ci a = some fs) (hlen : k < fs.length) (hc : cl[ci]? = some (C, T, N)) (hin : ∀ w ∈ u_ws C T N, w ∈ Ts) (ty0 : Nat → FieldType) (hty : ∀ k, k < N → parseFieldDescriptor (T k).2.2.1 = some (ty0 k)) (hnm : ∀ a, a < N → ∀ b, b < N → a ≠ b → (T a).2.1 ≠ (T b).2.1) (hk : k < N) :
    ∃ (cell : Cell) (i : Nat), H[a]? = some cell ∧ cell.cls = D.1 ci ∧ cell.vm = .none ∧ D.2 ci k = i ∧ i < cell.slots.size ∧ ∀ H1 : Heap, H1[a]? = some (cell.setSlot i v) → H1.size = H.size → (∀ q : Nat, q ≠ a → H1[q]? = H[q]?) → In D cl tys A s (h.1, hU h.2 a (.inr (ci, fs.set k v))) H1 (locs ++ [⟨a, i⟩]) := by
  obtain ⟨⟨hx, hb, hml, ho, hts⟩, hK, -, hT⟩ := X
  have hap := va_apart (own := own) hts hin ty0 hty hnm hK hc
  obtain ⟨hAa, r, h1, cell, q1, q2, q3, q4⟩ := rp_obj I g
  have hr : r = (C, T, N) := Option.some.inj (h1.symm.trans hc)
  subst hr
  refine ⟨cell, _, q1, q2, q3, rfl, k2_hasslot (q4 k hk), fun H1 e1 e2 e3 => rp_upd I hAa ⟨_, hc, t_OB.to (V := updV (vp_V fs) k v) ⟨_, e1, q2, q3, t_set q4 hap hk v⟩ (fun j _ => vp_updV_set hlen v j)⟩ e2 e3⟩
theorem rp_put {C : String} {T : u_T} {N ci index k : Nat} {v : Value} {h' : Hp} {ty : FieldType} (X : Cx p s m args meth c D cl tys cc nL own Ts) (I : In D cl tys A s h H locs) (g : sF h ci a k v = some h') (hc : cl[ci]? = some (C, T, N)) (hin : ∀ w ∈ u_ws C T N, w ∈ Ts) (ty0 : Nat → FieldType) (hty : ∀ k, k < N → parseFieldDescriptor (T k).2.2.1 = some (ty0 k)) (hnm : ∀ a, a < N → ∀ b, b < N → a ≠ b → (T a).2.1 ≠ (T b).2.1) (hk : k < N) (hl : Cond.fieldLink own index (T k).1 (T k).2.1 (T k).2.2.1 ∈ Ts) (hfin : (T k).2.2.2 = false) (hd : parseFieldDescriptor (T k).2.2.1 = some ty) (hn : narrow ty v = v) (hfit : fits ty v = true) (hdg : decode cc pc = .ok (.putfield index, 3))
    (kk : ∀ (H1 : Heap) (locs1 : List Loc), In D cl tys A s h' H1 locs1 → W p l e R s m args below meth c H1 locs1 cells slots Q (F0 m (pc + 3) ls rest)) : W p l e R s m args below meth c H locs cells slots Q (F0 m pc ls (v :: .ref a :: rest)) := by
  obtain ⟨fs, g1, hlen, rfl⟩ := sF_s g
  obtain ⟨cell, i, q1, q2, q3, hi1, hlt, hup⟩ := rp_wr (v := v) X I g1 hlen hc hin ty0 hty hnm hk
  obtain ⟨⟨hx, hb, hml, ho, hts⟩, hK, -, hT⟩ := X
  obtain ⟨hS, hfc, kC, hkC, hkind⟩ := hK.1 ci _ hc
  obtain ⟨cf, kf, fi, f, hi, hsl⟩ := hS k hk
  have hlay := hts _ (hin _ (u_in_lay hk))
  unfold u_lay at hlay
  rw [if_neg (by rw [hfin]; decide)] at hlay
  have hst := (u_facts hfc hkC (u_lays hts hin hk) hi).1
  have h6 := u_store hfc hkC hkind hlay hi hd hn hfit
  have hsl' : f.slot = i := hsl.trans hi1
  refine W.putK hx hb (f := f) ⟨ho, hts _ hl, ⟨_, _, _, hi⟩, hst⟩ (by rw [q2]; exact h6) q1 q3 (by rw [hsl']; exact hlt) rfl rfl hdg fun H' e1 e2 e3 => ?_
  rw [hsl'] at e1 ⊢
  exact kk H' _ (hup H' e1 e2 e3)
theorem rp_putF {C : String} {T : u_T} {N ci index k : Nat} {v : Value} {h' : Hp} {ty : FieldType} (X : Cx p s m args meth c D cl tys cc nL own Ts) (I : In D cl tys A s h H locs) (g : sF h ci a k v = some h') (hc : cl[ci]? = some (C, T, N)) (hin : ∀ w ∈ u_ws C T N, w ∈ Ts) (ty0 : Nat → FieldType) (hty : ∀ k, k < N → parseFieldDescriptor (T k).2.2.1 = some (ty0 k)) (hnm : ∀ a, a < N → ∀ b, b < N → a ≠ b → (T a).2.1 ≠ (T b).2.1) (hk : k < N) (hl : Cond.fieldLink own index (T k).1 (T k).2.1 (T k).2.2.1 ∈ Ts) (hfin : (T k).2.2.2 = true) (hin2 : meth.name = "<init>") (hdecl : (T k).1 = own) (hd : parseFieldDescriptor (T k).2.2.1 = some ty) (hn : narrow ty v = v) (hfit : fits ty v = true) (hdg : decode cc pc = .ok (.putfield index, 3))
    (kk : ∀ (H1 : Heap) (locs1 : List Loc), In D cl tys A s h' H1 locs1 → W p l e R s m args below meth c H1 locs1 cells slots Q (F0 m (pc + 3) ls rest)) : W p l e R s m args below meth c H locs cells slots Q (F0 m pc ls (v :: .ref a :: rest)) := by
  obtain ⟨fs, g1, hlen, rfl⟩ := sF_s g
  obtain ⟨cell, i, q1, q2, q3, hi1, hlt, hup⟩ := rp_wr (v := v) X I g1 hlen hc hin ty0 hty hnm hk
  obtain ⟨⟨hx, hb, hml, ho, hts⟩, hK, -, hT⟩ := X
  obtain ⟨hS, hfc, kC, hkC, hkind⟩ := hK.1 ci _ hc
  obtain ⟨cf, kf, fi, f, hi, hsl⟩ := hS k hk
  have hlay := hts _ (hin _ (u_in_lay hk))
  unfold u_lay at hlay
  rw [if_pos hfin] at hlay
  have hst := (u_facts hfc hkC (u_lays hts hin hk) hi).1
  have hcf : m.cls = cf := by
    obtain ⟨_, _, c', _, _, _, -, -, hf', -, -, -, hown2, -⟩ := Cond.laysFinal_spec hlay
    have e1 : c' = cf := by have := hi.symm.trans hf'; simp at this; exact this.1.symm
    rw [hdecl] at hown2
    rw [← e1]; exact Option.some.inj (ho.symm.trans hown2)
  have h6 := u_fits hfc hkC hkind (Or.inr hlay) hi hd hn hfit
  have hsl' : f.slot = i := hsl.trans hi1
  refine W.putFinK hx hb ho (hts _ hl) hi hst hcf hin2 (by rw [q2]; exact h6) q1 q3 (by rw [hsl']; exact hlt) rfl rfl hdg fun H' e1 e2 e3 => ?_
  rw [hsl'] at e1 ⊢
  exact kk H' _ (hup H' e1 e2 e3)
theorem rp_arr {t : Nat} {x : vp_A} (I : In D cl tys A s h H locs) (g : gA h t a = some x) : A a ∧ H[a]? = some (vp_cell (tys.getD t (0, .int)).1 x) := I.1.2 a _ (gA_s g)
theorem rp_ty {t : Nat} {ty : FieldType} (hK : va_K D cl tys s) (hT : tys.map (fun q => q.2) = tyS) (ht : tyS[t]? = some ty) : ArrOfT s (tys.getD t (0, .int)).1 ty ∧ va_RA s (tys.getD t (0, .int)).1 ty := by
  rw [← hT, List.getElem?_map] at ht
  cases hq : tys[t]? with
  | none => rw [hq] at ht; cases ht
  | some q =>
    rw [hq] at ht
    cases ht
    have e : tys.getD t (0, .int) = q := by rw [List.getD_eq_getElem?_getD, hq]; rfl
    rw [e]
    exact hK.2 t q hq
theorem aI_s {t : Nat} {i v : Int32} (g : aI h t a i = some v) : ∃ n f, gA h t a = some (n, .inl f) ∧ vp_in i n ∧ v = f i.toNatClampNeg := by
  obtain ⟨⟨n, f⟩, g1, g2⟩ := rp_b g
  obtain ⟨x, g3, g4⟩ := rp_b g1
  obtain ⟨k, g5, g6⟩ := rp_b g2
  obtain ⟨g7, g8⟩ := iX_s g5
  have := xI_s g4
  subst this
  subst g8
  cases g6
  exact ⟨n, f, g3, g7, rfl⟩
theorem aJ_s {t : Nat} {i : Int32} {v : Int64} (g : aJ h t a i = some v) : ∃ n f, gA h t a = some (n, .inr (.inl f)) ∧ vp_in i n ∧ v = f i.toNatClampNeg := by
  obtain ⟨⟨n, f⟩, g1, g2⟩ := rp_b g
  obtain ⟨x, g3, g4⟩ := rp_b g1
  obtain ⟨k, g5, g6⟩ := rp_b g2
  obtain ⟨g7, g8⟩ := iX_s g5
  have := xJ_s g4
  subst this
  subst g8
  cases g6
  exact ⟨n, f, g3, g7, rfl⟩
theorem aR_s {t : Nat} {i : Int32} {v : Nat} (g : aR h t a i = some v) : ∃ n f, gA h t a = some (n, .inr (.inr (.inr (.inr f)))) ∧ vp_in i n ∧ f i.toNatClampNeg = some v := by
  obtain ⟨⟨n, f⟩, g1, g2⟩ := rp_b g
  obtain ⟨x, g3, g4⟩ := rp_b g1
  obtain ⟨k, g5, g6⟩ := rp_b g2
  obtain ⟨g7, g8⟩ := iX_s g5
  have := xR_s g4
  subst this
  subst g8
  exact ⟨n, f, g3, g7, g6⟩
theorem rp_in {i : Int32} {n : Nat} {cA : ClassId} {f : Nat → Value} (hin : vp_in i n) : ¬ (i < 0 ∨ (arrV cA n f).slots.size ≤ i.toNatClampNeg) := by rw [arrV_size]; exact hin
theorem rp_rd {i : Int32} {n : Nat} {cA : ClassId} {f : Nat → Value} (hin : vp_in i n) : (arrV cA n f).slots[i.toNatClampNeg]? = some (f i.toNatClampNeg) := by
  have hlt : i.toNatClampNeg < n := Nat.not_le.mp fun q => hin (Or.inr q)
  rw [arrV_read _ _ hlt]
theorem rp_iald {t : Nat} {i v : Int32} (X : Cx p s m args meth c D cl tys cc nL own Ts) (I : In D cl tys A s h H locs) (g : aI h t a i = some v) (ht : tyS[t]? = some .int) (hdg : decode cc pc = .ok (.iaload, 1))
    (kk : W p l e R s m args below meth c H locs cells slots Q (F0 m (pc + 1) ls (.int v :: rest))) : W p l e R s m args below meth c H locs cells slots Q (F0 m pc ls (.int i :: .ref a :: rest)) := by
  obtain ⟨n, f, g1, g2, rfl⟩ := aI_s g
  obtain ⟨⟨hx, hb, hml, ho, hts⟩, hK, -, hT⟩ := X
  exact W.iald (v := .int (f i.toNatClampNeg)) hx hb (rp_arr I g1).2 ((rp_ty hK hT ht).1 n (fun j => .int (f j))) (fun q => by cases q) (rp_in g2) (rp_rd (f := fun j => .int (f j)) g2) rfl rfl hdg kk
theorem rp_zald {t : Nat} {i v : Int32} (X : Cx p s m args meth c D cl tys cc nL own Ts) (I : In D cl tys A s h H locs) (g : aI h t a i = some v) (ht : tyS[t]? = some .boolean) (hdg : decode cc pc = .ok (.baload, 1))
    (kk : W p l e R s m args below meth c H locs cells slots Q (F0 m (pc + 1) ls (.int v :: rest))) : W p l e R s m args below meth c H locs cells slots Q (F0 m pc ls (.int i :: .ref a :: rest)) := by
  obtain ⟨n, f, g1, g2, rfl⟩ := aI_s g
  obtain ⟨⟨hx, hb, hml, ho, hts⟩, hK, -, hT⟩ := X
  exact W.zald (v := .int (f i.toNatClampNeg)) hx hb (rp_arr I g1).2 ((rp_ty hK hT ht).1 n (fun j => .int (f j))) (fun q => by cases q) (rp_in g2) (rp_rd (f := fun j => .int (f j)) g2) rfl rfl hdg kk
theorem rp_lald {t : Nat} {i : Int32} {v : Int64} (X : Cx p s m args meth c D cl tys cc nL own Ts) (I : In D cl tys A s h H locs) (g : aJ h t a i = some v) (ht : tyS[t]? = some .long) (hdg : decode cc pc = .ok (.laload, 1))
    (kk : W p l e R s m args below meth c H locs cells slots Q (F0 m (pc + 1) ls (.long v :: rest))) : W p l e R s m args below meth c H locs cells slots Q (F0 m pc ls (.int i :: .ref a :: rest)) := by
  obtain ⟨n, f, g1, g2, rfl⟩ := aJ_s g
  obtain ⟨⟨hx, hb, hml, ho, hts⟩, hK, -, hT⟩ := X
  exact W.lald (v := .long (f i.toNatClampNeg)) hx hb (rp_arr I g1).2 ((rp_ty hK hT ht).1 n (fun j => .long (f j))) (fun q => by cases q) (rp_in g2) (rp_rd (f := fun j => .long (f j)) g2) rfl rfl hdg kk
theorem rp_aald {t : Nat} {i : Int32} {v : Nat} {C : String} (X : Cx p s m args meth c D cl tys cc nL own Ts) (I : In D cl tys A s h H locs) (g : aR h t a i = some v) (ht : tyS[t]? = some (.object C)) (hdg : decode cc pc = .ok (.aaload, 1))
    (kk : W p l e R s m args below meth c H locs cells slots Q (F0 m (pc + 1) ls (.ref v :: rest))) : W p l e R s m args below meth c H locs cells slots Q (F0 m pc ls (.int i :: .ref a :: rest)) := by
  obtain ⟨n, f, g1, g2, g3⟩ := aR_s g
  obtain ⟨⟨hx, hb, hml, ho, hts⟩, hK, -, hT⟩ := X
  have e1 : va_rf (f i.toNatClampNeg) = .ref v := by rw [g3]; rfl
  exact W.aald (v := .ref v) (ty := .object C) hx hb (rp_arr I g1).2 ((rp_ty hK hT ht).1 n (fun j => va_rf (f j))) rfl (fun q => by cases q) (rp_in g2) (by rw [← e1]; exact rp_rd (f := fun j => va_rf (f j)) g2) rfl rfl hdg kk
theorem sI_s {t : Nat} {i x : Int32} {h' : Hp} (g : sI h t a i x = some h') : ∃ n f, gA h t a = some (n, .inl f) ∧ vp_in i n ∧ h' = (h.1, hU h.2 a (.inl (t, n, .inl (upd f i.toNatClampNeg x)))) := by
  obtain ⟨⟨n, f⟩, g1, g2⟩ := rp_b g
  obtain ⟨y, g3, g4⟩ := rp_b g1
  obtain ⟨k, g5, g6⟩ := rp_b g2
  obtain ⟨g7, g8⟩ := iX_s g5
  have := xI_s g4
  subst this
  subst g8
  cases g6
  exact ⟨n, f, g3, g7, rfl⟩
theorem sB_s {t : Nat} {i x : Int32} {h' : Hp} (g : sB h t a i x = some h') : ∃ n f, gA h t a = some (n, .inl f) ∧ vp_in i n ∧ h' = (h.1, hU h.2 a (.inl (t, n, .inl (upd f i.toNatClampNeg (vp_nar .boolean x))))) := by
  obtain ⟨⟨n, f⟩, g1, g2⟩ := rp_b g
  obtain ⟨y, g3, g4⟩ := rp_b g1
  obtain ⟨k, g5, g6⟩ := rp_b g2
  obtain ⟨g7, g8⟩ := iX_s g5
  have := xI_s g4
  subst this
  subst g8
  cases g6
  exact ⟨n, f, g3, g7, rfl⟩
theorem sJ_s {t : Nat} {i : Int32} {x : Int64} {h' : Hp} (g : sJ h t a i x = some h') : ∃ n f, gA h t a = some (n, .inr (.inl f)) ∧ vp_in i n ∧ h' = (h.1, hU h.2 a (.inl (t, n, .inr (.inl (vp_updL f i.toNatClampNeg x))))) := by
  obtain ⟨⟨n, f⟩, g1, g2⟩ := rp_b g
  obtain ⟨y, g3, g4⟩ := rp_b g1
  obtain ⟨k, g5, g6⟩ := rp_b g2
  obtain ⟨g7, g8⟩ := iX_s g5
  have := xJ_s g4
  subst this
  subst g8
  cases g6
  exact ⟨n, f, g3, g7, rfl⟩
theorem sR_s {t ci v : Nat} {i : Int32} {h' : Hp} (g : sR h t ci a i v = some h') : ∃ n f fs, gA h t a = some (n, .inr (.inr (.inr (.inr f)))) ∧ vp_in i n ∧ gO h ci v = some fs ∧ h' = (h.1, hU h.2 a (.inl (t, n, .inr (.inr (.inr (.inr (va_up f i.toNatClampNeg (some v)))))))) := by
  obtain ⟨⟨n, f⟩, g1, g2⟩ := rp_b g
  obtain ⟨y, g3, g4⟩ := rp_b g1
  obtain ⟨k, g5, g6⟩ := rp_b g2
  obtain ⟨fs, g9, g10⟩ := rp_b g6
  obtain ⟨g7, g8⟩ := iX_s g5
  have := xR_s g4
  subst this
  subst g8
  cases g10
  exact ⟨n, f, fs, g3, g7, g9, rfl⟩
theorem rp_iast {t : Nat} {i x : Int32} {h' : Hp} (X : Cx p s m args meth c D cl tys cc nL own Ts) (I : In D cl tys A s h H locs) (g : sI h t a i x = some h') (ht : tyS[t]? = some .int) (hdg : decode cc pc = .ok (.iastore, 1))
    (kk : ∀ (H1 : Heap) (locs1 : List Loc), In D cl tys A s h' H1 locs1 → W p l e R s m args below meth c H1 locs1 cells slots Q (F0 m (pc + 1) ls rest)) : W p l e R s m args below meth c H locs cells slots Q (F0 m pc ls (.int x :: .int i :: .ref a :: rest)) := by
  obtain ⟨n, f, g1, g2, rfl⟩ := sI_s g
  obtain ⟨⟨hx, hb, hml, ho, hts⟩, hK, -, hT⟩ := X
  obtain ⟨hAa, hcell⟩ := rp_arr I g1
  refine W.iast hx hb hcell ((rp_ty hK hT ht).1 n (fun j => .int (f j))) (fun q => by cases q) (rp_in g2) rfl rfl hdg fun H1 e z oq => ?_
  refine kk H1 _ (rp_upd I hAa ?_ z oq)
  show H1[a]? = some (vp_cell _ _)
  rw [e]
  rw [vp_cell_i, vp_cell_i, arrV_store]
  congr 2
  funext q
  by_cases hq : q = i.toNatClampNeg
  · subst hq
    simp [updV, upd]
  · simp [updV, upd, hq]
theorem rp_zast {t : Nat} {i x : Int32} {h' : Hp} (X : Cx p s m args meth c D cl tys cc nL own Ts) (I : In D cl tys A s h H locs) (g : sB h t a i x = some h') (ht : tyS[t]? = some .boolean) (hdg : decode cc pc = .ok (.bastore, 1))
    (kk : ∀ (H1 : Heap) (locs1 : List Loc), In D cl tys A s h' H1 locs1 → W p l e R s m args below meth c H1 locs1 cells slots Q (F0 m (pc + 1) ls rest)) : W p l e R s m args below meth c H locs cells slots Q (F0 m pc ls (.int x :: .int i :: .ref a :: rest)) := by
  obtain ⟨n, f, g1, g2, rfl⟩ := sB_s g
  obtain ⟨⟨hx, hb, hml, ho, hts⟩, hK, -, hT⟩ := X
  obtain ⟨hAa, hcell⟩ := rp_arr I g1
  refine W.zast hx hb hcell ((rp_ty hK hT ht).1 n (fun j => .int (f j))) (fun q => by cases q) (rp_in g2) rfl rfl hdg fun H1 e z oq => ?_
  refine kk H1 _ (rp_upd I hAa ?_ z oq)
  show H1[a]? = some (vp_cell _ _)
  rw [e]
  rw [vp_cell_i, vp_cell_i, arrV_store]
  congr 2
  funext q
  by_cases hq : q = i.toNatClampNeg
  · subst hq
    simp [updV, upd, vp_nar]
    try rfl
  · simp [updV, upd, hq]
theorem rp_last {t : Nat} {i : Int32} {x : Int64} {h' : Hp} (X : Cx p s m args meth c D cl tys cc nL own Ts) (I : In D cl tys A s h H locs) (g : sJ h t a i x = some h') (ht : tyS[t]? = some .long) (hdg : decode cc pc = .ok (.lastore, 1))
    (kk : ∀ (H1 : Heap) (locs1 : List Loc), In D cl tys A s h' H1 locs1 → W p l e R s m args below meth c H1 locs1 cells slots Q (F0 m (pc + 1) ls rest)) : W p l e R s m args below meth c H locs cells slots Q (F0 m pc ls (.long x :: .int i :: .ref a :: rest)) := by
  obtain ⟨n, f, g1, g2, rfl⟩ := sJ_s g
  obtain ⟨⟨hx, hb, hml, ho, hts⟩, hK, -, hT⟩ := X
  obtain ⟨hAa, hcell⟩ := rp_arr I g1
  refine W.last hx hb hcell ((rp_ty hK hT ht).1 n (fun j => .long (f j))) (fun q => by cases q) (rp_in g2) rfl rfl hdg fun H1 e z oq => ?_
  refine kk H1 _ (rp_upd I hAa ?_ z oq)
  show H1[a]? = some (vp_cell _ _)
  rw [e]
  rw [vp_cell_l, vp_cell_l, arrV_store]
  congr 2
  funext q
  by_cases hq : q = i.toNatClampNeg
  · subst hq
    simp [updV, vp_updL]
  · simp [updV, vp_updL, hq]
end RP
end
section
section RQ
variable {p : Program} {l : Launch} {e : Env} {R : Room} {s : State} {m : MethodId} {args : Array Value} {below : List Frame} {meth : Method} {c : Code} {H : Heap} {locs : List Loc} {cells slots : Nat} {Q : State → Prop}
variable {cc : ByteArray} {pc nL : Nat} {ls : Array Slot} {rest : List Value} {D : va_G} {cl : List vw_C} {A : Nat → Prop} {a : Nat} {tys : List (ClassId × FieldType)} {h : Hp} {Ts : List Cond} {own : String}
theorem rp_aast {t ci v : Nat} {i : Int32} {h' : Hp} {r : vw_C} (X : Cx p s m args meth c D cl tys cc nL own Ts) (I : In D cl tys A s h H locs) (g : sR h t ci a i v = some h') (hc : cl[ci]? = some r) (ht : tyS[t]? = some (.object r.1)) (hdg : decode cc pc = .ok (.aastore, 1))
    (kk : ∀ (H1 : Heap) (locs1 : List Loc), In D cl tys A s h' H1 locs1 → W p l e R s m args below meth c H1 locs1 cells slots Q (F0 m (pc + 1) ls rest)) : W p l e R s m args below meth c H locs cells slots Q (F0 m pc ls (.ref v :: .int i :: .ref a :: rest)) := by
  obtain ⟨n, f, fs, g1, g2, g3, rfl⟩ := sR_s g
  obtain ⟨⟨hx, hb, hml, ho, hts⟩, hK, -, hT⟩ := X
  obtain ⟨hAa, hcell⟩ := rp_arr I g1
  have hlt : i.toNatClampNeg < n := Nat.not_le.mp fun q => g2 (Or.inr q)
  have h0 : ¬ i < 0 := fun q => g2 (Or.inl q)
  obtain ⟨-, r', hr', cellV, q1, q2, q3, -⟩ := rp_obj I g3
  have hcls := (hK.1 ci r hc).2
  obtain ⟨kA, comp, k1, k2, k3, -⟩ := (rp_ty hK hT ht).2
  have hcomp : comp = D.1 ci := Option.some.inj (k3.symm.trans hcls.1)
  subst hcomp
  obtain ⟨kC, hkC, -⟩ := hcls.2
  refine W.aast hx hb hcell (fun q h => by cases h) (fun h => by cases h) k1 k2 rfl hkC ⟨h0, by show _ < (arrV _ _ _).slots.size; rw [arrV_size]; exact hlt⟩ q1 (fun q h => by rw [q3] at h; cases h) (by rw [q2]; exact hkC) (by rw [q2]; exact va_assign hcls) rfl rfl hdg fun H1 e z oq => ?_
  refine kk H1 _ (rp_upd I hAa ?_ z oq)
  show H1[a]? = some (vp_cell _ _)
  rw [e]
  rw [vp_cell_q, vp_cell_q, arrV_store]
  congr 2
  funext q
  by_cases hq : q = i.toNatClampNeg
  · subst hq
    simp [updV, va_up, va_rf]
  · simp [updV, va_up, hq]
theorem rp_new {C : String} {T : u_T} {N ci index : Nat} {fs : List Value} {q : Nat × Hp} (X : Cx p s m args meth c D cl tys cc nL own Ts) (I : In D cl tys A s h H locs) (g : nO_ h ci fs = some q) (hc : cl[ci]? = some (C, T, N)) (hin : ∀ w ∈ u_ws C T N, w ∈ Ts) (ty : Nat → FieldType) (hty : ∀ k, k < N → parseFieldDescriptor (T k).2.2.1 = some (ty k)) (hcl : Cond.classLink own index C ∈ Ts) (hinst : Cond.instantiable C N ∈ Ts) (hini : Cond.initialized C ∈ Ts) (hfs : ∀ j, j < N → defaultValue (ty j) = vp_V fs j) (hcells : cells + 1 ≤ R.cells) (hslots : slots + N ≤ R.slots) (hdg : decode cc pc = .ok (.new index, 3))
    (kk : ∀ H1 : Heap, In D cl tys A s q.2 H1 locs → W p l e R s m args below meth c H1 locs (cells + 1) (slots + N) Q (F0 m (pc + 3) ls (.ref q.1 :: rest))) : W p l e R s m args below meth c H locs cells slots Q (F0 m pc ls rest) := by
  cases g
  obtain ⟨⟨hx, hb, hml, ho, hts⟩, hK, -, hT⟩ := X
  have hKn := hK.1 ci _ hc
  refine W.newcK hx hb ho (hts _ hcl) (hts _ hinst) (hts _ hini) rfl hdg hcells hslots hKn.2.1 I.1.1 fun H1 kC hkC e1 z1 o1 => ?_
  exact kk H1 (rp_push I ⟨_, hc, (u_born ty hts hin hKn hkC e1 hty).to hfs⟩ z1 o1)
theorem rp_newa {t : Nat} {n : Int32} {x : vp_A} {atype : ArrayType} {ty : FieldType} (X : Cx p s m args meth c D cl tys cc nL own Ts) (I : In D cl tys A s h H locs) (hneg : ¬ n < 0) (hle : n.toNatClampNeg ≤ 100000) (hN : n.toNatClampNeg = x.1) (hxx : ∀ cA : ClassId, vp_cell cA x = arrV cA x.1 (fun _ => defaultValue ty)) (hty : newarray.typeOf atype = ty) (hby : componentBytes ty ≤ 8) (harr : Cond.arrayClass ty ∈ Ts) (ht : tyS[t]? = some ty) (hra : ∀ c : ClassId, va_RA s c ty → s.vm.findClass ("[" ++ ty.toString) = some c) (hcells : cells + 1 ≤ R.cells) (hslots : slots + x.1 ≤ R.slots) (hdg : decode cc pc = .ok (.newarray atype, 2))
    (kk : ∀ H1 : Heap, In D cl tys A s (h.1 + 1, hU h.2 h.1 (.inl (t, x))) H1 locs → W p l e R s m args below meth c H1 locs (cells + 1) (slots + x.1) Q (F0 m (pc + 2) ls (.ref h.1 :: rest))) : W p l e R s m args below meth c H locs cells slots Q (F0 m pc ls (.int n :: rest)) := by
  subst hty
  obtain ⟨⟨hx, hb, hml, ho, hts⟩, hK, -, hT⟩ := X
  have hby2 : x.1 * componentBytes (newarray.typeOf atype) ≤ 536870912 := by
    rw [← hN]
    exact Nat.le_trans (Nat.mul_le_mul hle hby) (by decide)
  refine va_newaK hx hb (hts _ harr) rfl hdg rfl hneg hN hby2 hcells hslots I.1.1 fun H1 cA e1 z1 o1 hAr hNm => ?_
  have hcA : (tys.getD t (0, .int)).1 = cA := Option.some.inj ((hra _ (rp_ty hK hT ht).2).symm.trans hNm)
  refine kk H1 (rp_push I ?_ z1 o1)
  show H1[h.1]? = some (vp_cell _ _)
  rw [hcA, hxx]
  exact e1
theorem rp_newI {t K : Nat} {n : Int32} {q : Nat × Hp} {atype : ArrayType} {ty : FieldType} (X : Cx p s m args meth c D cl tys cc nL own Ts) (I : In D cl tys A s h H locs) (g : nI_ h t n = some q) (hKn : n.toNatClampNeg = K) (hd0 : defaultValue ty = .int 0) (hty : newarray.typeOf atype = ty) (hby : componentBytes ty ≤ 8) (harr : Cond.arrayClass ty ∈ Ts) (ht : tyS[t]? = some ty) (hra : ∀ c : ClassId, va_RA s c ty → s.vm.findClass ("[" ++ ty.toString) = some c) (hcells : cells + 1 ≤ R.cells) (hslots : slots + K ≤ R.slots) (hdg : decode cc pc = .ok (.newarray atype, 2))
    (kk : ∀ H1 : Heap, In D cl tys A s q.2 H1 locs → W p l e R s m args below meth c H1 locs (cells + 1) (slots + K) Q (F0 m (pc + 2) ls (.ref q.1 :: rest))) : W p l e R s m args below meth c H locs cells slots Q (F0 m pc ls (.int n :: rest)) := by
  subst hKn
  unfold nI_ at g
  split at g
  · cases g
  · rename_i hq
    cases g
    exact rp_newa (x := (n.toNatClampNeg, .inl (fun _ => 0))) X I (fun z => hq (Or.inl z)) (by omega) rfl (fun cA => by rw [hd0]; rfl) hty hby harr ht hra hcells hslots hdg kk
theorem rp_newJ {t K : Nat} {n : Int32} {q : Nat × Hp} {atype : ArrayType} {ty : FieldType} (X : Cx p s m args meth c D cl tys cc nL own Ts) (I : In D cl tys A s h H locs) (g : nJ_ h t n = some q) (hKn : n.toNatClampNeg = K) (hd0 : defaultValue ty = .long 0) (hty : newarray.typeOf atype = ty) (hby : componentBytes ty ≤ 8) (harr : Cond.arrayClass ty ∈ Ts) (ht : tyS[t]? = some ty) (hra : ∀ c : ClassId, va_RA s c ty → s.vm.findClass ("[" ++ ty.toString) = some c) (hcells : cells + 1 ≤ R.cells) (hslots : slots + K ≤ R.slots) (hdg : decode cc pc = .ok (.newarray atype, 2))
    (kk : ∀ H1 : Heap, In D cl tys A s q.2 H1 locs → W p l e R s m args below meth c H1 locs (cells + 1) (slots + K) Q (F0 m (pc + 2) ls (.ref q.1 :: rest))) : W p l e R s m args below meth c H locs cells slots Q (F0 m pc ls (.int n :: rest)) := by
  subst hKn
  unfold nJ_ at g
  split at g
  · cases g
  · rename_i hq
    cases g
    exact rp_newa (x := (n.toNatClampNeg, .inr (.inl (fun _ => 0)))) X I (fun z => hq (Or.inl z)) (by omega) rfl (fun cA => by rw [hd0]; rfl) hty hby harr ht hra hcells hslots hdg kk
theorem rp_newR {t K index : Nat} {n : Int32} {q : Nat × Hp} {C : String} (X : Cx p s m args meth c D cl tys cc nL own Ts) (I : In D cl tys A s h H locs) (g : nR_ h t n = some q) (hKn : n.toNatClampNeg = K) (hcl : Cond.classLink own index C ∈ Ts) (hover : va_AO C s) (ht : tyS[t]? = some (.object C)) (hcells : cells + 1 ≤ R.cells) (hslots : slots + K ≤ R.slots) (hdg : decode cc pc = .ok (.anewarray index, 3))
    (kk : ∀ H1 : Heap, In D cl tys A s q.2 H1 locs → W p l e R s m args below meth c H1 locs (cells + 1) (slots + K) Q (F0 m (pc + 3) ls (.ref q.1 :: rest))) : W p l e R s m args below meth c H locs cells slots Q (F0 m pc ls (.int n :: rest)) := by
  subst hKn
  unfold nR_ at g
  split at g
  · cases g
  · rename_i hq
    cases g
    obtain ⟨⟨hx, hb, hml, ho, hts⟩, hK, -, hT⟩ := X
    refine W.anew hx hb ho (hts _ hcl) (va_AO.use hover) rfl hdg rfl (fun z => hq (Or.inl z)) (by omega) hcells hslots fun cA kA comp f1 f2 f3 f4 => ?_
    obtain ⟨kA', comp', -, -, -, f5⟩ := (rp_ty hK hT ht).2
    have hcA : (tys.getD t (0, .int)).1 = cA := Option.some.inj (f5.symm.trans f1)
    have hz := I.1.1
    generalize hH1 : H.push ({ cls := cA, slots := Array.replicate n.toNatClampNeg .null, vm := .none } : Cell) = H1
    have z1 : H1.size = h.1 + 1 := by rw [← hH1, Array.size_push, hz]
    have e1 : H1[h.1]? = some (arrV cA n.toNatClampNeg (fun _ => .null)) := by rw [← hH1, ← hz, Array.getElem?_push_size, ← arrV_new]
    have o1 : ∀ q : Nat, q < h.1 → H1[q]? = H[q]? := fun q hq => by rw [← hH1, Array.getElem?_push, if_neg (by omega)]
    refine W.eq (g2 := F0 m (pc + 3) ls (.ref h.1 :: rest)) (by rw [← hz]) (kk H1 (rp_push I ?_ z1 o1))
    show H1[h.1]? = some (vp_cell _ _)
    rw [hcA, vp_cell_q]
    exact e1
/-! answers -/
def Qr (D : va_G) (cl : List vw_C) (tys : List (ClassId × FieldType)) (A : Nat → Prop) (v : Option Value) (h' : Hp) : Array Value → State → Outcome → State → Prop := fun _ st oc t => oc = .returned v ∧ Rp D cl tys A h' t.heap ∧ va_F A st t
theorem rp_iret {v : Int32} {res : Int32 × Hp} (X : Cx p s m args meth c D cl tys cc nL own Ts) (hr : meth.sig.returnType = some .int) (hJ : some (v, h) = some res) (I : In D cl tys A s h H locs) (hdg : decode cc pc = .ok (.ireturn, 1)) : W p l e R s m args below meth c H locs cells slots (MQ below (Qr D cl tys A (some (.int res.1)) res.2) args s cells slots A) (F0 m pc ls [.int v]) := by
  cases hJ
  obtain ⟨⟨hx, hb, hml, ho, hts⟩, hK, hlocks, hT⟩ := X
  exact W.iret (v := v) hx hb hr (fun t ht hW => ⟨rfl, by rw [ht]; exact I.1, I.2.1.F ht⟩) I.2.1.2.2 hdg hlocks
theorem rp_nz {v : Int32} (h : v = 0 ∨ v = 1) : narrow .boolean (.int v) = .int v := by
  rcases h with rfl | rfl <;> rfl
theorem rp_zret {v : Int32} {res : Int32 × Hp} (X : Cx p s m args meth c D cl tys cc nL own Ts) (hr : meth.sig.returnType = some .boolean) (hv : v = 0 ∨ v = 1) (hJ : some (v, h) = some res) (I : In D cl tys A s h H locs) (hdg : decode cc pc = .ok (.ireturn, 1)) : W p l e R s m args below meth c H locs cells slots (MQ below (Qr D cl tys A (some (.int res.1)) res.2) args s cells slots A) (F0 m pc ls [.int v]) := by
  cases hJ
  obtain ⟨⟨hx, hb, hml, ho, hts⟩, hK, hlocks, hT⟩ := X
  exact W.zret (v := v) hx hb hr (rp_nz hv) (fun t ht hW => ⟨rfl, by rw [ht]; exact I.1, I.2.1.F ht⟩) I.2.1.2.2 hdg hlocks
theorem zR_s {v : Int32} {h : Hp} {res : Int32 × Hp} (g : zR v h = some res) : (v = 0 ∨ v = 1) ∧ some (v, h) = some res := by
  unfold zR at g
  split at g
  · rename_i hq
    exact ⟨hq, g⟩
  · cases g
theorem rp_lret {v : Int64} {res : Int64 × Hp} (X : Cx p s m args meth c D cl tys cc nL own Ts) (hr : meth.sig.returnType = some .long) (hJ : some (v, h) = some res) (I : In D cl tys A s h H locs) (hdg : decode cc pc = .ok (.lreturn, 1)) : W p l e R s m args below meth c H locs cells slots (MQ below (Qr D cl tys A (some (.long res.1)) res.2) args s cells slots A) (F0 m pc ls [.long v]) := by
  cases hJ
  obtain ⟨⟨hx, hb, hml, ho, hts⟩, hK, hlocks, hT⟩ := X
  exact W.lret (v := v) hx hb hr (fun t ht hW => ⟨rfl, by rw [ht]; exact I.1, I.2.1.F ht⟩) I.2.1.2.2 hdg hlocks
theorem rp_vret {res : Unit × Hp} (X : Cx p s m args meth c D cl tys cc nL own Ts) (hr : meth.sig.returnType = none) (hJ : some ((), h) = some res) (I : In D cl tys A s h H locs) (hdg : decode cc pc = .ok (.return_, 1)) : W p l e R s m args below meth c H locs cells slots (MQ below (Qr D cl tys A none res.2) args s cells slots A) (F0 m pc ls []) := by
  cases hJ
  obtain ⟨⟨hx, hb, hml, ho, hts⟩, hK, hlocks, hT⟩ := X
  exact W.vret hx hb hr (fun t ht hW => ⟨rfl, by rw [ht]; exact I.1, I.2.1.F ht⟩) I.2.1.2.2 hdg hlocks
/-! contracts and calls -/
def Pr (D : va_G) (cl : List vw_C) (tys : List (ClassId × FieldType)) (A : Nat → Prop) (h : Hp) (U : State) : Prop := (∀ q : Nat, U.heap.size ≤ q → A q) ∧ Rp D cl tys A h U.heap ∧ va_K D cl tys U ∧ nwS U
/-- the contract: at the abstract heap h, with the arguments av, the method answers v and leaves h' -/
def Ct (l : Launch) (D : va_G) (cl : List vw_C) (tys : List (ClassId × FieldType)) (A : Nat → Prop) (y : MethodName) (ws : List Cond) (rm : Room) (av : List Value) (h : Hp) (v : Option Value) (h' : Hp) : Prop := Met l y ws rm (va_Pc av (Pr D cl tys A h)) (Qr D cl tys A v h') rm.cells rm.slots A
theorem rp_blind {av : List Value} : FrameBlind (va_Pc av (Pr D cl tys A h)) := fun a U g mk ⟨q0, q1, q2, q3, q4⟩ => ⟨q0, q1, q2, va_K.moved (u := U) (U := U.calling g mk a) (Vm.Alike.refl U.vm) q3, nwS_same (u := U) (U := U.calling g mk a) rfl q4⟩
theorem rp_pre {av : List Value} (hK : va_K D cl tys s) (hN : nwS s) (I : In D cl tys A s h H locs) (U : State) (hU : U.heap = H) (hW : s.WarmedH U.vm) : va_Pc av (Pr D cl tys A h) av.toArray U := by
  refine ⟨rfl, fun q hq => ?_, by rw [hU]; exact I.1, va_K.moved hW.alike hK, nwS_warm hW hN⟩
  rw [hU] at hq
  exact I.2.2 q (Nat.le_trans I.2.1.1 hq)
theorem rp_go {v : Option Value} {h' : Hp} {mc ms : Nat} {st0 : List Value} {av : Array Value} (hr : va_Run p l e R s m args below meth c H locs cells slots mc ms (F0 m pc ls st0) rest (Qr D cl tys A v h' av) A) (I : In D cl tys A s h H locs)
    (kk : ∀ (H1 : Heap) (locs1 : List Loc), In D cl tys A s h' H1 locs1 → W p l e R s m args below meth c H1 locs1 (cells + mc) (slots + ms) Q (F0 m (pc + 3) ls (v.toList ++ rest))) : W p l e R s m args below meth c H locs cells slots Q (F0 m pc ls st0) := by
  intro T hT X
  obtain ⟨v', st₀, t, T', L, h0, X', hL, e1, e2, ⟨hv, hR, hz, hk⟩, st⟩ := hr T hT X
  cases hv
  rw [h0] at hz hk
  obtain ⟨t2, a1, b1⟩ := kk T'.heap (locs ++ L) ⟨by rw [e1]; exact hR, ⟨Nat.le_trans I.2.1.1 (by rw [e1]; exact hz), fun q h1 h2 => by rw [e1, hk q (Nat.lt_of_lt_of_le h1 I.2.1.1) h2]; exact I.2.1.2.1 q h1 h2, fun q hq => by
      rcases List.mem_append.mp hq with h | h
      · exact I.2.1.2.2 q h
      · exact hL q h⟩, I.2.2⟩ T' rfl X'
  exact ⟨t2, st t2 a1, b1⟩
variable {y : MethodName} {bytes : ByteArray} {maxL n index : Nat} {ret : Option FieldType} {ws : List Cond} {rm : Room} {C host : String} {b : Nat} {As st0 : List Value} {v : Option Value} {h' : Hp}
theorem rp_recv {ci : Nat} {T : u_T} {N : Nat} {fs : List Value} (hK : va_K D cl tys s) (I : In D cl tys A s h H locs) (g : gO h ci b = some fs) (hc : cl[ci]? = some (C, T, N)) : ∃ cell : Cell, H[b]? = some cell ∧ cell.vm.isStatics = false ∧ s.vm.findClass C = some cell.cls := va_recv hK (rp_one (rp_obj I g).2) (q0 := 0) hc rfl
theorem rp_callV {ci : Nat} {T : u_T} {N : Nat} {fs : List Value} (X : Cx p s m args meth c D cl tys cc nL own Ts) (hN : nwS s) (I : In D cl tys A s h H locs) (hM : Ct l D cl tys A y ws rm (.ref b :: As) h v h') (cw : CallW R s args own C index y bytes maxL ret ws rm rm.cells rm.slots n) (g : gO h ci b = some fs) (hc : cl[ci]? = some (C, T, N)) (hn : As.length = n) (hsz : ls.size = nL) (hst : st0 = As.reverse ++ .ref b :: rest) (hW : (rest.map fun v => v.category).sum ≤ 8) (hdg : decode cc pc = .ok (.invokevirtual index, 3)) (hf : cells + rm.cells ≤ R.cells ∧ slots + rm.slots ≤ R.slots)
    (kk : ∀ (H1 : Heap) (locs1 : List Loc), In D cl tys A s h' H1 locs1 → W p l e R s m args below meth c H1 locs1 (cells + rm.cells) (slots + rm.slots) Q (F0 m (pc + 3) ls (v.toList ++ rest))) : W p l e R s m args below meth c H locs cells slots Q (F0 m pc ls st0) :=
  rp_go (va_runV X.1 hM cw ⟨rp_blind, rp_recv X.2.1 I g hc, rp_pre X.2.1 hN I⟩ rfl hn hsz hst (lv_room hW) hdg hf) I kk
theorem rp_callS (X : Cx p s m args meth c D cl tys cc nL own Ts) (hN : nwS s) (I : In D cl tys A s h H locs) (hM : Ct l D cl tys A y ws rm As h v h') (cw : CallB R s args own index y bytes maxL ret ws rm rm.cells rm.slots n ∧ (Cond.static y).before args s = true) (hn : As.length = n) (hsz : ls.size = nL) (hst : st0 = As.reverse ++ rest) (hW : (rest.map fun v => v.category).sum ≤ 8) (hdg : decode cc pc = .ok (.invokestatic index, 3)) (hf : cells + rm.cells ≤ R.cells ∧ slots + rm.slots ≤ R.slots)
    (kk : ∀ (H1 : Heap) (locs1 : List Loc), In D cl tys A s h' H1 locs1 → W p l e R s m args below meth c H1 locs1 (cells + rm.cells) (slots + rm.slots) Q (F0 m (pc + 3) ls (v.toList ++ rest))) : W p l e R s m args below meth c H locs cells slots Q (F0 m pc ls st0) :=
  rp_go (va_runS X.1 hM cw ⟨rp_blind, rp_pre X.2.1 hN I⟩ rfl hn hsz hst (lv_room hW) hdg hf) I kk
theorem rp_callSN (X : Cx p s m args meth c D cl tys cc nL own Ts) (hN : nwS s) (I : In D cl tys A s h H locs) (hM : Ct l D cl tys A y ws rm As h v h') (cw : va_CN R s args own index y host bytes maxL ret ws rm rm.cells rm.slots n ∧ (Cond.static y).before args s = true ∧ True) (hn : As.length = n) (hsz : ls.size = nL) (hst : st0 = As.reverse ++ rest) (hW : (rest.map fun v => v.category).sum ≤ 8) (hdg : decode cc pc = .ok (.invokestatic index, 3)) (hf : cells + rm.cells ≤ R.cells ∧ slots + rm.slots ≤ R.slots)
    (kk : ∀ (H1 : Heap) (locs1 : List Loc), In D cl tys A s h' H1 locs1 → W p l e R s m args below meth c H1 locs1 (cells + rm.cells) (slots + rm.slots) Q (F0 m (pc + 3) ls (v.toList ++ rest))) : W p l e R s m args below meth c H locs cells slots Q (F0 m pc ls st0) :=
  rp_go (va_runSN X.1 hM cw ⟨rp_blind, rp_pre X.2.1 hN I⟩ rfl hn hsz hst (lv_room hW) hdg hf) I kk
theorem rp_callI (X : Cx p s m args meth c D cl tys cc nL own Ts) (hN : nwS s) (I : In D cl tys A s h H locs) (hM : Ct l D cl tys A y ws rm (.ref b :: As) h v h') (cw : CallB R s args own index y bytes maxL none ws rm rm.cells rm.slots n ∧ y.name = "<init>" ∧ (Cond.instanceMethod y).before args s = true) (hn : As.length = n) (hsz : ls.size = nL) (hst : st0 = As.reverse ++ .ref b :: rest) (hW : (rest.map fun v => v.category).sum ≤ 8) (hdg : decode cc pc = .ok (.invokespecial index, 3)) (hf : cells + rm.cells ≤ R.cells ∧ slots + rm.slots ≤ R.slots)
    (kk : ∀ (H1 : Heap) (locs1 : List Loc), In D cl tys A s h' H1 locs1 → W p l e R s m args below meth c H1 locs1 (cells + rm.cells) (slots + rm.slots) Q (F0 m (pc + 3) ls (v.toList ++ rest))) : W p l e R s m args below meth c H locs cells slots Q (F0 m pc ls st0) :=
  rp_go (va_runI X.1 hM cw ⟨rp_blind, rp_pre X.2.1 hN I⟩ rfl hn hsz hst (lv_room hW) hdg hf) I kk
theorem rp_callIN (X : Cx p s m args meth c D cl tys cc nL own Ts) (hN : nwS s) (I : In D cl tys A s h H locs) (hM : Ct l D cl tys A y ws rm (.ref b :: As) h v h') (cw : va_CN R s args own index y host bytes maxL none ws rm rm.cells rm.slots n ∧ y.name = "<init>" ∧ (Cond.instanceMethod y).before args s = true) (hn : As.length = n) (hsz : ls.size = nL) (hst : st0 = As.reverse ++ .ref b :: rest) (hW : (rest.map fun v => v.category).sum ≤ 8) (hdg : decode cc pc = .ok (.invokespecial index, 3)) (hf : cells + rm.cells ≤ R.cells ∧ slots + rm.slots ≤ R.slots)
    (kk : ∀ (H1 : Heap) (locs1 : List Loc), In D cl tys A s h' H1 locs1 → W p l e R s m args below meth c H1 locs1 (cells + rm.cells) (slots + rm.slots) Q (F0 m (pc + 3) ls (v.toList ++ rest))) : W p l e R s m args below meth c H locs cells slots Q (F0 m pc ls st0) :=
  rp_go (va_runIN X.1 hM cw ⟨rp_blind, rp_pre X.2.1 hN I⟩ rfl hn hsz hst (lv_room hW) hdg hf) I kk
end RQ
theorem rp_swOut {x : Int32} (m : Nat) (hm : m < 2 ^ 31) (h : ∀ k : Nat, k < m → ¬ x = nI k) : x.toInt < 0 ∨ ((m : Int) - 1) < x.toInt := by
  by_cases h0 : x < 0
  · left
    have := Int32.lt_iff_toInt_lt.mp h0
    simpa using this
  · right
    obtain ⟨j, hj, rfl⟩ := nI_of h0
    rw [nI_toInt hj]
    by_cases hjm : j < m
    · exact absurd rfl (h j hjm)
    · omega
end
section
section GW
variable {p : Program} {l : Launch} {e : Env} {s : State} {m : MethodId} {args : Array Value} {below : List Frame} {meth : Method} {c : Code} {D : va_G} {tys : List (ClassId × FieldType)} {A : Nat → Prop}
def rmX6_bit : Room := { frames := 0, cells := 0, slots := 0, locals := 0 }
def J_Desk_bit (N : Nat) (x0 : Int32) (h : Hp) : Option (Int64 × Hp) :=
  some (((1 : Int64) <<< (x0.toInt64 &&& 63)), h)
set_option maxHeartbeats 4000000 in
set_option maxRecDepth 100000 in
theorem c_Desk_bit {l : Launch} {D : va_G} {tys : List (ClassId × FieldType)} {A : Nat → Prop} (hT : tys.map (fun q => q.2) = tyS) {N : Nat} {x0 : Int32} {h : Hp} {res : (Int64 × Hp)} (hJ : J_Desk_bit N x0 h = some res) : Ct l D vwCl tys A yX6_bit (Cond.code yX6_bit cX6_bit 1 (some .long) :: wsG) rmX6_bit [.int x0] h (some (.long res.1)) res.2 := by
  refine Met.ofW (cc := cX6_bit) (maxL := 1) (ret := (some .long)) (by decide) rfl ?_
  intro p e s m args below meth c s₁ B hml hv
  obtain ⟨rfl, hA, hR, hK, hN⟩ := hv
  have hr := B.returns
  have hts : ∀ w ∈ wsG, w.before [.int x0].toArray s = true := fun w hw => atoms_spec (ws := Cond.code yX6_bit cX6_bit 1 (some .long) :: wsG) B.pre w (List.mem_cons_of_mem _ hw)
  have X : Cx p s m [.int x0].toArray meth c D vwCl tys cX6_bit 1 RX6 wsG := ⟨⟨B.exec, B.bytes, hml, findClass_of_methodNamed B.named, hts⟩, hK, B.notSynchronized, hT⟩
  have hx := B.exec
  have hb := B.bytes
  have I : In D vwCl tys A s h s.heap [] := ⟨hR, va_S.rf, hA⟩
  have hl := lv_entry [.int x0] (n := 1) (Nat.le_of_ble_eq_true rfl)
  rw [lg_entry_eq]
  generalize (lg_sl [.int x0] ++ List.replicate (1 - (lg_sl [.int x0]).length) Slot.unset).toArray = ls at hl ⊢
  have hl : lv_has ls 1 [(0, .int x0)] := hl
  have ho := X.1.2.2.2.1
  rw [J_Desk_bit] at hJ
  refine lv_lconst (v := 1) hx hb dX6_bit_0 (by decide) ?_
  refine lv_iload_n hx hb dX6_bit_1 rfl (lv_at hl 0 rfl) ?_
  refine lv_lshl hx hb dX6_bit_2 rfl ?_
  exact rp_lret X hr hJ I dX6_bit_3
def rmX6_isIn : Room := { frames := 1, cells := 0, slots := 0, locals := 20 }
def J_Desk_isIn (N : Nat) (x0 : Int64) (x2 : Int32) (h : Hp) : Option (Int32 × Hp) :=
  (J_Desk_bit N x2 h).bind fun q1 =>
 if (lg_cmp (x0 &&& q1.1) (0 : Int64)) = 0 then
  (some ((0 : Int32), q1.2))
  else
  (some ((1 : Int32), q1.2))
set_option maxHeartbeats 4000000 in
set_option maxRecDepth 100000 in
theorem c_Desk_isIn {l : Launch} {D : va_G} {tys : List (ClassId × FieldType)} {A : Nat → Prop} (hT : tys.map (fun q => q.2) = tyS) {N : Nat} {x0 : Int64} {x2 : Int32} {h : Hp} {res : (Int32 × Hp)} (hJ : J_Desk_isIn N x0 x2 h = some res) : Ct l D vwCl tys A yX6_isIn (Cond.code yX6_isIn cX6_isIn 3 (some .boolean) :: wsG) rmX6_isIn [.long x0, .int x2] h (some (.int res.1)) res.2 := by
  refine Met.ofW (cc := cX6_isIn) (maxL := 3) (ret := (some .boolean)) (by decide) rfl ?_
  intro p e s m args below meth c s₁ B hml hv
  obtain ⟨rfl, hA, hR, hK, hN⟩ := hv
  have hr := B.returns
  have hts : ∀ w ∈ wsG, w.before [.long x0, .int x2].toArray s = true := fun w hw => atoms_spec (ws := Cond.code yX6_isIn cX6_isIn 3 (some .boolean) :: wsG) B.pre w (List.mem_cons_of_mem _ hw)
  have X : Cx p s m [.long x0, .int x2].toArray meth c D vwCl tys cX6_isIn 3 RX6 wsG := ⟨⟨B.exec, B.bytes, hml, findClass_of_methodNamed B.named, hts⟩, hK, B.notSynchronized, hT⟩
  have hx := B.exec
  have hb := B.bytes
  have I : In D vwCl tys A s h s.heap [] := ⟨hR, va_S.rf, hA⟩
  have hl := lv_entry [.long x0, .int x2] (n := 3) (Nat.le_of_ble_eq_true rfl)
  rw [lg_entry_eq]
  generalize (lg_sl [.long x0, .int x2] ++ List.replicate (3 - (lg_sl [.long x0, .int x2]).length) Slot.unset).toArray = ls at hl ⊢
  have hl : lv_has ls 3 [(0, .long x0), (2, .int x2)] := hl
  have ho := X.1.2.2.2.1
  rw [J_Desk_isIn] at hJ
  refine lv_lload_n hx hb dX6_isIn_0 rfl (lv_at hl 0 rfl) ?_
  refine lv_iload_n hx hb dX6_isIn_1 rfl (lv_at hl 1 rfl) ?_
  obtain ⟨q1, e9, hJ⟩ := rp_b hJ
  refine rp_callS (As := [.int x2]) (rest := [.long x0]) X hN I (c_Desk_bit hT e9) (cwS 1 hts (gdS wm_343 wm_339 wm_33 wm_340) rfl rfl rfl (by decide +kernel) ⟨Nat.le_of_ble_eq_true rfl, Nat.le_of_ble_eq_true rfl⟩) rfl hl.1 rfl (Nat.le_of_ble_eq_true rfl) dX6_isIn_2 ⟨(Nat.le_of_ble_eq_true rfl), (Nat.le_of_ble_eq_true rfl)⟩ (fun H locs I => ?_)
  refine W.cs (cells' := 0) (slots' := 0) rfl rfl ?_
  refine lv_land hx hb dX6_isIn_5 ?_
  refine lv_lconst (v := 0) hx hb dX6_isIn_6 (by decide) ?_
  refine W.lcmp hx hb dX6_isIn_7 ?_
  refine lv_if_eq (tgt := 15) hx hb dX6_isIn_8 (by decide) (fun c9 => ?_) (fun c9 => ?_)
  · rw [if_pos c9] at hJ
    refine lv_iconst (v := 0) hx hb dX6_isIn_15 (by decide) ?_
    exact rp_zret X hr (Or.inl rfl) hJ I dX6_isIn_16
  · rw [if_neg c9] at hJ
    refine lv_iconst (v := 1) hx hb dX6_isIn_11 (by decide) ?_
    refine lv_goto (tgt := 16) hx hb dX6_isIn_12 (by decide) ?_
    exact rp_zret X hr (Or.inr rfl) hJ I dX6_isIn_16
def rmX1_init : Room := { frames := 1, cells := 3, slots := 192, locals := 20 }
def J_File_init_30 (N : Nat)  : Nat → Nat → Int32 → Hp → Option (Unit × Hp)
  | 0, _, _, _ => none
  | n + 1, x0, x1, h =>
  if (64 : Int32) ≤ x1 then
  (some ((), h))
  else
  ((fR h 1 x0 2).bind fun v7 =>
  (sI h 0 v7 x1 (-1 : Int32)).bind fun h8 =>
  (J_File_init_30 N n) x0 (x1 + (1 : Int32)) h8)
def J_File_init (N : Nat) (x0 : Nat) (h : Hp) : Option (Unit × Hp) :=
  (nI_ h 0 (64 : Int32)).bind fun q1 =>
  (sF q1.2 1 x0 0 (.ref q1.1)).bind fun h2 =>
  (nI_ h2 1 (64 : Int32)).bind fun q3 =>
  (sF q3.2 1 x0 1 (.ref q3.1)).bind fun h4 =>
  (nI_ h4 0 (64 : Int32)).bind fun q5 =>
  (sF q5.2 1 x0 2 (.ref q5.1)).bind fun h6 =>
  J_File_init_30 N N x0 (0 : Int32) h6
set_option maxHeartbeats 4000000 in
set_option maxRecDepth 100000 in
theorem w_File_init_30 (X : Cx p s m args meth c D vwCl tys cX1_init 2 RX1 wsG) (hN : nwS s) (hr : meth.sig.returnType = none) (hinit : meth.name = "<init>") {res : (Unit × Hp)} {N : Nat}   : ∀ (n : Nat) (x0 : Nat) (x1 : Int32)  (h : Hp) (H : Heap) (locs : List Loc) (ls : Array Slot), J_File_init_30 N n x0 x1 h = some res → In D vwCl tys A s h H locs → lv_has ls 2 [(0, .ref x0), (1, .int x1)] → W p l e rmX1_init s m args below meth c H locs 3 192 (MQ below (Qr D vwCl tys A none res.2) args s 3 192 A) (F0 m 30 ls []) := by
  have hx := X.1.1
  have hb := X.1.2.1
  have hml := X.1.2.2.1
  have ho := X.1.2.2.2.1
  have hts := X.1.2.2.2.2
  have hK := X.2.1
  have hT := X.2.2.2
  intro n
  induction n with
  | zero =>
    intro x0 x1  h H locs ls hJ I hl
    exact nomatch (show (none : Option (Unit × Hp)) = some res from hJ)
  | succ n k30 =>
    intro x0 x1  h H locs ls hJ I hl
    rw [J_File_init_30] at hJ
    refine lv_iload_n hx hb dX1_init_30 rfl (lv_at hl 1 rfl) ?_
    refine lv_bipush (v := 64) hx hb dX1_init_31 (by decide) ?_
    refine lv_icmp_ge (tgt := 49) hx hb dX1_init_33 (by decide) (fun c9 => ?_) (fun c9 => ?_)
    · rw [if_pos c9] at hJ
      refine W.widen (k := 3) (n := 192) (Nat.le_of_ble_eq_true rfl) (Nat.le_of_ble_eq_true rfl) ?_
      exact rp_vret X hr hJ I dX1_init_49
    · rw [if_neg c9] at hJ
      refine lv_aload_n hx hb dX1_init_36 rfl (lv_at hl 0 rfl) ?_
      obtain ⟨v7, e9, hJ⟩ := rp_b hJ
      obtain ⟨f9, g9, e9⟩ := fR_s e9
      refine rp_get X I g9 e9 rfl wiX1 (by decide) wm_64 dX1_init_37 ?_
      refine lv_iload_n hx hb dX1_init_40 rfl (lv_at hl 1 rfl) ?_
      refine lv_iconst (v := -1) hx hb dX1_init_41 (by decide) ?_
      obtain ⟨h8, e9, hJ⟩ := rp_b hJ
      refine rp_iast X I e9 rfl dX1_init_42 (fun H locs I => ?_)
      refine lv_iinc (v := (x1 + (1 : Int32))) (lv' := [(1, .int (x1 + (1 : Int32))), (0, .ref x0)]) hx hb dX1_init_43 hl (k := 1) rfl rfl (by decide) rfl (fun ls hl => ?_)
      refine lv_goto (tgt := 30) hx hb dX1_init_46 (by decide) ?_
      exact k30 _ _ _ _ _ _ hJ I (lv_sub hl [1, 0] rfl)
set_option maxHeartbeats 4000000 in
set_option maxRecDepth 100000 in
theorem c_File_init {l : Launch} {D : va_G} {tys : List (ClassId × FieldType)} {A : Nat → Prop} (hT : tys.map (fun q => q.2) = tyS) {N : Nat} {x0 : Nat} {h : Hp} {res : (Unit × Hp)} (hJ : J_File_init N x0 h = some res) : Ct l D vwCl tys A yX1_init (Cond.code yX1_init cX1_init 2 none :: wsG) rmX1_init [.ref x0] h none res.2 := by
  refine Met.ofW (cc := cX1_init) (maxL := 2) (ret := none) (by decide) rfl ?_
  intro p e s m args below meth c s₁ B hml hv
  obtain ⟨rfl, hA, hR, hK, hN⟩ := hv
  have hr := B.returns
  have hts : ∀ w ∈ wsG, w.before [.ref x0].toArray s = true := fun w hw => atoms_spec (ws := Cond.code yX1_init cX1_init 2 none :: wsG) B.pre w (List.mem_cons_of_mem _ hw)
  have X : Cx p s m [.ref x0].toArray meth c D vwCl tys cX1_init 2 RX1 wsG := ⟨⟨B.exec, B.bytes, hml, findClass_of_methodNamed B.named, hts⟩, hK, B.notSynchronized, hT⟩
  have hinit : meth.name = "<init>" := (name_of_methodNamed B.named B.method).1
  have hx := B.exec
  have hb := B.bytes
  have I : In D vwCl tys A s h s.heap [] := ⟨hR, va_S.rf, hA⟩
  have hl := lv_entry [.ref x0] (n := 2) (Nat.le_of_ble_eq_true rfl)
  rw [lg_entry_eq]
  generalize (lg_sl [.ref x0] ++ List.replicate (2 - (lg_sl [.ref x0]).length) Slot.unset).toArray = ls at hl ⊢
  have hl : lv_has ls 2 [(0, .ref x0)] := hl
  have ho := X.1.2.2.2.1
  rw [J_File_init] at hJ
  refine lv_aload_n hx hb dX1_init_0 rfl (lv_at hl 0 rfl) ?_
  refine W.objInit hx hb ho (hts _ wm_61) (hts _ wm_54) (hts _ wm_55) rfl (by rw [hml]; exact hl.1) rfl dX1_init_1 (Nat.le_of_ble_eq_true rfl) (Nat.le_of_ble_eq_true rfl) ?_
  refine W.eq (g2 := F0 m 4 ls []) rfl ?_
  refine lv_aload_n hx hb dX1_init_4 rfl (lv_at hl 0 rfl) ?_
  refine lv_bipush (v := 64) hx hb dX1_init_5 (by decide) ?_
  obtain ⟨q1, e9, hJ⟩ := rp_b hJ
  refine rp_newI (K := 64) (ty := .int) X I e9 (by decide) rfl rfl (by decide) wm_68 rfl (fun _ z => z) (Nat.le_of_ble_eq_true rfl) (Nat.le_of_ble_eq_true rfl) dX1_init_7 (fun H I => ?_)
  obtain ⟨h2, e9, hJ⟩ := rp_b hJ
  refine rp_putF (ty := (.array .int)) X I e9 rfl wiX1 tyX1 tyX1_ok nmX1 (by decide) wm_62 rfl hinit rfl (by decide +kernel) rfl rfl dX1_init_9 (fun H locs I => ?_)
  refine lv_aload_n hx hb dX1_init_12 rfl (lv_at hl 0 rfl) ?_
  refine lv_bipush (v := 64) hx hb dX1_init_13 (by decide) ?_
  obtain ⟨q3, e9, hJ⟩ := rp_b hJ
  refine rp_newI (K := 64) (ty := .boolean) X I e9 (by decide) rfl rfl (by decide) wm_69 rfl (fun _ z => z) (Nat.le_of_ble_eq_true rfl) (Nat.le_of_ble_eq_true rfl) dX1_init_15 (fun H I => ?_)
  obtain ⟨h4, e9, hJ⟩ := rp_b hJ
  refine rp_putF (ty := (.array .boolean)) X I e9 rfl wiX1 tyX1 tyX1_ok nmX1 (by decide) wm_63 rfl hinit rfl (by decide +kernel) rfl rfl dX1_init_17 (fun H locs I => ?_)
  refine lv_aload_n hx hb dX1_init_20 rfl (lv_at hl 0 rfl) ?_
  refine lv_bipush (v := 64) hx hb dX1_init_21 (by decide) ?_
  obtain ⟨q5, e9, hJ⟩ := rp_b hJ
  refine rp_newI (K := 64) (ty := .int) X I e9 (by decide) rfl rfl (by decide) wm_68 rfl (fun _ z => z) (Nat.le_of_ble_eq_true rfl) (Nat.le_of_ble_eq_true rfl) dX1_init_23 (fun H I => ?_)
  obtain ⟨h6, e9, hJ⟩ := rp_b hJ
  refine rp_putF (ty := (.array .int)) X I e9 rfl wiX1 tyX1 tyX1_ok nmX1 (by decide) wm_64 rfl hinit rfl (by decide +kernel) rfl rfl dX1_init_25 (fun H locs I => ?_)
  refine lv_iconst (v := 0) hx hb dX1_init_28 (by decide) ?_
  refine lv_istore_n (lv' := [(1, .int (0 : Int32)), (0, .ref x0)]) hx hb dX1_init_29 rfl hl (by decide) rfl (fun ls hl => ?_)
  refine W.widen (k := 3) (n := 192) (Nat.le_of_ble_eq_true rfl) (Nat.le_of_ble_eq_true rfl) ?_
  exact w_File_init_30 X hN hr hinit N _ _ _ _ _ _ hJ I (lv_sub hl [1, 0] rfl)
def rmX1_makerOf : Room := { frames := 0, cells := 0, slots := 0, locals := 0 }
def J_File_makerOf (N : Nat) (x0 : Nat) (x1 : Int32) (h : Hp) : Option (Int32 × Hp) :=
  (fR h 1 x0 2).bind fun v1 =>
  (aI h 0 v1 x1).bind fun v2 =>
  some (v2, h)
set_option maxHeartbeats 4000000 in
set_option maxRecDepth 100000 in
theorem c_File_makerOf {l : Launch} {D : va_G} {tys : List (ClassId × FieldType)} {A : Nat → Prop} (hT : tys.map (fun q => q.2) = tyS) {N : Nat} {x0 : Nat} {x1 : Int32} {h : Hp} {res : (Int32 × Hp)} (hJ : J_File_makerOf N x0 x1 h = some res) : Ct l D vwCl tys A yX1_makerOf (Cond.code yX1_makerOf cX1_makerOf 2 (some .int) :: wsG) rmX1_makerOf [.ref x0, .int x1] h (some (.int res.1)) res.2 := by
  refine Met.ofW (cc := cX1_makerOf) (maxL := 2) (ret := (some .int)) (by decide) rfl ?_
  intro p e s m args below meth c s₁ B hml hv
  obtain ⟨rfl, hA, hR, hK, hN⟩ := hv
  have hr := B.returns
  have hts : ∀ w ∈ wsG, w.before [.ref x0, .int x1].toArray s = true := fun w hw => atoms_spec (ws := Cond.code yX1_makerOf cX1_makerOf 2 (some .int) :: wsG) B.pre w (List.mem_cons_of_mem _ hw)
  have X : Cx p s m [.ref x0, .int x1].toArray meth c D vwCl tys cX1_makerOf 2 RX1 wsG := ⟨⟨B.exec, B.bytes, hml, findClass_of_methodNamed B.named, hts⟩, hK, B.notSynchronized, hT⟩
  have hx := B.exec
  have hb := B.bytes
  have I : In D vwCl tys A s h s.heap [] := ⟨hR, va_S.rf, hA⟩
  have hl := lv_entry [.ref x0, .int x1] (n := 2) (Nat.le_of_ble_eq_true rfl)
  rw [lg_entry_eq]
  generalize (lg_sl [.ref x0, .int x1] ++ List.replicate (2 - (lg_sl [.ref x0, .int x1]).length) Slot.unset).toArray = ls at hl ⊢
  have hl : lv_has ls 2 [(0, .ref x0), (1, .int x1)] := hl
  have ho := X.1.2.2.2.1
  rw [J_File_makerOf] at hJ
  refine lv_aload_n hx hb dX1_makerOf_0 rfl (lv_at hl 0 rfl) ?_
  obtain ⟨v1, e9, hJ⟩ := rp_b hJ
  obtain ⟨f9, g9, e9⟩ := fR_s e9
  refine rp_get X I g9 e9 rfl wiX1 (by decide) wm_64 dX1_makerOf_1 ?_
  refine lv_iload_n hx hb dX1_makerOf_4 rfl (lv_at hl 1 rfl) ?_
  obtain ⟨v2, e9, hJ⟩ := rp_b hJ
  refine rp_iald X I e9 rfl dX1_makerOf_5 ?_
  exact rp_iret X hr hJ I dX1_makerOf_6
def rmX1_setMaker : Room := { frames := 0, cells := 0, slots := 0, locals := 0 }
def J_File_setMaker (N : Nat) (x0 : Nat) (x1 : Int32) (x2 : Int32) (h : Hp) : Option (Unit × Hp) :=
  (fR h 1 x0 2).bind fun v1 =>
  (sI h 0 v1 x1 x2).bind fun h2 =>
  some ((), h2)
set_option maxHeartbeats 4000000 in
set_option maxRecDepth 100000 in
theorem c_File_setMaker {l : Launch} {D : va_G} {tys : List (ClassId × FieldType)} {A : Nat → Prop} (hT : tys.map (fun q => q.2) = tyS) {N : Nat} {x0 : Nat} {x1 : Int32} {x2 : Int32} {h : Hp} {res : (Unit × Hp)} (hJ : J_File_setMaker N x0 x1 x2 h = some res) : Ct l D vwCl tys A yX1_setMaker (Cond.code yX1_setMaker cX1_setMaker 3 none :: wsG) rmX1_setMaker [.ref x0, .int x1, .int x2] h none res.2 := by
  refine Met.ofW (cc := cX1_setMaker) (maxL := 3) (ret := none) (by decide) rfl ?_
  intro p e s m args below meth c s₁ B hml hv
  obtain ⟨rfl, hA, hR, hK, hN⟩ := hv
  have hr := B.returns
  have hts : ∀ w ∈ wsG, w.before [.ref x0, .int x1, .int x2].toArray s = true := fun w hw => atoms_spec (ws := Cond.code yX1_setMaker cX1_setMaker 3 none :: wsG) B.pre w (List.mem_cons_of_mem _ hw)
  have X : Cx p s m [.ref x0, .int x1, .int x2].toArray meth c D vwCl tys cX1_setMaker 3 RX1 wsG := ⟨⟨B.exec, B.bytes, hml, findClass_of_methodNamed B.named, hts⟩, hK, B.notSynchronized, hT⟩
  have hx := B.exec
  have hb := B.bytes
  have I : In D vwCl tys A s h s.heap [] := ⟨hR, va_S.rf, hA⟩
  have hl := lv_entry [.ref x0, .int x1, .int x2] (n := 3) (Nat.le_of_ble_eq_true rfl)
  rw [lg_entry_eq]
  generalize (lg_sl [.ref x0, .int x1, .int x2] ++ List.replicate (3 - (lg_sl [.ref x0, .int x1, .int x2]).length) Slot.unset).toArray = ls at hl ⊢
  have hl : lv_has ls 3 [(0, .ref x0), (1, .int x1), (2, .int x2)] := hl
  have ho := X.1.2.2.2.1
  rw [J_File_setMaker] at hJ
  refine lv_aload_n hx hb dX1_setMaker_0 rfl (lv_at hl 0 rfl) ?_
  obtain ⟨v1, e9, hJ⟩ := rp_b hJ
  obtain ⟨f9, g9, e9⟩ := fR_s e9
  refine rp_get X I g9 e9 rfl wiX1 (by decide) wm_64 dX1_setMaker_1 ?_
  refine lv_iload_n hx hb dX1_setMaker_4 rfl (lv_at hl 1 rfl) ?_
  refine lv_iload_n hx hb dX1_setMaker_5 rfl (lv_at hl 2 rfl) ?_
  obtain ⟨h2, e9, hJ⟩ := rp_b hJ
  refine rp_iast X I e9 rfl dX1_setMaker_6 (fun H locs I => ?_)
  exact rp_vret X hr hJ I dX1_setMaker_7
def rmX1_isFilled : Room := { frames := 0, cells := 0, slots := 0, locals := 0 }
def J_File_isFilled (N : Nat) (x0 : Nat) (x1 : Int32) (h : Hp) : Option (Int32 × Hp) :=
  (fR h 1 x0 1).bind fun v1 =>
  (aI h 1 v1 x1).bind fun v2 =>
  zR v2 h
set_option maxHeartbeats 4000000 in
set_option maxRecDepth 100000 in
theorem c_File_isFilled {l : Launch} {D : va_G} {tys : List (ClassId × FieldType)} {A : Nat → Prop} (hT : tys.map (fun q => q.2) = tyS) {N : Nat} {x0 : Nat} {x1 : Int32} {h : Hp} {res : (Int32 × Hp)} (hJ : J_File_isFilled N x0 x1 h = some res) : Ct l D vwCl tys A yX1_isFilled (Cond.code yX1_isFilled cX1_isFilled 2 (some .boolean) :: wsG) rmX1_isFilled [.ref x0, .int x1] h (some (.int res.1)) res.2 := by
  refine Met.ofW (cc := cX1_isFilled) (maxL := 2) (ret := (some .boolean)) (by decide) rfl ?_
  intro p e s m args below meth c s₁ B hml hv
  obtain ⟨rfl, hA, hR, hK, hN⟩ := hv
  have hr := B.returns
  have hts : ∀ w ∈ wsG, w.before [.ref x0, .int x1].toArray s = true := fun w hw => atoms_spec (ws := Cond.code yX1_isFilled cX1_isFilled 2 (some .boolean) :: wsG) B.pre w (List.mem_cons_of_mem _ hw)
  have X : Cx p s m [.ref x0, .int x1].toArray meth c D vwCl tys cX1_isFilled 2 RX1 wsG := ⟨⟨B.exec, B.bytes, hml, findClass_of_methodNamed B.named, hts⟩, hK, B.notSynchronized, hT⟩
  have hx := B.exec
  have hb := B.bytes
  have I : In D vwCl tys A s h s.heap [] := ⟨hR, va_S.rf, hA⟩
  have hl := lv_entry [.ref x0, .int x1] (n := 2) (Nat.le_of_ble_eq_true rfl)
  rw [lg_entry_eq]
  generalize (lg_sl [.ref x0, .int x1] ++ List.replicate (2 - (lg_sl [.ref x0, .int x1]).length) Slot.unset).toArray = ls at hl ⊢
  have hl : lv_has ls 2 [(0, .ref x0), (1, .int x1)] := hl
  have ho := X.1.2.2.2.1
  rw [J_File_isFilled] at hJ
  refine lv_aload_n hx hb dX1_isFilled_0 rfl (lv_at hl 0 rfl) ?_
  obtain ⟨v1, e9, hJ⟩ := rp_b hJ
  obtain ⟨f9, g9, e9⟩ := fR_s e9
  refine rp_get X I g9 e9 rfl wiX1 (by decide) wm_63 dX1_isFilled_1 ?_
  refine lv_iload_n hx hb dX1_isFilled_4 rfl (lv_at hl 1 rfl) ?_
  obtain ⟨v2, e9, hJ⟩ := rp_b hJ
  refine rp_zald X I e9 rfl dX1_isFilled_5 ?_
  obtain ⟨z9, hJ⟩ := zR_s hJ
  exact rp_zret X hr z9 hJ I dX1_isFilled_6
def rmX1_contentOf : Room := { frames := 0, cells := 0, slots := 0, locals := 0 }
def J_File_contentOf (N : Nat) (x0 : Nat) (x1 : Int32) (h : Hp) : Option (Int32 × Hp) :=
  (fR h 1 x0 0).bind fun v1 =>
  (aI h 0 v1 x1).bind fun v2 =>
  some (v2, h)
set_option maxHeartbeats 4000000 in
set_option maxRecDepth 100000 in
theorem c_File_contentOf {l : Launch} {D : va_G} {tys : List (ClassId × FieldType)} {A : Nat → Prop} (hT : tys.map (fun q => q.2) = tyS) {N : Nat} {x0 : Nat} {x1 : Int32} {h : Hp} {res : (Int32 × Hp)} (hJ : J_File_contentOf N x0 x1 h = some res) : Ct l D vwCl tys A yX1_contentOf (Cond.code yX1_contentOf cX1_contentOf 2 (some .int) :: wsG) rmX1_contentOf [.ref x0, .int x1] h (some (.int res.1)) res.2 := by
  refine Met.ofW (cc := cX1_contentOf) (maxL := 2) (ret := (some .int)) (by decide) rfl ?_
  intro p e s m args below meth c s₁ B hml hv
  obtain ⟨rfl, hA, hR, hK, hN⟩ := hv
  have hr := B.returns
  have hts : ∀ w ∈ wsG, w.before [.ref x0, .int x1].toArray s = true := fun w hw => atoms_spec (ws := Cond.code yX1_contentOf cX1_contentOf 2 (some .int) :: wsG) B.pre w (List.mem_cons_of_mem _ hw)
  have X : Cx p s m [.ref x0, .int x1].toArray meth c D vwCl tys cX1_contentOf 2 RX1 wsG := ⟨⟨B.exec, B.bytes, hml, findClass_of_methodNamed B.named, hts⟩, hK, B.notSynchronized, hT⟩
  have hx := B.exec
  have hb := B.bytes
  have I : In D vwCl tys A s h s.heap [] := ⟨hR, va_S.rf, hA⟩
  have hl := lv_entry [.ref x0, .int x1] (n := 2) (Nat.le_of_ble_eq_true rfl)
  rw [lg_entry_eq]
  generalize (lg_sl [.ref x0, .int x1] ++ List.replicate (2 - (lg_sl [.ref x0, .int x1]).length) Slot.unset).toArray = ls at hl ⊢
  have hl : lv_has ls 2 [(0, .ref x0), (1, .int x1)] := hl
  have ho := X.1.2.2.2.1
  rw [J_File_contentOf] at hJ
  refine lv_aload_n hx hb dX1_contentOf_0 rfl (lv_at hl 0 rfl) ?_
  obtain ⟨v1, e9, hJ⟩ := rp_b hJ
  obtain ⟨f9, g9, e9⟩ := fR_s e9
  refine rp_get X I g9 e9 rfl wiX1 (by decide) wm_62 dX1_contentOf_1 ?_
  refine lv_iload_n hx hb dX1_contentOf_4 rfl (lv_at hl 1 rfl) ?_
  obtain ⟨v2, e9, hJ⟩ := rp_b hJ
  refine rp_iald X I e9 rfl dX1_contentOf_5 ?_
  exact rp_iret X hr hJ I dX1_contentOf_6
def rmX1_fill : Room := { frames := 0, cells := 0, slots := 0, locals := 0 }
def J_File_fill (N : Nat) (x0 : Nat) (x1 : Int32) (x2 : Int32) (h : Hp) : Option (Unit × Hp) :=
  (fR h 1 x0 0).bind fun v1 =>
  (sI h 0 v1 x1 x2).bind fun h2 =>
  (fR h2 1 x0 1).bind fun v3 =>
  (sB h2 1 v3 x1 (1 : Int32)).bind fun h4 =>
  some ((), h4)
set_option maxHeartbeats 4000000 in
set_option maxRecDepth 100000 in
theorem c_File_fill {l : Launch} {D : va_G} {tys : List (ClassId × FieldType)} {A : Nat → Prop} (hT : tys.map (fun q => q.2) = tyS) {N : Nat} {x0 : Nat} {x1 : Int32} {x2 : Int32} {h : Hp} {res : (Unit × Hp)} (hJ : J_File_fill N x0 x1 x2 h = some res) : Ct l D vwCl tys A yX1_fill (Cond.code yX1_fill cX1_fill 3 none :: wsG) rmX1_fill [.ref x0, .int x1, .int x2] h none res.2 := by
  refine Met.ofW (cc := cX1_fill) (maxL := 3) (ret := none) (by decide) rfl ?_
  intro p e s m args below meth c s₁ B hml hv
  obtain ⟨rfl, hA, hR, hK, hN⟩ := hv
  have hr := B.returns
  have hts : ∀ w ∈ wsG, w.before [.ref x0, .int x1, .int x2].toArray s = true := fun w hw => atoms_spec (ws := Cond.code yX1_fill cX1_fill 3 none :: wsG) B.pre w (List.mem_cons_of_mem _ hw)
  have X : Cx p s m [.ref x0, .int x1, .int x2].toArray meth c D vwCl tys cX1_fill 3 RX1 wsG := ⟨⟨B.exec, B.bytes, hml, findClass_of_methodNamed B.named, hts⟩, hK, B.notSynchronized, hT⟩
  have hx := B.exec
  have hb := B.bytes
  have I : In D vwCl tys A s h s.heap [] := ⟨hR, va_S.rf, hA⟩
  have hl := lv_entry [.ref x0, .int x1, .int x2] (n := 3) (Nat.le_of_ble_eq_true rfl)
  rw [lg_entry_eq]
  generalize (lg_sl [.ref x0, .int x1, .int x2] ++ List.replicate (3 - (lg_sl [.ref x0, .int x1, .int x2]).length) Slot.unset).toArray = ls at hl ⊢
  have hl : lv_has ls 3 [(0, .ref x0), (1, .int x1), (2, .int x2)] := hl
  have ho := X.1.2.2.2.1
  rw [J_File_fill] at hJ
  refine lv_aload_n hx hb dX1_fill_0 rfl (lv_at hl 0 rfl) ?_
  obtain ⟨v1, e9, hJ⟩ := rp_b hJ
  obtain ⟨f9, g9, e9⟩ := fR_s e9
  refine rp_get X I g9 e9 rfl wiX1 (by decide) wm_62 dX1_fill_1 ?_
  refine lv_iload_n hx hb dX1_fill_4 rfl (lv_at hl 1 rfl) ?_
  refine lv_iload_n hx hb dX1_fill_5 rfl (lv_at hl 2 rfl) ?_
  obtain ⟨h2, e9, hJ⟩ := rp_b hJ
  refine rp_iast X I e9 rfl dX1_fill_6 (fun H locs I => ?_)
  refine lv_aload_n hx hb dX1_fill_7 rfl (lv_at hl 0 rfl) ?_
  obtain ⟨v3, e9, hJ⟩ := rp_b hJ
  obtain ⟨f9, g9, e9⟩ := fR_s e9
  refine rp_get X I g9 e9 rfl wiX1 (by decide) wm_63 dX1_fill_8 ?_
  refine lv_iload_n hx hb dX1_fill_11 rfl (lv_at hl 1 rfl) ?_
  refine lv_iconst (v := 1) hx hb dX1_fill_12 (by decide) ?_
  obtain ⟨h4, e9, hJ⟩ := rp_b hJ
  refine rp_zast X I e9 rfl dX1_fill_13 (fun H locs I => ?_)
  exact rp_vret X hr hJ I dX1_fill_14
def rmX1_empty : Room := { frames := 0, cells := 0, slots := 0, locals := 0 }
def J_File_empty (N : Nat) (x0 : Nat) (x1 : Int32) (h : Hp) : Option (Int32 × Hp) :=
  (fR h 1 x0 1).bind fun v1 =>
  (aI h 1 v1 x1).bind fun v2 =>
  (fR h 1 x0 1).bind fun v3 =>
  (sB h 1 v3 x1 (0 : Int32)).bind fun h4 =>
  zR v2 h4
set_option maxHeartbeats 4000000 in
set_option maxRecDepth 100000 in
theorem c_File_empty {l : Launch} {D : va_G} {tys : List (ClassId × FieldType)} {A : Nat → Prop} (hT : tys.map (fun q => q.2) = tyS) {N : Nat} {x0 : Nat} {x1 : Int32} {h : Hp} {res : (Int32 × Hp)} (hJ : J_File_empty N x0 x1 h = some res) : Ct l D vwCl tys A yX1_empty (Cond.code yX1_empty cX1_empty 3 (some .boolean) :: wsG) rmX1_empty [.ref x0, .int x1] h (some (.int res.1)) res.2 := by
  refine Met.ofW (cc := cX1_empty) (maxL := 3) (ret := (some .boolean)) (by decide) rfl ?_
  intro p e s m args below meth c s₁ B hml hv
  obtain ⟨rfl, hA, hR, hK, hN⟩ := hv
  have hr := B.returns
  have hts : ∀ w ∈ wsG, w.before [.ref x0, .int x1].toArray s = true := fun w hw => atoms_spec (ws := Cond.code yX1_empty cX1_empty 3 (some .boolean) :: wsG) B.pre w (List.mem_cons_of_mem _ hw)
  have X : Cx p s m [.ref x0, .int x1].toArray meth c D vwCl tys cX1_empty 3 RX1 wsG := ⟨⟨B.exec, B.bytes, hml, findClass_of_methodNamed B.named, hts⟩, hK, B.notSynchronized, hT⟩
  have hx := B.exec
  have hb := B.bytes
  have I : In D vwCl tys A s h s.heap [] := ⟨hR, va_S.rf, hA⟩
  have hl := lv_entry [.ref x0, .int x1] (n := 3) (Nat.le_of_ble_eq_true rfl)
  rw [lg_entry_eq]
  generalize (lg_sl [.ref x0, .int x1] ++ List.replicate (3 - (lg_sl [.ref x0, .int x1]).length) Slot.unset).toArray = ls at hl ⊢
  have hl : lv_has ls 3 [(0, .ref x0), (1, .int x1)] := hl
  have ho := X.1.2.2.2.1
  rw [J_File_empty] at hJ
  refine lv_aload_n hx hb dX1_empty_0 rfl (lv_at hl 0 rfl) ?_
  obtain ⟨v1, e9, hJ⟩ := rp_b hJ
  obtain ⟨f9, g9, e9⟩ := fR_s e9
  refine rp_get X I g9 e9 rfl wiX1 (by decide) wm_63 dX1_empty_1 ?_
  refine lv_iload_n hx hb dX1_empty_4 rfl (lv_at hl 1 rfl) ?_
  obtain ⟨v2, e9, hJ⟩ := rp_b hJ
  refine rp_zald X I e9 rfl dX1_empty_5 ?_
  refine lv_istore_n (lv' := [(2, .int v2), (0, .ref x0), (1, .int x1)]) hx hb dX1_empty_6 rfl hl (by decide) rfl (fun ls hl => ?_)
  refine lv_aload_n hx hb dX1_empty_7 rfl (lv_at hl 1 rfl) ?_
  obtain ⟨v3, e9, hJ⟩ := rp_b hJ
  obtain ⟨f9, g9, e9⟩ := fR_s e9
  refine rp_get X I g9 e9 rfl wiX1 (by decide) wm_63 dX1_empty_8 ?_
  refine lv_iload_n hx hb dX1_empty_11 rfl (lv_at hl 2 rfl) ?_
  refine lv_iconst (v := 0) hx hb dX1_empty_12 (by decide) ?_
  obtain ⟨h4, e9, hJ⟩ := rp_b hJ
  refine rp_zast X I e9 rfl dX1_empty_13 (fun H locs I => ?_)
  refine lv_iload_n hx hb dX1_empty_14 rfl (lv_at hl 0 rfl) ?_
  obtain ⟨z9, hJ⟩ := zR_s hJ
  exact rp_zret X hr z9 hJ I dX1_empty_15
def rmX1_lacksSource : Room := { frames := 0, cells := 0, slots := 0, locals := 0 }
def J_File_lacksSource_23 (N : Nat)    (h : Hp) : Option (Int32 × Hp) :=
  some ((0 : Int32), h)
def J_File_lacksSource (N : Nat) (x0 : Nat) (x1 : Int32) (h : Hp) : Option (Int32 × Hp) :=
  (fR h 1 x0 2).bind fun v1 =>
  (aI h 0 v1 x1).bind fun v2 =>
  if v2 = (-1 : Int32) then
  ((fR h 1 x0 1).bind fun v3 =>
  (aI h 1 v3 x1).bind fun v4 =>
  if v4 = 0 then
  (some ((1 : Int32), h))
  else
  (J_File_lacksSource_23 N h))
  else
  (J_File_lacksSource_23 N h)
set_option maxHeartbeats 4000000 in
set_option maxRecDepth 100000 in
theorem w_File_lacksSource_23 (X : Cx p s m args meth c D vwCl tys cX1_lacksSource 2 RX1 wsG) (hN : nwS s) (hr : meth.sig.returnType = (some .boolean)) {res : (Int32 × Hp)} {N : Nat}   : ∀   (h : Hp) (H : Heap) (locs : List Loc) (ls : Array Slot), J_File_lacksSource_23 N h = some res → In D vwCl tys A s h H locs → lv_has ls 2 [] → W p l e rmX1_lacksSource s m args below meth c H locs 0 0 (MQ below (Qr D vwCl tys A (some (.int res.1)) res.2) args s 0 0 A) (F0 m 23 ls []) := by
  have hx := X.1.1
  have hb := X.1.2.1
  have hml := X.1.2.2.1
  have ho := X.1.2.2.2.1
  have hts := X.1.2.2.2.2
  have hK := X.2.1
  have hT := X.2.2.2
  intro   h H locs ls hJ I hl
  rw [J_File_lacksSource_23] at hJ
  refine lv_iconst (v := 0) hx hb dX1_lacksSource_23 (by decide) ?_
  exact rp_zret X hr (Or.inl rfl) hJ I dX1_lacksSource_24
set_option maxHeartbeats 4000000 in
set_option maxRecDepth 100000 in
theorem c_File_lacksSource {l : Launch} {D : va_G} {tys : List (ClassId × FieldType)} {A : Nat → Prop} (hT : tys.map (fun q => q.2) = tyS) {N : Nat} {x0 : Nat} {x1 : Int32} {h : Hp} {res : (Int32 × Hp)} (hJ : J_File_lacksSource N x0 x1 h = some res) : Ct l D vwCl tys A yX1_lacksSource (Cond.code yX1_lacksSource cX1_lacksSource 2 (some .boolean) :: wsG) rmX1_lacksSource [.ref x0, .int x1] h (some (.int res.1)) res.2 := by
  refine Met.ofW (cc := cX1_lacksSource) (maxL := 2) (ret := (some .boolean)) (by decide) rfl ?_
  intro p e s m args below meth c s₁ B hml hv
  obtain ⟨rfl, hA, hR, hK, hN⟩ := hv
  have hr := B.returns
  have hts : ∀ w ∈ wsG, w.before [.ref x0, .int x1].toArray s = true := fun w hw => atoms_spec (ws := Cond.code yX1_lacksSource cX1_lacksSource 2 (some .boolean) :: wsG) B.pre w (List.mem_cons_of_mem _ hw)
  have X : Cx p s m [.ref x0, .int x1].toArray meth c D vwCl tys cX1_lacksSource 2 RX1 wsG := ⟨⟨B.exec, B.bytes, hml, findClass_of_methodNamed B.named, hts⟩, hK, B.notSynchronized, hT⟩
  have hx := B.exec
  have hb := B.bytes
  have I : In D vwCl tys A s h s.heap [] := ⟨hR, va_S.rf, hA⟩
  have hl := lv_entry [.ref x0, .int x1] (n := 2) (Nat.le_of_ble_eq_true rfl)
  rw [lg_entry_eq]
  generalize (lg_sl [.ref x0, .int x1] ++ List.replicate (2 - (lg_sl [.ref x0, .int x1]).length) Slot.unset).toArray = ls at hl ⊢
  have hl : lv_has ls 2 [(0, .ref x0), (1, .int x1)] := hl
  have ho := X.1.2.2.2.1
  rw [J_File_lacksSource] at hJ
  refine lv_aload_n hx hb dX1_lacksSource_0 rfl (lv_at hl 0 rfl) ?_
  obtain ⟨v1, e9, hJ⟩ := rp_b hJ
  obtain ⟨f9, g9, e9⟩ := fR_s e9
  refine rp_get X I g9 e9 rfl wiX1 (by decide) wm_64 dX1_lacksSource_1 ?_
  refine lv_iload_n hx hb dX1_lacksSource_4 rfl (lv_at hl 1 rfl) ?_
  obtain ⟨v2, e9, hJ⟩ := rp_b hJ
  refine rp_iald X I e9 rfl dX1_lacksSource_5 ?_
  refine lv_iconst (v := -1) hx hb dX1_lacksSource_6 (by decide) ?_
  refine lv_icmp_ne (tgt := 23) hx hb dX1_lacksSource_7 (by decide) (fun c9 => ?_) (fun c9 => ?_)
  · rw [if_neg c9] at hJ
    exact w_File_lacksSource_23 X hN hr _ _ _ _ hJ I (lv_sub hl [] rfl)
  · rw [if_pos c9] at hJ
    refine lv_aload_n hx hb dX1_lacksSource_10 rfl (lv_at hl 0 rfl) ?_
    obtain ⟨v3, e9, hJ⟩ := rp_b hJ
    obtain ⟨f9, g9, e9⟩ := fR_s e9
    refine rp_get X I g9 e9 rfl wiX1 (by decide) wm_63 dX1_lacksSource_11 ?_
    refine lv_iload_n hx hb dX1_lacksSource_14 rfl (lv_at hl 1 rfl) ?_
    obtain ⟨v4, e9, hJ⟩ := rp_b hJ
    refine rp_zald X I e9 rfl dX1_lacksSource_15 ?_
    refine lv_if_ne (tgt := 23) hx hb dX1_lacksSource_16 (by decide) (fun c9 => ?_) (fun c9 => ?_)
    · rw [if_neg c9] at hJ
      exact w_File_lacksSource_23 X hN hr _ _ _ _ hJ I (lv_sub hl [] rfl)
    · rw [if_pos c9] at hJ
      refine lv_iconst (v := 1) hx hb dX1_lacksSource_19 (by decide) ?_
      refine lv_goto (tgt := 24) hx hb dX1_lacksSource_20 (by decide) ?_
      exact rp_zret X hr (Or.inr rfl) hJ I dX1_lacksSource_24
def rmX1_countFilled : Room := { frames := 0, cells := 0, slots := 0, locals := 0 }
def J_File_countFilled_4 (N : Nat)  : Nat → Nat → Int32 → Int32 → Hp → Option (Int32 × Hp)
  | 0, _, _, _, _ => none
  | n + 1, x0, x1, x2, h =>
  if (64 : Int32) ≤ x2 then
  (some (x1, h))
  else
  ((fR h 1 x0 1).bind fun v1 =>
  (aI h 1 v1 x2).bind fun v2 =>
  if v2 = 0 then
  ((J_File_countFilled_4 N n) x0 x1 (x2 + (1 : Int32)) h)
  else
  ((J_File_countFilled_4 N n) x0 (x1 + (1 : Int32)) (x2 + (1 : Int32)) h))
def J_File_countFilled (N : Nat) (x0 : Nat) (h : Hp) : Option (Int32 × Hp) :=
  J_File_countFilled_4 N N x0 (0 : Int32) (0 : Int32) h
set_option maxHeartbeats 4000000 in
set_option maxRecDepth 100000 in
theorem w_File_countFilled_4 (X : Cx p s m args meth c D vwCl tys cX1_countFilled 3 RX1 wsG) (hN : nwS s) (hr : meth.sig.returnType = (some .int)) {res : (Int32 × Hp)} {N : Nat}   : ∀ (n : Nat) (x0 : Nat) (x1 : Int32) (x2 : Int32)  (h : Hp) (H : Heap) (locs : List Loc) (ls : Array Slot), J_File_countFilled_4 N n x0 x1 x2 h = some res → In D vwCl tys A s h H locs → lv_has ls 3 [(0, .ref x0), (1, .int x1), (2, .int x2)] → W p l e rmX1_countFilled s m args below meth c H locs 0 0 (MQ below (Qr D vwCl tys A (some (.int res.1)) res.2) args s 0 0 A) (F0 m 4 ls []) := by
  have hx := X.1.1
  have hb := X.1.2.1
  have hml := X.1.2.2.1
  have ho := X.1.2.2.2.1
  have hts := X.1.2.2.2.2
  have hK := X.2.1
  have hT := X.2.2.2
  intro n
  induction n with
  | zero =>
    intro x0 x1 x2  h H locs ls hJ I hl
    exact nomatch (show (none : Option (Int32 × Hp)) = some res from hJ)
  | succ n k4 =>
    intro x0 x1 x2  h H locs ls hJ I hl
    rw [J_File_countFilled_4] at hJ
    refine lv_iload_n hx hb dX1_countFilled_4 rfl (lv_at hl 2 rfl) ?_
    refine lv_bipush (v := 64) hx hb dX1_countFilled_5 (by decide) ?_
    refine lv_icmp_ge (tgt := 28) hx hb dX1_countFilled_7 (by decide) (fun c9 => ?_) (fun c9 => ?_)
    · rw [if_pos c9] at hJ
      refine lv_iload_n hx hb dX1_countFilled_28 rfl (lv_at hl 1 rfl) ?_
      exact rp_iret X hr hJ I dX1_countFilled_29
    · rw [if_neg c9] at hJ
      refine lv_aload_n hx hb dX1_countFilled_10 rfl (lv_at hl 0 rfl) ?_
      obtain ⟨v1, e9, hJ⟩ := rp_b hJ
      obtain ⟨f9, g9, e9⟩ := fR_s e9
      refine rp_get X I g9 e9 rfl wiX1 (by decide) wm_63 dX1_countFilled_11 ?_
      refine lv_iload_n hx hb dX1_countFilled_14 rfl (lv_at hl 2 rfl) ?_
      obtain ⟨v2, e9, hJ⟩ := rp_b hJ
      refine rp_zald X I e9 rfl dX1_countFilled_15 ?_
      refine lv_if_eq (tgt := 22) hx hb dX1_countFilled_16 (by decide) (fun c9 => ?_) (fun c9 => ?_)
      · rw [if_pos c9] at hJ
        refine lv_iinc (v := (x2 + (1 : Int32))) (lv' := [(2, .int (x2 + (1 : Int32))), (0, .ref x0), (1, .int x1)]) hx hb dX1_countFilled_22 hl (k := 2) rfl rfl (by decide) rfl (fun ls hl => ?_)
        refine lv_goto (tgt := 4) hx hb dX1_countFilled_25 (by decide) ?_
        exact k4 _ _ _ _ _ _ _ hJ I (lv_sub hl [1, 2, 0] rfl)
      · rw [if_neg c9] at hJ
        refine lv_iinc (v := (x1 + (1 : Int32))) (lv' := [(1, .int (x1 + (1 : Int32))), (0, .ref x0), (2, .int x2)]) hx hb dX1_countFilled_19 hl (k := 1) rfl rfl (by decide) rfl (fun ls hl => ?_)
        refine lv_iinc (v := (x2 + (1 : Int32))) (lv' := [(2, .int (x2 + (1 : Int32))), (1, .int (x1 + (1 : Int32))), (0, .ref x0)]) hx hb dX1_countFilled_22 hl (k := 2) rfl rfl (by decide) rfl (fun ls hl => ?_)
        refine lv_goto (tgt := 4) hx hb dX1_countFilled_25 (by decide) ?_
        exact k4 _ _ _ _ _ _ _ hJ I (lv_sub hl [2, 1, 0] rfl)
set_option maxHeartbeats 4000000 in
set_option maxRecDepth 100000 in
theorem c_File_countFilled {l : Launch} {D : va_G} {tys : List (ClassId × FieldType)} {A : Nat → Prop} (hT : tys.map (fun q => q.2) = tyS) {N : Nat} {x0 : Nat} {h : Hp} {res : (Int32 × Hp)} (hJ : J_File_countFilled N x0 h = some res) : Ct l D vwCl tys A yX1_countFilled (Cond.code yX1_countFilled cX1_countFilled 3 (some .int) :: wsG) rmX1_countFilled [.ref x0] h (some (.int res.1)) res.2 := by
  refine Met.ofW (cc := cX1_countFilled) (maxL := 3) (ret := (some .int)) (by decide) rfl ?_
  intro p e s m args below meth c s₁ B hml hv
  obtain ⟨rfl, hA, hR, hK, hN⟩ := hv
  have hr := B.returns
  have hts : ∀ w ∈ wsG, w.before [.ref x0].toArray s = true := fun w hw => atoms_spec (ws := Cond.code yX1_countFilled cX1_countFilled 3 (some .int) :: wsG) B.pre w (List.mem_cons_of_mem _ hw)
  have X : Cx p s m [.ref x0].toArray meth c D vwCl tys cX1_countFilled 3 RX1 wsG := ⟨⟨B.exec, B.bytes, hml, findClass_of_methodNamed B.named, hts⟩, hK, B.notSynchronized, hT⟩
  have hx := B.exec
  have hb := B.bytes
  have I : In D vwCl tys A s h s.heap [] := ⟨hR, va_S.rf, hA⟩
  have hl := lv_entry [.ref x0] (n := 3) (Nat.le_of_ble_eq_true rfl)
  rw [lg_entry_eq]
  generalize (lg_sl [.ref x0] ++ List.replicate (3 - (lg_sl [.ref x0]).length) Slot.unset).toArray = ls at hl ⊢
  have hl : lv_has ls 3 [(0, .ref x0)] := hl
  have ho := X.1.2.2.2.1
  rw [J_File_countFilled] at hJ
  refine lv_iconst (v := 0) hx hb dX1_countFilled_0 (by decide) ?_
  refine lv_istore_n (lv' := [(1, .int (0 : Int32)), (0, .ref x0)]) hx hb dX1_countFilled_1 rfl hl (by decide) rfl (fun ls hl => ?_)
  refine lv_iconst (v := 0) hx hb dX1_countFilled_2 (by decide) ?_
  refine lv_istore_n (lv' := [(2, .int (0 : Int32)), (1, .int (0 : Int32)), (0, .ref x0)]) hx hb dX1_countFilled_3 rfl hl (by decide) rfl (fun ls hl => ?_)
  exact w_File_countFilled_4 X hN hr N _ _ _ _ _ _ _ hJ I (lv_sub hl [2, 1, 0] rfl)
end GW
end
section
section GW
variable {p : Program} {l : Launch} {e : Env} {s : State} {m : MethodId} {args : Array Value} {below : List Frame} {meth : Method} {c : Code} {D : va_G} {tys : List (ClassId × FieldType)} {A : Nat → Prop}
def rmX0_init : Room := { frames := 1, cells := 3, slots := 88, locals := 20 }
def J_Crew_init (N : Nat) (x0 : Nat) (h : Hp) : Option (Unit × Hp) :=
  (nI_ h 1 (8 : Int32)).bind fun q1 =>
  (sF q1.2 0 x0 0 (.ref q1.1)).bind fun h2 =>
  (nI_ h2 0 (40 : Int32)).bind fun q3 =>
  (sF q3.2 0 x0 1 (.ref q3.1)).bind fun h4 =>
  (nI_ h4 0 (40 : Int32)).bind fun q5 =>
  (sF q5.2 0 x0 2 (.ref q5.1)).bind fun h6 =>
  some ((), h6)
set_option maxHeartbeats 4000000 in
set_option maxRecDepth 100000 in
theorem c_Crew_init {l : Launch} {D : va_G} {tys : List (ClassId × FieldType)} {A : Nat → Prop} (hT : tys.map (fun q => q.2) = tyS) {N : Nat} {x0 : Nat} {h : Hp} {res : (Unit × Hp)} (hJ : J_Crew_init N x0 h = some res) : Ct l D vwCl tys A yX0_init (Cond.code yX0_init cX0_init 1 none :: wsG) rmX0_init [.ref x0] h none res.2 := by
  refine Met.ofW (cc := cX0_init) (maxL := 1) (ret := none) (by decide) rfl ?_
  intro p e s m args below meth c s₁ B hml hv
  obtain ⟨rfl, hA, hR, hK, hN⟩ := hv
  have hr := B.returns
  have hts : ∀ w ∈ wsG, w.before [.ref x0].toArray s = true := fun w hw => atoms_spec (ws := Cond.code yX0_init cX0_init 1 none :: wsG) B.pre w (List.mem_cons_of_mem _ hw)
  have X : Cx p s m [.ref x0].toArray meth c D vwCl tys cX0_init 1 RX0 wsG := ⟨⟨B.exec, B.bytes, hml, findClass_of_methodNamed B.named, hts⟩, hK, B.notSynchronized, hT⟩
  have hinit : meth.name = "<init>" := (name_of_methodNamed B.named B.method).1
  have hx := B.exec
  have hb := B.bytes
  have I : In D vwCl tys A s h s.heap [] := ⟨hR, va_S.rf, hA⟩
  have hl := lv_entry [.ref x0] (n := 1) (Nat.le_of_ble_eq_true rfl)
  rw [lg_entry_eq]
  generalize (lg_sl [.ref x0] ++ List.replicate (1 - (lg_sl [.ref x0]).length) Slot.unset).toArray = ls at hl ⊢
  have hl : lv_has ls 1 [(0, .ref x0)] := hl
  have ho := X.1.2.2.2.1
  rw [J_Crew_init] at hJ
  refine lv_aload_n hx hb dX0_init_0 rfl (lv_at hl 0 rfl) ?_
  refine W.objInit hx hb ho (hts _ wm_123) (hts _ wm_54) (hts _ wm_55) rfl (by rw [hml]; exact hl.1) rfl dX0_init_1 (Nat.le_of_ble_eq_true rfl) (Nat.le_of_ble_eq_true rfl) ?_
  refine W.eq (g2 := F0 m 4 ls []) rfl ?_
  refine lv_aload_n hx hb dX0_init_4 rfl (lv_at hl 0 rfl) ?_
  refine lv_bipush (v := 8) hx hb dX0_init_5 (by decide) ?_
  obtain ⟨q1, e9, hJ⟩ := rp_b hJ
  refine rp_newI (K := 8) (ty := .boolean) X I e9 (by decide) rfl rfl (by decide) wm_69 rfl (fun _ z => z) (Nat.le_of_ble_eq_true rfl) (Nat.le_of_ble_eq_true rfl) dX0_init_7 (fun H I => ?_)
  obtain ⟨h2, e9, hJ⟩ := rp_b hJ
  refine rp_putF (ty := (.array .boolean)) X I e9 rfl wiX0 tyX0 tyX0_ok nmX0 (by decide) wm_124 rfl hinit rfl (by decide +kernel) rfl rfl dX0_init_9 (fun H locs I => ?_)
  refine lv_aload_n hx hb dX0_init_12 rfl (lv_at hl 0 rfl) ?_
  refine lv_bipush (v := 40) hx hb dX0_init_13 (by decide) ?_
  obtain ⟨q3, e9, hJ⟩ := rp_b hJ
  refine rp_newI (K := 40) (ty := .int) X I e9 (by decide) rfl rfl (by decide) wm_68 rfl (fun _ z => z) (Nat.le_of_ble_eq_true rfl) (Nat.le_of_ble_eq_true rfl) dX0_init_15 (fun H I => ?_)
  obtain ⟨h4, e9, hJ⟩ := rp_b hJ
  refine rp_putF (ty := (.array .int)) X I e9 rfl wiX0 tyX0 tyX0_ok nmX0 (by decide) wm_125 rfl hinit rfl (by decide +kernel) rfl rfl dX0_init_17 (fun H locs I => ?_)
  refine lv_aload_n hx hb dX0_init_20 rfl (lv_at hl 0 rfl) ?_
  refine lv_bipush (v := 40) hx hb dX0_init_21 (by decide) ?_
  obtain ⟨q5, e9, hJ⟩ := rp_b hJ
  refine rp_newI (K := 40) (ty := .int) X I e9 (by decide) rfl rfl (by decide) wm_68 rfl (fun _ z => z) (Nat.le_of_ble_eq_true rfl) (Nat.le_of_ble_eq_true rfl) dX0_init_23 (fun H I => ?_)
  obtain ⟨h6, e9, hJ⟩ := rp_b hJ
  refine rp_putF (ty := (.array .int)) X I e9 rfl wiX0 tyX0 tyX0_ok nmX0 (by decide) wm_126 rfl hinit rfl (by decide +kernel) rfl rfl dX0_init_25 (fun H locs I => ?_)
  refine W.widen (k := 3) (n := 88) (Nat.le_of_ble_eq_true rfl) (Nat.le_of_ble_eq_true rfl) ?_
  exact rp_vret X hr hJ I dX0_init_28
def rmX0_comeIn : Room := { frames := 0, cells := 0, slots := 0, locals := 0 }
def J_Crew_comeIn_2 (N : Nat)  : Nat → Nat → Int32 → Hp → Option (Unit × Hp)
  | 0, _, _, _ => none
  | n + 1, x0, x1, h =>
  if (8 : Int32) ≤ x1 then
  ((sF h 0 x0 3 (.long (0 : Int64))).bind fun h1 =>
  (sF h1 0 x0 4 (.long (0 : Int64))).bind fun h2 =>
  some ((), h2))
  else
  ((fR h 0 x0 0).bind fun v3 =>
  (sB h 1 v3 x1 (0 : Int32)).bind fun h4 =>
  (J_Crew_comeIn_2 N n) x0 (x1 + (1 : Int32)) h4)
def J_Crew_comeIn (N : Nat) (x0 : Nat) (h : Hp) : Option (Unit × Hp) :=
  J_Crew_comeIn_2 N N x0 (0 : Int32) h
set_option maxHeartbeats 4000000 in
set_option maxRecDepth 100000 in
theorem w_Crew_comeIn_2 (X : Cx p s m args meth c D vwCl tys cX0_comeIn 2 RX0 wsG) (hN : nwS s) (hr : meth.sig.returnType = none) {res : (Unit × Hp)} {N : Nat}   : ∀ (n : Nat) (x0 : Nat) (x1 : Int32)  (h : Hp) (H : Heap) (locs : List Loc) (ls : Array Slot), J_Crew_comeIn_2 N n x0 x1 h = some res → In D vwCl tys A s h H locs → lv_has ls 2 [(0, .ref x0), (1, .int x1)] → W p l e rmX0_comeIn s m args below meth c H locs 0 0 (MQ below (Qr D vwCl tys A none res.2) args s 0 0 A) (F0 m 2 ls []) := by
  have hx := X.1.1
  have hb := X.1.2.1
  have hml := X.1.2.2.1
  have ho := X.1.2.2.2.1
  have hts := X.1.2.2.2.2
  have hK := X.2.1
  have hT := X.2.2.2
  intro n
  induction n with
  | zero =>
    intro x0 x1  h H locs ls hJ I hl
    exact nomatch (show (none : Option (Unit × Hp)) = some res from hJ)
  | succ n k2 =>
    intro x0 x1  h H locs ls hJ I hl
    rw [J_Crew_comeIn_2] at hJ
    refine lv_iload_n hx hb dX0_comeIn_2 rfl (lv_at hl 1 rfl) ?_
    refine lv_bipush (v := 8) hx hb dX0_comeIn_3 (by decide) ?_
    refine lv_icmp_ge (tgt := 21) hx hb dX0_comeIn_5 (by decide) (fun c9 => ?_) (fun c9 => ?_)
    · rw [if_pos c9] at hJ
      refine lv_aload_n hx hb dX0_comeIn_21 rfl (lv_at hl 0 rfl) ?_
      refine lv_lconst (v := 0) hx hb dX0_comeIn_22 (by decide) ?_
      obtain ⟨h1, e9, hJ⟩ := rp_b hJ
      refine rp_put (ty := .long) X I e9 rfl wiX0 tyX0 tyX0_ok nmX0 (by decide) wm_127 rfl (by decide +kernel) rfl rfl dX0_comeIn_23 (fun H locs I => ?_)
      refine lv_aload_n hx hb dX0_comeIn_26 rfl (lv_at hl 0 rfl) ?_
      refine lv_lconst (v := 0) hx hb dX0_comeIn_27 (by decide) ?_
      obtain ⟨h2, e9, hJ⟩ := rp_b hJ
      refine rp_put (ty := .long) X I e9 rfl wiX0 tyX0 tyX0_ok nmX0 (by decide) wm_128 rfl (by decide +kernel) rfl rfl dX0_comeIn_28 (fun H locs I => ?_)
      exact rp_vret X hr hJ I dX0_comeIn_31
    · rw [if_neg c9] at hJ
      refine lv_aload_n hx hb dX0_comeIn_8 rfl (lv_at hl 0 rfl) ?_
      obtain ⟨v3, e9, hJ⟩ := rp_b hJ
      obtain ⟨f9, g9, e9⟩ := fR_s e9
      refine rp_get X I g9 e9 rfl wiX0 (by decide) wm_124 dX0_comeIn_9 ?_
      refine lv_iload_n hx hb dX0_comeIn_12 rfl (lv_at hl 1 rfl) ?_
      refine lv_iconst (v := 0) hx hb dX0_comeIn_13 (by decide) ?_
      obtain ⟨h4, e9, hJ⟩ := rp_b hJ
      refine rp_zast X I e9 rfl dX0_comeIn_14 (fun H locs I => ?_)
      refine lv_iinc (v := (x1 + (1 : Int32))) (lv' := [(1, .int (x1 + (1 : Int32))), (0, .ref x0)]) hx hb dX0_comeIn_15 hl (k := 1) rfl rfl (by decide) rfl (fun ls hl => ?_)
      refine lv_goto (tgt := 2) hx hb dX0_comeIn_18 (by decide) ?_
      exact k2 _ _ _ _ _ _ hJ I (lv_sub hl [1, 0] rfl)
set_option maxHeartbeats 4000000 in
set_option maxRecDepth 100000 in
theorem c_Crew_comeIn {l : Launch} {D : va_G} {tys : List (ClassId × FieldType)} {A : Nat → Prop} (hT : tys.map (fun q => q.2) = tyS) {N : Nat} {x0 : Nat} {h : Hp} {res : (Unit × Hp)} (hJ : J_Crew_comeIn N x0 h = some res) : Ct l D vwCl tys A yX0_comeIn (Cond.code yX0_comeIn cX0_comeIn 2 none :: wsG) rmX0_comeIn [.ref x0] h none res.2 := by
  refine Met.ofW (cc := cX0_comeIn) (maxL := 2) (ret := none) (by decide) rfl ?_
  intro p e s m args below meth c s₁ B hml hv
  obtain ⟨rfl, hA, hR, hK, hN⟩ := hv
  have hr := B.returns
  have hts : ∀ w ∈ wsG, w.before [.ref x0].toArray s = true := fun w hw => atoms_spec (ws := Cond.code yX0_comeIn cX0_comeIn 2 none :: wsG) B.pre w (List.mem_cons_of_mem _ hw)
  have X : Cx p s m [.ref x0].toArray meth c D vwCl tys cX0_comeIn 2 RX0 wsG := ⟨⟨B.exec, B.bytes, hml, findClass_of_methodNamed B.named, hts⟩, hK, B.notSynchronized, hT⟩
  have hx := B.exec
  have hb := B.bytes
  have I : In D vwCl tys A s h s.heap [] := ⟨hR, va_S.rf, hA⟩
  have hl := lv_entry [.ref x0] (n := 2) (Nat.le_of_ble_eq_true rfl)
  rw [lg_entry_eq]
  generalize (lg_sl [.ref x0] ++ List.replicate (2 - (lg_sl [.ref x0]).length) Slot.unset).toArray = ls at hl ⊢
  have hl : lv_has ls 2 [(0, .ref x0)] := hl
  have ho := X.1.2.2.2.1
  rw [J_Crew_comeIn] at hJ
  refine lv_iconst (v := 0) hx hb dX0_comeIn_0 (by decide) ?_
  refine lv_istore_n (lv' := [(1, .int (0 : Int32)), (0, .ref x0)]) hx hb dX0_comeIn_1 rfl hl (by decide) rfl (fun ls hl => ?_)
  exact w_Crew_comeIn_2 X hN hr N _ _ _ _ _ _ hJ I (lv_sub hl [1, 0] rfl)
def rmX0_isBusy : Room := { frames := 0, cells := 0, slots := 0, locals := 0 }
def J_Crew_isBusy (N : Nat) (x0 : Nat) (x1 : Int32) (h : Hp) : Option (Int32 × Hp) :=
  (fR h 0 x0 0).bind fun v1 =>
  (aI h 1 v1 x1).bind fun v2 =>
  zR v2 h
set_option maxHeartbeats 4000000 in
set_option maxRecDepth 100000 in
theorem c_Crew_isBusy {l : Launch} {D : va_G} {tys : List (ClassId × FieldType)} {A : Nat → Prop} (hT : tys.map (fun q => q.2) = tyS) {N : Nat} {x0 : Nat} {x1 : Int32} {h : Hp} {res : (Int32 × Hp)} (hJ : J_Crew_isBusy N x0 x1 h = some res) : Ct l D vwCl tys A yX0_isBusy (Cond.code yX0_isBusy cX0_isBusy 2 (some .boolean) :: wsG) rmX0_isBusy [.ref x0, .int x1] h (some (.int res.1)) res.2 := by
  refine Met.ofW (cc := cX0_isBusy) (maxL := 2) (ret := (some .boolean)) (by decide) rfl ?_
  intro p e s m args below meth c s₁ B hml hv
  obtain ⟨rfl, hA, hR, hK, hN⟩ := hv
  have hr := B.returns
  have hts : ∀ w ∈ wsG, w.before [.ref x0, .int x1].toArray s = true := fun w hw => atoms_spec (ws := Cond.code yX0_isBusy cX0_isBusy 2 (some .boolean) :: wsG) B.pre w (List.mem_cons_of_mem _ hw)
  have X : Cx p s m [.ref x0, .int x1].toArray meth c D vwCl tys cX0_isBusy 2 RX0 wsG := ⟨⟨B.exec, B.bytes, hml, findClass_of_methodNamed B.named, hts⟩, hK, B.notSynchronized, hT⟩
  have hx := B.exec
  have hb := B.bytes
  have I : In D vwCl tys A s h s.heap [] := ⟨hR, va_S.rf, hA⟩
  have hl := lv_entry [.ref x0, .int x1] (n := 2) (Nat.le_of_ble_eq_true rfl)
  rw [lg_entry_eq]
  generalize (lg_sl [.ref x0, .int x1] ++ List.replicate (2 - (lg_sl [.ref x0, .int x1]).length) Slot.unset).toArray = ls at hl ⊢
  have hl : lv_has ls 2 [(0, .ref x0), (1, .int x1)] := hl
  have ho := X.1.2.2.2.1
  rw [J_Crew_isBusy] at hJ
  refine lv_aload_n hx hb dX0_isBusy_0 rfl (lv_at hl 0 rfl) ?_
  obtain ⟨v1, e9, hJ⟩ := rp_b hJ
  obtain ⟨f9, g9, e9⟩ := fR_s e9
  refine rp_get X I g9 e9 rfl wiX0 (by decide) wm_124 dX0_isBusy_1 ?_
  refine lv_iload_n hx hb dX0_isBusy_4 rfl (lv_at hl 1 rfl) ?_
  obtain ⟨v2, e9, hJ⟩ := rp_b hJ
  refine rp_zald X I e9 rfl dX0_isBusy_5 ?_
  obtain ⟨z9, hJ⟩ := zR_s hJ
  exact rp_zret X hr z9 hJ I dX0_isBusy_6
def rmX0_isOpen : Room := { frames := 2, cells := 0, slots := 0, locals := 42 }
def J_Crew_isOpen (N : Nat) (x0 : Nat) (x1 : Int32) (h : Hp) : Option (Int32 × Hp) :=
  (fJ h 0 x0 3).bind fun v1 =>
  (fJ h 0 x0 4).bind fun v2 =>
  (J_Desk_isIn N (v1 ||| v2) x1 h).bind fun q3 =>
 if q3.1 = 0 then
  (some ((1 : Int32), q3.2))
  else
  (some ((0 : Int32), q3.2))
set_option maxHeartbeats 4000000 in
set_option maxRecDepth 100000 in
theorem c_Crew_isOpen {l : Launch} {D : va_G} {tys : List (ClassId × FieldType)} {A : Nat → Prop} (hT : tys.map (fun q => q.2) = tyS) {N : Nat} {x0 : Nat} {x1 : Int32} {h : Hp} {res : (Int32 × Hp)} (hJ : J_Crew_isOpen N x0 x1 h = some res) : Ct l D vwCl tys A yX0_isOpen (Cond.code yX0_isOpen cX0_isOpen 2 (some .boolean) :: wsG) rmX0_isOpen [.ref x0, .int x1] h (some (.int res.1)) res.2 := by
  refine Met.ofW (cc := cX0_isOpen) (maxL := 2) (ret := (some .boolean)) (by decide) rfl ?_
  intro p e s m args below meth c s₁ B hml hv
  obtain ⟨rfl, hA, hR, hK, hN⟩ := hv
  have hr := B.returns
  have hts : ∀ w ∈ wsG, w.before [.ref x0, .int x1].toArray s = true := fun w hw => atoms_spec (ws := Cond.code yX0_isOpen cX0_isOpen 2 (some .boolean) :: wsG) B.pre w (List.mem_cons_of_mem _ hw)
  have X : Cx p s m [.ref x0, .int x1].toArray meth c D vwCl tys cX0_isOpen 2 RX0 wsG := ⟨⟨B.exec, B.bytes, hml, findClass_of_methodNamed B.named, hts⟩, hK, B.notSynchronized, hT⟩
  have hx := B.exec
  have hb := B.bytes
  have I : In D vwCl tys A s h s.heap [] := ⟨hR, va_S.rf, hA⟩
  have hl := lv_entry [.ref x0, .int x1] (n := 2) (Nat.le_of_ble_eq_true rfl)
  rw [lg_entry_eq]
  generalize (lg_sl [.ref x0, .int x1] ++ List.replicate (2 - (lg_sl [.ref x0, .int x1]).length) Slot.unset).toArray = ls at hl ⊢
  have hl : lv_has ls 2 [(0, .ref x0), (1, .int x1)] := hl
  have ho := X.1.2.2.2.1
  rw [J_Crew_isOpen] at hJ
  refine lv_aload_n hx hb dX0_isOpen_0 rfl (lv_at hl 0 rfl) ?_
  obtain ⟨v1, e9, hJ⟩ := rp_b hJ
  obtain ⟨f9, g9, e9⟩ := fJ_s e9
  refine rp_get X I g9 e9 rfl wiX0 (by decide) wm_127 dX0_isOpen_1 ?_
  refine lv_aload_n hx hb dX0_isOpen_4 rfl (lv_at hl 0 rfl) ?_
  obtain ⟨v2, e9, hJ⟩ := rp_b hJ
  obtain ⟨f9, g9, e9⟩ := fJ_s e9
  refine rp_get X I g9 e9 rfl wiX0 (by decide) wm_128 dX0_isOpen_5 ?_
  refine lv_lor hx hb dX0_isOpen_8 ?_
  refine lv_iload_n hx hb dX0_isOpen_9 rfl (lv_at hl 1 rfl) ?_
  obtain ⟨q3, e9, hJ⟩ := rp_b hJ
  refine rp_callSN (As := [.long (v1 ||| v2), .int x1]) (rest := []) X hN I (c_Desk_isIn hT e9) ⟨(va_cnB (host := "BuildDesk") 2 hts (gdC wm_342) rfl rfl rfl (hN.1 _ (by decide +kernel)) (hts _ wm_33) (by decide +kernel) ⟨Nat.le_of_ble_eq_true rfl, Nat.le_of_ble_eq_true rfl⟩), hts _ wm_341, trivial⟩ rfl hl.1 rfl (Nat.le_of_ble_eq_true rfl) dX0_isOpen_10 ⟨(Nat.le_of_ble_eq_true rfl), (Nat.le_of_ble_eq_true rfl)⟩ (fun H locs I => ?_)
  refine W.cs (cells' := 0) (slots' := 0) rfl rfl ?_
  refine lv_if_ne (tgt := 20) hx hb dX0_isOpen_13 (by decide) (fun c9 => ?_) (fun c9 => ?_)
  · rw [if_neg c9] at hJ
    refine lv_iconst (v := 0) hx hb dX0_isOpen_20 (by decide) ?_
    exact rp_zret X hr (Or.inl rfl) hJ I dX0_isOpen_21
  · rw [if_pos c9] at hJ
    refine lv_iconst (v := 1) hx hb dX0_isOpen_16 (by decide) ?_
    refine lv_goto (tgt := 21) hx hb dX0_isOpen_17 (by decide) ?_
    exact rp_zret X hr (Or.inr rfl) hJ I dX0_isOpen_21
def rmX0_areDone : Room := { frames := 0, cells := 0, slots := 0, locals := 0 }
def J_Crew_areDone (N : Nat) (x0 : Nat) (x1 : Int64) (h : Hp) : Option (Int32 × Hp) :=
  (fJ h 0 x0 4).bind fun v1 =>
  if (lg_cmp (x1 &&& (v1 ^^^ (-1 : Int64))) (0 : Int64)) = 0 then
  (some ((1 : Int32), h))
  else
  (some ((0 : Int32), h))
set_option maxHeartbeats 4000000 in
set_option maxRecDepth 100000 in
theorem c_Crew_areDone {l : Launch} {D : va_G} {tys : List (ClassId × FieldType)} {A : Nat → Prop} (hT : tys.map (fun q => q.2) = tyS) {N : Nat} {x0 : Nat} {x1 : Int64} {h : Hp} {res : (Int32 × Hp)} (hJ : J_Crew_areDone N x0 x1 h = some res) : Ct l D vwCl tys A yX0_areDone (Cond.code yX0_areDone cX0_areDone 3 (some .boolean) :: wsG) rmX0_areDone [.ref x0, .long x1] h (some (.int res.1)) res.2 := by
  refine Met.ofW (cc := cX0_areDone) (maxL := 3) (ret := (some .boolean)) (by decide) rfl ?_
  intro p e s m args below meth c s₁ B hml hv
  obtain ⟨rfl, hA, hR, hK, hN⟩ := hv
  have hr := B.returns
  have hts : ∀ w ∈ wsG, w.before [.ref x0, .long x1].toArray s = true := fun w hw => atoms_spec (ws := Cond.code yX0_areDone cX0_areDone 3 (some .boolean) :: wsG) B.pre w (List.mem_cons_of_mem _ hw)
  have X : Cx p s m [.ref x0, .long x1].toArray meth c D vwCl tys cX0_areDone 3 RX0 wsG := ⟨⟨B.exec, B.bytes, hml, findClass_of_methodNamed B.named, hts⟩, hK, B.notSynchronized, hT⟩
  have hx := B.exec
  have hb := B.bytes
  have I : In D vwCl tys A s h s.heap [] := ⟨hR, va_S.rf, hA⟩
  have hl := lv_entry [.ref x0, .long x1] (n := 3) (Nat.le_of_ble_eq_true rfl)
  rw [lg_entry_eq]
  generalize (lg_sl [.ref x0, .long x1] ++ List.replicate (3 - (lg_sl [.ref x0, .long x1]).length) Slot.unset).toArray = ls at hl ⊢
  have hl : lv_has ls 3 [(0, .ref x0), (1, .long x1)] := hl
  have ho := X.1.2.2.2.1
  rw [J_Crew_areDone] at hJ
  refine lv_lload_n hx hb dX0_areDone_0 rfl (lv_at hl 1 rfl) ?_
  refine lv_aload_n hx hb dX0_areDone_1 rfl (lv_at hl 0 rfl) ?_
  obtain ⟨v1, e9, hJ⟩ := rp_b hJ
  obtain ⟨f9, g9, e9⟩ := fJ_s e9
  refine rp_get X I g9 e9 rfl wiX0 (by decide) wm_128 dX0_areDone_2 ?_
  refine lv_ldc2 (v := (-1)) hx hb ho (hts _ wm_431) dX0_areDone_5 ?_
  refine lv_lxor hx hb dX0_areDone_8 ?_
  refine lv_land hx hb dX0_areDone_9 ?_
  refine lv_lconst (v := 0) hx hb dX0_areDone_10 (by decide) ?_
  refine W.lcmp hx hb dX0_areDone_11 ?_
  refine lv_if_ne (tgt := 19) hx hb dX0_areDone_12 (by decide) (fun c9 => ?_) (fun c9 => ?_)
  · rw [if_neg c9] at hJ
    refine lv_iconst (v := 0) hx hb dX0_areDone_19 (by decide) ?_
    exact rp_zret X hr (Or.inl rfl) hJ I dX0_areDone_20
  · rw [if_pos c9] at hJ
    refine lv_iconst (v := 1) hx hb dX0_areDone_15 (by decide) ?_
    refine lv_goto (tgt := 20) hx hb dX0_areDone_16 (by decide) ?_
    exact rp_zret X hr (Or.inr rfl) hJ I dX0_areDone_20
def rmX0_passOver : Room := { frames := 1, cells := 0, slots := 0, locals := 20 }
def J_Crew_passOver (N : Nat) (x0 : Nat) (x1 : Int32) (h : Hp) : Option (Unit × Hp) :=
  (fJ h 0 x0 4).bind fun v1 =>
  (J_Desk_bit N x1 h).bind fun q2 =>
 (sF q2.2 0 x0 4 (.long (v1 ||| q2.1))).bind fun h3 =>
  some ((), h3)
set_option maxHeartbeats 4000000 in
set_option maxRecDepth 100000 in
theorem c_Crew_passOver {l : Launch} {D : va_G} {tys : List (ClassId × FieldType)} {A : Nat → Prop} (hT : tys.map (fun q => q.2) = tyS) {N : Nat} {x0 : Nat} {x1 : Int32} {h : Hp} {res : (Unit × Hp)} (hJ : J_Crew_passOver N x0 x1 h = some res) : Ct l D vwCl tys A yX0_passOver (Cond.code yX0_passOver cX0_passOver 2 none :: wsG) rmX0_passOver [.ref x0, .int x1] h none res.2 := by
  refine Met.ofW (cc := cX0_passOver) (maxL := 2) (ret := none) (by decide) rfl ?_
  intro p e s m args below meth c s₁ B hml hv
  obtain ⟨rfl, hA, hR, hK, hN⟩ := hv
  have hr := B.returns
  have hts : ∀ w ∈ wsG, w.before [.ref x0, .int x1].toArray s = true := fun w hw => atoms_spec (ws := Cond.code yX0_passOver cX0_passOver 2 none :: wsG) B.pre w (List.mem_cons_of_mem _ hw)
  have X : Cx p s m [.ref x0, .int x1].toArray meth c D vwCl tys cX0_passOver 2 RX0 wsG := ⟨⟨B.exec, B.bytes, hml, findClass_of_methodNamed B.named, hts⟩, hK, B.notSynchronized, hT⟩
  have hx := B.exec
  have hb := B.bytes
  have I : In D vwCl tys A s h s.heap [] := ⟨hR, va_S.rf, hA⟩
  have hl := lv_entry [.ref x0, .int x1] (n := 2) (Nat.le_of_ble_eq_true rfl)
  rw [lg_entry_eq]
  generalize (lg_sl [.ref x0, .int x1] ++ List.replicate (2 - (lg_sl [.ref x0, .int x1]).length) Slot.unset).toArray = ls at hl ⊢
  have hl : lv_has ls 2 [(0, .ref x0), (1, .int x1)] := hl
  have ho := X.1.2.2.2.1
  rw [J_Crew_passOver] at hJ
  refine lv_aload_n hx hb dX0_passOver_0 rfl (lv_at hl 0 rfl) ?_
  refine lv_dup hx hb dX0_passOver_1 rfl ?_
  obtain ⟨v1, e9, hJ⟩ := rp_b hJ
  obtain ⟨f9, g9, e9⟩ := fJ_s e9
  refine rp_get X I g9 e9 rfl wiX0 (by decide) wm_128 dX0_passOver_2 ?_
  refine lv_iload_n hx hb dX0_passOver_5 rfl (lv_at hl 1 rfl) ?_
  obtain ⟨q2, e9, hJ⟩ := rp_b hJ
  refine rp_callSN (As := [.int x1]) (rest := [.long v1, .ref x0]) X hN I (c_Desk_bit hT e9) ⟨(va_cnB (host := "BuildDesk") 1 hts (gdC wm_340) rfl rfl rfl (hN.1 _ (by decide +kernel)) (hts _ wm_33) (by decide +kernel) ⟨Nat.le_of_ble_eq_true rfl, Nat.le_of_ble_eq_true rfl⟩), hts _ wm_339, trivial⟩ rfl hl.1 rfl (Nat.le_of_ble_eq_true rfl) dX0_passOver_6 ⟨(Nat.le_of_ble_eq_true rfl), (Nat.le_of_ble_eq_true rfl)⟩ (fun H locs I => ?_)
  refine W.cs (cells' := 0) (slots' := 0) rfl rfl ?_
  refine lv_lor hx hb dX0_passOver_9 ?_
  obtain ⟨h3, e9, hJ⟩ := rp_b hJ
  refine rp_put (ty := .long) X I e9 rfl wiX0 tyX0 tyX0_ok nmX0 (by decide) wm_128 rfl (by decide +kernel) rfl rfl dX0_passOver_10 (fun H locs I => ?_)
  exact rp_vret X hr hJ I dX0_passOver_13
def rmX0_begin : Room := { frames := 1, cells := 0, slots := 0, locals := 20 }
def J_Crew_begin (N : Nat) (x0 : Nat) (x1 : Int32) (x2 : Int32) (x3 : Int32) (h : Hp) : Option (Unit × Hp) :=
  (fR h 0 x0 0).bind fun v1 =>
  (sB h 1 v1 x2 (1 : Int32)).bind fun h2 =>
  (fR h2 0 x0 1).bind fun v3 =>
  (sI h2 0 v3 x1 x2).bind fun h4 =>
  (fR h4 0 x0 2).bind fun v5 =>
  (sI h4 0 v5 x1 x3).bind fun h6 =>
  (fJ h6 0 x0 3).bind fun v7 =>
  (J_Desk_bit N x1 h6).bind fun q8 =>
 (sF q8.2 0 x0 3 (.long (v7 ||| q8.1))).bind fun h9 =>
  some ((), h9)
set_option maxHeartbeats 4000000 in
set_option maxRecDepth 100000 in
theorem c_Crew_begin {l : Launch} {D : va_G} {tys : List (ClassId × FieldType)} {A : Nat → Prop} (hT : tys.map (fun q => q.2) = tyS) {N : Nat} {x0 : Nat} {x1 : Int32} {x2 : Int32} {x3 : Int32} {h : Hp} {res : (Unit × Hp)} (hJ : J_Crew_begin N x0 x1 x2 x3 h = some res) : Ct l D vwCl tys A yX0_begin (Cond.code yX0_begin cX0_begin 4 none :: wsG) rmX0_begin [.ref x0, .int x1, .int x2, .int x3] h none res.2 := by
  refine Met.ofW (cc := cX0_begin) (maxL := 4) (ret := none) (by decide) rfl ?_
  intro p e s m args below meth c s₁ B hml hv
  obtain ⟨rfl, hA, hR, hK, hN⟩ := hv
  have hr := B.returns
  have hts : ∀ w ∈ wsG, w.before [.ref x0, .int x1, .int x2, .int x3].toArray s = true := fun w hw => atoms_spec (ws := Cond.code yX0_begin cX0_begin 4 none :: wsG) B.pre w (List.mem_cons_of_mem _ hw)
  have X : Cx p s m [.ref x0, .int x1, .int x2, .int x3].toArray meth c D vwCl tys cX0_begin 4 RX0 wsG := ⟨⟨B.exec, B.bytes, hml, findClass_of_methodNamed B.named, hts⟩, hK, B.notSynchronized, hT⟩
  have hx := B.exec
  have hb := B.bytes
  have I : In D vwCl tys A s h s.heap [] := ⟨hR, va_S.rf, hA⟩
  have hl := lv_entry [.ref x0, .int x1, .int x2, .int x3] (n := 4) (Nat.le_of_ble_eq_true rfl)
  rw [lg_entry_eq]
  generalize (lg_sl [.ref x0, .int x1, .int x2, .int x3] ++ List.replicate (4 - (lg_sl [.ref x0, .int x1, .int x2, .int x3]).length) Slot.unset).toArray = ls at hl ⊢
  have hl : lv_has ls 4 [(0, .ref x0), (1, .int x1), (2, .int x2), (3, .int x3)] := hl
  have ho := X.1.2.2.2.1
  rw [J_Crew_begin] at hJ
  refine lv_aload_n hx hb dX0_begin_0 rfl (lv_at hl 0 rfl) ?_
  obtain ⟨v1, e9, hJ⟩ := rp_b hJ
  obtain ⟨f9, g9, e9⟩ := fR_s e9
  refine rp_get X I g9 e9 rfl wiX0 (by decide) wm_124 dX0_begin_1 ?_
  refine lv_iload_n hx hb dX0_begin_4 rfl (lv_at hl 2 rfl) ?_
  refine lv_iconst (v := 1) hx hb dX0_begin_5 (by decide) ?_
  obtain ⟨h2, e9, hJ⟩ := rp_b hJ
  refine rp_zast X I e9 rfl dX0_begin_6 (fun H locs I => ?_)
  refine lv_aload_n hx hb dX0_begin_7 rfl (lv_at hl 0 rfl) ?_
  obtain ⟨v3, e9, hJ⟩ := rp_b hJ
  obtain ⟨f9, g9, e9⟩ := fR_s e9
  refine rp_get X I g9 e9 rfl wiX0 (by decide) wm_125 dX0_begin_8 ?_
  refine lv_iload_n hx hb dX0_begin_11 rfl (lv_at hl 1 rfl) ?_
  refine lv_iload_n hx hb dX0_begin_12 rfl (lv_at hl 2 rfl) ?_
  obtain ⟨h4, e9, hJ⟩ := rp_b hJ
  refine rp_iast X I e9 rfl dX0_begin_13 (fun H locs I => ?_)
  refine lv_aload_n hx hb dX0_begin_14 rfl (lv_at hl 0 rfl) ?_
  obtain ⟨v5, e9, hJ⟩ := rp_b hJ
  obtain ⟨f9, g9, e9⟩ := fR_s e9
  refine rp_get X I g9 e9 rfl wiX0 (by decide) wm_126 dX0_begin_15 ?_
  refine lv_iload_n hx hb dX0_begin_18 rfl (lv_at hl 1 rfl) ?_
  refine lv_iload_n hx hb dX0_begin_19 rfl (lv_at hl 3 rfl) ?_
  obtain ⟨h6, e9, hJ⟩ := rp_b hJ
  refine rp_iast X I e9 rfl dX0_begin_20 (fun H locs I => ?_)
  refine lv_aload_n hx hb dX0_begin_21 rfl (lv_at hl 0 rfl) ?_
  refine lv_dup hx hb dX0_begin_22 rfl ?_
  obtain ⟨v7, e9, hJ⟩ := rp_b hJ
  obtain ⟨f9, g9, e9⟩ := fJ_s e9
  refine rp_get X I g9 e9 rfl wiX0 (by decide) wm_127 dX0_begin_23 ?_
  refine lv_iload_n hx hb dX0_begin_26 rfl (lv_at hl 1 rfl) ?_
  obtain ⟨q8, e9, hJ⟩ := rp_b hJ
  refine rp_callSN (As := [.int x1]) (rest := [.long v7, .ref x0]) X hN I (c_Desk_bit hT e9) ⟨(va_cnB (host := "BuildDesk") 1 hts (gdC wm_340) rfl rfl rfl (hN.1 _ (by decide +kernel)) (hts _ wm_33) (by decide +kernel) ⟨Nat.le_of_ble_eq_true rfl, Nat.le_of_ble_eq_true rfl⟩), hts _ wm_339, trivial⟩ rfl hl.1 rfl (Nat.le_of_ble_eq_true rfl) dX0_begin_27 ⟨(Nat.le_of_ble_eq_true rfl), (Nat.le_of_ble_eq_true rfl)⟩ (fun H locs I => ?_)
  refine W.cs (cells' := 0) (slots' := 0) rfl rfl ?_
  refine lv_lor hx hb dX0_begin_30 ?_
  obtain ⟨h9, e9, hJ⟩ := rp_b hJ
  refine rp_put (ty := .long) X I e9 rfl wiX0 tyX0 tyX0_ok nmX0 (by decide) wm_127 rfl (by decide +kernel) rfl rfl dX0_begin_31 (fun H locs I => ?_)
  exact rp_vret X hr hJ I dX0_begin_34
def rmX0_endsAt : Room := { frames := 2, cells := 0, slots := 0, locals := 42 }
def J_Crew_endsAt_25 (N : Nat)    (h : Hp) : Option (Int32 × Hp) :=
  some ((0 : Int32), h)
def J_Crew_endsAt (N : Nat) (x0 : Nat) (x1 : Int32) (x2 : Int32) (h : Hp) : Option (Int32 × Hp) :=
  (fJ h 0 x0 3).bind fun v1 =>
  (J_Desk_isIn N v1 x1 h).bind fun q2 =>
 if q2.1 = 0 then
  (J_Crew_endsAt_25 N q2.2)
  else
  ((fR q2.2 0 x0 2).bind fun v3 =>
  (aI q2.2 0 v3 x1).bind fun v4 =>
  if v4 = x2 then
  (some ((1 : Int32), q2.2))
  else
  (J_Crew_endsAt_25 N q2.2))
set_option maxHeartbeats 4000000 in
set_option maxRecDepth 100000 in
theorem w_Crew_endsAt_25 (X : Cx p s m args meth c D vwCl tys cX0_endsAt 3 RX0 wsG) (hN : nwS s) (hr : meth.sig.returnType = (some .boolean)) {res : (Int32 × Hp)} {N : Nat}   : ∀   (h : Hp) (H : Heap) (locs : List Loc) (ls : Array Slot), J_Crew_endsAt_25 N h = some res → In D vwCl tys A s h H locs → lv_has ls 3 [] → W p l e rmX0_endsAt s m args below meth c H locs 0 0 (MQ below (Qr D vwCl tys A (some (.int res.1)) res.2) args s 0 0 A) (F0 m 25 ls []) := by
  have hx := X.1.1
  have hb := X.1.2.1
  have hml := X.1.2.2.1
  have ho := X.1.2.2.2.1
  have hts := X.1.2.2.2.2
  have hK := X.2.1
  have hT := X.2.2.2
  intro   h H locs ls hJ I hl
  rw [J_Crew_endsAt_25] at hJ
  refine lv_iconst (v := 0) hx hb dX0_endsAt_25 (by decide) ?_
  exact rp_zret X hr (Or.inl rfl) hJ I dX0_endsAt_26
set_option maxHeartbeats 4000000 in
set_option maxRecDepth 100000 in
theorem c_Crew_endsAt {l : Launch} {D : va_G} {tys : List (ClassId × FieldType)} {A : Nat → Prop} (hT : tys.map (fun q => q.2) = tyS) {N : Nat} {x0 : Nat} {x1 : Int32} {x2 : Int32} {h : Hp} {res : (Int32 × Hp)} (hJ : J_Crew_endsAt N x0 x1 x2 h = some res) : Ct l D vwCl tys A yX0_endsAt (Cond.code yX0_endsAt cX0_endsAt 3 (some .boolean) :: wsG) rmX0_endsAt [.ref x0, .int x1, .int x2] h (some (.int res.1)) res.2 := by
  refine Met.ofW (cc := cX0_endsAt) (maxL := 3) (ret := (some .boolean)) (by decide) rfl ?_
  intro p e s m args below meth c s₁ B hml hv
  obtain ⟨rfl, hA, hR, hK, hN⟩ := hv
  have hr := B.returns
  have hts : ∀ w ∈ wsG, w.before [.ref x0, .int x1, .int x2].toArray s = true := fun w hw => atoms_spec (ws := Cond.code yX0_endsAt cX0_endsAt 3 (some .boolean) :: wsG) B.pre w (List.mem_cons_of_mem _ hw)
  have X : Cx p s m [.ref x0, .int x1, .int x2].toArray meth c D vwCl tys cX0_endsAt 3 RX0 wsG := ⟨⟨B.exec, B.bytes, hml, findClass_of_methodNamed B.named, hts⟩, hK, B.notSynchronized, hT⟩
  have hx := B.exec
  have hb := B.bytes
  have I : In D vwCl tys A s h s.heap [] := ⟨hR, va_S.rf, hA⟩
  have hl := lv_entry [.ref x0, .int x1, .int x2] (n := 3) (Nat.le_of_ble_eq_true rfl)
  rw [lg_entry_eq]
  generalize (lg_sl [.ref x0, .int x1, .int x2] ++ List.replicate (3 - (lg_sl [.ref x0, .int x1, .int x2]).length) Slot.unset).toArray = ls at hl ⊢
  have hl : lv_has ls 3 [(0, .ref x0), (1, .int x1), (2, .int x2)] := hl
  have ho := X.1.2.2.2.1
  rw [J_Crew_endsAt] at hJ
  refine lv_aload_n hx hb dX0_endsAt_0 rfl (lv_at hl 0 rfl) ?_
  obtain ⟨v1, e9, hJ⟩ := rp_b hJ
  obtain ⟨f9, g9, e9⟩ := fJ_s e9
  refine rp_get X I g9 e9 rfl wiX0 (by decide) wm_127 dX0_endsAt_1 ?_
  refine lv_iload_n hx hb dX0_endsAt_4 rfl (lv_at hl 1 rfl) ?_
  obtain ⟨q2, e9, hJ⟩ := rp_b hJ
  refine rp_callSN (As := [.long v1, .int x1]) (rest := []) X hN I (c_Desk_isIn hT e9) ⟨(va_cnB (host := "BuildDesk") 2 hts (gdC wm_342) rfl rfl rfl (hN.1 _ (by decide +kernel)) (hts _ wm_33) (by decide +kernel) ⟨Nat.le_of_ble_eq_true rfl, Nat.le_of_ble_eq_true rfl⟩), hts _ wm_341, trivial⟩ rfl hl.1 rfl (Nat.le_of_ble_eq_true rfl) dX0_endsAt_5 ⟨(Nat.le_of_ble_eq_true rfl), (Nat.le_of_ble_eq_true rfl)⟩ (fun H locs I => ?_)
  refine W.cs (cells' := 0) (slots' := 0) rfl rfl ?_
  refine lv_if_eq (tgt := 25) hx hb dX0_endsAt_8 (by decide) (fun c9 => ?_) (fun c9 => ?_)
  · rw [if_pos c9] at hJ
    exact w_Crew_endsAt_25 X hN hr _ _ _ _ hJ I (lv_sub hl [] rfl)
  · rw [if_neg c9] at hJ
    refine lv_aload_n hx hb dX0_endsAt_11 rfl (lv_at hl 0 rfl) ?_
    obtain ⟨v3, e9, hJ⟩ := rp_b hJ
    obtain ⟨f9, g9, e9⟩ := fR_s e9
    refine rp_get X I g9 e9 rfl wiX0 (by decide) wm_126 dX0_endsAt_12 ?_
    refine lv_iload_n hx hb dX0_endsAt_15 rfl (lv_at hl 1 rfl) ?_
    obtain ⟨v4, e9, hJ⟩ := rp_b hJ
    refine rp_iald X I e9 rfl dX0_endsAt_16 ?_
    refine lv_iload_n hx hb dX0_endsAt_17 rfl (lv_at hl 2 rfl) ?_
    refine lv_icmp_ne (tgt := 25) hx hb dX0_endsAt_18 (by decide) (fun c9 => ?_) (fun c9 => ?_)
    · rw [if_neg c9] at hJ
      exact w_Crew_endsAt_25 X hN hr _ _ _ _ hJ I (lv_sub hl [] rfl)
    · rw [if_pos c9] at hJ
      refine lv_iconst (v := 1) hx hb dX0_endsAt_21 (by decide) ?_
      refine lv_goto (tgt := 26) hx hb dX0_endsAt_22 (by decide) ?_
      exact rp_zret X hr (Or.inr rfl) hJ I dX0_endsAt_26
def rmX0_end : Room := { frames := 1, cells := 0, slots := 0, locals := 20 }
def J_Crew_end (N : Nat) (x0 : Nat) (x1 : Int32) (h : Hp) : Option (Unit × Hp) :=
  (fR h 0 x0 0).bind fun v1 =>
  (fR h 0 x0 1).bind fun v2 =>
  (aI h 0 v2 x1).bind fun v3 =>
  (sB h 1 v1 v3 (0 : Int32)).bind fun h4 =>
  (fJ h4 0 x0 3).bind fun v5 =>
  (J_Desk_bit N x1 h4).bind fun q6 =>
 (sF q6.2 0 x0 3 (.long (v5 &&& (q6.1 ^^^ (-1 : Int64))))).bind fun h7 =>
  (fJ h7 0 x0 4).bind fun v8 =>
  (J_Desk_bit N x1 h7).bind fun q9 =>
 (sF q9.2 0 x0 4 (.long (v8 ||| q9.1))).bind fun h10 =>
  some ((), h10)
set_option maxHeartbeats 4000000 in
set_option maxRecDepth 100000 in
theorem c_Crew_end {l : Launch} {D : va_G} {tys : List (ClassId × FieldType)} {A : Nat → Prop} (hT : tys.map (fun q => q.2) = tyS) {N : Nat} {x0 : Nat} {x1 : Int32} {h : Hp} {res : (Unit × Hp)} (hJ : J_Crew_end N x0 x1 h = some res) : Ct l D vwCl tys A yX0_end (Cond.code yX0_end cX0_end 2 none :: wsG) rmX0_end [.ref x0, .int x1] h none res.2 := by
  refine Met.ofW (cc := cX0_end) (maxL := 2) (ret := none) (by decide) rfl ?_
  intro p e s m args below meth c s₁ B hml hv
  obtain ⟨rfl, hA, hR, hK, hN⟩ := hv
  have hr := B.returns
  have hts : ∀ w ∈ wsG, w.before [.ref x0, .int x1].toArray s = true := fun w hw => atoms_spec (ws := Cond.code yX0_end cX0_end 2 none :: wsG) B.pre w (List.mem_cons_of_mem _ hw)
  have X : Cx p s m [.ref x0, .int x1].toArray meth c D vwCl tys cX0_end 2 RX0 wsG := ⟨⟨B.exec, B.bytes, hml, findClass_of_methodNamed B.named, hts⟩, hK, B.notSynchronized, hT⟩
  have hx := B.exec
  have hb := B.bytes
  have I : In D vwCl tys A s h s.heap [] := ⟨hR, va_S.rf, hA⟩
  have hl := lv_entry [.ref x0, .int x1] (n := 2) (Nat.le_of_ble_eq_true rfl)
  rw [lg_entry_eq]
  generalize (lg_sl [.ref x0, .int x1] ++ List.replicate (2 - (lg_sl [.ref x0, .int x1]).length) Slot.unset).toArray = ls at hl ⊢
  have hl : lv_has ls 2 [(0, .ref x0), (1, .int x1)] := hl
  have ho := X.1.2.2.2.1
  rw [J_Crew_end] at hJ
  refine lv_aload_n hx hb dX0_end_0 rfl (lv_at hl 0 rfl) ?_
  obtain ⟨v1, e9, hJ⟩ := rp_b hJ
  obtain ⟨f9, g9, e9⟩ := fR_s e9
  refine rp_get X I g9 e9 rfl wiX0 (by decide) wm_124 dX0_end_1 ?_
  refine lv_aload_n hx hb dX0_end_4 rfl (lv_at hl 0 rfl) ?_
  obtain ⟨v2, e9, hJ⟩ := rp_b hJ
  obtain ⟨f9, g9, e9⟩ := fR_s e9
  refine rp_get X I g9 e9 rfl wiX0 (by decide) wm_125 dX0_end_5 ?_
  refine lv_iload_n hx hb dX0_end_8 rfl (lv_at hl 1 rfl) ?_
  obtain ⟨v3, e9, hJ⟩ := rp_b hJ
  refine rp_iald X I e9 rfl dX0_end_9 ?_
  refine lv_iconst (v := 0) hx hb dX0_end_10 (by decide) ?_
  obtain ⟨h4, e9, hJ⟩ := rp_b hJ
  refine rp_zast X I e9 rfl dX0_end_11 (fun H locs I => ?_)
  refine lv_aload_n hx hb dX0_end_12 rfl (lv_at hl 0 rfl) ?_
  refine lv_dup hx hb dX0_end_13 rfl ?_
  obtain ⟨v5, e9, hJ⟩ := rp_b hJ
  obtain ⟨f9, g9, e9⟩ := fJ_s e9
  refine rp_get X I g9 e9 rfl wiX0 (by decide) wm_127 dX0_end_14 ?_
  refine lv_iload_n hx hb dX0_end_17 rfl (lv_at hl 1 rfl) ?_
  obtain ⟨q6, e9, hJ⟩ := rp_b hJ
  refine rp_callSN (As := [.int x1]) (rest := [.long v5, .ref x0]) X hN I (c_Desk_bit hT e9) ⟨(va_cnB (host := "BuildDesk") 1 hts (gdC wm_340) rfl rfl rfl (hN.1 _ (by decide +kernel)) (hts _ wm_33) (by decide +kernel) ⟨Nat.le_of_ble_eq_true rfl, Nat.le_of_ble_eq_true rfl⟩), hts _ wm_339, trivial⟩ rfl hl.1 rfl (Nat.le_of_ble_eq_true rfl) dX0_end_18 ⟨(Nat.le_of_ble_eq_true rfl), (Nat.le_of_ble_eq_true rfl)⟩ (fun H locs I => ?_)
  refine W.cs (cells' := 0) (slots' := 0) rfl rfl ?_
  refine lv_ldc2 (v := (-1)) hx hb ho (hts _ wm_431) dX0_end_21 ?_
  refine lv_lxor hx hb dX0_end_24 ?_
  refine lv_land hx hb dX0_end_25 ?_
  obtain ⟨h7, e9, hJ⟩ := rp_b hJ
  refine rp_put (ty := .long) X I e9 rfl wiX0 tyX0 tyX0_ok nmX0 (by decide) wm_127 rfl (by decide +kernel) rfl rfl dX0_end_26 (fun H locs I => ?_)
  refine lv_aload_n hx hb dX0_end_29 rfl (lv_at hl 0 rfl) ?_
  refine lv_dup hx hb dX0_end_30 rfl ?_
  obtain ⟨v8, e9, hJ⟩ := rp_b hJ
  obtain ⟨f9, g9, e9⟩ := fJ_s e9
  refine rp_get X I g9 e9 rfl wiX0 (by decide) wm_128 dX0_end_31 ?_
  refine lv_iload_n hx hb dX0_end_34 rfl (lv_at hl 1 rfl) ?_
  obtain ⟨q9, e9, hJ⟩ := rp_b hJ
  refine rp_callSN (As := [.int x1]) (rest := [.long v8, .ref x0]) X hN I (c_Desk_bit hT e9) ⟨(va_cnB (host := "BuildDesk") 1 hts (gdC wm_340) rfl rfl rfl (hN.1 _ (by decide +kernel)) (hts _ wm_33) (by decide +kernel) ⟨Nat.le_of_ble_eq_true rfl, Nat.le_of_ble_eq_true rfl⟩), hts _ wm_339, trivial⟩ rfl hl.1 rfl (Nat.le_of_ble_eq_true rfl) dX0_end_35 ⟨(Nat.le_of_ble_eq_true rfl), (Nat.le_of_ble_eq_true rfl)⟩ (fun H locs I => ?_)
  refine W.cs (cells' := 0) (slots' := 0) rfl rfl ?_
  refine lv_lor hx hb dX0_end_38 ?_
  obtain ⟨h10, e9, hJ⟩ := rp_b hJ
  refine rp_put (ty := .long) X I e9 rfl wiX0 tyX0 tyX0_ok nmX0 (by decide) wm_128 rfl (by decide +kernel) rfl rfl dX0_end_39 (fun H locs I => ?_)
  exact rp_vret X hr hJ I dX0_end_42
def rmX0_nextEnd : Room := { frames := 2, cells := 0, slots := 0, locals := 42 }
def J_Crew_nextEnd_36 (N : Nat) (r4 : Nat → Int32 → Int32 → Hp → Option (Int32 × Hp)) (x0 : Nat) (x2 : Int32)  (h : Hp) : Option (Int32 × Hp) :=
  (fR h 0 x0 2).bind fun v3 =>
  (aI h 0 v3 x2).bind fun v4 =>
  r4 x0 v4 (x2 + (1 : Int32)) h
def J_Crew_nextEnd_4 (N : Nat)  : Nat → Nat → Int32 → Int32 → Hp → Option (Int32 × Hp)
  | 0, _, _, _, _ => none
  | n + 1, x0, x1, x2, h =>
  if (40 : Int32) ≤ x2 then
  (some (x1, h))
  else
  ((fJ h 0 x0 3).bind fun v1 =>
  (J_Desk_isIn N v1 x2 h).bind fun q2 =>
 if q2.1 = 0 then
  ((J_Crew_nextEnd_4 N n) x0 x1 (x2 + (1 : Int32)) q2.2)
  else
  (if x1 = (-1 : Int32) then
  (J_Crew_nextEnd_36 N (J_Crew_nextEnd_4 N n) x0 x2 q2.2)
  else
  ((fR q2.2 0 x0 2).bind fun v5 =>
  (aI q2.2 0 v5 x2).bind fun v6 =>
  if x1 ≤ v6 then
  ((J_Crew_nextEnd_4 N n) x0 x1 (x2 + (1 : Int32)) q2.2)
  else
  (J_Crew_nextEnd_36 N (J_Crew_nextEnd_4 N n) x0 x2 q2.2))))
def J_Crew_nextEnd (N : Nat) (x0 : Nat) (h : Hp) : Option (Int32 × Hp) :=
  J_Crew_nextEnd_4 N N x0 (-1 : Int32) (0 : Int32) h
set_option maxHeartbeats 4000000 in
set_option maxRecDepth 100000 in
theorem w_Crew_nextEnd_36 (X : Cx p s m args meth c D vwCl tys cX0_nextEnd 3 RX0 wsG) (hN : nwS s) (hr : meth.sig.returnType = (some .int)) {res : (Int32 × Hp)} {N : Nat} {r4 : Nat → Int32 → Int32 → Hp → Option (Int32 × Hp)} (k4 : ∀ (x0 : Nat) (x1 : Int32) (x2 : Int32) (h : Hp) (H : Heap) (locs : List Loc) (ls : Array Slot), r4 x0 x1 x2 h = some res → In D vwCl tys A s h H locs → lv_has ls 3 [(0, .ref x0), (1, .int x1), (2, .int x2)] → W p l e rmX0_nextEnd s m args below meth c H locs 0 0 (MQ below (Qr D vwCl tys A (some (.int res.1)) res.2) args s 0 0 A) (F0 m 4 ls [])) : ∀ (x0 : Nat) (x2 : Int32)  (h : Hp) (H : Heap) (locs : List Loc) (ls : Array Slot), J_Crew_nextEnd_36 N r4 x0 x2 h = some res → In D vwCl tys A s h H locs → lv_has ls 3 [(0, .ref x0), (2, .int x2)] → W p l e rmX0_nextEnd s m args below meth c H locs 0 0 (MQ below (Qr D vwCl tys A (some (.int res.1)) res.2) args s 0 0 A) (F0 m 36 ls []) := by
  have hx := X.1.1
  have hb := X.1.2.1
  have hml := X.1.2.2.1
  have ho := X.1.2.2.2.1
  have hts := X.1.2.2.2.2
  have hK := X.2.1
  have hT := X.2.2.2
  intro x0 x2  h H locs ls hJ I hl
  rw [J_Crew_nextEnd_36] at hJ
  refine lv_aload_n hx hb dX0_nextEnd_36 rfl (lv_at hl 0 rfl) ?_
  obtain ⟨v3, e9, hJ⟩ := rp_b hJ
  obtain ⟨f9, g9, e9⟩ := fR_s e9
  refine rp_get X I g9 e9 rfl wiX0 (by decide) wm_126 dX0_nextEnd_37 ?_
  refine lv_iload_n hx hb dX0_nextEnd_40 rfl (lv_at hl 1 rfl) ?_
  obtain ⟨v4, e9, hJ⟩ := rp_b hJ
  refine rp_iald X I e9 rfl dX0_nextEnd_41 ?_
  refine lv_istore_n (lv' := [(1, .int v4), (0, .ref x0), (2, .int x2)]) hx hb dX0_nextEnd_42 rfl hl (by decide) rfl (fun ls hl => ?_)
  refine lv_iinc (v := (x2 + (1 : Int32))) (lv' := [(2, .int (x2 + (1 : Int32))), (1, .int v4), (0, .ref x0)]) hx hb dX0_nextEnd_43 hl (k := 2) rfl rfl (by decide) rfl (fun ls hl => ?_)
  refine lv_goto (tgt := 4) hx hb dX0_nextEnd_46 (by decide) ?_
  exact k4 _ _ _ _ _ _ _ hJ I (lv_sub hl [2, 1, 0] rfl)
set_option maxHeartbeats 4000000 in
set_option maxRecDepth 100000 in
theorem w_Crew_nextEnd_4 (X : Cx p s m args meth c D vwCl tys cX0_nextEnd 3 RX0 wsG) (hN : nwS s) (hr : meth.sig.returnType = (some .int)) {res : (Int32 × Hp)} {N : Nat}   : ∀ (n : Nat) (x0 : Nat) (x1 : Int32) (x2 : Int32)  (h : Hp) (H : Heap) (locs : List Loc) (ls : Array Slot), J_Crew_nextEnd_4 N n x0 x1 x2 h = some res → In D vwCl tys A s h H locs → lv_has ls 3 [(0, .ref x0), (1, .int x1), (2, .int x2)] → W p l e rmX0_nextEnd s m args below meth c H locs 0 0 (MQ below (Qr D vwCl tys A (some (.int res.1)) res.2) args s 0 0 A) (F0 m 4 ls []) := by
  have hx := X.1.1
  have hb := X.1.2.1
  have hml := X.1.2.2.1
  have ho := X.1.2.2.2.1
  have hts := X.1.2.2.2.2
  have hK := X.2.1
  have hT := X.2.2.2
  intro n
  induction n with
  | zero =>
    intro x0 x1 x2  h H locs ls hJ I hl
    exact nomatch (show (none : Option (Int32 × Hp)) = some res from hJ)
  | succ n k4 =>
    intro x0 x1 x2  h H locs ls hJ I hl
    rw [J_Crew_nextEnd_4] at hJ
    refine lv_iload_n hx hb dX0_nextEnd_4 rfl (lv_at hl 2 rfl) ?_
    refine lv_bipush (v := 40) hx hb dX0_nextEnd_5 (by decide) ?_
    refine lv_icmp_ge (tgt := 49) hx hb dX0_nextEnd_7 (by decide) (fun c9 => ?_) (fun c9 => ?_)
    · rw [if_pos c9] at hJ
      refine lv_iload_n hx hb dX0_nextEnd_49 rfl (lv_at hl 1 rfl) ?_
      exact rp_iret X hr hJ I dX0_nextEnd_50
    · rw [if_neg c9] at hJ
      refine lv_aload_n hx hb dX0_nextEnd_10 rfl (lv_at hl 0 rfl) ?_
      obtain ⟨v1, e9, hJ⟩ := rp_b hJ
      obtain ⟨f9, g9, e9⟩ := fJ_s e9
      refine rp_get X I g9 e9 rfl wiX0 (by decide) wm_127 dX0_nextEnd_11 ?_
      refine lv_iload_n hx hb dX0_nextEnd_14 rfl (lv_at hl 2 rfl) ?_
      obtain ⟨q2, e9, hJ⟩ := rp_b hJ
      refine rp_callSN (As := [.long v1, .int x2]) (rest := []) X hN I (c_Desk_isIn hT e9) ⟨(va_cnB (host := "BuildDesk") 2 hts (gdC wm_342) rfl rfl rfl (hN.1 _ (by decide +kernel)) (hts _ wm_33) (by decide +kernel) ⟨Nat.le_of_ble_eq_true rfl, Nat.le_of_ble_eq_true rfl⟩), hts _ wm_341, trivial⟩ rfl hl.1 rfl (Nat.le_of_ble_eq_true rfl) dX0_nextEnd_15 ⟨(Nat.le_of_ble_eq_true rfl), (Nat.le_of_ble_eq_true rfl)⟩ (fun H locs I => ?_)
      refine W.cs (cells' := 0) (slots' := 0) rfl rfl ?_
      refine lv_if_eq (tgt := 43) hx hb dX0_nextEnd_18 (by decide) (fun c9 => ?_) (fun c9 => ?_)
      · rw [if_pos c9] at hJ
        refine lv_iinc (v := (x2 + (1 : Int32))) (lv' := [(2, .int (x2 + (1 : Int32))), (0, .ref x0), (1, .int x1)]) hx hb dX0_nextEnd_43 hl (k := 2) rfl rfl (by decide) rfl (fun ls hl => ?_)
        refine lv_goto (tgt := 4) hx hb dX0_nextEnd_46 (by decide) ?_
        exact k4 _ _ _ _ _ _ _ hJ I (lv_sub hl [1, 2, 0] rfl)
      · rw [if_neg c9] at hJ
        refine lv_iload_n hx hb dX0_nextEnd_21 rfl (lv_at hl 1 rfl) ?_
        refine lv_iconst (v := -1) hx hb dX0_nextEnd_22 (by decide) ?_
        refine lv_icmp_eq (tgt := 36) hx hb dX0_nextEnd_23 (by decide) (fun c9 => ?_) (fun c9 => ?_)
        · rw [if_pos c9] at hJ
          exact w_Crew_nextEnd_36 X hN hr k4 _ _ _ _ _ _ hJ I (lv_sub hl [0, 2] rfl)
        · rw [if_neg c9] at hJ
          refine lv_aload_n hx hb dX0_nextEnd_26 rfl (lv_at hl 0 rfl) ?_
          obtain ⟨v5, e9, hJ⟩ := rp_b hJ
          obtain ⟨f9, g9, e9⟩ := fR_s e9
          refine rp_get X I g9 e9 rfl wiX0 (by decide) wm_126 dX0_nextEnd_27 ?_
          refine lv_iload_n hx hb dX0_nextEnd_30 rfl (lv_at hl 2 rfl) ?_
          obtain ⟨v6, e9, hJ⟩ := rp_b hJ
          refine rp_iald X I e9 rfl dX0_nextEnd_31 ?_
          refine lv_iload_n hx hb dX0_nextEnd_32 rfl (lv_at hl 1 rfl) ?_
          refine lv_icmp_ge (tgt := 43) hx hb dX0_nextEnd_33 (by decide) (fun c9 => ?_) (fun c9 => ?_)
          · rw [if_pos c9] at hJ
            refine lv_iinc (v := (x2 + (1 : Int32))) (lv' := [(2, .int (x2 + (1 : Int32))), (0, .ref x0), (1, .int x1)]) hx hb dX0_nextEnd_43 hl (k := 2) rfl rfl (by decide) rfl (fun ls hl => ?_)
            refine lv_goto (tgt := 4) hx hb dX0_nextEnd_46 (by decide) ?_
            exact k4 _ _ _ _ _ _ _ hJ I (lv_sub hl [1, 2, 0] rfl)
          · rw [if_neg c9] at hJ
            exact w_Crew_nextEnd_36 X hN hr k4 _ _ _ _ _ _ hJ I (lv_sub hl [0, 2] rfl)
set_option maxHeartbeats 4000000 in
set_option maxRecDepth 100000 in
theorem c_Crew_nextEnd {l : Launch} {D : va_G} {tys : List (ClassId × FieldType)} {A : Nat → Prop} (hT : tys.map (fun q => q.2) = tyS) {N : Nat} {x0 : Nat} {h : Hp} {res : (Int32 × Hp)} (hJ : J_Crew_nextEnd N x0 h = some res) : Ct l D vwCl tys A yX0_nextEnd (Cond.code yX0_nextEnd cX0_nextEnd 3 (some .int) :: wsG) rmX0_nextEnd [.ref x0] h (some (.int res.1)) res.2 := by
  refine Met.ofW (cc := cX0_nextEnd) (maxL := 3) (ret := (some .int)) (by decide) rfl ?_
  intro p e s m args below meth c s₁ B hml hv
  obtain ⟨rfl, hA, hR, hK, hN⟩ := hv
  have hr := B.returns
  have hts : ∀ w ∈ wsG, w.before [.ref x0].toArray s = true := fun w hw => atoms_spec (ws := Cond.code yX0_nextEnd cX0_nextEnd 3 (some .int) :: wsG) B.pre w (List.mem_cons_of_mem _ hw)
  have X : Cx p s m [.ref x0].toArray meth c D vwCl tys cX0_nextEnd 3 RX0 wsG := ⟨⟨B.exec, B.bytes, hml, findClass_of_methodNamed B.named, hts⟩, hK, B.notSynchronized, hT⟩
  have hx := B.exec
  have hb := B.bytes
  have I : In D vwCl tys A s h s.heap [] := ⟨hR, va_S.rf, hA⟩
  have hl := lv_entry [.ref x0] (n := 3) (Nat.le_of_ble_eq_true rfl)
  rw [lg_entry_eq]
  generalize (lg_sl [.ref x0] ++ List.replicate (3 - (lg_sl [.ref x0]).length) Slot.unset).toArray = ls at hl ⊢
  have hl : lv_has ls 3 [(0, .ref x0)] := hl
  have ho := X.1.2.2.2.1
  rw [J_Crew_nextEnd] at hJ
  refine lv_iconst (v := -1) hx hb dX0_nextEnd_0 (by decide) ?_
  refine lv_istore_n (lv' := [(1, .int (-1 : Int32)), (0, .ref x0)]) hx hb dX0_nextEnd_1 rfl hl (by decide) rfl (fun ls hl => ?_)
  refine lv_iconst (v := 0) hx hb dX0_nextEnd_2 (by decide) ?_
  refine lv_istore_n (lv' := [(2, .int (0 : Int32)), (1, .int (-1 : Int32)), (0, .ref x0)]) hx hb dX0_nextEnd_3 rfl hl (by decide) rfl (fun ls hl => ?_)
  exact w_Crew_nextEnd_4 X hN hr N _ _ _ _ _ _ _ hJ I (lv_sub hl [2, 1, 0] rfl)
end GW
end
section
section GW
variable {p : Program} {l : Launch} {e : Env} {s : State} {m : MethodId} {args : Array Value} {below : List Frame} {meth : Method} {c : Code} {D : va_G} {tys : List (ClassId × FieldType)} {A : Nat → Prop}
def rmX5_waitsFor : Room := { frames := 1, cells := 0, slots := 0, locals := 21 }
def J_Step_waitsFor_5 (N : Nat)  : Nat → Nat → Nat → Int64 → Int32 → Hp → Option (Int64 × Hp)
  | 0, _, _, _, _, _ => none
  | n + 1, x0, x1, x2, x4, h =>
  (fI h 5 x0 5).bind fun v1 =>
  if v1 ≤ x4 then
  (some (x2, h))
  else
  ((fR h 5 x0 4).bind fun v2 =>
  (aI h 0 v2 x4).bind fun v3 =>
  (isO h 1 x1).bind fun _ =>
  (J_File_makerOf N x1 v3 h).bind fun q4 =>
 if q4.1 = (-1 : Int32) then
  ((J_Step_waitsFor_5 N n) x0 x1 x2 (x4 + (1 : Int32)) q4.2)
  else
  ((J_Desk_bit N q4.1 q4.2).bind fun q5 =>
 (J_Step_waitsFor_5 N n) x0 x1 (x2 ||| q5.1) (x4 + (1 : Int32)) q5.2))
def J_Step_waitsFor (N : Nat) (x0 : Nat) (x1 : Nat) (h : Hp) : Option (Int64 × Hp) :=
  J_Step_waitsFor_5 N N x0 x1 (0 : Int64) (0 : Int32) h
set_option maxHeartbeats 4000000 in
set_option maxRecDepth 100000 in
theorem w_Step_waitsFor_5 (X : Cx p s m args meth c D vwCl tys cX5_waitsFor 6 RX5 wsG) (hN : nwS s) (hr : meth.sig.returnType = (some .long)) {res : (Int64 × Hp)} {N : Nat}   : ∀ (n : Nat) (x0 : Nat) (x1 : Nat) (x2 : Int64) (x4 : Int32)  (h : Hp) (H : Heap) (locs : List Loc) (ls : Array Slot), J_Step_waitsFor_5 N n x0 x1 x2 x4 h = some res → In D vwCl tys A s h H locs → lv_has ls 6 [(0, .ref x0), (1, .ref x1), (2, .long x2), (4, .int x4)] → W p l e rmX5_waitsFor s m args below meth c H locs 0 0 (MQ below (Qr D vwCl tys A (some (.long res.1)) res.2) args s 0 0 A) (F0 m 5 ls []) := by
  have hx := X.1.1
  have hb := X.1.2.1
  have hml := X.1.2.2.1
  have ho := X.1.2.2.2.1
  have hts := X.1.2.2.2.2
  have hK := X.2.1
  have hT := X.2.2.2
  intro n
  induction n with
  | zero =>
    intro x0 x1 x2 x4  h H locs ls hJ I hl
    exact nomatch (show (none : Option (Int64 × Hp)) = some res from hJ)
  | succ n k5 =>
    intro x0 x1 x2 x4  h H locs ls hJ I hl
    rw [J_Step_waitsFor_5] at hJ
    refine lv_iload hx hb dX5_waitsFor_5 (lv_at hl 3 rfl) ?_
    refine lv_aload_n hx hb dX5_waitsFor_7 rfl (lv_at hl 0 rfl) ?_
    obtain ⟨v1, e9, hJ⟩ := rp_b hJ
    obtain ⟨f9, g9, e9⟩ := fI_s e9
    refine rp_get X I g9 e9 rfl wiX5 (by decide) wm_80 dX5_waitsFor_8 ?_
    refine lv_icmp_ge (tgt := 47) hx hb dX5_waitsFor_11 (by decide) (fun c9 => ?_) (fun c9 => ?_)
    · rw [if_pos c9] at hJ
      refine lv_lload_n hx hb dX5_waitsFor_47 rfl (lv_at hl 2 rfl) ?_
      exact rp_lret X hr hJ I dX5_waitsFor_48
    · rw [if_neg c9] at hJ
      refine lv_aload_n hx hb dX5_waitsFor_14 rfl (lv_at hl 1 rfl) ?_
      refine lv_aload_n hx hb dX5_waitsFor_15 rfl (lv_at hl 0 rfl) ?_
      obtain ⟨v2, e9, hJ⟩ := rp_b hJ
      obtain ⟨f9, g9, e9⟩ := fR_s e9
      refine rp_get X I g9 e9 rfl wiX5 (by decide) wm_79 dX5_waitsFor_16 ?_
      refine lv_iload hx hb dX5_waitsFor_19 (lv_at hl 3 rfl) ?_
      obtain ⟨v3, e9, hJ⟩ := rp_b hJ
      refine rp_iald X I e9 rfl dX5_waitsFor_21 ?_
      obtain ⟨u9, i9, hJ⟩ := rp_b hJ
      obtain ⟨f9, i9⟩ := isO_s i9
      obtain ⟨q4, e9, hJ⟩ := rp_b hJ
      refine rp_callV (As := [.int v3]) (rest := []) X hN I (c_File_makerOf hT e9) (cwV 1 hts (gdV wm_338 wm_205 wm_206 wm_34 wm_207) rfl rfl rfl (by decide +kernel) ⟨Nat.le_of_ble_eq_true rfl, Nat.le_of_ble_eq_true rfl⟩) i9 rfl rfl hl.1 rfl (Nat.le_of_ble_eq_true rfl) dX5_waitsFor_22 ⟨(Nat.le_of_ble_eq_true rfl), (Nat.le_of_ble_eq_true rfl)⟩ (fun H locs I => ?_)
      refine W.cs (cells' := 0) (slots' := 0) rfl rfl ?_
      refine lv_istore (lv' := [(5, .int q4.1), (0, .ref x0), (1, .ref x1), (2, .long x2), (4, .int x4)]) hx hb dX5_waitsFor_25 hl (by decide) rfl (fun ls hl => ?_)
      refine lv_iload hx hb dX5_waitsFor_27 (lv_at hl 0 rfl) ?_
      refine lv_iconst (v := -1) hx hb dX5_waitsFor_29 (by decide) ?_
      refine lv_icmp_eq (tgt := 41) hx hb dX5_waitsFor_30 (by decide) (fun c9 => ?_) (fun c9 => ?_)
      · rw [if_pos c9] at hJ
        refine lv_iinc (v := (x4 + (1 : Int32))) (lv' := [(4, .int (x4 + (1 : Int32))), (5, .int q4.1), (0, .ref x0), (1, .ref x1), (2, .long x2)]) hx hb dX5_waitsFor_41 hl (k := 4) rfl rfl (by decide) rfl (fun ls hl => ?_)
        refine lv_goto (tgt := 5) hx hb dX5_waitsFor_44 (by decide) ?_
        exact k5 _ _ _ _ _ _ _ _ hJ I (lv_sub hl [2, 3, 4, 0] rfl)
      · rw [if_neg c9] at hJ
        refine lv_lload_n hx hb dX5_waitsFor_33 rfl (lv_at hl 3 rfl) ?_
        refine lv_iload hx hb dX5_waitsFor_34 (lv_at hl 0 rfl) ?_
        obtain ⟨q5, e9, hJ⟩ := rp_b hJ
        refine rp_callSN (As := [.int q4.1]) (rest := [.long x2]) X hN I (c_Desk_bit hT e9) ⟨(va_cnB (host := "BuildDesk") 1 hts (gdC wm_340) rfl rfl rfl (hN.1 _ (by decide +kernel)) (hts _ wm_33) (by decide +kernel) ⟨Nat.le_of_ble_eq_true rfl, Nat.le_of_ble_eq_true rfl⟩), hts _ wm_339, trivial⟩ rfl hl.1 rfl (Nat.le_of_ble_eq_true rfl) dX5_waitsFor_36 ⟨(Nat.le_of_ble_eq_true rfl), (Nat.le_of_ble_eq_true rfl)⟩ (fun H locs I => ?_)
        refine W.cs (cells' := 0) (slots' := 0) rfl rfl ?_
        refine lv_lor hx hb dX5_waitsFor_39 ?_
        refine lv_lstore_n (lv' := [(2, .long (x2 ||| q5.1)), (5, .int q4.1), (0, .ref x0), (1, .ref x1), (4, .int x4)]) hx hb dX5_waitsFor_40 rfl hl (by decide) rfl (fun ls hl => ?_)
        refine lv_iinc (v := (x4 + (1 : Int32))) (lv' := [(4, .int (x4 + (1 : Int32))), (2, .long (x2 ||| q5.1)), (5, .int q4.1), (0, .ref x0), (1, .ref x1)]) hx hb dX5_waitsFor_41 hl (k := 4) rfl rfl (by decide) rfl (fun ls hl => ?_)
        refine lv_goto (tgt := 5) hx hb dX5_waitsFor_44 (by decide) ?_
        exact k5 _ _ _ _ _ _ _ _ hJ I (lv_sub hl [3, 4, 1, 0] rfl)
set_option maxHeartbeats 4000000 in
set_option maxRecDepth 100000 in
theorem c_Step_waitsFor {l : Launch} {D : va_G} {tys : List (ClassId × FieldType)} {A : Nat → Prop} (hT : tys.map (fun q => q.2) = tyS) {N : Nat} {x0 : Nat} {x1 : Nat} {h : Hp} {res : (Int64 × Hp)} (hJ : J_Step_waitsFor N x0 x1 h = some res) : Ct l D vwCl tys A yX5_waitsFor (Cond.code yX5_waitsFor cX5_waitsFor 6 (some .long) :: wsG) rmX5_waitsFor [.ref x0, .ref x1] h (some (.long res.1)) res.2 := by
  refine Met.ofW (cc := cX5_waitsFor) (maxL := 6) (ret := (some .long)) (by decide) rfl ?_
  intro p e s m args below meth c s₁ B hml hv
  obtain ⟨rfl, hA, hR, hK, hN⟩ := hv
  have hr := B.returns
  have hts : ∀ w ∈ wsG, w.before [.ref x0, .ref x1].toArray s = true := fun w hw => atoms_spec (ws := Cond.code yX5_waitsFor cX5_waitsFor 6 (some .long) :: wsG) B.pre w (List.mem_cons_of_mem _ hw)
  have X : Cx p s m [.ref x0, .ref x1].toArray meth c D vwCl tys cX5_waitsFor 6 RX5 wsG := ⟨⟨B.exec, B.bytes, hml, findClass_of_methodNamed B.named, hts⟩, hK, B.notSynchronized, hT⟩
  have hx := B.exec
  have hb := B.bytes
  have I : In D vwCl tys A s h s.heap [] := ⟨hR, va_S.rf, hA⟩
  have hl := lv_entry [.ref x0, .ref x1] (n := 6) (Nat.le_of_ble_eq_true rfl)
  rw [lg_entry_eq]
  generalize (lg_sl [.ref x0, .ref x1] ++ List.replicate (6 - (lg_sl [.ref x0, .ref x1]).length) Slot.unset).toArray = ls at hl ⊢
  have hl : lv_has ls 6 [(0, .ref x0), (1, .ref x1)] := hl
  have ho := X.1.2.2.2.1
  rw [J_Step_waitsFor] at hJ
  refine lv_lconst (v := 0) hx hb dX5_waitsFor_0 (by decide) ?_
  refine lv_lstore_n (lv' := [(2, .long (0 : Int64)), (0, .ref x0), (1, .ref x1)]) hx hb dX5_waitsFor_1 rfl hl (by decide) rfl (fun ls hl => ?_)
  refine lv_iconst (v := 0) hx hb dX5_waitsFor_2 (by decide) ?_
  refine lv_istore (lv' := [(4, .int (0 : Int32)), (2, .long (0 : Int64)), (0, .ref x0), (1, .ref x1)]) hx hb dX5_waitsFor_3 hl (by decide) rfl (fun ls hl => ?_)
  exact w_Step_waitsFor_5 X hN hr N _ _ _ _ _ _ _ _ hJ I (lv_sub hl [2, 3, 1, 0] rfl)
def rmX5_init : Room := { frames := 1, cells := 3, slots := 15, locals := 20 }
def J_Step_init (N : Nat) (x0 : Nat) (h : Hp) : Option (Unit × Hp) :=
  (nI_ h 0 (6 : Int32)).bind fun q1 =>
  (sF q1.2 5 x0 4 (.ref q1.1)).bind fun h2 =>
  (nI_ h2 0 (3 : Int32)).bind fun q3 =>
  (sF q3.2 5 x0 6 (.ref q3.1)).bind fun h4 =>
  (nI_ h4 0 (6 : Int32)).bind fun q5 =>
  (sF q5.2 5 x0 13 (.ref q5.1)).bind fun h6 =>
  some ((), h6)
set_option maxHeartbeats 4000000 in
set_option maxRecDepth 100000 in
theorem c_Step_init {l : Launch} {D : va_G} {tys : List (ClassId × FieldType)} {A : Nat → Prop} (hT : tys.map (fun q => q.2) = tyS) {N : Nat} {x0 : Nat} {h : Hp} {res : (Unit × Hp)} (hJ : J_Step_init N x0 h = some res) : Ct l D vwCl tys A yX5_init (Cond.code yX5_init cX5_init 1 none :: wsG) rmX5_init [.ref x0] h none res.2 := by
  refine Met.ofW (cc := cX5_init) (maxL := 1) (ret := none) (by decide) rfl ?_
  intro p e s m args below meth c s₁ B hml hv
  obtain ⟨rfl, hA, hR, hK, hN⟩ := hv
  have hr := B.returns
  have hts : ∀ w ∈ wsG, w.before [.ref x0].toArray s = true := fun w hw => atoms_spec (ws := Cond.code yX5_init cX5_init 1 none :: wsG) B.pre w (List.mem_cons_of_mem _ hw)
  have X : Cx p s m [.ref x0].toArray meth c D vwCl tys cX5_init 1 RX5 wsG := ⟨⟨B.exec, B.bytes, hml, findClass_of_methodNamed B.named, hts⟩, hK, B.notSynchronized, hT⟩
  have hinit : meth.name = "<init>" := (name_of_methodNamed B.named B.method).1
  have hx := B.exec
  have hb := B.bytes
  have I : In D vwCl tys A s h s.heap [] := ⟨hR, va_S.rf, hA⟩
  have hl := lv_entry [.ref x0] (n := 1) (Nat.le_of_ble_eq_true rfl)
  rw [lg_entry_eq]
  generalize (lg_sl [.ref x0] ++ List.replicate (1 - (lg_sl [.ref x0]).length) Slot.unset).toArray = ls at hl ⊢
  have hl : lv_has ls 1 [(0, .ref x0)] := hl
  have ho := X.1.2.2.2.1
  rw [J_Step_init] at hJ
  refine lv_aload_n hx hb dX5_init_0 rfl (lv_at hl 0 rfl) ?_
  refine W.objInit hx hb ho (hts _ wm_74) (hts _ wm_54) (hts _ wm_55) rfl (by rw [hml]; exact hl.1) rfl dX5_init_1 (Nat.le_of_ble_eq_true rfl) (Nat.le_of_ble_eq_true rfl) ?_
  refine W.eq (g2 := F0 m 4 ls []) rfl ?_
  refine lv_aload_n hx hb dX5_init_4 rfl (lv_at hl 0 rfl) ?_
  refine lv_bipush (v := 6) hx hb dX5_init_5 (by decide) ?_
  obtain ⟨q1, e9, hJ⟩ := rp_b hJ
  refine rp_newI (K := 6) (ty := .int) X I e9 (by decide) rfl rfl (by decide) wm_68 rfl (fun _ z => z) (Nat.le_of_ble_eq_true rfl) (Nat.le_of_ble_eq_true rfl) dX5_init_7 (fun H I => ?_)
  obtain ⟨h2, e9, hJ⟩ := rp_b hJ
  refine rp_putF (ty := (.array .int)) X I e9 rfl wiX5 tyX5 tyX5_ok nmX5 (by decide) wm_79 rfl hinit rfl (by decide +kernel) rfl rfl dX5_init_9 (fun H locs I => ?_)
  refine lv_aload_n hx hb dX5_init_12 rfl (lv_at hl 0 rfl) ?_
  refine lv_iconst (v := 3) hx hb dX5_init_13 (by decide) ?_
  obtain ⟨q3, e9, hJ⟩ := rp_b hJ
  refine rp_newI (K := 3) (ty := .int) X I e9 (by decide) rfl rfl (by decide) wm_68 rfl (fun _ z => z) (Nat.le_of_ble_eq_true rfl) (Nat.le_of_ble_eq_true rfl) dX5_init_14 (fun H I => ?_)
  obtain ⟨h4, e9, hJ⟩ := rp_b hJ
  refine rp_putF (ty := (.array .int)) X I e9 rfl wiX5 tyX5 tyX5_ok nmX5 (by decide) wm_81 rfl hinit rfl (by decide +kernel) rfl rfl dX5_init_16 (fun H locs I => ?_)
  refine lv_aload_n hx hb dX5_init_19 rfl (lv_at hl 0 rfl) ?_
  refine lv_bipush (v := 6) hx hb dX5_init_20 (by decide) ?_
  obtain ⟨q5, e9, hJ⟩ := rp_b hJ
  refine rp_newI (K := 6) (ty := .int) X I e9 (by decide) rfl rfl (by decide) wm_68 rfl (fun _ z => z) (Nat.le_of_ble_eq_true rfl) (Nat.le_of_ble_eq_true rfl) dX5_init_22 (fun H I => ?_)
  obtain ⟨h6, e9, hJ⟩ := rp_b hJ
  refine rp_putF (ty := (.array .int)) X I e9 rfl wiX5 tyX5 tyX5_ok nmX5 (by decide) wm_88 rfl hinit rfl (by decide +kernel) rfl rfl dX5_init_24 (fun H locs I => ?_)
  refine W.widen (k := 3) (n := 15) (Nat.le_of_ble_eq_true rfl) (Nat.le_of_ble_eq_true rfl) ?_
  exact rp_vret X hr hJ I dX5_init_27
def rmX5_tell : Room := { frames := 0, cells := 0, slots := 0, locals := 0 }
def J_Step_tell (N : Nat) (x0 : Nat) (x1 : Int32) (x2 : Int32) (x3 : Int32) (h : Hp) : Option (Unit × Hp) :=
  (sZ h 5 x0 0 (1 : Int32)).bind fun h1 =>
  (sF h1 5 x0 1 (.int x1)).bind fun h2 =>
  (sF h2 5 x0 2 (.int x2)).bind fun h3 =>
  (sF h3 5 x0 3 (.int x3)).bind fun h4 =>
  some ((), h4)
set_option maxHeartbeats 4000000 in
set_option maxRecDepth 100000 in
theorem c_Step_tell {l : Launch} {D : va_G} {tys : List (ClassId × FieldType)} {A : Nat → Prop} (hT : tys.map (fun q => q.2) = tyS) {N : Nat} {x0 : Nat} {x1 : Int32} {x2 : Int32} {x3 : Int32} {h : Hp} {res : (Unit × Hp)} (hJ : J_Step_tell N x0 x1 x2 x3 h = some res) : Ct l D vwCl tys A yX5_tell (Cond.code yX5_tell cX5_tell 4 none :: wsG) rmX5_tell [.ref x0, .int x1, .int x2, .int x3] h none res.2 := by
  refine Met.ofW (cc := cX5_tell) (maxL := 4) (ret := none) (by decide) rfl ?_
  intro p e s m args below meth c s₁ B hml hv
  obtain ⟨rfl, hA, hR, hK, hN⟩ := hv
  have hr := B.returns
  have hts : ∀ w ∈ wsG, w.before [.ref x0, .int x1, .int x2, .int x3].toArray s = true := fun w hw => atoms_spec (ws := Cond.code yX5_tell cX5_tell 4 none :: wsG) B.pre w (List.mem_cons_of_mem _ hw)
  have X : Cx p s m [.ref x0, .int x1, .int x2, .int x3].toArray meth c D vwCl tys cX5_tell 4 RX5 wsG := ⟨⟨B.exec, B.bytes, hml, findClass_of_methodNamed B.named, hts⟩, hK, B.notSynchronized, hT⟩
  have hx := B.exec
  have hb := B.bytes
  have I : In D vwCl tys A s h s.heap [] := ⟨hR, va_S.rf, hA⟩
  have hl := lv_entry [.ref x0, .int x1, .int x2, .int x3] (n := 4) (Nat.le_of_ble_eq_true rfl)
  rw [lg_entry_eq]
  generalize (lg_sl [.ref x0, .int x1, .int x2, .int x3] ++ List.replicate (4 - (lg_sl [.ref x0, .int x1, .int x2, .int x3]).length) Slot.unset).toArray = ls at hl ⊢
  have hl : lv_has ls 4 [(0, .ref x0), (1, .int x1), (2, .int x2), (3, .int x3)] := hl
  have ho := X.1.2.2.2.1
  rw [J_Step_tell] at hJ
  refine lv_aload_n hx hb dX5_tell_0 rfl (lv_at hl 0 rfl) ?_
  refine lv_iconst (v := 1) hx hb dX5_tell_1 (by decide) ?_
  obtain ⟨h1, e9, hJ⟩ := rp_b hJ
  obtain ⟨z9, e9⟩ := sZ_s e9
  refine rp_put (ty := .boolean) X I e9 rfl wiX5 tyX5 tyX5_ok nmX5 (by decide) wm_75 rfl (by decide +kernel) (rp_nz z9) (rp_fz z9) dX5_tell_2 (fun H locs I => ?_)
  refine lv_aload_n hx hb dX5_tell_5 rfl (lv_at hl 0 rfl) ?_
  refine lv_iload_n hx hb dX5_tell_6 rfl (lv_at hl 1 rfl) ?_
  obtain ⟨h2, e9, hJ⟩ := rp_b hJ
  refine rp_put (ty := .int) X I e9 rfl wiX5 tyX5 tyX5_ok nmX5 (by decide) wm_76 rfl (by decide +kernel) rfl rfl dX5_tell_7 (fun H locs I => ?_)
  refine lv_aload_n hx hb dX5_tell_10 rfl (lv_at hl 0 rfl) ?_
  refine lv_iload_n hx hb dX5_tell_11 rfl (lv_at hl 2 rfl) ?_
  obtain ⟨h3, e9, hJ⟩ := rp_b hJ
  refine rp_put (ty := .int) X I e9 rfl wiX5 tyX5 tyX5_ok nmX5 (by decide) wm_77 rfl (by decide +kernel) rfl rfl dX5_tell_12 (fun H locs I => ?_)
  refine lv_aload_n hx hb dX5_tell_15 rfl (lv_at hl 0 rfl) ?_
  refine lv_iload_n hx hb dX5_tell_16 rfl (lv_at hl 3 rfl) ?_
  obtain ⟨h4, e9, hJ⟩ := rp_b hJ
  refine rp_put (ty := .int) X I e9 rfl wiX5 tyX5 tyX5_ok nmX5 (by decide) wm_78 rfl (by decide +kernel) rfl rfl dX5_tell_17 (fun H locs I => ?_)
  exact rp_vret X hr hJ I dX5_tell_20
def rmX5_addInput : Room := { frames := 0, cells := 0, slots := 0, locals := 0 }
def J_Step_addInput (N : Nat) (x0 : Nat) (x1 : Int32) (h : Hp) : Option (Int32 × Hp) :=
  (fI h 5 x0 5).bind fun v1 =>
  if v1 < (6 : Int32) then
  ((fR h 5 x0 4).bind fun v2 =>
  (fI h 5 x0 5).bind fun v3 =>
  (sI h 0 v2 v3 x1).bind fun h4 =>
  (fI h4 5 x0 5).bind fun v5 =>
  (sF h4 5 x0 5 (.int (v5 + (1 : Int32)))).bind fun h6 =>
  some ((1 : Int32), h6))
  else
  (some ((0 : Int32), h))
set_option maxHeartbeats 4000000 in
set_option maxRecDepth 100000 in
theorem c_Step_addInput {l : Launch} {D : va_G} {tys : List (ClassId × FieldType)} {A : Nat → Prop} (hT : tys.map (fun q => q.2) = tyS) {N : Nat} {x0 : Nat} {x1 : Int32} {h : Hp} {res : (Int32 × Hp)} (hJ : J_Step_addInput N x0 x1 h = some res) : Ct l D vwCl tys A yX5_addInput (Cond.code yX5_addInput cX5_addInput 2 (some .boolean) :: wsG) rmX5_addInput [.ref x0, .int x1] h (some (.int res.1)) res.2 := by
  refine Met.ofW (cc := cX5_addInput) (maxL := 2) (ret := (some .boolean)) (by decide) rfl ?_
  intro p e s m args below meth c s₁ B hml hv
  obtain ⟨rfl, hA, hR, hK, hN⟩ := hv
  have hr := B.returns
  have hts : ∀ w ∈ wsG, w.before [.ref x0, .int x1].toArray s = true := fun w hw => atoms_spec (ws := Cond.code yX5_addInput cX5_addInput 2 (some .boolean) :: wsG) B.pre w (List.mem_cons_of_mem _ hw)
  have X : Cx p s m [.ref x0, .int x1].toArray meth c D vwCl tys cX5_addInput 2 RX5 wsG := ⟨⟨B.exec, B.bytes, hml, findClass_of_methodNamed B.named, hts⟩, hK, B.notSynchronized, hT⟩
  have hx := B.exec
  have hb := B.bytes
  have I : In D vwCl tys A s h s.heap [] := ⟨hR, va_S.rf, hA⟩
  have hl := lv_entry [.ref x0, .int x1] (n := 2) (Nat.le_of_ble_eq_true rfl)
  rw [lg_entry_eq]
  generalize (lg_sl [.ref x0, .int x1] ++ List.replicate (2 - (lg_sl [.ref x0, .int x1]).length) Slot.unset).toArray = ls at hl ⊢
  have hl : lv_has ls 2 [(0, .ref x0), (1, .int x1)] := hl
  have ho := X.1.2.2.2.1
  rw [J_Step_addInput] at hJ
  refine lv_aload_n hx hb dX5_addInput_0 rfl (lv_at hl 0 rfl) ?_
  obtain ⟨v1, e9, hJ⟩ := rp_b hJ
  obtain ⟨f9, g9, e9⟩ := fI_s e9
  refine rp_get X I g9 e9 rfl wiX5 (by decide) wm_80 dX5_addInput_1 ?_
  refine lv_bipush (v := 6) hx hb dX5_addInput_4 (by decide) ?_
  refine lv_icmp_lt (tgt := 11) hx hb dX5_addInput_6 (by decide) (fun c9 => ?_) (fun c9 => ?_)
  · rw [if_pos c9] at hJ
    refine lv_aload_n hx hb dX5_addInput_11 rfl (lv_at hl 0 rfl) ?_
    obtain ⟨v2, e9, hJ⟩ := rp_b hJ
    obtain ⟨f9, g9, e9⟩ := fR_s e9
    refine rp_get X I g9 e9 rfl wiX5 (by decide) wm_79 dX5_addInput_12 ?_
    refine lv_aload_n hx hb dX5_addInput_15 rfl (lv_at hl 0 rfl) ?_
    obtain ⟨v3, e9, hJ⟩ := rp_b hJ
    obtain ⟨f9, g9, e9⟩ := fI_s e9
    refine rp_get X I g9 e9 rfl wiX5 (by decide) wm_80 dX5_addInput_16 ?_
    refine lv_iload_n hx hb dX5_addInput_19 rfl (lv_at hl 1 rfl) ?_
    obtain ⟨h4, e9, hJ⟩ := rp_b hJ
    refine rp_iast X I e9 rfl dX5_addInput_20 (fun H locs I => ?_)
    refine lv_aload_n hx hb dX5_addInput_21 rfl (lv_at hl 0 rfl) ?_
    refine lv_dup hx hb dX5_addInput_22 rfl ?_
    obtain ⟨v5, e9, hJ⟩ := rp_b hJ
    obtain ⟨f9, g9, e9⟩ := fI_s e9
    refine rp_get X I g9 e9 rfl wiX5 (by decide) wm_80 dX5_addInput_23 ?_
    refine lv_iconst (v := 1) hx hb dX5_addInput_26 (by decide) ?_
    refine lv_iadd hx hb dX5_addInput_27 ?_
    obtain ⟨h6, e9, hJ⟩ := rp_b hJ
    refine rp_put (ty := .int) X I e9 rfl wiX5 tyX5 tyX5_ok nmX5 (by decide) wm_80 rfl (by decide +kernel) rfl rfl dX5_addInput_28 (fun H locs I => ?_)
    refine lv_iconst (v := 1) hx hb dX5_addInput_31 (by decide) ?_
    exact rp_zret X hr (Or.inr rfl) hJ I dX5_addInput_32
  · rw [if_neg c9] at hJ
    refine lv_iconst (v := 0) hx hb dX5_addInput_9 (by decide) ?_
    exact rp_zret X hr (Or.inl rfl) hJ I dX5_addInput_10
def rmX5_addOutput : Room := { frames := 0, cells := 0, slots := 0, locals := 0 }
def J_Step_addOutput (N : Nat) (x0 : Nat) (x1 : Int32) (h : Hp) : Option (Int32 × Hp) :=
  (fI h 5 x0 7).bind fun v1 =>
  if v1 < (3 : Int32) then
  ((fR h 5 x0 6).bind fun v2 =>
  (fI h 5 x0 7).bind fun v3 =>
  (sI h 0 v2 v3 x1).bind fun h4 =>
  (fI h4 5 x0 7).bind fun v5 =>
  (sF h4 5 x0 7 (.int (v5 + (1 : Int32)))).bind fun h6 =>
  some ((1 : Int32), h6))
  else
  (some ((0 : Int32), h))
set_option maxHeartbeats 4000000 in
set_option maxRecDepth 100000 in
theorem c_Step_addOutput {l : Launch} {D : va_G} {tys : List (ClassId × FieldType)} {A : Nat → Prop} (hT : tys.map (fun q => q.2) = tyS) {N : Nat} {x0 : Nat} {x1 : Int32} {h : Hp} {res : (Int32 × Hp)} (hJ : J_Step_addOutput N x0 x1 h = some res) : Ct l D vwCl tys A yX5_addOutput (Cond.code yX5_addOutput cX5_addOutput 2 (some .boolean) :: wsG) rmX5_addOutput [.ref x0, .int x1] h (some (.int res.1)) res.2 := by
  refine Met.ofW (cc := cX5_addOutput) (maxL := 2) (ret := (some .boolean)) (by decide) rfl ?_
  intro p e s m args below meth c s₁ B hml hv
  obtain ⟨rfl, hA, hR, hK, hN⟩ := hv
  have hr := B.returns
  have hts : ∀ w ∈ wsG, w.before [.ref x0, .int x1].toArray s = true := fun w hw => atoms_spec (ws := Cond.code yX5_addOutput cX5_addOutput 2 (some .boolean) :: wsG) B.pre w (List.mem_cons_of_mem _ hw)
  have X : Cx p s m [.ref x0, .int x1].toArray meth c D vwCl tys cX5_addOutput 2 RX5 wsG := ⟨⟨B.exec, B.bytes, hml, findClass_of_methodNamed B.named, hts⟩, hK, B.notSynchronized, hT⟩
  have hx := B.exec
  have hb := B.bytes
  have I : In D vwCl tys A s h s.heap [] := ⟨hR, va_S.rf, hA⟩
  have hl := lv_entry [.ref x0, .int x1] (n := 2) (Nat.le_of_ble_eq_true rfl)
  rw [lg_entry_eq]
  generalize (lg_sl [.ref x0, .int x1] ++ List.replicate (2 - (lg_sl [.ref x0, .int x1]).length) Slot.unset).toArray = ls at hl ⊢
  have hl : lv_has ls 2 [(0, .ref x0), (1, .int x1)] := hl
  have ho := X.1.2.2.2.1
  rw [J_Step_addOutput] at hJ
  refine lv_aload_n hx hb dX5_addOutput_0 rfl (lv_at hl 0 rfl) ?_
  obtain ⟨v1, e9, hJ⟩ := rp_b hJ
  obtain ⟨f9, g9, e9⟩ := fI_s e9
  refine rp_get X I g9 e9 rfl wiX5 (by decide) wm_82 dX5_addOutput_1 ?_
  refine lv_iconst (v := 3) hx hb dX5_addOutput_4 (by decide) ?_
  refine lv_icmp_lt (tgt := 10) hx hb dX5_addOutput_5 (by decide) (fun c9 => ?_) (fun c9 => ?_)
  · rw [if_pos c9] at hJ
    refine lv_aload_n hx hb dX5_addOutput_10 rfl (lv_at hl 0 rfl) ?_
    obtain ⟨v2, e9, hJ⟩ := rp_b hJ
    obtain ⟨f9, g9, e9⟩ := fR_s e9
    refine rp_get X I g9 e9 rfl wiX5 (by decide) wm_81 dX5_addOutput_11 ?_
    refine lv_aload_n hx hb dX5_addOutput_14 rfl (lv_at hl 0 rfl) ?_
    obtain ⟨v3, e9, hJ⟩ := rp_b hJ
    obtain ⟨f9, g9, e9⟩ := fI_s e9
    refine rp_get X I g9 e9 rfl wiX5 (by decide) wm_82 dX5_addOutput_15 ?_
    refine lv_iload_n hx hb dX5_addOutput_18 rfl (lv_at hl 1 rfl) ?_
    obtain ⟨h4, e9, hJ⟩ := rp_b hJ
    refine rp_iast X I e9 rfl dX5_addOutput_19 (fun H locs I => ?_)
    refine lv_aload_n hx hb dX5_addOutput_20 rfl (lv_at hl 0 rfl) ?_
    refine lv_dup hx hb dX5_addOutput_21 rfl ?_
    obtain ⟨v5, e9, hJ⟩ := rp_b hJ
    obtain ⟨f9, g9, e9⟩ := fI_s e9
    refine rp_get X I g9 e9 rfl wiX5 (by decide) wm_82 dX5_addOutput_22 ?_
    refine lv_iconst (v := 1) hx hb dX5_addOutput_25 (by decide) ?_
    refine lv_iadd hx hb dX5_addOutput_26 ?_
    obtain ⟨h6, e9, hJ⟩ := rp_b hJ
    refine rp_put (ty := .int) X I e9 rfl wiX5 tyX5 tyX5_ok nmX5 (by decide) wm_82 rfl (by decide +kernel) rfl rfl dX5_addOutput_27 (fun H locs I => ?_)
    refine lv_iconst (v := 1) hx hb dX5_addOutput_30 (by decide) ?_
    exact rp_zret X hr (Or.inr rfl) hJ I dX5_addOutput_31
  · rw [if_neg c9] at hJ
    refine lv_iconst (v := 0) hx hb dX5_addOutput_8 (by decide) ?_
    exact rp_zret X hr (Or.inl rfl) hJ I dX5_addOutput_9
def rmX5_leave : Room := { frames := 1, cells := 0, slots := 0, locals := 22 }
def J_Step_leave_2 (N : Nat)  : Nat → Nat → Nat → Int32 → Hp → Option (Unit × Hp)
  | 0, _, _, _, _ => none
  | n + 1, x0, x1, x2, h =>
  (fI h 5 x0 7).bind fun v1 =>
  if v1 ≤ x2 then
  ((sZ h 5 x0 0 (0 : Int32)).bind fun h2 =>
  (sZ h2 5 x0 8 (0 : Int32)).bind fun h3 =>
  (sF h3 5 x0 5 (.int (0 : Int32))).bind fun h4 =>
  (sF h4 5 x0 7 (.int (0 : Int32))).bind fun h5 =>
  some ((), h5))
  else
  ((fR h 5 x0 6).bind fun v6 =>
  (aI h 0 v6 x2).bind fun v7 =>
  (isO h 1 x1).bind fun _ =>
  (J_File_setMaker N x1 v7 (-1 : Int32) h).bind fun q8 =>
 (J_Step_leave_2 N n) x0 x1 (x2 + (1 : Int32)) q8.2)
def J_Step_leave (N : Nat) (x0 : Nat) (x1 : Nat) (h : Hp) : Option (Unit × Hp) :=
  J_Step_leave_2 N N x0 x1 (0 : Int32) h
set_option maxHeartbeats 4000000 in
set_option maxRecDepth 100000 in
theorem w_Step_leave_2 (X : Cx p s m args meth c D vwCl tys cX5_leave 3 RX5 wsG) (hN : nwS s) (hr : meth.sig.returnType = none) {res : (Unit × Hp)} {N : Nat}   : ∀ (n : Nat) (x0 : Nat) (x1 : Nat) (x2 : Int32)  (h : Hp) (H : Heap) (locs : List Loc) (ls : Array Slot), J_Step_leave_2 N n x0 x1 x2 h = some res → In D vwCl tys A s h H locs → lv_has ls 3 [(0, .ref x0), (1, .ref x1), (2, .int x2)] → W p l e rmX5_leave s m args below meth c H locs 0 0 (MQ below (Qr D vwCl tys A none res.2) args s 0 0 A) (F0 m 2 ls []) := by
  have hx := X.1.1
  have hb := X.1.2.1
  have hml := X.1.2.2.1
  have ho := X.1.2.2.2.1
  have hts := X.1.2.2.2.2
  have hK := X.2.1
  have hT := X.2.2.2
  intro n
  induction n with
  | zero =>
    intro x0 x1 x2  h H locs ls hJ I hl
    exact nomatch (show (none : Option (Unit × Hp)) = some res from hJ)
  | succ n k2 =>
    intro x0 x1 x2  h H locs ls hJ I hl
    rw [J_Step_leave_2] at hJ
    refine lv_iload_n hx hb dX5_leave_2 rfl (lv_at hl 2 rfl) ?_
    refine lv_aload_n hx hb dX5_leave_3 rfl (lv_at hl 0 rfl) ?_
    obtain ⟨v1, e9, hJ⟩ := rp_b hJ
    obtain ⟨f9, g9, e9⟩ := fI_s e9
    refine rp_get X I g9 e9 rfl wiX5 (by decide) wm_82 dX5_leave_4 ?_
    refine lv_icmp_ge (tgt := 27) hx hb dX5_leave_7 (by decide) (fun c9 => ?_) (fun c9 => ?_)
    · rw [if_pos c9] at hJ
      refine lv_aload_n hx hb dX5_leave_27 rfl (lv_at hl 0 rfl) ?_
      refine lv_iconst (v := 0) hx hb dX5_leave_28 (by decide) ?_
      obtain ⟨h2, e9, hJ⟩ := rp_b hJ
      obtain ⟨z9, e9⟩ := sZ_s e9
      refine rp_put (ty := .boolean) X I e9 rfl wiX5 tyX5 tyX5_ok nmX5 (by decide) wm_75 rfl (by decide +kernel) (rp_nz z9) (rp_fz z9) dX5_leave_29 (fun H locs I => ?_)
      refine lv_aload_n hx hb dX5_leave_32 rfl (lv_at hl 0 rfl) ?_
      refine lv_iconst (v := 0) hx hb dX5_leave_33 (by decide) ?_
      obtain ⟨h3, e9, hJ⟩ := rp_b hJ
      obtain ⟨z9, e9⟩ := sZ_s e9
      refine rp_put (ty := .boolean) X I e9 rfl wiX5 tyX5 tyX5_ok nmX5 (by decide) wm_83 rfl (by decide +kernel) (rp_nz z9) (rp_fz z9) dX5_leave_34 (fun H locs I => ?_)
      refine lv_aload_n hx hb dX5_leave_37 rfl (lv_at hl 0 rfl) ?_
      refine lv_iconst (v := 0) hx hb dX5_leave_38 (by decide) ?_
      obtain ⟨h4, e9, hJ⟩ := rp_b hJ
      refine rp_put (ty := .int) X I e9 rfl wiX5 tyX5 tyX5_ok nmX5 (by decide) wm_80 rfl (by decide +kernel) rfl rfl dX5_leave_39 (fun H locs I => ?_)
      refine lv_aload_n hx hb dX5_leave_42 rfl (lv_at hl 0 rfl) ?_
      refine lv_iconst (v := 0) hx hb dX5_leave_43 (by decide) ?_
      obtain ⟨h5, e9, hJ⟩ := rp_b hJ
      refine rp_put (ty := .int) X I e9 rfl wiX5 tyX5 tyX5_ok nmX5 (by decide) wm_82 rfl (by decide +kernel) rfl rfl dX5_leave_44 (fun H locs I => ?_)
      exact rp_vret X hr hJ I dX5_leave_47
    · rw [if_neg c9] at hJ
      refine lv_aload_n hx hb dX5_leave_10 rfl (lv_at hl 1 rfl) ?_
      refine lv_aload_n hx hb dX5_leave_11 rfl (lv_at hl 0 rfl) ?_
      obtain ⟨v6, e9, hJ⟩ := rp_b hJ
      obtain ⟨f9, g9, e9⟩ := fR_s e9
      refine rp_get X I g9 e9 rfl wiX5 (by decide) wm_81 dX5_leave_12 ?_
      refine lv_iload_n hx hb dX5_leave_15 rfl (lv_at hl 2 rfl) ?_
      obtain ⟨v7, e9, hJ⟩ := rp_b hJ
      refine rp_iald X I e9 rfl dX5_leave_16 ?_
      refine lv_iconst (v := -1) hx hb dX5_leave_17 (by decide) ?_
      obtain ⟨u9, i9, hJ⟩ := rp_b hJ
      obtain ⟨f9, i9⟩ := isO_s i9
      obtain ⟨q8, e9, hJ⟩ := rp_b hJ
      refine rp_callV (As := [.int v7, .int (-1 : Int32)]) (rest := []) X hN I (c_File_setMaker hT e9) (cwV 2 hts (gdV wm_224 wm_213 wm_214 wm_34 wm_215) rfl rfl rfl (by decide +kernel) ⟨Nat.le_of_ble_eq_true rfl, Nat.le_of_ble_eq_true rfl⟩) i9 rfl rfl hl.1 rfl (Nat.le_of_ble_eq_true rfl) dX5_leave_18 ⟨(Nat.le_of_ble_eq_true rfl), (Nat.le_of_ble_eq_true rfl)⟩ (fun H locs I => ?_)
      refine W.cs (cells' := 0) (slots' := 0) rfl rfl ?_
      refine lv_iinc (v := (x2 + (1 : Int32))) (lv' := [(2, .int (x2 + (1 : Int32))), (0, .ref x0), (1, .ref x1)]) hx hb dX5_leave_21 hl (k := 2) rfl rfl (by decide) rfl (fun ls hl => ?_)
      refine lv_goto (tgt := 2) hx hb dX5_leave_24 (by decide) ?_
      exact k2 _ _ _ _ _ _ _ hJ I (lv_sub hl [1, 2, 0] rfl)
set_option maxHeartbeats 4000000 in
set_option maxRecDepth 100000 in
theorem c_Step_leave {l : Launch} {D : va_G} {tys : List (ClassId × FieldType)} {A : Nat → Prop} (hT : tys.map (fun q => q.2) = tyS) {N : Nat} {x0 : Nat} {x1 : Nat} {h : Hp} {res : (Unit × Hp)} (hJ : J_Step_leave N x0 x1 h = some res) : Ct l D vwCl tys A yX5_leave (Cond.code yX5_leave cX5_leave 3 none :: wsG) rmX5_leave [.ref x0, .ref x1] h none res.2 := by
  refine Met.ofW (cc := cX5_leave) (maxL := 3) (ret := none) (by decide) rfl ?_
  intro p e s m args below meth c s₁ B hml hv
  obtain ⟨rfl, hA, hR, hK, hN⟩ := hv
  have hr := B.returns
  have hts : ∀ w ∈ wsG, w.before [.ref x0, .ref x1].toArray s = true := fun w hw => atoms_spec (ws := Cond.code yX5_leave cX5_leave 3 none :: wsG) B.pre w (List.mem_cons_of_mem _ hw)
  have X : Cx p s m [.ref x0, .ref x1].toArray meth c D vwCl tys cX5_leave 3 RX5 wsG := ⟨⟨B.exec, B.bytes, hml, findClass_of_methodNamed B.named, hts⟩, hK, B.notSynchronized, hT⟩
  have hx := B.exec
  have hb := B.bytes
  have I : In D vwCl tys A s h s.heap [] := ⟨hR, va_S.rf, hA⟩
  have hl := lv_entry [.ref x0, .ref x1] (n := 3) (Nat.le_of_ble_eq_true rfl)
  rw [lg_entry_eq]
  generalize (lg_sl [.ref x0, .ref x1] ++ List.replicate (3 - (lg_sl [.ref x0, .ref x1]).length) Slot.unset).toArray = ls at hl ⊢
  have hl : lv_has ls 3 [(0, .ref x0), (1, .ref x1)] := hl
  have ho := X.1.2.2.2.1
  rw [J_Step_leave] at hJ
  refine lv_iconst (v := 0) hx hb dX5_leave_0 (by decide) ?_
  refine lv_istore_n (lv' := [(2, .int (0 : Int32)), (0, .ref x0), (1, .ref x1)]) hx hb dX5_leave_1 rfl hl (by decide) rfl (fun ls hl => ?_)
  exact w_Step_leave_2 X hN hr N _ _ _ _ _ _ _ hJ I (lv_sub hl [1, 2, 0] rfl)
def rmX5_lacksSource : Room := { frames := 1, cells := 0, slots := 0, locals := 21 }
def J_Step_lacksSource_2 (N : Nat)  : Nat → Nat → Nat → Int32 → Hp → Option (Int32 × Hp)
  | 0, _, _, _, _ => none
  | n + 1, x0, x1, x2, h =>
  (fI h 5 x0 5).bind fun v1 =>
  if v1 ≤ x2 then
  (some ((0 : Int32), h))
  else
  ((fR h 5 x0 4).bind fun v2 =>
  (aI h 0 v2 x2).bind fun v3 =>
  (isO h 1 x1).bind fun _ =>
  (J_File_lacksSource N x1 v3 h).bind fun q4 =>
 if q4.1 = 0 then
  ((J_Step_lacksSource_2 N n) x0 x1 (x2 + (1 : Int32)) q4.2)
  else
  (some ((1 : Int32), q4.2)))
def J_Step_lacksSource (N : Nat) (x0 : Nat) (x1 : Nat) (h : Hp) : Option (Int32 × Hp) :=
  J_Step_lacksSource_2 N N x0 x1 (0 : Int32) h
set_option maxHeartbeats 4000000 in
set_option maxRecDepth 100000 in
theorem w_Step_lacksSource_2 (X : Cx p s m args meth c D vwCl tys cX5_lacksSource 3 RX5 wsG) (hN : nwS s) (hr : meth.sig.returnType = (some .boolean)) {res : (Int32 × Hp)} {N : Nat}   : ∀ (n : Nat) (x0 : Nat) (x1 : Nat) (x2 : Int32)  (h : Hp) (H : Heap) (locs : List Loc) (ls : Array Slot), J_Step_lacksSource_2 N n x0 x1 x2 h = some res → In D vwCl tys A s h H locs → lv_has ls 3 [(0, .ref x0), (1, .ref x1), (2, .int x2)] → W p l e rmX5_lacksSource s m args below meth c H locs 0 0 (MQ below (Qr D vwCl tys A (some (.int res.1)) res.2) args s 0 0 A) (F0 m 2 ls []) := by
  have hx := X.1.1
  have hb := X.1.2.1
  have hml := X.1.2.2.1
  have ho := X.1.2.2.2.1
  have hts := X.1.2.2.2.2
  have hK := X.2.1
  have hT := X.2.2.2
  intro n
  induction n with
  | zero =>
    intro x0 x1 x2  h H locs ls hJ I hl
    exact nomatch (show (none : Option (Int32 × Hp)) = some res from hJ)
  | succ n k2 =>
    intro x0 x1 x2  h H locs ls hJ I hl
    rw [J_Step_lacksSource_2] at hJ
    refine lv_iload_n hx hb dX5_lacksSource_2 rfl (lv_at hl 2 rfl) ?_
    refine lv_aload_n hx hb dX5_lacksSource_3 rfl (lv_at hl 0 rfl) ?_
    obtain ⟨v1, e9, hJ⟩ := rp_b hJ
    obtain ⟨f9, g9, e9⟩ := fI_s e9
    refine rp_get X I g9 e9 rfl wiX5 (by decide) wm_80 dX5_lacksSource_4 ?_
    refine lv_icmp_ge (tgt := 31) hx hb dX5_lacksSource_7 (by decide) (fun c9 => ?_) (fun c9 => ?_)
    · rw [if_pos c9] at hJ
      refine lv_iconst (v := 0) hx hb dX5_lacksSource_31 (by decide) ?_
      exact rp_zret X hr (Or.inl rfl) hJ I dX5_lacksSource_32
    · rw [if_neg c9] at hJ
      refine lv_aload_n hx hb dX5_lacksSource_10 rfl (lv_at hl 1 rfl) ?_
      refine lv_aload_n hx hb dX5_lacksSource_11 rfl (lv_at hl 0 rfl) ?_
      obtain ⟨v2, e9, hJ⟩ := rp_b hJ
      obtain ⟨f9, g9, e9⟩ := fR_s e9
      refine rp_get X I g9 e9 rfl wiX5 (by decide) wm_79 dX5_lacksSource_12 ?_
      refine lv_iload_n hx hb dX5_lacksSource_15 rfl (lv_at hl 2 rfl) ?_
      obtain ⟨v3, e9, hJ⟩ := rp_b hJ
      refine rp_iald X I e9 rfl dX5_lacksSource_16 ?_
      obtain ⟨u9, i9, hJ⟩ := rp_b hJ
      obtain ⟨f9, i9⟩ := isO_s i9
      obtain ⟨q4, e9, hJ⟩ := rp_b hJ
      refine rp_callV (As := [.int v3]) (rest := []) X hN I (c_File_lacksSource hT e9) (cwV 1 hts (gdV wm_391 wm_383 wm_384 wm_34 wm_385) rfl rfl rfl (by decide +kernel) ⟨Nat.le_of_ble_eq_true rfl, Nat.le_of_ble_eq_true rfl⟩) i9 rfl rfl hl.1 rfl (Nat.le_of_ble_eq_true rfl) dX5_lacksSource_17 ⟨(Nat.le_of_ble_eq_true rfl), (Nat.le_of_ble_eq_true rfl)⟩ (fun H locs I => ?_)
      refine W.cs (cells' := 0) (slots' := 0) rfl rfl ?_
      refine lv_if_eq (tgt := 25) hx hb dX5_lacksSource_20 (by decide) (fun c9 => ?_) (fun c9 => ?_)
      · rw [if_pos c9] at hJ
        refine lv_iinc (v := (x2 + (1 : Int32))) (lv' := [(2, .int (x2 + (1 : Int32))), (0, .ref x0), (1, .ref x1)]) hx hb dX5_lacksSource_25 hl (k := 2) rfl rfl (by decide) rfl (fun ls hl => ?_)
        refine lv_goto (tgt := 2) hx hb dX5_lacksSource_28 (by decide) ?_
        exact k2 _ _ _ _ _ _ _ hJ I (lv_sub hl [1, 2, 0] rfl)
      · rw [if_neg c9] at hJ
        refine lv_iconst (v := 1) hx hb dX5_lacksSource_23 (by decide) ?_
        exact rp_zret X hr (Or.inr rfl) hJ I dX5_lacksSource_24
set_option maxHeartbeats 4000000 in
set_option maxRecDepth 100000 in
theorem c_Step_lacksSource {l : Launch} {D : va_G} {tys : List (ClassId × FieldType)} {A : Nat → Prop} (hT : tys.map (fun q => q.2) = tyS) {N : Nat} {x0 : Nat} {x1 : Nat} {h : Hp} {res : (Int32 × Hp)} (hJ : J_Step_lacksSource N x0 x1 h = some res) : Ct l D vwCl tys A yX5_lacksSource (Cond.code yX5_lacksSource cX5_lacksSource 3 (some .boolean) :: wsG) rmX5_lacksSource [.ref x0, .ref x1] h (some (.int res.1)) res.2 := by
  refine Met.ofW (cc := cX5_lacksSource) (maxL := 3) (ret := (some .boolean)) (by decide) rfl ?_
  intro p e s m args below meth c s₁ B hml hv
  obtain ⟨rfl, hA, hR, hK, hN⟩ := hv
  have hr := B.returns
  have hts : ∀ w ∈ wsG, w.before [.ref x0, .ref x1].toArray s = true := fun w hw => atoms_spec (ws := Cond.code yX5_lacksSource cX5_lacksSource 3 (some .boolean) :: wsG) B.pre w (List.mem_cons_of_mem _ hw)
  have X : Cx p s m [.ref x0, .ref x1].toArray meth c D vwCl tys cX5_lacksSource 3 RX5 wsG := ⟨⟨B.exec, B.bytes, hml, findClass_of_methodNamed B.named, hts⟩, hK, B.notSynchronized, hT⟩
  have hx := B.exec
  have hb := B.bytes
  have I : In D vwCl tys A s h s.heap [] := ⟨hR, va_S.rf, hA⟩
  have hl := lv_entry [.ref x0, .ref x1] (n := 3) (Nat.le_of_ble_eq_true rfl)
  rw [lg_entry_eq]
  generalize (lg_sl [.ref x0, .ref x1] ++ List.replicate (3 - (lg_sl [.ref x0, .ref x1]).length) Slot.unset).toArray = ls at hl ⊢
  have hl : lv_has ls 3 [(0, .ref x0), (1, .ref x1)] := hl
  have ho := X.1.2.2.2.1
  rw [J_Step_lacksSource] at hJ
  refine lv_iconst (v := 0) hx hb dX5_lacksSource_0 (by decide) ?_
  refine lv_istore_n (lv' := [(2, .int (0 : Int32)), (0, .ref x0), (1, .ref x1)]) hx hb dX5_lacksSource_1 rfl hl (by decide) rfl (fun ls hl => ?_)
  exact w_Step_lacksSource_2 X hN hr N _ _ _ _ _ _ _ hJ I (lv_sub hl [1, 2, 0] rfl)
def rmX5_isToldOtherwise : Room := { frames := 0, cells := 0, slots := 0, locals := 0 }
def J_Step_isToldOtherwise (N : Nat) (x0 : Nat) (h : Hp) : Option (Int32 × Hp) :=
  (fI h 5 x0 1).bind fun v1 =>
  (fI h 5 x0 9).bind fun v2 =>
  if v1 = v2 then
  ((fI h 5 x0 2).bind fun v3 =>
  (fI h 5 x0 10).bind fun v4 =>
  if v3 = v4 then
  ((fI h 5 x0 5).bind fun v5 =>
  (fI h 5 x0 11).bind fun v6 =>
  if v5 = v6 then
  ((fI h 5 x0 7).bind fun v7 =>
  (fI h 5 x0 12).bind fun v8 =>
  if v7 = v8 then
  (some ((0 : Int32), h))
  else
  (some ((1 : Int32), h)))
  else
  (some ((1 : Int32), h)))
  else
  (some ((1 : Int32), h)))
  else
  (some ((1 : Int32), h))
set_option maxHeartbeats 4000000 in
set_option maxRecDepth 100000 in
theorem c_Step_isToldOtherwise {l : Launch} {D : va_G} {tys : List (ClassId × FieldType)} {A : Nat → Prop} (hT : tys.map (fun q => q.2) = tyS) {N : Nat} {x0 : Nat} {h : Hp} {res : (Int32 × Hp)} (hJ : J_Step_isToldOtherwise N x0 h = some res) : Ct l D vwCl tys A yX5_isToldOtherwise (Cond.code yX5_isToldOtherwise cX5_isToldOtherwise 1 (some .boolean) :: wsG) rmX5_isToldOtherwise [.ref x0] h (some (.int res.1)) res.2 := by
  refine Met.ofW (cc := cX5_isToldOtherwise) (maxL := 1) (ret := (some .boolean)) (by decide) rfl ?_
  intro p e s m args below meth c s₁ B hml hv
  obtain ⟨rfl, hA, hR, hK, hN⟩ := hv
  have hr := B.returns
  have hts : ∀ w ∈ wsG, w.before [.ref x0].toArray s = true := fun w hw => atoms_spec (ws := Cond.code yX5_isToldOtherwise cX5_isToldOtherwise 1 (some .boolean) :: wsG) B.pre w (List.mem_cons_of_mem _ hw)
  have X : Cx p s m [.ref x0].toArray meth c D vwCl tys cX5_isToldOtherwise 1 RX5 wsG := ⟨⟨B.exec, B.bytes, hml, findClass_of_methodNamed B.named, hts⟩, hK, B.notSynchronized, hT⟩
  have hx := B.exec
  have hb := B.bytes
  have I : In D vwCl tys A s h s.heap [] := ⟨hR, va_S.rf, hA⟩
  have hl := lv_entry [.ref x0] (n := 1) (Nat.le_of_ble_eq_true rfl)
  rw [lg_entry_eq]
  generalize (lg_sl [.ref x0] ++ List.replicate (1 - (lg_sl [.ref x0]).length) Slot.unset).toArray = ls at hl ⊢
  have hl : lv_has ls 1 [(0, .ref x0)] := hl
  have ho := X.1.2.2.2.1
  rw [J_Step_isToldOtherwise] at hJ
  refine lv_aload_n hx hb dX5_isToldOtherwise_0 rfl (lv_at hl 0 rfl) ?_
  obtain ⟨v1, e9, hJ⟩ := rp_b hJ
  obtain ⟨f9, g9, e9⟩ := fI_s e9
  refine rp_get X I g9 e9 rfl wiX5 (by decide) wm_76 dX5_isToldOtherwise_1 ?_
  refine lv_aload_n hx hb dX5_isToldOtherwise_4 rfl (lv_at hl 0 rfl) ?_
  obtain ⟨v2, e9, hJ⟩ := rp_b hJ
  obtain ⟨f9, g9, e9⟩ := fI_s e9
  refine rp_get X I g9 e9 rfl wiX5 (by decide) wm_84 dX5_isToldOtherwise_5 ?_
  refine lv_icmp_ne (tgt := 44) hx hb dX5_isToldOtherwise_8 (by decide) (fun c9 => ?_) (fun c9 => ?_)
  · rw [if_neg c9] at hJ
    refine lv_iconst (v := 1) hx hb dX5_isToldOtherwise_44 (by decide) ?_
    refine lv_goto (tgt := 49) hx hb dX5_isToldOtherwise_45 (by decide) ?_
    exact rp_zret X hr (Or.inr rfl) hJ I dX5_isToldOtherwise_49
  · rw [if_pos c9] at hJ
    refine lv_aload_n hx hb dX5_isToldOtherwise_11 rfl (lv_at hl 0 rfl) ?_
    obtain ⟨v3, e9, hJ⟩ := rp_b hJ
    obtain ⟨f9, g9, e9⟩ := fI_s e9
    refine rp_get X I g9 e9 rfl wiX5 (by decide) wm_77 dX5_isToldOtherwise_12 ?_
    refine lv_aload_n hx hb dX5_isToldOtherwise_15 rfl (lv_at hl 0 rfl) ?_
    obtain ⟨v4, e9, hJ⟩ := rp_b hJ
    obtain ⟨f9, g9, e9⟩ := fI_s e9
    refine rp_get X I g9 e9 rfl wiX5 (by decide) wm_85 dX5_isToldOtherwise_16 ?_
    refine lv_icmp_ne (tgt := 44) hx hb dX5_isToldOtherwise_19 (by decide) (fun c9 => ?_) (fun c9 => ?_)
    · rw [if_neg c9] at hJ
      refine lv_iconst (v := 1) hx hb dX5_isToldOtherwise_44 (by decide) ?_
      refine lv_goto (tgt := 49) hx hb dX5_isToldOtherwise_45 (by decide) ?_
      exact rp_zret X hr (Or.inr rfl) hJ I dX5_isToldOtherwise_49
    · rw [if_pos c9] at hJ
      refine lv_aload_n hx hb dX5_isToldOtherwise_22 rfl (lv_at hl 0 rfl) ?_
      obtain ⟨v5, e9, hJ⟩ := rp_b hJ
      obtain ⟨f9, g9, e9⟩ := fI_s e9
      refine rp_get X I g9 e9 rfl wiX5 (by decide) wm_80 dX5_isToldOtherwise_23 ?_
      refine lv_aload_n hx hb dX5_isToldOtherwise_26 rfl (lv_at hl 0 rfl) ?_
      obtain ⟨v6, e9, hJ⟩ := rp_b hJ
      obtain ⟨f9, g9, e9⟩ := fI_s e9
      refine rp_get X I g9 e9 rfl wiX5 (by decide) wm_86 dX5_isToldOtherwise_27 ?_
      refine lv_icmp_ne (tgt := 44) hx hb dX5_isToldOtherwise_30 (by decide) (fun c9 => ?_) (fun c9 => ?_)
      · rw [if_neg c9] at hJ
        refine lv_iconst (v := 1) hx hb dX5_isToldOtherwise_44 (by decide) ?_
        refine lv_goto (tgt := 49) hx hb dX5_isToldOtherwise_45 (by decide) ?_
        exact rp_zret X hr (Or.inr rfl) hJ I dX5_isToldOtherwise_49
      · rw [if_pos c9] at hJ
        refine lv_aload_n hx hb dX5_isToldOtherwise_33 rfl (lv_at hl 0 rfl) ?_
        obtain ⟨v7, e9, hJ⟩ := rp_b hJ
        obtain ⟨f9, g9, e9⟩ := fI_s e9
        refine rp_get X I g9 e9 rfl wiX5 (by decide) wm_82 dX5_isToldOtherwise_34 ?_
        refine lv_aload_n hx hb dX5_isToldOtherwise_37 rfl (lv_at hl 0 rfl) ?_
        obtain ⟨v8, e9, hJ⟩ := rp_b hJ
        obtain ⟨f9, g9, e9⟩ := fI_s e9
        refine rp_get X I g9 e9 rfl wiX5 (by decide) wm_87 dX5_isToldOtherwise_38 ?_
        refine lv_icmp_eq (tgt := 48) hx hb dX5_isToldOtherwise_41 (by decide) (fun c9 => ?_) (fun c9 => ?_)
        · rw [if_pos c9] at hJ
          refine lv_iconst (v := 0) hx hb dX5_isToldOtherwise_48 (by decide) ?_
          exact rp_zret X hr (Or.inl rfl) hJ I dX5_isToldOtherwise_49
        · rw [if_neg c9] at hJ
          refine lv_iconst (v := 1) hx hb dX5_isToldOtherwise_44 (by decide) ?_
          refine lv_goto (tgt := 49) hx hb dX5_isToldOtherwise_45 (by decide) ?_
          exact rp_zret X hr (Or.inr rfl) hJ I dX5_isToldOtherwise_49
def rmX5_outputLacks : Room := { frames := 1, cells := 0, slots := 0, locals := 21 }
def J_Step_outputLacks_2 (N : Nat)  : Nat → Nat → Nat → Int32 → Hp → Option (Int32 × Hp)
  | 0, _, _, _, _ => none
  | n + 1, x0, x1, x2, h =>
  (fI h 5 x0 7).bind fun v1 =>
  if v1 ≤ x2 then
  (some ((0 : Int32), h))
  else
  ((fR h 5 x0 6).bind fun v2 =>
  (aI h 0 v2 x2).bind fun v3 =>
  (isO h 1 x1).bind fun _ =>
  (J_File_isFilled N x1 v3 h).bind fun q4 =>
 if q4.1 = 0 then
  (some ((1 : Int32), q4.2))
  else
  ((J_Step_outputLacks_2 N n) x0 x1 (x2 + (1 : Int32)) q4.2))
def J_Step_outputLacks (N : Nat) (x0 : Nat) (x1 : Nat) (h : Hp) : Option (Int32 × Hp) :=
  J_Step_outputLacks_2 N N x0 x1 (0 : Int32) h
set_option maxHeartbeats 4000000 in
set_option maxRecDepth 100000 in
theorem w_Step_outputLacks_2 (X : Cx p s m args meth c D vwCl tys cX5_outputLacks 3 RX5 wsG) (hN : nwS s) (hr : meth.sig.returnType = (some .boolean)) {res : (Int32 × Hp)} {N : Nat}   : ∀ (n : Nat) (x0 : Nat) (x1 : Nat) (x2 : Int32)  (h : Hp) (H : Heap) (locs : List Loc) (ls : Array Slot), J_Step_outputLacks_2 N n x0 x1 x2 h = some res → In D vwCl tys A s h H locs → lv_has ls 3 [(0, .ref x0), (1, .ref x1), (2, .int x2)] → W p l e rmX5_outputLacks s m args below meth c H locs 0 0 (MQ below (Qr D vwCl tys A (some (.int res.1)) res.2) args s 0 0 A) (F0 m 2 ls []) := by
  have hx := X.1.1
  have hb := X.1.2.1
  have hml := X.1.2.2.1
  have ho := X.1.2.2.2.1
  have hts := X.1.2.2.2.2
  have hK := X.2.1
  have hT := X.2.2.2
  intro n
  induction n with
  | zero =>
    intro x0 x1 x2  h H locs ls hJ I hl
    exact nomatch (show (none : Option (Int32 × Hp)) = some res from hJ)
  | succ n k2 =>
    intro x0 x1 x2  h H locs ls hJ I hl
    rw [J_Step_outputLacks_2] at hJ
    refine lv_iload_n hx hb dX5_outputLacks_2 rfl (lv_at hl 2 rfl) ?_
    refine lv_aload_n hx hb dX5_outputLacks_3 rfl (lv_at hl 0 rfl) ?_
    obtain ⟨v1, e9, hJ⟩ := rp_b hJ
    obtain ⟨f9, g9, e9⟩ := fI_s e9
    refine rp_get X I g9 e9 rfl wiX5 (by decide) wm_82 dX5_outputLacks_4 ?_
    refine lv_icmp_ge (tgt := 31) hx hb dX5_outputLacks_7 (by decide) (fun c9 => ?_) (fun c9 => ?_)
    · rw [if_pos c9] at hJ
      refine lv_iconst (v := 0) hx hb dX5_outputLacks_31 (by decide) ?_
      exact rp_zret X hr (Or.inl rfl) hJ I dX5_outputLacks_32
    · rw [if_neg c9] at hJ
      refine lv_aload_n hx hb dX5_outputLacks_10 rfl (lv_at hl 1 rfl) ?_
      refine lv_aload_n hx hb dX5_outputLacks_11 rfl (lv_at hl 0 rfl) ?_
      obtain ⟨v2, e9, hJ⟩ := rp_b hJ
      obtain ⟨f9, g9, e9⟩ := fR_s e9
      refine rp_get X I g9 e9 rfl wiX5 (by decide) wm_81 dX5_outputLacks_12 ?_
      refine lv_iload_n hx hb dX5_outputLacks_15 rfl (lv_at hl 2 rfl) ?_
      obtain ⟨v3, e9, hJ⟩ := rp_b hJ
      refine rp_iald X I e9 rfl dX5_outputLacks_16 ?_
      obtain ⟨u9, i9, hJ⟩ := rp_b hJ
      obtain ⟨f9, i9⟩ := isO_s i9
      obtain ⟨q4, e9, hJ⟩ := rp_b hJ
      refine rp_callV (As := [.int v3]) (rest := []) X hN I (c_File_isFilled hT e9) (cwV 1 hts (gdV wm_266 wm_267 wm_268 wm_34 wm_269) rfl rfl rfl (by decide +kernel) ⟨Nat.le_of_ble_eq_true rfl, Nat.le_of_ble_eq_true rfl⟩) i9 rfl rfl hl.1 rfl (Nat.le_of_ble_eq_true rfl) dX5_outputLacks_17 ⟨(Nat.le_of_ble_eq_true rfl), (Nat.le_of_ble_eq_true rfl)⟩ (fun H locs I => ?_)
      refine W.cs (cells' := 0) (slots' := 0) rfl rfl ?_
      refine lv_if_ne (tgt := 25) hx hb dX5_outputLacks_20 (by decide) (fun c9 => ?_) (fun c9 => ?_)
      · rw [if_neg c9] at hJ
        refine lv_iinc (v := (x2 + (1 : Int32))) (lv' := [(2, .int (x2 + (1 : Int32))), (0, .ref x0), (1, .ref x1)]) hx hb dX5_outputLacks_25 hl (k := 2) rfl rfl (by decide) rfl (fun ls hl => ?_)
        refine lv_goto (tgt := 2) hx hb dX5_outputLacks_28 (by decide) ?_
        exact k2 _ _ _ _ _ _ _ hJ I (lv_sub hl [1, 2, 0] rfl)
      · rw [if_pos c9] at hJ
        refine lv_iconst (v := 1) hx hb dX5_outputLacks_23 (by decide) ?_
        exact rp_zret X hr (Or.inr rfl) hJ I dX5_outputLacks_24
set_option maxHeartbeats 4000000 in
set_option maxRecDepth 100000 in
theorem c_Step_outputLacks {l : Launch} {D : va_G} {tys : List (ClassId × FieldType)} {A : Nat → Prop} (hT : tys.map (fun q => q.2) = tyS) {N : Nat} {x0 : Nat} {x1 : Nat} {h : Hp} {res : (Int32 × Hp)} (hJ : J_Step_outputLacks N x0 x1 h = some res) : Ct l D vwCl tys A yX5_outputLacks (Cond.code yX5_outputLacks cX5_outputLacks 3 (some .boolean) :: wsG) rmX5_outputLacks [.ref x0, .ref x1] h (some (.int res.1)) res.2 := by
  refine Met.ofW (cc := cX5_outputLacks) (maxL := 3) (ret := (some .boolean)) (by decide) rfl ?_
  intro p e s m args below meth c s₁ B hml hv
  obtain ⟨rfl, hA, hR, hK, hN⟩ := hv
  have hr := B.returns
  have hts : ∀ w ∈ wsG, w.before [.ref x0, .ref x1].toArray s = true := fun w hw => atoms_spec (ws := Cond.code yX5_outputLacks cX5_outputLacks 3 (some .boolean) :: wsG) B.pre w (List.mem_cons_of_mem _ hw)
  have X : Cx p s m [.ref x0, .ref x1].toArray meth c D vwCl tys cX5_outputLacks 3 RX5 wsG := ⟨⟨B.exec, B.bytes, hml, findClass_of_methodNamed B.named, hts⟩, hK, B.notSynchronized, hT⟩
  have hx := B.exec
  have hb := B.bytes
  have I : In D vwCl tys A s h s.heap [] := ⟨hR, va_S.rf, hA⟩
  have hl := lv_entry [.ref x0, .ref x1] (n := 3) (Nat.le_of_ble_eq_true rfl)
  rw [lg_entry_eq]
  generalize (lg_sl [.ref x0, .ref x1] ++ List.replicate (3 - (lg_sl [.ref x0, .ref x1]).length) Slot.unset).toArray = ls at hl ⊢
  have hl : lv_has ls 3 [(0, .ref x0), (1, .ref x1)] := hl
  have ho := X.1.2.2.2.1
  rw [J_Step_outputLacks] at hJ
  refine lv_iconst (v := 0) hx hb dX5_outputLacks_0 (by decide) ?_
  refine lv_istore_n (lv' := [(2, .int (0 : Int32)), (0, .ref x0), (1, .ref x1)]) hx hb dX5_outputLacks_1 rfl hl (by decide) rfl (fun ls hl => ?_)
  exact w_Step_outputLacks_2 X hN hr N _ _ _ _ _ _ _ hJ I (lv_sub hl [1, 2, 0] rfl)
def rmX5_inputDiffers : Room := { frames := 1, cells := 0, slots := 0, locals := 21 }
def J_Step_inputDiffers_2 (N : Nat)  : Nat → Nat → Nat → Int32 → Hp → Option (Int32 × Hp)
  | 0, _, _, _, _ => none
  | n + 1, x0, x1, x2, h =>
  (fI h 5 x0 5).bind fun v1 =>
  if v1 ≤ x2 then
  (some ((0 : Int32), h))
  else
  ((fR h 5 x0 4).bind fun v2 =>
  (aI h 0 v2 x2).bind fun v3 =>
  (isO h 1 x1).bind fun _ =>
  (J_File_isFilled N x1 v3 h).bind fun q4 =>
 if q4.1 = 0 then
  (some ((1 : Int32), q4.2))
  else
  ((isO q4.2 1 x1).bind fun _ =>
  (J_File_contentOf N x1 v3 q4.2).bind fun q5 =>
 (fR q5.2 5 x0 13).bind fun v6 =>
  (aI q5.2 0 v6 x2).bind fun v7 =>
  if q5.1 = v7 then
  ((J_Step_inputDiffers_2 N n) x0 x1 (x2 + (1 : Int32)) q5.2)
  else
  (some ((1 : Int32), q5.2))))
def J_Step_inputDiffers (N : Nat) (x0 : Nat) (x1 : Nat) (h : Hp) : Option (Int32 × Hp) :=
  J_Step_inputDiffers_2 N N x0 x1 (0 : Int32) h
set_option maxHeartbeats 4000000 in
set_option maxRecDepth 100000 in
theorem w_Step_inputDiffers_2 (X : Cx p s m args meth c D vwCl tys cX5_inputDiffers 4 RX5 wsG) (hN : nwS s) (hr : meth.sig.returnType = (some .boolean)) {res : (Int32 × Hp)} {N : Nat}   : ∀ (n : Nat) (x0 : Nat) (x1 : Nat) (x2 : Int32)  (h : Hp) (H : Heap) (locs : List Loc) (ls : Array Slot), J_Step_inputDiffers_2 N n x0 x1 x2 h = some res → In D vwCl tys A s h H locs → lv_has ls 4 [(0, .ref x0), (1, .ref x1), (2, .int x2)] → W p l e rmX5_inputDiffers s m args below meth c H locs 0 0 (MQ below (Qr D vwCl tys A (some (.int res.1)) res.2) args s 0 0 A) (F0 m 2 ls []) := by
  have hx := X.1.1
  have hb := X.1.2.1
  have hml := X.1.2.2.1
  have ho := X.1.2.2.2.1
  have hts := X.1.2.2.2.2
  have hK := X.2.1
  have hT := X.2.2.2
  intro n
  induction n with
  | zero =>
    intro x0 x1 x2  h H locs ls hJ I hl
    exact nomatch (show (none : Option (Int32 × Hp)) = some res from hJ)
  | succ n k2 =>
    intro x0 x1 x2  h H locs ls hJ I hl
    rw [J_Step_inputDiffers_2] at hJ
    refine lv_iload_n hx hb dX5_inputDiffers_2 rfl (lv_at hl 2 rfl) ?_
    refine lv_aload_n hx hb dX5_inputDiffers_3 rfl (lv_at hl 0 rfl) ?_
    obtain ⟨v1, e9, hJ⟩ := rp_b hJ
    obtain ⟨f9, g9, e9⟩ := fI_s e9
    refine rp_get X I g9 e9 rfl wiX5 (by decide) wm_80 dX5_inputDiffers_4 ?_
    refine lv_icmp_ge (tgt := 47) hx hb dX5_inputDiffers_7 (by decide) (fun c9 => ?_) (fun c9 => ?_)
    · rw [if_pos c9] at hJ
      refine lv_iconst (v := 0) hx hb dX5_inputDiffers_47 (by decide) ?_
      exact rp_zret X hr (Or.inl rfl) hJ I dX5_inputDiffers_48
    · rw [if_neg c9] at hJ
      refine lv_aload_n hx hb dX5_inputDiffers_10 rfl (lv_at hl 0 rfl) ?_
      obtain ⟨v2, e9, hJ⟩ := rp_b hJ
      obtain ⟨f9, g9, e9⟩ := fR_s e9
      refine rp_get X I g9 e9 rfl wiX5 (by decide) wm_79 dX5_inputDiffers_11 ?_
      refine lv_iload_n hx hb dX5_inputDiffers_14 rfl (lv_at hl 2 rfl) ?_
      obtain ⟨v3, e9, hJ⟩ := rp_b hJ
      refine rp_iald X I e9 rfl dX5_inputDiffers_15 ?_
      refine lv_istore_n (lv' := [(3, .int v3), (0, .ref x0), (1, .ref x1), (2, .int x2)]) hx hb dX5_inputDiffers_16 rfl hl (by decide) rfl (fun ls hl => ?_)
      refine lv_aload_n hx hb dX5_inputDiffers_17 rfl (lv_at hl 2 rfl) ?_
      refine lv_iload_n hx hb dX5_inputDiffers_18 rfl (lv_at hl 0 rfl) ?_
      obtain ⟨u9, i9, hJ⟩ := rp_b hJ
      obtain ⟨f9, i9⟩ := isO_s i9
      obtain ⟨q4, e9, hJ⟩ := rp_b hJ
      refine rp_callV (As := [.int v3]) (rest := []) X hN I (c_File_isFilled hT e9) (cwV 1 hts (gdV wm_266 wm_267 wm_268 wm_34 wm_269) rfl rfl rfl (by decide +kernel) ⟨Nat.le_of_ble_eq_true rfl, Nat.le_of_ble_eq_true rfl⟩) i9 rfl rfl hl.1 rfl (Nat.le_of_ble_eq_true rfl) dX5_inputDiffers_19 ⟨(Nat.le_of_ble_eq_true rfl), (Nat.le_of_ble_eq_true rfl)⟩ (fun H locs I => ?_)
      refine W.cs (cells' := 0) (slots' := 0) rfl rfl ?_
      refine lv_if_eq (tgt := 39) hx hb dX5_inputDiffers_22 (by decide) (fun c9 => ?_) (fun c9 => ?_)
      · rw [if_pos c9] at hJ
        refine lv_iconst (v := 1) hx hb dX5_inputDiffers_39 (by decide) ?_
        exact rp_zret X hr (Or.inr rfl) hJ I dX5_inputDiffers_40
      · rw [if_neg c9] at hJ
        refine lv_aload_n hx hb dX5_inputDiffers_25 rfl (lv_at hl 2 rfl) ?_
        refine lv_iload_n hx hb dX5_inputDiffers_26 rfl (lv_at hl 0 rfl) ?_
        obtain ⟨u9, i9, hJ⟩ := rp_b hJ
        obtain ⟨f9, i9⟩ := isO_s i9
        obtain ⟨q5, e9, hJ⟩ := rp_b hJ
        refine rp_callV (As := [.int v3]) (rest := []) X hN I (c_File_contentOf hT e9) (cwV 1 hts (gdV wm_273 wm_274 wm_275 wm_34 wm_276) rfl rfl rfl (by decide +kernel) ⟨Nat.le_of_ble_eq_true rfl, Nat.le_of_ble_eq_true rfl⟩) i9 rfl rfl hl.1 rfl (Nat.le_of_ble_eq_true rfl) dX5_inputDiffers_27 ⟨(Nat.le_of_ble_eq_true rfl), (Nat.le_of_ble_eq_true rfl)⟩ (fun H locs I => ?_)
        refine W.cs (cells' := 0) (slots' := 0) rfl rfl ?_
        refine lv_aload_n hx hb dX5_inputDiffers_30 rfl (lv_at hl 1 rfl) ?_
        obtain ⟨v6, e9, hJ⟩ := rp_b hJ
        obtain ⟨f9, g9, e9⟩ := fR_s e9
        refine rp_get X I g9 e9 rfl wiX5 (by decide) wm_88 dX5_inputDiffers_31 ?_
        refine lv_iload_n hx hb dX5_inputDiffers_34 rfl (lv_at hl 3 rfl) ?_
        obtain ⟨v7, e9, hJ⟩ := rp_b hJ
        refine rp_iald X I e9 rfl dX5_inputDiffers_35 ?_
        refine lv_icmp_eq (tgt := 41) hx hb dX5_inputDiffers_36 (by decide) (fun c9 => ?_) (fun c9 => ?_)
        · rw [if_pos c9] at hJ
          refine lv_iinc (v := (x2 + (1 : Int32))) (lv' := [(2, .int (x2 + (1 : Int32))), (3, .int v3), (0, .ref x0), (1, .ref x1)]) hx hb dX5_inputDiffers_41 hl (k := 3) rfl rfl (by decide) rfl (fun ls hl => ?_)
          refine lv_goto (tgt := 2) hx hb dX5_inputDiffers_44 (by decide) ?_
          exact k2 _ _ _ _ _ _ _ hJ I (lv_sub hl [2, 3, 0] rfl)
        · rw [if_neg c9] at hJ
          refine lv_iconst (v := 1) hx hb dX5_inputDiffers_39 (by decide) ?_
          exact rp_zret X hr (Or.inr rfl) hJ I dX5_inputDiffers_40
set_option maxHeartbeats 4000000 in
set_option maxRecDepth 100000 in
theorem c_Step_inputDiffers {l : Launch} {D : va_G} {tys : List (ClassId × FieldType)} {A : Nat → Prop} (hT : tys.map (fun q => q.2) = tyS) {N : Nat} {x0 : Nat} {x1 : Nat} {h : Hp} {res : (Int32 × Hp)} (hJ : J_Step_inputDiffers N x0 x1 h = some res) : Ct l D vwCl tys A yX5_inputDiffers (Cond.code yX5_inputDiffers cX5_inputDiffers 4 (some .boolean) :: wsG) rmX5_inputDiffers [.ref x0, .ref x1] h (some (.int res.1)) res.2 := by
  refine Met.ofW (cc := cX5_inputDiffers) (maxL := 4) (ret := (some .boolean)) (by decide) rfl ?_
  intro p e s m args below meth c s₁ B hml hv
  obtain ⟨rfl, hA, hR, hK, hN⟩ := hv
  have hr := B.returns
  have hts : ∀ w ∈ wsG, w.before [.ref x0, .ref x1].toArray s = true := fun w hw => atoms_spec (ws := Cond.code yX5_inputDiffers cX5_inputDiffers 4 (some .boolean) :: wsG) B.pre w (List.mem_cons_of_mem _ hw)
  have X : Cx p s m [.ref x0, .ref x1].toArray meth c D vwCl tys cX5_inputDiffers 4 RX5 wsG := ⟨⟨B.exec, B.bytes, hml, findClass_of_methodNamed B.named, hts⟩, hK, B.notSynchronized, hT⟩
  have hx := B.exec
  have hb := B.bytes
  have I : In D vwCl tys A s h s.heap [] := ⟨hR, va_S.rf, hA⟩
  have hl := lv_entry [.ref x0, .ref x1] (n := 4) (Nat.le_of_ble_eq_true rfl)
  rw [lg_entry_eq]
  generalize (lg_sl [.ref x0, .ref x1] ++ List.replicate (4 - (lg_sl [.ref x0, .ref x1]).length) Slot.unset).toArray = ls at hl ⊢
  have hl : lv_has ls 4 [(0, .ref x0), (1, .ref x1)] := hl
  have ho := X.1.2.2.2.1
  rw [J_Step_inputDiffers] at hJ
  refine lv_iconst (v := 0) hx hb dX5_inputDiffers_0 (by decide) ?_
  refine lv_istore_n (lv' := [(2, .int (0 : Int32)), (0, .ref x0), (1, .ref x1)]) hx hb dX5_inputDiffers_1 rfl hl (by decide) rfl (fun ls hl => ?_)
  exact w_Step_inputDiffers_2 X hN hr N _ _ _ _ _ _ _ hJ I (lv_sub hl [1, 2, 0] rfl)
def rmX5_whyDue : Room := { frames := 2, cells := 0, slots := 0, locals := 44 }
def J_Step_whyDue (N : Nat) (x0 : Nat) (x1 : Nat) (h : Hp) : Option (Int32 × Hp) :=
  (fI h 5 x0 8).bind fun v1 =>
  if v1 = 0 then
  (some ((1 : Int32), h))
  else
  ((isO h 5 x0).bind fun _ =>
  (J_Step_isToldOtherwise N x0 h).bind fun q2 =>
 if q2.1 = 0 then
  ((isO q2.2 5 x0).bind fun _ =>
  (J_Step_outputLacks N x0 x1 q2.2).bind fun q3 =>
 if q3.1 = 0 then
  ((isO q3.2 5 x0).bind fun _ =>
  (J_Step_inputDiffers N x0 x1 q3.2).bind fun q4 =>
 if q4.1 = 0 then
  (some ((0 : Int32), q4.2))
  else
  (some ((4 : Int32), q4.2)))
  else
  (some ((3 : Int32), q3.2)))
  else
  (some ((2 : Int32), q2.2)))
set_option maxHeartbeats 4000000 in
set_option maxRecDepth 100000 in
theorem c_Step_whyDue {l : Launch} {D : va_G} {tys : List (ClassId × FieldType)} {A : Nat → Prop} (hT : tys.map (fun q => q.2) = tyS) {N : Nat} {x0 : Nat} {x1 : Nat} {h : Hp} {res : (Int32 × Hp)} (hJ : J_Step_whyDue N x0 x1 h = some res) : Ct l D vwCl tys A yX5_whyDue (Cond.code yX5_whyDue cX5_whyDue 2 (some .int) :: wsG) rmX5_whyDue [.ref x0, .ref x1] h (some (.int res.1)) res.2 := by
  refine Met.ofW (cc := cX5_whyDue) (maxL := 2) (ret := (some .int)) (by decide) rfl ?_
  intro p e s m args below meth c s₁ B hml hv
  obtain ⟨rfl, hA, hR, hK, hN⟩ := hv
  have hr := B.returns
  have hts : ∀ w ∈ wsG, w.before [.ref x0, .ref x1].toArray s = true := fun w hw => atoms_spec (ws := Cond.code yX5_whyDue cX5_whyDue 2 (some .int) :: wsG) B.pre w (List.mem_cons_of_mem _ hw)
  have X : Cx p s m [.ref x0, .ref x1].toArray meth c D vwCl tys cX5_whyDue 2 RX5 wsG := ⟨⟨B.exec, B.bytes, hml, findClass_of_methodNamed B.named, hts⟩, hK, B.notSynchronized, hT⟩
  have hx := B.exec
  have hb := B.bytes
  have I : In D vwCl tys A s h s.heap [] := ⟨hR, va_S.rf, hA⟩
  have hl := lv_entry [.ref x0, .ref x1] (n := 2) (Nat.le_of_ble_eq_true rfl)
  rw [lg_entry_eq]
  generalize (lg_sl [.ref x0, .ref x1] ++ List.replicate (2 - (lg_sl [.ref x0, .ref x1]).length) Slot.unset).toArray = ls at hl ⊢
  have hl : lv_has ls 2 [(0, .ref x0), (1, .ref x1)] := hl
  have ho := X.1.2.2.2.1
  rw [J_Step_whyDue] at hJ
  refine lv_aload_n hx hb dX5_whyDue_0 rfl (lv_at hl 0 rfl) ?_
  obtain ⟨v1, e9, hJ⟩ := rp_b hJ
  obtain ⟨f9, g9, e9⟩ := fI_s e9
  refine rp_get X I g9 e9 rfl wiX5 (by decide) wm_83 dX5_whyDue_1 ?_
  refine lv_if_ne (tgt := 9) hx hb dX5_whyDue_4 (by decide) (fun c9 => ?_) (fun c9 => ?_)
  · rw [if_neg c9] at hJ
    refine lv_aload_n hx hb dX5_whyDue_9 rfl (lv_at hl 0 rfl) ?_
    obtain ⟨u9, i9, hJ⟩ := rp_b hJ
    obtain ⟨f9, i9⟩ := isO_s i9
    obtain ⟨q2, e9, hJ⟩ := rp_b hJ
    refine rp_callV (As := []) (rest := []) X hN I (c_Step_isToldOtherwise hT e9) (cwV 0 hts (gdV wm_260 wm_261 wm_3 wm_35 wm_262) rfl rfl rfl (by decide +kernel) ⟨Nat.le_of_ble_eq_true rfl, Nat.le_of_ble_eq_true rfl⟩) i9 rfl rfl hl.1 rfl (Nat.le_of_ble_eq_true rfl) dX5_whyDue_10 ⟨(Nat.le_of_ble_eq_true rfl), (Nat.le_of_ble_eq_true rfl)⟩ (fun H locs I => ?_)
    refine W.cs (cells' := 0) (slots' := 0) rfl rfl ?_
    refine lv_if_eq (tgt := 18) hx hb dX5_whyDue_13 (by decide) (fun c9 => ?_) (fun c9 => ?_)
    · rw [if_pos c9] at hJ
      refine lv_aload_n hx hb dX5_whyDue_18 rfl (lv_at hl 0 rfl) ?_
      refine lv_aload_n hx hb dX5_whyDue_19 rfl (lv_at hl 1 rfl) ?_
      obtain ⟨u9, i9, hJ⟩ := rp_b hJ
      obtain ⟨f9, i9⟩ := isO_s i9
      obtain ⟨q3, e9, hJ⟩ := rp_b hJ
      refine rp_callV (As := [.ref x1]) (rest := []) X hN I (c_Step_outputLacks hT e9) (cwV 1 hts (gdV wm_263 wm_264 wm_4 wm_35 wm_265) rfl rfl rfl (by decide +kernel) ⟨Nat.le_of_ble_eq_true rfl, Nat.le_of_ble_eq_true rfl⟩) i9 rfl rfl hl.1 rfl (Nat.le_of_ble_eq_true rfl) dX5_whyDue_20 ⟨(Nat.le_of_ble_eq_true rfl), (Nat.le_of_ble_eq_true rfl)⟩ (fun H locs I => ?_)
      refine W.cs (cells' := 0) (slots' := 0) rfl rfl ?_
      refine lv_if_eq (tgt := 28) hx hb dX5_whyDue_23 (by decide) (fun c9 => ?_) (fun c9 => ?_)
      · rw [if_pos c9] at hJ
        refine lv_aload_n hx hb dX5_whyDue_28 rfl (lv_at hl 0 rfl) ?_
        refine lv_aload_n hx hb dX5_whyDue_29 rfl (lv_at hl 1 rfl) ?_
        obtain ⟨u9, i9, hJ⟩ := rp_b hJ
        obtain ⟨f9, i9⟩ := isO_s i9
        obtain ⟨q4, e9, hJ⟩ := rp_b hJ
        refine rp_callV (As := [.ref x1]) (rest := []) X hN I (c_Step_inputDiffers hT e9) (cwV 1 hts (gdV wm_270 wm_271 wm_5 wm_35 wm_272) rfl rfl rfl (by decide +kernel) ⟨Nat.le_of_ble_eq_true rfl, Nat.le_of_ble_eq_true rfl⟩) i9 rfl rfl hl.1 rfl (Nat.le_of_ble_eq_true rfl) dX5_whyDue_30 ⟨(Nat.le_of_ble_eq_true rfl), (Nat.le_of_ble_eq_true rfl)⟩ (fun H locs I => ?_)
        refine W.cs (cells' := 0) (slots' := 0) rfl rfl ?_
        refine lv_if_eq (tgt := 40) hx hb dX5_whyDue_33 (by decide) (fun c9 => ?_) (fun c9 => ?_)
        · rw [if_pos c9] at hJ
          refine lv_iconst (v := 0) hx hb dX5_whyDue_40 (by decide) ?_
          exact rp_iret X hr hJ I dX5_whyDue_41
        · rw [if_neg c9] at hJ
          refine lv_iconst (v := 4) hx hb dX5_whyDue_36 (by decide) ?_
          refine lv_goto (tgt := 41) hx hb dX5_whyDue_37 (by decide) ?_
          exact rp_iret X hr hJ I dX5_whyDue_41
      · rw [if_neg c9] at hJ
        refine lv_iconst (v := 3) hx hb dX5_whyDue_26 (by decide) ?_
        exact rp_iret X hr hJ I dX5_whyDue_27
    · rw [if_neg c9] at hJ
      refine lv_iconst (v := 2) hx hb dX5_whyDue_16 (by decide) ?_
      exact rp_iret X hr hJ I dX5_whyDue_17
  · rw [if_pos c9] at hJ
    refine lv_iconst (v := 1) hx hb dX5_whyDue_7 (by decide) ?_
    exact rp_iret X hr hJ I dX5_whyDue_8
def rmX5_make : Room := { frames := 1, cells := 0, slots := 0, locals := 22 }
def J_Step_make_51 (N : Nat)  : Nat → Nat → Nat → Int32 → Int32 → Hp → Option (Unit × Hp)
  | 0, _, _, _, _, _ => none
  | n + 1, x0, x1, x2, x3, h =>
  (fI h 5 x0 7).bind fun v3 =>
  if v3 ≤ x3 then
  ((sZ h 5 x0 8 (1 : Int32)).bind fun h4 =>
  (fI h4 5 x0 1).bind fun v5 =>
  (sF h4 5 x0 9 (.int v5)).bind fun h6 =>
  (fI h6 5 x0 2).bind fun v7 =>
  (sF h6 5 x0 10 (.int v7)).bind fun h8 =>
  (fI h8 5 x0 5).bind fun v9 =>
  (sF h8 5 x0 11 (.int v9)).bind fun h10 =>
  (fI h10 5 x0 7).bind fun v11 =>
  (sF h10 5 x0 12 (.int v11)).bind fun h12 =>
  some ((), h12))
  else
  ((fR h 5 x0 6).bind fun v13 =>
  (aI h 0 v13 x3).bind fun v14 =>
  (fI h 5 x0 2).bind fun v15 =>
  (isO h 1 x1).bind fun _ =>
  (J_File_fill N x1 v14 ((x2 + x3) &&& v15) h).bind fun q16 =>
 (J_Step_make_51 N n) x0 x1 x2 (x3 + (1 : Int32)) q16.2)
def J_Step_make_7 (N : Nat)  : Nat → Nat → Nat → Int32 → Int32 → Hp → Option (Unit × Hp)
  | 0, _, _, _, _, _ => none
  | n + 1, x0, x1, x2, x3, h =>
  (fI h 5 x0 5).bind fun v2 =>
  if v2 ≤ x3 then
  (J_Step_make_51 N N x0 x1 x2 (0 : Int32) h)
  else
  ((fR h 5 x0 4).bind fun v17 =>
  (aI h 0 v17 x3).bind fun v18 =>
  (isO h 1 x1).bind fun _ =>
  (J_File_contentOf N x1 v18 h).bind fun q19 =>
 (fR q19.2 5 x0 13).bind fun v20 =>
  (sI q19.2 0 v20 x3 q19.1).bind fun h21 =>
  (J_Step_make_7 N n) x0 x1 ((x2 ^^^ q19.1) * (16777619 : Int32)) (x3 + (1 : Int32)) h21)
def J_Step_make (N : Nat) (x0 : Nat) (x1 : Nat) (h : Hp) : Option (Unit × Hp) :=
  (fI h 5 x0 1).bind fun v1 =>
  J_Step_make_7 N N x0 x1 v1 (0 : Int32) h
set_option maxHeartbeats 4000000 in
set_option maxRecDepth 100000 in
theorem w_Step_make_51 (X : Cx p s m args meth c D vwCl tys cX5_make 5 RX5 wsG) (hN : nwS s) (hr : meth.sig.returnType = none) {res : (Unit × Hp)} {N : Nat}   : ∀ (n : Nat) (x0 : Nat) (x1 : Nat) (x2 : Int32) (x3 : Int32)  (h : Hp) (H : Heap) (locs : List Loc) (ls : Array Slot), J_Step_make_51 N n x0 x1 x2 x3 h = some res → In D vwCl tys A s h H locs → lv_has ls 5 [(0, .ref x0), (1, .ref x1), (2, .int x2), (3, .int x3)] → W p l e rmX5_make s m args below meth c H locs 0 0 (MQ below (Qr D vwCl tys A none res.2) args s 0 0 A) (F0 m 51 ls []) := by
  have hx := X.1.1
  have hb := X.1.2.1
  have hml := X.1.2.2.1
  have ho := X.1.2.2.2.1
  have hts := X.1.2.2.2.2
  have hK := X.2.1
  have hT := X.2.2.2
  intro n
  induction n with
  | zero =>
    intro x0 x1 x2 x3  h H locs ls hJ I hl
    exact nomatch (show (none : Option (Unit × Hp)) = some res from hJ)
  | succ n k51 =>
    intro x0 x1 x2 x3  h H locs ls hJ I hl
    rw [J_Step_make_51] at hJ
    refine lv_iload_n hx hb dX5_make_51 rfl (lv_at hl 3 rfl) ?_
    refine lv_aload_n hx hb dX5_make_52 rfl (lv_at hl 0 rfl) ?_
    obtain ⟨v3, e9, hJ⟩ := rp_b hJ
    obtain ⟨f9, g9, e9⟩ := fI_s e9
    refine rp_get X I g9 e9 rfl wiX5 (by decide) wm_82 dX5_make_53 ?_
    refine lv_icmp_ge (tgt := 83) hx hb dX5_make_56 (by decide) (fun c9 => ?_) (fun c9 => ?_)
    · rw [if_pos c9] at hJ
      refine lv_aload_n hx hb dX5_make_83 rfl (lv_at hl 0 rfl) ?_
      refine lv_iconst (v := 1) hx hb dX5_make_84 (by decide) ?_
      obtain ⟨h4, e9, hJ⟩ := rp_b hJ
      obtain ⟨z9, e9⟩ := sZ_s e9
      refine rp_put (ty := .boolean) X I e9 rfl wiX5 tyX5 tyX5_ok nmX5 (by decide) wm_83 rfl (by decide +kernel) (rp_nz z9) (rp_fz z9) dX5_make_85 (fun H locs I => ?_)
      refine lv_aload_n hx hb dX5_make_88 rfl (lv_at hl 0 rfl) ?_
      refine lv_aload_n hx hb dX5_make_89 rfl (lv_at hl 0 rfl) ?_
      obtain ⟨v5, e9, hJ⟩ := rp_b hJ
      obtain ⟨f9, g9, e9⟩ := fI_s e9
      refine rp_get X I g9 e9 rfl wiX5 (by decide) wm_76 dX5_make_90 ?_
      obtain ⟨h6, e9, hJ⟩ := rp_b hJ
      refine rp_put (ty := .int) X I e9 rfl wiX5 tyX5 tyX5_ok nmX5 (by decide) wm_84 rfl (by decide +kernel) rfl rfl dX5_make_93 (fun H locs I => ?_)
      refine lv_aload_n hx hb dX5_make_96 rfl (lv_at hl 0 rfl) ?_
      refine lv_aload_n hx hb dX5_make_97 rfl (lv_at hl 0 rfl) ?_
      obtain ⟨v7, e9, hJ⟩ := rp_b hJ
      obtain ⟨f9, g9, e9⟩ := fI_s e9
      refine rp_get X I g9 e9 rfl wiX5 (by decide) wm_77 dX5_make_98 ?_
      obtain ⟨h8, e9, hJ⟩ := rp_b hJ
      refine rp_put (ty := .int) X I e9 rfl wiX5 tyX5 tyX5_ok nmX5 (by decide) wm_85 rfl (by decide +kernel) rfl rfl dX5_make_101 (fun H locs I => ?_)
      refine lv_aload_n hx hb dX5_make_104 rfl (lv_at hl 0 rfl) ?_
      refine lv_aload_n hx hb dX5_make_105 rfl (lv_at hl 0 rfl) ?_
      obtain ⟨v9, e9, hJ⟩ := rp_b hJ
      obtain ⟨f9, g9, e9⟩ := fI_s e9
      refine rp_get X I g9 e9 rfl wiX5 (by decide) wm_80 dX5_make_106 ?_
      obtain ⟨h10, e9, hJ⟩ := rp_b hJ
      refine rp_put (ty := .int) X I e9 rfl wiX5 tyX5 tyX5_ok nmX5 (by decide) wm_86 rfl (by decide +kernel) rfl rfl dX5_make_109 (fun H locs I => ?_)
      refine lv_aload_n hx hb dX5_make_112 rfl (lv_at hl 0 rfl) ?_
      refine lv_aload_n hx hb dX5_make_113 rfl (lv_at hl 0 rfl) ?_
      obtain ⟨v11, e9, hJ⟩ := rp_b hJ
      obtain ⟨f9, g9, e9⟩ := fI_s e9
      refine rp_get X I g9 e9 rfl wiX5 (by decide) wm_82 dX5_make_114 ?_
      obtain ⟨h12, e9, hJ⟩ := rp_b hJ
      refine rp_put (ty := .int) X I e9 rfl wiX5 tyX5 tyX5_ok nmX5 (by decide) wm_87 rfl (by decide +kernel) rfl rfl dX5_make_117 (fun H locs I => ?_)
      exact rp_vret X hr hJ I dX5_make_120
    · rw [if_neg c9] at hJ
      refine lv_aload_n hx hb dX5_make_59 rfl (lv_at hl 1 rfl) ?_
      refine lv_aload_n hx hb dX5_make_60 rfl (lv_at hl 0 rfl) ?_
      obtain ⟨v13, e9, hJ⟩ := rp_b hJ
      obtain ⟨f9, g9, e9⟩ := fR_s e9
      refine rp_get X I g9 e9 rfl wiX5 (by decide) wm_81 dX5_make_61 ?_
      refine lv_iload_n hx hb dX5_make_64 rfl (lv_at hl 3 rfl) ?_
      obtain ⟨v14, e9, hJ⟩ := rp_b hJ
      refine rp_iald X I e9 rfl dX5_make_65 ?_
      refine lv_iload_n hx hb dX5_make_66 rfl (lv_at hl 2 rfl) ?_
      refine lv_iload_n hx hb dX5_make_67 rfl (lv_at hl 3 rfl) ?_
      refine lv_iadd hx hb dX5_make_68 ?_
      refine lv_aload_n hx hb dX5_make_69 rfl (lv_at hl 0 rfl) ?_
      obtain ⟨v15, e9, hJ⟩ := rp_b hJ
      obtain ⟨f9, g9, e9⟩ := fI_s e9
      refine rp_get X I g9 e9 rfl wiX5 (by decide) wm_77 dX5_make_70 ?_
      refine lv_iand hx hb dX5_make_73 ?_
      obtain ⟨u9, i9, hJ⟩ := rp_b hJ
      obtain ⟨f9, i9⟩ := isO_s i9
      obtain ⟨q16, e9, hJ⟩ := rp_b hJ
      refine rp_callV (As := [.int v14, .int ((x2 + x3) &&& v15)]) (rest := []) X hN I (c_File_fill hT e9) (cwV 2 hts (gdV wm_426 wm_230 wm_231 wm_34 wm_232) rfl rfl rfl (by decide +kernel) ⟨Nat.le_of_ble_eq_true rfl, Nat.le_of_ble_eq_true rfl⟩) i9 rfl rfl hl.1 rfl (Nat.le_of_ble_eq_true rfl) dX5_make_74 ⟨(Nat.le_of_ble_eq_true rfl), (Nat.le_of_ble_eq_true rfl)⟩ (fun H locs I => ?_)
      refine W.cs (cells' := 0) (slots' := 0) rfl rfl ?_
      refine lv_iinc (v := (x3 + (1 : Int32))) (lv' := [(3, .int (x3 + (1 : Int32))), (0, .ref x0), (1, .ref x1), (2, .int x2)]) hx hb dX5_make_77 hl (k := 3) rfl rfl (by decide) rfl (fun ls hl => ?_)
      refine lv_goto (tgt := 51) hx hb dX5_make_80 (by decide) ?_
      exact k51 _ _ _ _ _ _ _ _ hJ I (lv_sub hl [1, 2, 3, 0] rfl)
set_option maxHeartbeats 4000000 in
set_option maxRecDepth 100000 in
theorem w_Step_make_7 (X : Cx p s m args meth c D vwCl tys cX5_make 5 RX5 wsG) (hN : nwS s) (hr : meth.sig.returnType = none) {res : (Unit × Hp)} {N : Nat}   : ∀ (n : Nat) (x0 : Nat) (x1 : Nat) (x2 : Int32) (x3 : Int32)  (h : Hp) (H : Heap) (locs : List Loc) (ls : Array Slot), J_Step_make_7 N n x0 x1 x2 x3 h = some res → In D vwCl tys A s h H locs → lv_has ls 5 [(0, .ref x0), (1, .ref x1), (2, .int x2), (3, .int x3)] → W p l e rmX5_make s m args below meth c H locs 0 0 (MQ below (Qr D vwCl tys A none res.2) args s 0 0 A) (F0 m 7 ls []) := by
  have hx := X.1.1
  have hb := X.1.2.1
  have hml := X.1.2.2.1
  have ho := X.1.2.2.2.1
  have hts := X.1.2.2.2.2
  have hK := X.2.1
  have hT := X.2.2.2
  intro n
  induction n with
  | zero =>
    intro x0 x1 x2 x3  h H locs ls hJ I hl
    exact nomatch (show (none : Option (Unit × Hp)) = some res from hJ)
  | succ n k7 =>
    intro x0 x1 x2 x3  h H locs ls hJ I hl
    rw [J_Step_make_7] at hJ
    refine lv_iload_n hx hb dX5_make_7 rfl (lv_at hl 3 rfl) ?_
    refine lv_aload_n hx hb dX5_make_8 rfl (lv_at hl 0 rfl) ?_
    obtain ⟨v2, e9, hJ⟩ := rp_b hJ
    obtain ⟨f9, g9, e9⟩ := fI_s e9
    refine rp_get X I g9 e9 rfl wiX5 (by decide) wm_80 dX5_make_9 ?_
    refine lv_icmp_ge (tgt := 49) hx hb dX5_make_12 (by decide) (fun c9 => ?_) (fun c9 => ?_)
    · rw [if_pos c9] at hJ
      refine lv_iconst (v := 0) hx hb dX5_make_49 (by decide) ?_
      refine lv_istore_n (lv' := [(3, .int (0 : Int32)), (0, .ref x0), (1, .ref x1), (2, .int x2)]) hx hb dX5_make_50 rfl hl (by decide) rfl (fun ls hl => ?_)
      exact w_Step_make_51 X hN hr N _ _ _ _ _ _ _ _ hJ I (lv_sub hl [1, 2, 3, 0] rfl)
    · rw [if_neg c9] at hJ
      refine lv_aload_n hx hb dX5_make_15 rfl (lv_at hl 1 rfl) ?_
      refine lv_aload_n hx hb dX5_make_16 rfl (lv_at hl 0 rfl) ?_
      obtain ⟨v17, e9, hJ⟩ := rp_b hJ
      obtain ⟨f9, g9, e9⟩ := fR_s e9
      refine rp_get X I g9 e9 rfl wiX5 (by decide) wm_79 dX5_make_17 ?_
      refine lv_iload_n hx hb dX5_make_20 rfl (lv_at hl 3 rfl) ?_
      obtain ⟨v18, e9, hJ⟩ := rp_b hJ
      refine rp_iald X I e9 rfl dX5_make_21 ?_
      obtain ⟨u9, i9, hJ⟩ := rp_b hJ
      obtain ⟨f9, i9⟩ := isO_s i9
      obtain ⟨q19, e9, hJ⟩ := rp_b hJ
      refine rp_callV (As := [.int v18]) (rest := []) X hN I (c_File_contentOf hT e9) (cwV 1 hts (gdV wm_273 wm_274 wm_275 wm_34 wm_276) rfl rfl rfl (by decide +kernel) ⟨Nat.le_of_ble_eq_true rfl, Nat.le_of_ble_eq_true rfl⟩) i9 rfl rfl hl.1 rfl (Nat.le_of_ble_eq_true rfl) dX5_make_22 ⟨(Nat.le_of_ble_eq_true rfl), (Nat.le_of_ble_eq_true rfl)⟩ (fun H locs I => ?_)
      refine W.cs (cells' := 0) (slots' := 0) rfl rfl ?_
      refine lv_istore (lv' := [(4, .int q19.1), (0, .ref x0), (1, .ref x1), (2, .int x2), (3, .int x3)]) hx hb dX5_make_25 hl (by decide) rfl (fun ls hl => ?_)
      refine lv_aload_n hx hb dX5_make_27 rfl (lv_at hl 1 rfl) ?_
      obtain ⟨v20, e9, hJ⟩ := rp_b hJ
      obtain ⟨f9, g9, e9⟩ := fR_s e9
      refine rp_get X I g9 e9 rfl wiX5 (by decide) wm_88 dX5_make_28 ?_
      refine lv_iload_n hx hb dX5_make_31 rfl (lv_at hl 4 rfl) ?_
      refine lv_iload hx hb dX5_make_32 (lv_at hl 0 rfl) ?_
      obtain ⟨h21, e9, hJ⟩ := rp_b hJ
      refine rp_iast X I e9 rfl dX5_make_34 (fun H locs I => ?_)
      refine lv_iload_n hx hb dX5_make_35 rfl (lv_at hl 3 rfl) ?_
      refine lv_iload hx hb dX5_make_36 (lv_at hl 0 rfl) ?_
      refine lv_ixor hx hb dX5_make_38 ?_
      refine lv_ldc (v := 16777619) hx hb ho (hts _ wm_425) dX5_make_39 ?_
      refine lv_imul hx hb dX5_make_41 ?_
      refine lv_istore_n (lv' := [(2, .int ((x2 ^^^ q19.1) * (16777619 : Int32))), (4, .int q19.1), (0, .ref x0), (1, .ref x1), (3, .int x3)]) hx hb dX5_make_42 rfl hl (by decide) rfl (fun ls hl => ?_)
      refine lv_iinc (v := (x3 + (1 : Int32))) (lv' := [(3, .int (x3 + (1 : Int32))), (2, .int ((x2 ^^^ q19.1) * (16777619 : Int32))), (4, .int q19.1), (0, .ref x0), (1, .ref x1)]) hx hb dX5_make_43 hl (k := 4) rfl rfl (by decide) rfl (fun ls hl => ?_)
      refine lv_goto (tgt := 7) hx hb dX5_make_46 (by decide) ?_
      exact k7 _ _ _ _ _ _ _ _ hJ I (lv_sub hl [3, 4, 1, 0] rfl)
set_option maxHeartbeats 4000000 in
set_option maxRecDepth 100000 in
theorem c_Step_make {l : Launch} {D : va_G} {tys : List (ClassId × FieldType)} {A : Nat → Prop} (hT : tys.map (fun q => q.2) = tyS) {N : Nat} {x0 : Nat} {x1 : Nat} {h : Hp} {res : (Unit × Hp)} (hJ : J_Step_make N x0 x1 h = some res) : Ct l D vwCl tys A yX5_make (Cond.code yX5_make cX5_make 5 none :: wsG) rmX5_make [.ref x0, .ref x1] h none res.2 := by
  refine Met.ofW (cc := cX5_make) (maxL := 5) (ret := none) (by decide) rfl ?_
  intro p e s m args below meth c s₁ B hml hv
  obtain ⟨rfl, hA, hR, hK, hN⟩ := hv
  have hr := B.returns
  have hts : ∀ w ∈ wsG, w.before [.ref x0, .ref x1].toArray s = true := fun w hw => atoms_spec (ws := Cond.code yX5_make cX5_make 5 none :: wsG) B.pre w (List.mem_cons_of_mem _ hw)
  have X : Cx p s m [.ref x0, .ref x1].toArray meth c D vwCl tys cX5_make 5 RX5 wsG := ⟨⟨B.exec, B.bytes, hml, findClass_of_methodNamed B.named, hts⟩, hK, B.notSynchronized, hT⟩
  have hx := B.exec
  have hb := B.bytes
  have I : In D vwCl tys A s h s.heap [] := ⟨hR, va_S.rf, hA⟩
  have hl := lv_entry [.ref x0, .ref x1] (n := 5) (Nat.le_of_ble_eq_true rfl)
  rw [lg_entry_eq]
  generalize (lg_sl [.ref x0, .ref x1] ++ List.replicate (5 - (lg_sl [.ref x0, .ref x1]).length) Slot.unset).toArray = ls at hl ⊢
  have hl : lv_has ls 5 [(0, .ref x0), (1, .ref x1)] := hl
  have ho := X.1.2.2.2.1
  rw [J_Step_make] at hJ
  refine lv_aload_n hx hb dX5_make_0 rfl (lv_at hl 0 rfl) ?_
  obtain ⟨v1, e9, hJ⟩ := rp_b hJ
  obtain ⟨f9, g9, e9⟩ := fI_s e9
  refine rp_get X I g9 e9 rfl wiX5 (by decide) wm_76 dX5_make_1 ?_
  refine lv_istore_n (lv' := [(2, .int v1), (0, .ref x0), (1, .ref x1)]) hx hb dX5_make_4 rfl hl (by decide) rfl (fun ls hl => ?_)
  refine lv_iconst (v := 0) hx hb dX5_make_5 (by decide) ?_
  refine lv_istore_n (lv' := [(3, .int (0 : Int32)), (2, .int v1), (0, .ref x0), (1, .ref x1)]) hx hb dX5_make_6 rfl hl (by decide) rfl (fun ls hl => ?_)
  exact w_Step_make_7 X hN hr N _ _ _ _ _ _ _ _ hJ I (lv_sub hl [2, 3, 1, 0] rfl)
end GW
end
section
section GW
variable {p : Program} {l : Launch} {e : Env} {s : State} {m : MethodId} {args : Array Value} {below : List Frame} {meth : Method} {c : Code} {D : va_G} {tys : List (ClassId × FieldType)} {A : Nat → Prop}
def rmX2_init : Room := { frames := 1, cells := 3, slots := 120, locals := 20 }
def J_Plan_init (N : Nat) (x0 : Nat) (h : Hp) : Option (Unit × Hp) :=
  (nJ_ h 2 (40 : Int32)).bind fun q1 =>
  (sF q1.2 2 x0 0 (.ref q1.1)).bind fun h2 =>
  (nI_ h2 0 (40 : Int32)).bind fun q3 =>
  (sF q3.2 2 x0 1 (.ref q3.1)).bind fun h4 =>
  (nI_ h4 0 (40 : Int32)).bind fun q5 =>
  (sF q5.2 2 x0 3 (.ref q5.1)).bind fun h6 =>
  some ((), h6)
set_option maxHeartbeats 4000000 in
set_option maxRecDepth 100000 in
theorem c_Plan_init {l : Launch} {D : va_G} {tys : List (ClassId × FieldType)} {A : Nat → Prop} (hT : tys.map (fun q => q.2) = tyS) {N : Nat} {x0 : Nat} {h : Hp} {res : (Unit × Hp)} (hJ : J_Plan_init N x0 h = some res) : Ct l D vwCl tys A yX2_init (Cond.code yX2_init cX2_init 1 none :: wsG) rmX2_init [.ref x0] h none res.2 := by
  refine Met.ofW (cc := cX2_init) (maxL := 1) (ret := none) (by decide) rfl ?_
  intro p e s m args below meth c s₁ B hml hv
  obtain ⟨rfl, hA, hR, hK, hN⟩ := hv
  have hr := B.returns
  have hts : ∀ w ∈ wsG, w.before [.ref x0].toArray s = true := fun w hw => atoms_spec (ws := Cond.code yX2_init cX2_init 1 none :: wsG) B.pre w (List.mem_cons_of_mem _ hw)
  have X : Cx p s m [.ref x0].toArray meth c D vwCl tys cX2_init 1 RX2 wsG := ⟨⟨B.exec, B.bytes, hml, findClass_of_methodNamed B.named, hts⟩, hK, B.notSynchronized, hT⟩
  have hinit : meth.name = "<init>" := (name_of_methodNamed B.named B.method).1
  have hx := B.exec
  have hb := B.bytes
  have I : In D vwCl tys A s h s.heap [] := ⟨hR, va_S.rf, hA⟩
  have hl := lv_entry [.ref x0] (n := 1) (Nat.le_of_ble_eq_true rfl)
  rw [lg_entry_eq]
  generalize (lg_sl [.ref x0] ++ List.replicate (1 - (lg_sl [.ref x0]).length) Slot.unset).toArray = ls at hl ⊢
  have hl : lv_has ls 1 [(0, .ref x0)] := hl
  have ho := X.1.2.2.2.1
  rw [J_Plan_init] at hJ
  refine lv_aload_n hx hb dX2_init_0 rfl (lv_at hl 0 rfl) ?_
  refine W.objInit hx hb ho (hts _ wm_107) (hts _ wm_54) (hts _ wm_55) rfl (by rw [hml]; exact hl.1) rfl dX2_init_1 (Nat.le_of_ble_eq_true rfl) (Nat.le_of_ble_eq_true rfl) ?_
  refine W.eq (g2 := F0 m 4 ls []) rfl ?_
  refine lv_aload_n hx hb dX2_init_4 rfl (lv_at hl 0 rfl) ?_
  refine lv_bipush (v := 40) hx hb dX2_init_5 (by decide) ?_
  obtain ⟨q1, e9, hJ⟩ := rp_b hJ
  refine rp_newJ (K := 40) (ty := .long) X I e9 (by decide) rfl rfl (by decide) wm_118 rfl (fun _ z => z) (Nat.le_of_ble_eq_true rfl) (Nat.le_of_ble_eq_true rfl) dX2_init_7 (fun H I => ?_)
  obtain ⟨h2, e9, hJ⟩ := rp_b hJ
  refine rp_putF (ty := (.array .long)) X I e9 rfl wiX2 tyX2 tyX2_ok nmX2 (by decide) wm_108 rfl hinit rfl (by decide +kernel) rfl rfl dX2_init_9 (fun H locs I => ?_)
  refine lv_aload_n hx hb dX2_init_12 rfl (lv_at hl 0 rfl) ?_
  refine lv_bipush (v := 40) hx hb dX2_init_13 (by decide) ?_
  obtain ⟨q3, e9, hJ⟩ := rp_b hJ
  refine rp_newI (K := 40) (ty := .int) X I e9 (by decide) rfl rfl (by decide) wm_68 rfl (fun _ z => z) (Nat.le_of_ble_eq_true rfl) (Nat.le_of_ble_eq_true rfl) dX2_init_15 (fun H I => ?_)
  obtain ⟨h4, e9, hJ⟩ := rp_b hJ
  refine rp_putF (ty := (.array .int)) X I e9 rfl wiX2 tyX2 tyX2_ok nmX2 (by decide) wm_109 rfl hinit rfl (by decide +kernel) rfl rfl dX2_init_17 (fun H locs I => ?_)
  refine lv_aload_n hx hb dX2_init_20 rfl (lv_at hl 0 rfl) ?_
  refine lv_bipush (v := 40) hx hb dX2_init_21 (by decide) ?_
  obtain ⟨q5, e9, hJ⟩ := rp_b hJ
  refine rp_newI (K := 40) (ty := .int) X I e9 (by decide) rfl rfl (by decide) wm_68 rfl (fun _ z => z) (Nat.le_of_ble_eq_true rfl) (Nat.le_of_ble_eq_true rfl) dX2_init_23 (fun H I => ?_)
  obtain ⟨h6, e9, hJ⟩ := rp_b hJ
  refine rp_putF (ty := (.array .int)) X I e9 rfl wiX2 tyX2 tyX2_ok nmX2 (by decide) wm_111 rfl hinit rfl (by decide +kernel) rfl rfl dX2_init_25 (fun H locs I => ?_)
  refine W.widen (k := 3) (n := 120) (Nat.le_of_ble_eq_true rfl) (Nat.le_of_ble_eq_true rfl) ?_
  exact rp_vret X hr hJ I dX2_init_28
def rmX2_findNeeded : Room := { frames := 2, cells := 0, slots := 0, locals := 46 }
def J_Plan_findNeeded_75 (N : Nat) (r54 : Nat → Int32 → Int32 → Hp → Option (Unit × Hp)) : Nat → Nat → Int32 → Int64 → Int32 → Hp → Option (Unit × Hp)
  | 0, _, _, _, _, _ => none
  | n + 1, x0, x5, x6, x8, h =>
  if (40 : Int32) ≤ x8 then
  ((fJ h 2 x0 4).bind fun v4 =>
  if (lg_cmp v4 x6) = 0 then
  (r54 x0 (0 : Int32) (x5 + (1 : Int32)) h)
  else
  (r54 x0 (1 : Int32) (x5 + (1 : Int32)) h))
  else
  ((fJ h 2 x0 4).bind fun v5 =>
  (J_Desk_isIn N v5 x8 h).bind fun q6 =>
 if q6.1 = 0 then
  ((J_Plan_findNeeded_75 N r54 n) x0 x5 x6 (x8 + (1 : Int32)) q6.2)
  else
  ((fJ q6.2 2 x0 4).bind fun v7 =>
  (fR q6.2 2 x0 0).bind fun v8 =>
  (aJ q6.2 2 v8 x8).bind fun v9 =>
  (sF q6.2 2 x0 4 (.long (v7 ||| v9))).bind fun h10 =>
  (J_Plan_findNeeded_75 N r54 n) x0 x5 x6 (x8 + (1 : Int32)) h10))
def J_Plan_findNeeded_54 (N : Nat)  : Nat → Nat → Int32 → Int32 → Hp → Option (Unit × Hp)
  | 0, _, _, _, _ => none
  | n + 1, x0, x4, x5, h =>
  if x4 = 0 then
  (some ((), h))
  else
  (if (40 : Int32) ≤ x5 then
  (some ((), h))
  else
  ((fJ h 2 x0 4).bind fun v3 =>
  J_Plan_findNeeded_75 N (J_Plan_findNeeded_54 N n) N x0 x5 v3 (0 : Int32) h))
def J_Plan_findNeeded_3 (N : Nat)  : Nat → Nat → Int32 → Nat → Nat → Int32 → Hp → Option (Unit × Hp)
  | 0, _, _, _, _, _, _ => none
  | n + 1, x0, x1, x2, x3, x4, h =>
  if (40 : Int32) ≤ x4 then
  (if x1 = (-1 : Int32) then
  ((sF h 2 x0 4 (.long (0 : Int64))).bind fun h11 =>
  J_Plan_findNeeded_54 N N x0 (1 : Int32) (0 : Int32) h11)
  else
  ((J_Desk_bit N x1 h).bind fun q1 =>
 (sF q1.2 2 x0 4 (.long q1.1)).bind fun h2 =>
  J_Plan_findNeeded_54 N N x0 (1 : Int32) (0 : Int32) h2))
  else
  ((fR h 2 x0 0).bind fun v12 =>
  (aR h 3 x2 x4).bind fun v13 =>
  (isO h 5 v13).bind fun _ =>
  (J_Step_waitsFor N v13 x3 h).bind fun q14 =>
 (sJ q14.2 2 v12 x4 q14.1).bind fun h15 =>
  (J_Plan_findNeeded_3 N n) x0 x1 x2 x3 (x4 + (1 : Int32)) h15)
def J_Plan_findNeeded (N : Nat) (x0 : Nat) (x1 : Int32) (x2 : Nat) (x3 : Nat) (h : Hp) : Option (Unit × Hp) :=
  J_Plan_findNeeded_3 N N x0 x1 x2 x3 (0 : Int32) h
set_option maxHeartbeats 4000000 in
set_option maxRecDepth 100000 in
theorem w_Plan_findNeeded_75 (X : Cx p s m args meth c D vwCl tys cX2_findNeeded 9 RX2 wsG) (hN : nwS s) (hr : meth.sig.returnType = none) {res : (Unit × Hp)} {N : Nat} {r54 : Nat → Int32 → Int32 → Hp → Option (Unit × Hp)} (k54 : ∀ (x0 : Nat) (x4 : Int32) (x5 : Int32) (h : Hp) (H : Heap) (locs : List Loc) (ls : Array Slot), r54 x0 x4 x5 h = some res → In D vwCl tys A s h H locs → lv_has ls 9 [(0, .ref x0), (4, .int x4), (5, .int x5)] → W p l e rmX2_findNeeded s m args below meth c H locs 0 0 (MQ below (Qr D vwCl tys A none res.2) args s 0 0 A) (F0 m 54 ls [])) : ∀ (n : Nat) (x0 : Nat) (x5 : Int32) (x6 : Int64) (x8 : Int32)  (h : Hp) (H : Heap) (locs : List Loc) (ls : Array Slot), J_Plan_findNeeded_75 N r54 n x0 x5 x6 x8 h = some res → In D vwCl tys A s h H locs → lv_has ls 9 [(0, .ref x0), (5, .int x5), (6, .long x6), (8, .int x8)] → W p l e rmX2_findNeeded s m args below meth c H locs 0 0 (MQ below (Qr D vwCl tys A none res.2) args s 0 0 A) (F0 m 75 ls []) := by
  have hx := X.1.1
  have hb := X.1.2.1
  have hml := X.1.2.2.1
  have ho := X.1.2.2.2.1
  have hts := X.1.2.2.2.2
  have hK := X.2.1
  have hT := X.2.2.2
  intro n
  induction n with
  | zero =>
    intro x0 x5 x6 x8  h H locs ls hJ I hl
    exact nomatch (show (none : Option (Unit × Hp)) = some res from hJ)
  | succ n k75 =>
    intro x0 x5 x6 x8  h H locs ls hJ I hl
    rw [J_Plan_findNeeded_75] at hJ
    refine lv_iload hx hb dX2_findNeeded_75 (lv_at hl 3 rfl) ?_
    refine lv_bipush (v := 40) hx hb dX2_findNeeded_77 (by decide) ?_
    refine lv_icmp_ge (tgt := 116) hx hb dX2_findNeeded_79 (by decide) (fun c9 => ?_) (fun c9 => ?_)
    · rw [if_pos c9] at hJ
      refine lv_aload_n hx hb dX2_findNeeded_116 rfl (lv_at hl 0 rfl) ?_
      obtain ⟨v4, e9, hJ⟩ := rp_b hJ
      obtain ⟨f9, g9, e9⟩ := fJ_s e9
      refine rp_get X I g9 e9 rfl wiX2 (by decide) wm_112 dX2_findNeeded_117 ?_
      refine lv_lload hx hb dX2_findNeeded_120 (lv_at hl 2 rfl) ?_
      refine W.lcmp hx hb dX2_findNeeded_122 ?_
      refine lv_if_eq (tgt := 130) hx hb dX2_findNeeded_123 (by decide) (fun c9 => ?_) (fun c9 => ?_)
      · rw [if_pos c9] at hJ
        refine lv_iconst (v := 0) hx hb dX2_findNeeded_130 (by decide) ?_
        refine lv_istore (lv' := [(4, .int (0 : Int32)), (0, .ref x0), (5, .int x5), (6, .long x6), (8, .int x8)]) hx hb dX2_findNeeded_131 hl (by decide) rfl (fun ls hl => ?_)
        refine lv_iinc (v := (x5 + (1 : Int32))) (lv' := [(5, .int (x5 + (1 : Int32))), (4, .int (0 : Int32)), (0, .ref x0), (6, .long x6), (8, .int x8)]) hx hb dX2_findNeeded_133 hl (k := 2) rfl rfl (by decide) rfl (fun ls hl => ?_)
        refine lv_goto (tgt := 54) hx hb dX2_findNeeded_136 (by decide) ?_
        exact k54 _ _ _ _ _ _ _ hJ I (lv_sub hl [2, 1, 0] rfl)
      · rw [if_neg c9] at hJ
        refine lv_iconst (v := 1) hx hb dX2_findNeeded_126 (by decide) ?_
        refine lv_goto (tgt := 131) hx hb dX2_findNeeded_127 (by decide) ?_
        refine lv_istore (lv' := [(4, .int (1 : Int32)), (0, .ref x0), (5, .int x5), (6, .long x6), (8, .int x8)]) hx hb dX2_findNeeded_131 hl (by decide) rfl (fun ls hl => ?_)
        refine lv_iinc (v := (x5 + (1 : Int32))) (lv' := [(5, .int (x5 + (1 : Int32))), (4, .int (1 : Int32)), (0, .ref x0), (6, .long x6), (8, .int x8)]) hx hb dX2_findNeeded_133 hl (k := 2) rfl rfl (by decide) rfl (fun ls hl => ?_)
        refine lv_goto (tgt := 54) hx hb dX2_findNeeded_136 (by decide) ?_
        exact k54 _ _ _ _ _ _ _ hJ I (lv_sub hl [2, 1, 0] rfl)
    · rw [if_neg c9] at hJ
      refine lv_aload_n hx hb dX2_findNeeded_82 rfl (lv_at hl 0 rfl) ?_
      obtain ⟨v5, e9, hJ⟩ := rp_b hJ
      obtain ⟨f9, g9, e9⟩ := fJ_s e9
      refine rp_get X I g9 e9 rfl wiX2 (by decide) wm_112 dX2_findNeeded_83 ?_
      refine lv_iload hx hb dX2_findNeeded_86 (lv_at hl 3 rfl) ?_
      obtain ⟨q6, e9, hJ⟩ := rp_b hJ
      refine rp_callSN (As := [.long v5, .int x8]) (rest := []) X hN I (c_Desk_isIn hT e9) ⟨(va_cnB (host := "BuildDesk") 2 hts (gdC wm_342) rfl rfl rfl (hN.1 _ (by decide +kernel)) (hts _ wm_33) (by decide +kernel) ⟨Nat.le_of_ble_eq_true rfl, Nat.le_of_ble_eq_true rfl⟩), hts _ wm_341, trivial⟩ rfl hl.1 rfl (Nat.le_of_ble_eq_true rfl) dX2_findNeeded_88 ⟨(Nat.le_of_ble_eq_true rfl), (Nat.le_of_ble_eq_true rfl)⟩ (fun H locs I => ?_)
      refine W.cs (cells' := 0) (slots' := 0) rfl rfl ?_
      refine lv_if_eq (tgt := 110) hx hb dX2_findNeeded_91 (by decide) (fun c9 => ?_) (fun c9 => ?_)
      · rw [if_pos c9] at hJ
        refine lv_iinc (v := (x8 + (1 : Int32))) (lv' := [(8, .int (x8 + (1 : Int32))), (0, .ref x0), (5, .int x5), (6, .long x6)]) hx hb dX2_findNeeded_110 hl (k := 3) rfl rfl (by decide) rfl (fun ls hl => ?_)
        refine lv_goto (tgt := 75) hx hb dX2_findNeeded_113 (by decide) ?_
        exact k75 _ _ _ _ _ _ _ _ hJ I (lv_sub hl [1, 2, 3, 0] rfl)
      · rw [if_neg c9] at hJ
        refine lv_aload_n hx hb dX2_findNeeded_94 rfl (lv_at hl 0 rfl) ?_
        refine lv_dup hx hb dX2_findNeeded_95 rfl ?_
        obtain ⟨v7, e9, hJ⟩ := rp_b hJ
        obtain ⟨f9, g9, e9⟩ := fJ_s e9
        refine rp_get X I g9 e9 rfl wiX2 (by decide) wm_112 dX2_findNeeded_96 ?_
        refine lv_aload_n hx hb dX2_findNeeded_99 rfl (lv_at hl 0 rfl) ?_
        obtain ⟨v8, e9, hJ⟩ := rp_b hJ
        obtain ⟨f9, g9, e9⟩ := fR_s e9
        refine rp_get X I g9 e9 rfl wiX2 (by decide) wm_108 dX2_findNeeded_100 ?_
        refine lv_iload hx hb dX2_findNeeded_103 (lv_at hl 3 rfl) ?_
        obtain ⟨v9, e9, hJ⟩ := rp_b hJ
        refine rp_lald X I e9 rfl dX2_findNeeded_105 ?_
        refine lv_lor hx hb dX2_findNeeded_106 ?_
        obtain ⟨h10, e9, hJ⟩ := rp_b hJ
        refine rp_put (ty := .long) X I e9 rfl wiX2 tyX2 tyX2_ok nmX2 (by decide) wm_112 rfl (by decide +kernel) rfl rfl dX2_findNeeded_107 (fun H locs I => ?_)
        refine lv_iinc (v := (x8 + (1 : Int32))) (lv' := [(8, .int (x8 + (1 : Int32))), (0, .ref x0), (5, .int x5), (6, .long x6)]) hx hb dX2_findNeeded_110 hl (k := 3) rfl rfl (by decide) rfl (fun ls hl => ?_)
        refine lv_goto (tgt := 75) hx hb dX2_findNeeded_113 (by decide) ?_
        exact k75 _ _ _ _ _ _ _ _ hJ I (lv_sub hl [1, 2, 3, 0] rfl)
set_option maxHeartbeats 4000000 in
set_option maxRecDepth 100000 in
theorem w_Plan_findNeeded_54 (X : Cx p s m args meth c D vwCl tys cX2_findNeeded 9 RX2 wsG) (hN : nwS s) (hr : meth.sig.returnType = none) {res : (Unit × Hp)} {N : Nat}   : ∀ (n : Nat) (x0 : Nat) (x4 : Int32) (x5 : Int32)  (h : Hp) (H : Heap) (locs : List Loc) (ls : Array Slot), J_Plan_findNeeded_54 N n x0 x4 x5 h = some res → In D vwCl tys A s h H locs → lv_has ls 9 [(0, .ref x0), (4, .int x4), (5, .int x5)] → W p l e rmX2_findNeeded s m args below meth c H locs 0 0 (MQ below (Qr D vwCl tys A none res.2) args s 0 0 A) (F0 m 54 ls []) := by
  have hx := X.1.1
  have hb := X.1.2.1
  have hml := X.1.2.2.1
  have ho := X.1.2.2.2.1
  have hts := X.1.2.2.2.2
  have hK := X.2.1
  have hT := X.2.2.2
  intro n
  induction n with
  | zero =>
    intro x0 x4 x5  h H locs ls hJ I hl
    exact nomatch (show (none : Option (Unit × Hp)) = some res from hJ)
  | succ n k54 =>
    intro x0 x4 x5  h H locs ls hJ I hl
    rw [J_Plan_findNeeded_54] at hJ
    refine lv_iload hx hb dX2_findNeeded_54 (lv_at hl 1 rfl) ?_
    refine lv_if_eq (tgt := 139) hx hb dX2_findNeeded_56 (by decide) (fun c9 => ?_) (fun c9 => ?_)
    · rw [if_pos c9] at hJ
      exact rp_vret X hr hJ I dX2_findNeeded_139
    · rw [if_neg c9] at hJ
      refine lv_iload hx hb dX2_findNeeded_59 (lv_at hl 2 rfl) ?_
      refine lv_bipush (v := 40) hx hb dX2_findNeeded_61 (by decide) ?_
      refine lv_icmp_ge (tgt := 139) hx hb dX2_findNeeded_63 (by decide) (fun c9 => ?_) (fun c9 => ?_)
      · rw [if_pos c9] at hJ
        exact rp_vret X hr hJ I dX2_findNeeded_139
      · rw [if_neg c9] at hJ
        refine lv_aload_n hx hb dX2_findNeeded_66 rfl (lv_at hl 0 rfl) ?_
        obtain ⟨v3, e9, hJ⟩ := rp_b hJ
        obtain ⟨f9, g9, e9⟩ := fJ_s e9
        refine rp_get X I g9 e9 rfl wiX2 (by decide) wm_112 dX2_findNeeded_67 ?_
        refine lv_lstore (lv' := [(6, .long v3), (0, .ref x0), (4, .int x4), (5, .int x5)]) hx hb dX2_findNeeded_70 hl (by decide) rfl (fun ls hl => ?_)
        refine lv_iconst (v := 0) hx hb dX2_findNeeded_72 (by decide) ?_
        refine lv_istore (lv' := [(8, .int (0 : Int32)), (6, .long v3), (0, .ref x0), (4, .int x4), (5, .int x5)]) hx hb dX2_findNeeded_73 hl (by decide) rfl (fun ls hl => ?_)
        exact w_Plan_findNeeded_75 X hN hr k54 N _ _ _ _ _ _ _ _ hJ I (lv_sub hl [2, 4, 1, 0] rfl)
set_option maxHeartbeats 4000000 in
set_option maxRecDepth 100000 in
theorem w_Plan_findNeeded_3 (X : Cx p s m args meth c D vwCl tys cX2_findNeeded 9 RX2 wsG) (hN : nwS s) (hr : meth.sig.returnType = none) {res : (Unit × Hp)} {N : Nat}   : ∀ (n : Nat) (x0 : Nat) (x1 : Int32) (x2 : Nat) (x3 : Nat) (x4 : Int32)  (h : Hp) (H : Heap) (locs : List Loc) (ls : Array Slot), J_Plan_findNeeded_3 N n x0 x1 x2 x3 x4 h = some res → In D vwCl tys A s h H locs → lv_has ls 9 [(0, .ref x0), (1, .int x1), (2, .ref x2), (3, .ref x3), (4, .int x4)] → W p l e rmX2_findNeeded s m args below meth c H locs 0 0 (MQ below (Qr D vwCl tys A none res.2) args s 0 0 A) (F0 m 3 ls []) := by
  have hx := X.1.1
  have hb := X.1.2.1
  have hml := X.1.2.2.1
  have ho := X.1.2.2.2.1
  have hts := X.1.2.2.2.2
  have hK := X.2.1
  have hT := X.2.2.2
  intro n
  induction n with
  | zero =>
    intro x0 x1 x2 x3 x4  h H locs ls hJ I hl
    exact nomatch (show (none : Option (Unit × Hp)) = some res from hJ)
  | succ n k3 =>
    intro x0 x1 x2 x3 x4  h H locs ls hJ I hl
    rw [J_Plan_findNeeded_3] at hJ
    refine lv_iload hx hb dX2_findNeeded_3 (lv_at hl 4 rfl) ?_
    refine lv_bipush (v := 40) hx hb dX2_findNeeded_5 (by decide) ?_
    refine lv_icmp_ge (tgt := 31) hx hb dX2_findNeeded_7 (by decide) (fun c9 => ?_) (fun c9 => ?_)
    · rw [if_pos c9] at hJ
      refine lv_aload_n hx hb dX2_findNeeded_31 rfl (lv_at hl 0 rfl) ?_
      refine lv_iload_n hx hb dX2_findNeeded_32 rfl (lv_at hl 1 rfl) ?_
      refine lv_iconst (v := -1) hx hb dX2_findNeeded_33 (by decide) ?_
      refine lv_icmp_ne (tgt := 41) hx hb dX2_findNeeded_34 (by decide) (fun c9 => ?_) (fun c9 => ?_)
      · rw [if_neg c9] at hJ
        refine lv_iload_n hx hb dX2_findNeeded_41 rfl (lv_at hl 1 rfl) ?_
        obtain ⟨q1, e9, hJ⟩ := rp_b hJ
        refine rp_callSN (As := [.int x1]) (rest := [.ref x0]) X hN I (c_Desk_bit hT e9) ⟨(va_cnB (host := "BuildDesk") 1 hts (gdC wm_340) rfl rfl rfl (hN.1 _ (by decide +kernel)) (hts _ wm_33) (by decide +kernel) ⟨Nat.le_of_ble_eq_true rfl, Nat.le_of_ble_eq_true rfl⟩), hts _ wm_339, trivial⟩ rfl hl.1 rfl (Nat.le_of_ble_eq_true rfl) dX2_findNeeded_42 ⟨(Nat.le_of_ble_eq_true rfl), (Nat.le_of_ble_eq_true rfl)⟩ (fun H locs I => ?_)
        refine W.cs (cells' := 0) (slots' := 0) rfl rfl ?_
        obtain ⟨h2, e9, hJ⟩ := rp_b hJ
        refine rp_put (ty := .long) X I e9 rfl wiX2 tyX2 tyX2_ok nmX2 (by decide) wm_112 rfl (by decide +kernel) rfl rfl dX2_findNeeded_45 (fun H locs I => ?_)
        refine lv_iconst (v := 1) hx hb dX2_findNeeded_48 (by decide) ?_
        refine lv_istore (lv' := [(4, .int (1 : Int32)), (0, .ref x0), (1, .int x1), (2, .ref x2), (3, .ref x3)]) hx hb dX2_findNeeded_49 hl (by decide) rfl (fun ls hl => ?_)
        refine lv_iconst (v := 0) hx hb dX2_findNeeded_51 (by decide) ?_
        refine lv_istore (lv' := [(5, .int (0 : Int32)), (4, .int (1 : Int32)), (0, .ref x0), (1, .int x1), (2, .ref x2), (3, .ref x3)]) hx hb dX2_findNeeded_52 hl (by decide) rfl (fun ls hl => ?_)
        exact w_Plan_findNeeded_54 X hN hr N _ _ _ _ _ _ _ hJ I (lv_sub hl [2, 1, 0] rfl)
      · rw [if_pos c9] at hJ
        refine lv_lconst (v := 0) hx hb dX2_findNeeded_37 (by decide) ?_
        refine lv_goto (tgt := 45) hx hb dX2_findNeeded_38 (by decide) ?_
        obtain ⟨h11, e9, hJ⟩ := rp_b hJ
        refine rp_put (ty := .long) X I e9 rfl wiX2 tyX2 tyX2_ok nmX2 (by decide) wm_112 rfl (by decide +kernel) rfl rfl dX2_findNeeded_45 (fun H locs I => ?_)
        refine lv_iconst (v := 1) hx hb dX2_findNeeded_48 (by decide) ?_
        refine lv_istore (lv' := [(4, .int (1 : Int32)), (0, .ref x0), (1, .int x1), (2, .ref x2), (3, .ref x3)]) hx hb dX2_findNeeded_49 hl (by decide) rfl (fun ls hl => ?_)
        refine lv_iconst (v := 0) hx hb dX2_findNeeded_51 (by decide) ?_
        refine lv_istore (lv' := [(5, .int (0 : Int32)), (4, .int (1 : Int32)), (0, .ref x0), (1, .int x1), (2, .ref x2), (3, .ref x3)]) hx hb dX2_findNeeded_52 hl (by decide) rfl (fun ls hl => ?_)
        exact w_Plan_findNeeded_54 X hN hr N _ _ _ _ _ _ _ hJ I (lv_sub hl [2, 1, 0] rfl)
    · rw [if_neg c9] at hJ
      refine lv_aload_n hx hb dX2_findNeeded_10 rfl (lv_at hl 0 rfl) ?_
      obtain ⟨v12, e9, hJ⟩ := rp_b hJ
      obtain ⟨f9, g9, e9⟩ := fR_s e9
      refine rp_get X I g9 e9 rfl wiX2 (by decide) wm_108 dX2_findNeeded_11 ?_
      refine lv_iload hx hb dX2_findNeeded_14 (lv_at hl 4 rfl) ?_
      refine lv_aload_n hx hb dX2_findNeeded_16 rfl (lv_at hl 2 rfl) ?_
      refine lv_iload hx hb dX2_findNeeded_17 (lv_at hl 4 rfl) ?_
      obtain ⟨v13, e9, hJ⟩ := rp_b hJ
      refine rp_aald X I e9 rfl dX2_findNeeded_19 ?_
      refine lv_aload_n hx hb dX2_findNeeded_20 rfl (lv_at hl 3 rfl) ?_
      obtain ⟨u9, i9, hJ⟩ := rp_b hJ
      obtain ⟨f9, i9⟩ := isO_s i9
      obtain ⟨q14, e9, hJ⟩ := rp_b hJ
      refine rp_callV (As := [.ref x3]) (rest := [.int x4, .ref v12]) X hN I (c_Step_waitsFor hT e9) (cwV 1 hts (gdV wm_334 wm_335 wm_336 wm_35 wm_337) rfl rfl rfl (by decide +kernel) ⟨Nat.le_of_ble_eq_true rfl, Nat.le_of_ble_eq_true rfl⟩) i9 rfl rfl hl.1 rfl (Nat.le_of_ble_eq_true rfl) dX2_findNeeded_21 ⟨(Nat.le_of_ble_eq_true rfl), (Nat.le_of_ble_eq_true rfl)⟩ (fun H locs I => ?_)
      refine W.cs (cells' := 0) (slots' := 0) rfl rfl ?_
      obtain ⟨h15, e9, hJ⟩ := rp_b hJ
      refine rp_last X I e9 rfl dX2_findNeeded_24 (fun H locs I => ?_)
      refine lv_iinc (v := (x4 + (1 : Int32))) (lv' := [(4, .int (x4 + (1 : Int32))), (0, .ref x0), (1, .int x1), (2, .ref x2), (3, .ref x3)]) hx hb dX2_findNeeded_25 hl (k := 4) rfl rfl (by decide) rfl (fun ls hl => ?_)
      refine lv_goto (tgt := 3) hx hb dX2_findNeeded_28 (by decide) ?_
      exact k3 _ _ _ _ _ _ _ _ _ hJ I (lv_sub hl [1, 2, 3, 4, 0] rfl)
set_option maxHeartbeats 4000000 in
set_option maxRecDepth 100000 in
theorem c_Plan_findNeeded {l : Launch} {D : va_G} {tys : List (ClassId × FieldType)} {A : Nat → Prop} (hT : tys.map (fun q => q.2) = tyS) {N : Nat} {x0 : Nat} {x1 : Int32} {x2 : Nat} {x3 : Nat} {h : Hp} {res : (Unit × Hp)} (hJ : J_Plan_findNeeded N x0 x1 x2 x3 h = some res) : Ct l D vwCl tys A yX2_findNeeded (Cond.code yX2_findNeeded cX2_findNeeded 9 none :: wsG) rmX2_findNeeded [.ref x0, .int x1, .ref x2, .ref x3] h none res.2 := by
  refine Met.ofW (cc := cX2_findNeeded) (maxL := 9) (ret := none) (by decide) rfl ?_
  intro p e s m args below meth c s₁ B hml hv
  obtain ⟨rfl, hA, hR, hK, hN⟩ := hv
  have hr := B.returns
  have hts : ∀ w ∈ wsG, w.before [.ref x0, .int x1, .ref x2, .ref x3].toArray s = true := fun w hw => atoms_spec (ws := Cond.code yX2_findNeeded cX2_findNeeded 9 none :: wsG) B.pre w (List.mem_cons_of_mem _ hw)
  have X : Cx p s m [.ref x0, .int x1, .ref x2, .ref x3].toArray meth c D vwCl tys cX2_findNeeded 9 RX2 wsG := ⟨⟨B.exec, B.bytes, hml, findClass_of_methodNamed B.named, hts⟩, hK, B.notSynchronized, hT⟩
  have hx := B.exec
  have hb := B.bytes
  have I : In D vwCl tys A s h s.heap [] := ⟨hR, va_S.rf, hA⟩
  have hl := lv_entry [.ref x0, .int x1, .ref x2, .ref x3] (n := 9) (Nat.le_of_ble_eq_true rfl)
  rw [lg_entry_eq]
  generalize (lg_sl [.ref x0, .int x1, .ref x2, .ref x3] ++ List.replicate (9 - (lg_sl [.ref x0, .int x1, .ref x2, .ref x3]).length) Slot.unset).toArray = ls at hl ⊢
  have hl : lv_has ls 9 [(0, .ref x0), (1, .int x1), (2, .ref x2), (3, .ref x3)] := hl
  have ho := X.1.2.2.2.1
  rw [J_Plan_findNeeded] at hJ
  refine lv_iconst (v := 0) hx hb dX2_findNeeded_0 (by decide) ?_
  refine lv_istore (lv' := [(4, .int (0 : Int32)), (0, .ref x0), (1, .int x1), (2, .ref x2), (3, .ref x3)]) hx hb dX2_findNeeded_1 hl (by decide) rfl (fun ls hl => ?_)
  exact w_Plan_findNeeded_3 X hN hr N _ _ _ _ _ _ _ _ _ hJ I (lv_sub hl [1, 2, 3, 4, 0] rfl)
def rmX2_lineUp : Room := { frames := 2, cells := 0, slots := 0, locals := 42 }
def J_Plan_lineUp_111 (N : Nat)  (x0 : Nat) (x1 : Int64)  (h : Hp) : Option (Int32 × Hp) :=
  (fJ h 2 x0 4).bind fun v3 =>
  if (lg_cmp x1 v3) = 0 then
  (some ((1 : Int32), h))
  else
  (some ((0 : Int32), h))
def J_Plan_lineUp_27 (N : Nat) (r9 : Nat → Int64 → Int32 → Hp → Option (Int32 × Hp)) : Nat → Nat → Int64 → Int32 → Int32 → Hp → Option (Int32 × Hp)
  | 0, _, _, _, _, _ => none
  | n + 1, x0, x1, x3, x4, h =>
  if (40 : Int32) ≤ x4 then
  (r9 x0 x1 (x3 + (1 : Int32)) h)
  else
  ((fJ h 2 x0 4).bind fun v4 =>
  (J_Desk_isIn N (v4 &&& (x1 ^^^ (-1 : Int64))) x4 h).bind fun q5 =>
 if q5.1 = 0 then
  ((J_Plan_lineUp_27 N r9 n) x0 x1 x3 (x4 + (1 : Int32)) q5.2)
  else
  ((fR q5.2 2 x0 0).bind fun v6 =>
  (aJ q5.2 2 v6 x4).bind fun v7 =>
  if (lg_cmp (v7 &&& (x1 ^^^ (-1 : Int64))) (0 : Int64)) = 0 then
  ((fR q5.2 2 x0 1).bind fun v8 =>
  (fI q5.2 2 x0 2).bind fun v9 =>
  (sI q5.2 0 v8 v9 x4).bind fun h10 =>
  (fI h10 2 x0 2).bind fun v11 =>
  (sF h10 2 x0 2 (.int (v11 + (1 : Int32)))).bind fun h12 =>
  (J_Desk_bit N x4 h12).bind fun q13 =>
 (J_Plan_lineUp_27 N r9 n) x0 (x1 ||| q13.1) x3 (x4 + (1 : Int32)) q13.2)
  else
  ((J_Plan_lineUp_27 N r9 n) x0 x1 x3 (x4 + (1 : Int32)) q5.2)))
def J_Plan_lineUp_9 (N : Nat)  : Nat → Nat → Int64 → Int32 → Hp → Option (Int32 × Hp)
  | 0, _, _, _, _ => none
  | n + 1, x0, x1, x3, h =>
  (fJ h 2 x0 4).bind fun v2 =>
  if (lg_cmp x1 v2) = 0 then
  (J_Plan_lineUp_111 N x0 x1 h)
  else
  (if (40 : Int32) ≤ x3 then
  (J_Plan_lineUp_111 N x0 x1 h)
  else
  (J_Plan_lineUp_27 N (J_Plan_lineUp_9 N n) N x0 x1 x3 (0 : Int32) h))
def J_Plan_lineUp (N : Nat) (x0 : Nat) (h : Hp) : Option (Int32 × Hp) :=
  (sF h 2 x0 2 (.int (0 : Int32))).bind fun h1 =>
  J_Plan_lineUp_9 N N x0 (0 : Int64) (0 : Int32) h1
set_option maxHeartbeats 4000000 in
set_option maxRecDepth 100000 in
theorem w_Plan_lineUp_111 (X : Cx p s m args meth c D vwCl tys cX2_lineUp 5 RX2 wsG) (hN : nwS s) (hr : meth.sig.returnType = (some .boolean)) {res : (Int32 × Hp)} {N : Nat}   : ∀ (x0 : Nat) (x1 : Int64)  (h : Hp) (H : Heap) (locs : List Loc) (ls : Array Slot), J_Plan_lineUp_111 N x0 x1 h = some res → In D vwCl tys A s h H locs → lv_has ls 5 [(0, .ref x0), (1, .long x1)] → W p l e rmX2_lineUp s m args below meth c H locs 0 0 (MQ below (Qr D vwCl tys A (some (.int res.1)) res.2) args s 0 0 A) (F0 m 111 ls []) := by
  have hx := X.1.1
  have hb := X.1.2.1
  have hml := X.1.2.2.1
  have ho := X.1.2.2.2.1
  have hts := X.1.2.2.2.2
  have hK := X.2.1
  have hT := X.2.2.2
  intro x0 x1  h H locs ls hJ I hl
  rw [J_Plan_lineUp_111] at hJ
  refine lv_lload_n hx hb dX2_lineUp_111 rfl (lv_at hl 1 rfl) ?_
  refine lv_aload_n hx hb dX2_lineUp_112 rfl (lv_at hl 0 rfl) ?_
  obtain ⟨v3, e9, hJ⟩ := rp_b hJ
  obtain ⟨f9, g9, e9⟩ := fJ_s e9
  refine rp_get X I g9 e9 rfl wiX2 (by decide) wm_112 dX2_lineUp_113 ?_
  refine W.lcmp hx hb dX2_lineUp_116 ?_
  refine lv_if_ne (tgt := 124) hx hb dX2_lineUp_117 (by decide) (fun c9 => ?_) (fun c9 => ?_)
  · rw [if_neg c9] at hJ
    refine lv_iconst (v := 0) hx hb dX2_lineUp_124 (by decide) ?_
    exact rp_zret X hr (Or.inl rfl) hJ I dX2_lineUp_125
  · rw [if_pos c9] at hJ
    refine lv_iconst (v := 1) hx hb dX2_lineUp_120 (by decide) ?_
    refine lv_goto (tgt := 125) hx hb dX2_lineUp_121 (by decide) ?_
    exact rp_zret X hr (Or.inr rfl) hJ I dX2_lineUp_125
set_option maxHeartbeats 4000000 in
set_option maxRecDepth 100000 in
theorem w_Plan_lineUp_27 (X : Cx p s m args meth c D vwCl tys cX2_lineUp 5 RX2 wsG) (hN : nwS s) (hr : meth.sig.returnType = (some .boolean)) {res : (Int32 × Hp)} {N : Nat} {r9 : Nat → Int64 → Int32 → Hp → Option (Int32 × Hp)} (k9 : ∀ (x0 : Nat) (x1 : Int64) (x3 : Int32) (h : Hp) (H : Heap) (locs : List Loc) (ls : Array Slot), r9 x0 x1 x3 h = some res → In D vwCl tys A s h H locs → lv_has ls 5 [(0, .ref x0), (1, .long x1), (3, .int x3)] → W p l e rmX2_lineUp s m args below meth c H locs 0 0 (MQ below (Qr D vwCl tys A (some (.int res.1)) res.2) args s 0 0 A) (F0 m 9 ls [])) : ∀ (n : Nat) (x0 : Nat) (x1 : Int64) (x3 : Int32) (x4 : Int32)  (h : Hp) (H : Heap) (locs : List Loc) (ls : Array Slot), J_Plan_lineUp_27 N r9 n x0 x1 x3 x4 h = some res → In D vwCl tys A s h H locs → lv_has ls 5 [(0, .ref x0), (1, .long x1), (3, .int x3), (4, .int x4)] → W p l e rmX2_lineUp s m args below meth c H locs 0 0 (MQ below (Qr D vwCl tys A (some (.int res.1)) res.2) args s 0 0 A) (F0 m 27 ls []) := by
  have hx := X.1.1
  have hb := X.1.2.1
  have hml := X.1.2.2.1
  have ho := X.1.2.2.2.1
  have hts := X.1.2.2.2.2
  have hK := X.2.1
  have hT := X.2.2.2
  intro n
  induction n with
  | zero =>
    intro x0 x1 x3 x4  h H locs ls hJ I hl
    exact nomatch (show (none : Option (Int32 × Hp)) = some res from hJ)
  | succ n k27 =>
    intro x0 x1 x3 x4  h H locs ls hJ I hl
    rw [J_Plan_lineUp_27] at hJ
    refine lv_iload hx hb dX2_lineUp_27 (lv_at hl 3 rfl) ?_
    refine lv_bipush (v := 40) hx hb dX2_lineUp_29 (by decide) ?_
    refine lv_icmp_ge (tgt := 105) hx hb dX2_lineUp_31 (by decide) (fun c9 => ?_) (fun c9 => ?_)
    · rw [if_pos c9] at hJ
      refine lv_iinc (v := (x3 + (1 : Int32))) (lv' := [(3, .int (x3 + (1 : Int32))), (0, .ref x0), (1, .long x1), (4, .int x4)]) hx hb dX2_lineUp_105 hl (k := 2) rfl rfl (by decide) rfl (fun ls hl => ?_)
      refine lv_goto (tgt := 9) hx hb dX2_lineUp_108 (by decide) ?_
      exact k9 _ _ _ _ _ _ _ hJ I (lv_sub hl [1, 2, 0] rfl)
    · rw [if_neg c9] at hJ
      refine lv_aload_n hx hb dX2_lineUp_34 rfl (lv_at hl 0 rfl) ?_
      obtain ⟨v4, e9, hJ⟩ := rp_b hJ
      obtain ⟨f9, g9, e9⟩ := fJ_s e9
      refine rp_get X I g9 e9 rfl wiX2 (by decide) wm_112 dX2_lineUp_35 ?_
      refine lv_lload_n hx hb dX2_lineUp_38 rfl (lv_at hl 1 rfl) ?_
      refine lv_ldc2 (v := (-1)) hx hb ho (hts _ wm_348) dX2_lineUp_39 ?_
      refine lv_lxor hx hb dX2_lineUp_42 ?_
      refine lv_land hx hb dX2_lineUp_43 ?_
      refine lv_iload hx hb dX2_lineUp_44 (lv_at hl 3 rfl) ?_
      obtain ⟨q5, e9, hJ⟩ := rp_b hJ
      refine rp_callSN (As := [.long (v4 &&& (x1 ^^^ (-1 : Int64))), .int x4]) (rest := []) X hN I (c_Desk_isIn hT e9) ⟨(va_cnB (host := "BuildDesk") 2 hts (gdC wm_342) rfl rfl rfl (hN.1 _ (by decide +kernel)) (hts _ wm_33) (by decide +kernel) ⟨Nat.le_of_ble_eq_true rfl, Nat.le_of_ble_eq_true rfl⟩), hts _ wm_341, trivial⟩ rfl hl.1 rfl (Nat.le_of_ble_eq_true rfl) dX2_lineUp_46 ⟨(Nat.le_of_ble_eq_true rfl), (Nat.le_of_ble_eq_true rfl)⟩ (fun H locs I => ?_)
      refine W.cs (cells' := 0) (slots' := 0) rfl rfl ?_
      refine lv_if_eq (tgt := 99) hx hb dX2_lineUp_49 (by decide) (fun c9 => ?_) (fun c9 => ?_)
      · rw [if_pos c9] at hJ
        refine lv_iinc (v := (x4 + (1 : Int32))) (lv' := [(4, .int (x4 + (1 : Int32))), (0, .ref x0), (1, .long x1), (3, .int x3)]) hx hb dX2_lineUp_99 hl (k := 3) rfl rfl (by decide) rfl (fun ls hl => ?_)
        refine lv_goto (tgt := 27) hx hb dX2_lineUp_102 (by decide) ?_
        exact k27 _ _ _ _ _ _ _ _ hJ I (lv_sub hl [1, 2, 3, 0] rfl)
      · rw [if_neg c9] at hJ
        refine lv_aload_n hx hb dX2_lineUp_52 rfl (lv_at hl 0 rfl) ?_
        obtain ⟨v6, e9, hJ⟩ := rp_b hJ
        obtain ⟨f9, g9, e9⟩ := fR_s e9
        refine rp_get X I g9 e9 rfl wiX2 (by decide) wm_108 dX2_lineUp_53 ?_
        refine lv_iload hx hb dX2_lineUp_56 (lv_at hl 3 rfl) ?_
        obtain ⟨v7, e9, hJ⟩ := rp_b hJ
        refine rp_lald X I e9 rfl dX2_lineUp_58 ?_
        refine lv_lload_n hx hb dX2_lineUp_59 rfl (lv_at hl 1 rfl) ?_
        refine lv_ldc2 (v := (-1)) hx hb ho (hts _ wm_348) dX2_lineUp_60 ?_
        refine lv_lxor hx hb dX2_lineUp_63 ?_
        refine lv_land hx hb dX2_lineUp_64 ?_
        refine lv_lconst (v := 0) hx hb dX2_lineUp_65 (by decide) ?_
        refine W.lcmp hx hb dX2_lineUp_66 ?_
        refine lv_if_ne (tgt := 99) hx hb dX2_lineUp_67 (by decide) (fun c9 => ?_) (fun c9 => ?_)
        · rw [if_neg c9] at hJ
          refine lv_iinc (v := (x4 + (1 : Int32))) (lv' := [(4, .int (x4 + (1 : Int32))), (0, .ref x0), (1, .long x1), (3, .int x3)]) hx hb dX2_lineUp_99 hl (k := 3) rfl rfl (by decide) rfl (fun ls hl => ?_)
          refine lv_goto (tgt := 27) hx hb dX2_lineUp_102 (by decide) ?_
          exact k27 _ _ _ _ _ _ _ _ hJ I (lv_sub hl [1, 2, 3, 0] rfl)
        · rw [if_pos c9] at hJ
          refine lv_aload_n hx hb dX2_lineUp_70 rfl (lv_at hl 0 rfl) ?_
          obtain ⟨v8, e9, hJ⟩ := rp_b hJ
          obtain ⟨f9, g9, e9⟩ := fR_s e9
          refine rp_get X I g9 e9 rfl wiX2 (by decide) wm_109 dX2_lineUp_71 ?_
          refine lv_aload_n hx hb dX2_lineUp_74 rfl (lv_at hl 0 rfl) ?_
          obtain ⟨v9, e9, hJ⟩ := rp_b hJ
          obtain ⟨f9, g9, e9⟩ := fI_s e9
          refine rp_get X I g9 e9 rfl wiX2 (by decide) wm_110 dX2_lineUp_75 ?_
          refine lv_iload hx hb dX2_lineUp_78 (lv_at hl 3 rfl) ?_
          obtain ⟨h10, e9, hJ⟩ := rp_b hJ
          refine rp_iast X I e9 rfl dX2_lineUp_80 (fun H locs I => ?_)
          refine lv_aload_n hx hb dX2_lineUp_81 rfl (lv_at hl 0 rfl) ?_
          refine lv_dup hx hb dX2_lineUp_82 rfl ?_
          obtain ⟨v11, e9, hJ⟩ := rp_b hJ
          obtain ⟨f9, g9, e9⟩ := fI_s e9
          refine rp_get X I g9 e9 rfl wiX2 (by decide) wm_110 dX2_lineUp_83 ?_
          refine lv_iconst (v := 1) hx hb dX2_lineUp_86 (by decide) ?_
          refine lv_iadd hx hb dX2_lineUp_87 ?_
          obtain ⟨h12, e9, hJ⟩ := rp_b hJ
          refine rp_put (ty := .int) X I e9 rfl wiX2 tyX2 tyX2_ok nmX2 (by decide) wm_110 rfl (by decide +kernel) rfl rfl dX2_lineUp_88 (fun H locs I => ?_)
          refine lv_lload_n hx hb dX2_lineUp_91 rfl (lv_at hl 1 rfl) ?_
          refine lv_iload hx hb dX2_lineUp_92 (lv_at hl 3 rfl) ?_
          obtain ⟨q13, e9, hJ⟩ := rp_b hJ
          refine rp_callSN (As := [.int x4]) (rest := [.long x1]) X hN I (c_Desk_bit hT e9) ⟨(va_cnB (host := "BuildDesk") 1 hts (gdC wm_340) rfl rfl rfl (hN.1 _ (by decide +kernel)) (hts _ wm_33) (by decide +kernel) ⟨Nat.le_of_ble_eq_true rfl, Nat.le_of_ble_eq_true rfl⟩), hts _ wm_339, trivial⟩ rfl hl.1 rfl (Nat.le_of_ble_eq_true rfl) dX2_lineUp_94 ⟨(Nat.le_of_ble_eq_true rfl), (Nat.le_of_ble_eq_true rfl)⟩ (fun H locs I => ?_)
          refine W.cs (cells' := 0) (slots' := 0) rfl rfl ?_
          refine lv_lor hx hb dX2_lineUp_97 ?_
          refine lv_lstore_n (lv' := [(1, .long (x1 ||| q13.1)), (0, .ref x0), (3, .int x3), (4, .int x4)]) hx hb dX2_lineUp_98 rfl hl (by decide) rfl (fun ls hl => ?_)
          refine lv_iinc (v := (x4 + (1 : Int32))) (lv' := [(4, .int (x4 + (1 : Int32))), (1, .long (x1 ||| q13.1)), (0, .ref x0), (3, .int x3)]) hx hb dX2_lineUp_99 hl (k := 3) rfl rfl (by decide) rfl (fun ls hl => ?_)
          refine lv_goto (tgt := 27) hx hb dX2_lineUp_102 (by decide) ?_
          exact k27 _ _ _ _ _ _ _ _ hJ I (lv_sub hl [2, 1, 3, 0] rfl)
set_option maxHeartbeats 4000000 in
set_option maxRecDepth 100000 in
theorem w_Plan_lineUp_9 (X : Cx p s m args meth c D vwCl tys cX2_lineUp 5 RX2 wsG) (hN : nwS s) (hr : meth.sig.returnType = (some .boolean)) {res : (Int32 × Hp)} {N : Nat}   : ∀ (n : Nat) (x0 : Nat) (x1 : Int64) (x3 : Int32)  (h : Hp) (H : Heap) (locs : List Loc) (ls : Array Slot), J_Plan_lineUp_9 N n x0 x1 x3 h = some res → In D vwCl tys A s h H locs → lv_has ls 5 [(0, .ref x0), (1, .long x1), (3, .int x3)] → W p l e rmX2_lineUp s m args below meth c H locs 0 0 (MQ below (Qr D vwCl tys A (some (.int res.1)) res.2) args s 0 0 A) (F0 m 9 ls []) := by
  have hx := X.1.1
  have hb := X.1.2.1
  have hml := X.1.2.2.1
  have ho := X.1.2.2.2.1
  have hts := X.1.2.2.2.2
  have hK := X.2.1
  have hT := X.2.2.2
  intro n
  induction n with
  | zero =>
    intro x0 x1 x3  h H locs ls hJ I hl
    exact nomatch (show (none : Option (Int32 × Hp)) = some res from hJ)
  | succ n k9 =>
    intro x0 x1 x3  h H locs ls hJ I hl
    rw [J_Plan_lineUp_9] at hJ
    refine lv_lload_n hx hb dX2_lineUp_9 rfl (lv_at hl 1 rfl) ?_
    refine lv_aload_n hx hb dX2_lineUp_10 rfl (lv_at hl 0 rfl) ?_
    obtain ⟨v2, e9, hJ⟩ := rp_b hJ
    obtain ⟨f9, g9, e9⟩ := fJ_s e9
    refine rp_get X I g9 e9 rfl wiX2 (by decide) wm_112 dX2_lineUp_11 ?_
    refine W.lcmp hx hb dX2_lineUp_14 ?_
    refine lv_if_eq (tgt := 111) hx hb dX2_lineUp_15 (by decide) (fun c9 => ?_) (fun c9 => ?_)
    · rw [if_pos c9] at hJ
      exact w_Plan_lineUp_111 X hN hr _ _ _ _ _ _ hJ I (lv_sub hl [0, 1] rfl)
    · rw [if_neg c9] at hJ
      refine lv_iload_n hx hb dX2_lineUp_18 rfl (lv_at hl 2 rfl) ?_
      refine lv_bipush (v := 40) hx hb dX2_lineUp_19 (by decide) ?_
      refine lv_icmp_ge (tgt := 111) hx hb dX2_lineUp_21 (by decide) (fun c9 => ?_) (fun c9 => ?_)
      · rw [if_pos c9] at hJ
        exact w_Plan_lineUp_111 X hN hr _ _ _ _ _ _ hJ I (lv_sub hl [0, 1] rfl)
      · rw [if_neg c9] at hJ
        refine lv_iconst (v := 0) hx hb dX2_lineUp_24 (by decide) ?_
        refine lv_istore (lv' := [(4, .int (0 : Int32)), (0, .ref x0), (1, .long x1), (3, .int x3)]) hx hb dX2_lineUp_25 hl (by decide) rfl (fun ls hl => ?_)
        exact w_Plan_lineUp_27 X hN hr k9 N _ _ _ _ _ _ _ _ hJ I (lv_sub hl [1, 2, 3, 0] rfl)
set_option maxHeartbeats 4000000 in
set_option maxRecDepth 100000 in
theorem c_Plan_lineUp {l : Launch} {D : va_G} {tys : List (ClassId × FieldType)} {A : Nat → Prop} (hT : tys.map (fun q => q.2) = tyS) {N : Nat} {x0 : Nat} {h : Hp} {res : (Int32 × Hp)} (hJ : J_Plan_lineUp N x0 h = some res) : Ct l D vwCl tys A yX2_lineUp (Cond.code yX2_lineUp cX2_lineUp 5 (some .boolean) :: wsG) rmX2_lineUp [.ref x0] h (some (.int res.1)) res.2 := by
  refine Met.ofW (cc := cX2_lineUp) (maxL := 5) (ret := (some .boolean)) (by decide) rfl ?_
  intro p e s m args below meth c s₁ B hml hv
  obtain ⟨rfl, hA, hR, hK, hN⟩ := hv
  have hr := B.returns
  have hts : ∀ w ∈ wsG, w.before [.ref x0].toArray s = true := fun w hw => atoms_spec (ws := Cond.code yX2_lineUp cX2_lineUp 5 (some .boolean) :: wsG) B.pre w (List.mem_cons_of_mem _ hw)
  have X : Cx p s m [.ref x0].toArray meth c D vwCl tys cX2_lineUp 5 RX2 wsG := ⟨⟨B.exec, B.bytes, hml, findClass_of_methodNamed B.named, hts⟩, hK, B.notSynchronized, hT⟩
  have hx := B.exec
  have hb := B.bytes
  have I : In D vwCl tys A s h s.heap [] := ⟨hR, va_S.rf, hA⟩
  have hl := lv_entry [.ref x0] (n := 5) (Nat.le_of_ble_eq_true rfl)
  rw [lg_entry_eq]
  generalize (lg_sl [.ref x0] ++ List.replicate (5 - (lg_sl [.ref x0]).length) Slot.unset).toArray = ls at hl ⊢
  have hl : lv_has ls 5 [(0, .ref x0)] := hl
  have ho := X.1.2.2.2.1
  rw [J_Plan_lineUp] at hJ
  refine lv_lconst (v := 0) hx hb dX2_lineUp_0 (by decide) ?_
  refine lv_lstore_n (lv' := [(1, .long (0 : Int64)), (0, .ref x0)]) hx hb dX2_lineUp_1 rfl hl (by decide) rfl (fun ls hl => ?_)
  refine lv_aload_n hx hb dX2_lineUp_2 rfl (lv_at hl 1 rfl) ?_
  refine lv_iconst (v := 0) hx hb dX2_lineUp_3 (by decide) ?_
  obtain ⟨h1, e9, hJ⟩ := rp_b hJ
  refine rp_put (ty := .int) X I e9 rfl wiX2 tyX2 tyX2_ok nmX2 (by decide) wm_110 rfl (by decide +kernel) rfl rfl dX2_lineUp_4 (fun H locs I => ?_)
  refine lv_iconst (v := 0) hx hb dX2_lineUp_7 (by decide) ?_
  refine lv_istore_n (lv' := [(3, .int (0 : Int32)), (1, .long (0 : Int64)), (0, .ref x0)]) hx hb dX2_lineUp_8 rfl hl (by decide) rfl (fun ls hl => ?_)
  exact w_Plan_lineUp_9 X hN hr N _ _ _ _ _ _ _ hJ I (lv_sub hl [2, 1, 0] rfl)
def rmX2_rankSteps : Room := { frames := 2, cells := 0, slots := 0, locals := 42 }
def J_Plan_rankSteps_47 (N : Nat) (r33 : Nat → Nat → Int32 → Hp → Option (Unit × Hp)) : Nat → Nat → Nat → Int32 → Int32 → Int32 → Hp → Option (Unit × Hp)
  | 0, _, _, _, _, _, _ => none
  | n + 1, x0, x1, x2, x3, x4, h =>
  if (40 : Int32) ≤ x4 then
  (r33 x0 x1 (x2 + (-1 : Int32)) h)
  else
  ((fR h 2 x0 0).bind fun v4 =>
  (aJ h 2 v4 x3).bind fun v5 =>
  (J_Desk_isIn N v5 x4 h).bind fun q6 =>
 if q6.1 = 0 then
  ((J_Plan_rankSteps_47 N r33 n) x0 x1 x2 x3 (x4 + (1 : Int32)) q6.2)
  else
  ((fR q6.2 2 x0 3).bind fun v7 =>
  (fR q6.2 2 x0 3).bind fun v8 =>
  (aI q6.2 0 v8 x4).bind fun v9 =>
  (aR q6.2 3 x1 x4).bind fun v10 =>
  (fI q6.2 5 v10 3).bind fun v11 =>
  (fR q6.2 2 x0 3).bind fun v12 =>
  (aI q6.2 0 v12 x3).bind fun v13 =>
  (sI q6.2 0 v7 x4 (if v9 < (v11 + v13) then (v11 + v13) else v9)).bind fun h14 =>
  (J_Plan_rankSteps_47 N r33 n) x0 x1 x2 x3 (x4 + (1 : Int32)) h14))
def J_Plan_rankSteps_33 (N : Nat)  : Nat → Nat → Nat → Int32 → Hp → Option (Unit × Hp)
  | 0, _, _, _, _ => none
  | n + 1, x0, x1, x2, h =>
  if x2 < 0 then
  (some ((), h))
  else
  ((fR h 2 x0 1).bind fun v2 =>
  (aI h 0 v2 x2).bind fun v3 =>
  J_Plan_rankSteps_47 N (J_Plan_rankSteps_33 N n) N x0 x1 x2 v3 (0 : Int32) h)
def J_Plan_rankSteps_2 (N : Nat)  : Nat → Nat → Nat → Int32 → Hp → Option (Unit × Hp)
  | 0, _, _, _, _ => none
  | n + 1, x0, x1, x2, h =>
  if (40 : Int32) ≤ x2 then
  ((fI h 2 x0 2).bind fun v1 =>
  J_Plan_rankSteps_33 N N x0 x1 (v1 - (1 : Int32)) h)
  else
  ((fR h 2 x0 3).bind fun v15 =>
  (aR h 3 x1 x2).bind fun v16 =>
  (fI h 5 v16 3).bind fun v17 =>
  (sI h 0 v15 x2 v17).bind fun h18 =>
  (J_Plan_rankSteps_2 N n) x0 x1 (x2 + (1 : Int32)) h18)
def J_Plan_rankSteps (N : Nat) (x0 : Nat) (x1 : Nat) (h : Hp) : Option (Unit × Hp) :=
  J_Plan_rankSteps_2 N N x0 x1 (0 : Int32) h
set_option maxHeartbeats 4000000 in
set_option maxRecDepth 100000 in
theorem w_Plan_rankSteps_47 (X : Cx p s m args meth c D vwCl tys cX2_rankSteps 5 RX2 wsG) (hN : nwS s) (hr : meth.sig.returnType = none) {res : (Unit × Hp)} {N : Nat} {r33 : Nat → Nat → Int32 → Hp → Option (Unit × Hp)} (k33 : ∀ (x0 : Nat) (x1 : Nat) (x2 : Int32) (h : Hp) (H : Heap) (locs : List Loc) (ls : Array Slot), r33 x0 x1 x2 h = some res → In D vwCl tys A s h H locs → lv_has ls 5 [(0, .ref x0), (1, .ref x1), (2, .int x2)] → W p l e rmX2_rankSteps s m args below meth c H locs 0 0 (MQ below (Qr D vwCl tys A none res.2) args s 0 0 A) (F0 m 33 ls [])) : ∀ (n : Nat) (x0 : Nat) (x1 : Nat) (x2 : Int32) (x3 : Int32) (x4 : Int32)  (h : Hp) (H : Heap) (locs : List Loc) (ls : Array Slot), J_Plan_rankSteps_47 N r33 n x0 x1 x2 x3 x4 h = some res → In D vwCl tys A s h H locs → lv_has ls 5 [(0, .ref x0), (1, .ref x1), (2, .int x2), (3, .int x3), (4, .int x4)] → W p l e rmX2_rankSteps s m args below meth c H locs 0 0 (MQ below (Qr D vwCl tys A none res.2) args s 0 0 A) (F0 m 47 ls []) := by
  have hx := X.1.1
  have hb := X.1.2.1
  have hml := X.1.2.2.1
  have ho := X.1.2.2.2.1
  have hts := X.1.2.2.2.2
  have hK := X.2.1
  have hT := X.2.2.2
  intro n
  induction n with
  | zero =>
    intro x0 x1 x2 x3 x4  h H locs ls hJ I hl
    exact nomatch (show (none : Option (Unit × Hp)) = some res from hJ)
  | succ n k47 =>
    intro x0 x1 x2 x3 x4  h H locs ls hJ I hl
    rw [J_Plan_rankSteps_47] at hJ
    refine lv_iload hx hb dX2_rankSteps_47 (lv_at hl 4 rfl) ?_
    refine lv_bipush (v := 40) hx hb dX2_rankSteps_49 (by decide) ?_
    refine lv_icmp_ge (tgt := 105) hx hb dX2_rankSteps_51 (by decide) (fun c9 => ?_) (fun c9 => ?_)
    · rw [if_pos c9] at hJ
      refine lv_iinc (v := (x2 + (-1 : Int32))) (lv' := [(2, .int (x2 + (-1 : Int32))), (0, .ref x0), (1, .ref x1), (3, .int x3), (4, .int x4)]) hx hb dX2_rankSteps_105 hl (k := 2) rfl rfl (by decide) rfl (fun ls hl => ?_)
      refine lv_goto (tgt := 33) hx hb dX2_rankSteps_108 (by decide) ?_
      exact k33 _ _ _ _ _ _ _ hJ I (lv_sub hl [1, 2, 0] rfl)
    · rw [if_neg c9] at hJ
      refine lv_aload_n hx hb dX2_rankSteps_54 rfl (lv_at hl 0 rfl) ?_
      obtain ⟨v4, e9, hJ⟩ := rp_b hJ
      obtain ⟨f9, g9, e9⟩ := fR_s e9
      refine rp_get X I g9 e9 rfl wiX2 (by decide) wm_108 dX2_rankSteps_55 ?_
      refine lv_iload_n hx hb dX2_rankSteps_58 rfl (lv_at hl 3 rfl) ?_
      obtain ⟨v5, e9, hJ⟩ := rp_b hJ
      refine rp_lald X I e9 rfl dX2_rankSteps_59 ?_
      refine lv_iload hx hb dX2_rankSteps_60 (lv_at hl 4 rfl) ?_
      obtain ⟨q6, e9, hJ⟩ := rp_b hJ
      refine rp_callSN (As := [.long v5, .int x4]) (rest := []) X hN I (c_Desk_isIn hT e9) ⟨(va_cnB (host := "BuildDesk") 2 hts (gdC wm_342) rfl rfl rfl (hN.1 _ (by decide +kernel)) (hts _ wm_33) (by decide +kernel) ⟨Nat.le_of_ble_eq_true rfl, Nat.le_of_ble_eq_true rfl⟩), hts _ wm_341, trivial⟩ rfl hl.1 rfl (Nat.le_of_ble_eq_true rfl) dX2_rankSteps_62 ⟨(Nat.le_of_ble_eq_true rfl), (Nat.le_of_ble_eq_true rfl)⟩ (fun H locs I => ?_)
      refine W.cs (cells' := 0) (slots' := 0) rfl rfl ?_
      refine lv_if_eq (tgt := 99) hx hb dX2_rankSteps_65 (by decide) (fun c9 => ?_) (fun c9 => ?_)
      · rw [if_pos c9] at hJ
        refine lv_iinc (v := (x4 + (1 : Int32))) (lv' := [(4, .int (x4 + (1 : Int32))), (0, .ref x0), (1, .ref x1), (2, .int x2), (3, .int x3)]) hx hb dX2_rankSteps_99 hl (k := 4) rfl rfl (by decide) rfl (fun ls hl => ?_)
        refine lv_goto (tgt := 47) hx hb dX2_rankSteps_102 (by decide) ?_
        exact k47 _ _ _ _ _ _ _ _ _ hJ I (lv_sub hl [1, 2, 3, 4, 0] rfl)
      · rw [if_neg c9] at hJ
        refine lv_aload_n hx hb dX2_rankSteps_68 rfl (lv_at hl 0 rfl) ?_
        obtain ⟨v7, e9, hJ⟩ := rp_b hJ
        obtain ⟨f9, g9, e9⟩ := fR_s e9
        refine rp_get X I g9 e9 rfl wiX2 (by decide) wm_111 dX2_rankSteps_69 ?_
        refine lv_iload hx hb dX2_rankSteps_72 (lv_at hl 4 rfl) ?_
        refine lv_aload_n hx hb dX2_rankSteps_74 rfl (lv_at hl 0 rfl) ?_
        obtain ⟨v8, e9, hJ⟩ := rp_b hJ
        obtain ⟨f9, g9, e9⟩ := fR_s e9
        refine rp_get X I g9 e9 rfl wiX2 (by decide) wm_111 dX2_rankSteps_75 ?_
        refine lv_iload hx hb dX2_rankSteps_78 (lv_at hl 4 rfl) ?_
        obtain ⟨v9, e9, hJ⟩ := rp_b hJ
        refine rp_iald X I e9 rfl dX2_rankSteps_80 ?_
        refine lv_aload_n hx hb dX2_rankSteps_81 rfl (lv_at hl 1 rfl) ?_
        refine lv_iload hx hb dX2_rankSteps_82 (lv_at hl 4 rfl) ?_
        obtain ⟨v10, e9, hJ⟩ := rp_b hJ
        refine rp_aald X I e9 rfl dX2_rankSteps_84 ?_
        obtain ⟨v11, e9, hJ⟩ := rp_b hJ
        obtain ⟨f9, g9, e9⟩ := fI_s e9
        refine rp_getN (host := "BuildDesk") X I g9 e9 rfl wiX5 (by decide) (hN.1 _ (by decide +kernel)) dX2_rankSteps_85 ?_
        refine lv_aload_n hx hb dX2_rankSteps_88 rfl (lv_at hl 0 rfl) ?_
        obtain ⟨v12, e9, hJ⟩ := rp_b hJ
        obtain ⟨f9, g9, e9⟩ := fR_s e9
        refine rp_get X I g9 e9 rfl wiX2 (by decide) wm_111 dX2_rankSteps_89 ?_
        refine lv_iload_n hx hb dX2_rankSteps_92 rfl (lv_at hl 3 rfl) ?_
        obtain ⟨v13, e9, hJ⟩ := rp_b hJ
        refine rp_iald X I e9 rfl dX2_rankSteps_93 ?_
        refine lv_iadd hx hb dX2_rankSteps_94 ?_
        refine va_mmax hx hb (hml.trans hl.1.symm) ho (hts _ wm_396) (hts _ wm_397) (hts _ wm_46) (hts _ wm_398) (Nat.le_of_ble_eq_true rfl) (Nat.le_of_ble_eq_true rfl) (Nat.le_of_ble_eq_true rfl) (Nat.le_of_ble_eq_true rfl) dX2_rankSteps_95 ?_
        obtain ⟨h14, e9, hJ⟩ := rp_b hJ
        refine rp_iast X I e9 rfl dX2_rankSteps_98 (fun H locs I => ?_)
        refine lv_iinc (v := (x4 + (1 : Int32))) (lv' := [(4, .int (x4 + (1 : Int32))), (0, .ref x0), (1, .ref x1), (2, .int x2), (3, .int x3)]) hx hb dX2_rankSteps_99 hl (k := 4) rfl rfl (by decide) rfl (fun ls hl => ?_)
        refine lv_goto (tgt := 47) hx hb dX2_rankSteps_102 (by decide) ?_
        exact k47 _ _ _ _ _ _ _ _ _ hJ I (lv_sub hl [1, 2, 3, 4, 0] rfl)
set_option maxHeartbeats 4000000 in
set_option maxRecDepth 100000 in
theorem w_Plan_rankSteps_33 (X : Cx p s m args meth c D vwCl tys cX2_rankSteps 5 RX2 wsG) (hN : nwS s) (hr : meth.sig.returnType = none) {res : (Unit × Hp)} {N : Nat}   : ∀ (n : Nat) (x0 : Nat) (x1 : Nat) (x2 : Int32)  (h : Hp) (H : Heap) (locs : List Loc) (ls : Array Slot), J_Plan_rankSteps_33 N n x0 x1 x2 h = some res → In D vwCl tys A s h H locs → lv_has ls 5 [(0, .ref x0), (1, .ref x1), (2, .int x2)] → W p l e rmX2_rankSteps s m args below meth c H locs 0 0 (MQ below (Qr D vwCl tys A none res.2) args s 0 0 A) (F0 m 33 ls []) := by
  have hx := X.1.1
  have hb := X.1.2.1
  have hml := X.1.2.2.1
  have ho := X.1.2.2.2.1
  have hts := X.1.2.2.2.2
  have hK := X.2.1
  have hT := X.2.2.2
  intro n
  induction n with
  | zero =>
    intro x0 x1 x2  h H locs ls hJ I hl
    exact nomatch (show (none : Option (Unit × Hp)) = some res from hJ)
  | succ n k33 =>
    intro x0 x1 x2  h H locs ls hJ I hl
    rw [J_Plan_rankSteps_33] at hJ
    refine lv_iload_n hx hb dX2_rankSteps_33 rfl (lv_at hl 2 rfl) ?_
    refine lv_if_lt (tgt := 111) hx hb dX2_rankSteps_34 (by decide) (fun c9 => ?_) (fun c9 => ?_)
    · rw [if_pos c9] at hJ
      exact rp_vret X hr hJ I dX2_rankSteps_111
    · rw [if_neg c9] at hJ
      refine lv_aload_n hx hb dX2_rankSteps_37 rfl (lv_at hl 0 rfl) ?_
      obtain ⟨v2, e9, hJ⟩ := rp_b hJ
      obtain ⟨f9, g9, e9⟩ := fR_s e9
      refine rp_get X I g9 e9 rfl wiX2 (by decide) wm_109 dX2_rankSteps_38 ?_
      refine lv_iload_n hx hb dX2_rankSteps_41 rfl (lv_at hl 2 rfl) ?_
      obtain ⟨v3, e9, hJ⟩ := rp_b hJ
      refine rp_iald X I e9 rfl dX2_rankSteps_42 ?_
      refine lv_istore_n (lv' := [(3, .int v3), (0, .ref x0), (1, .ref x1), (2, .int x2)]) hx hb dX2_rankSteps_43 rfl hl (by decide) rfl (fun ls hl => ?_)
      refine lv_iconst (v := 0) hx hb dX2_rankSteps_44 (by decide) ?_
      refine lv_istore (lv' := [(4, .int (0 : Int32)), (3, .int v3), (0, .ref x0), (1, .ref x1), (2, .int x2)]) hx hb dX2_rankSteps_45 hl (by decide) rfl (fun ls hl => ?_)
      exact w_Plan_rankSteps_47 X hN hr k33 N _ _ _ _ _ _ _ _ _ hJ I (lv_sub hl [2, 3, 4, 1, 0] rfl)
set_option maxHeartbeats 4000000 in
set_option maxRecDepth 100000 in
theorem w_Plan_rankSteps_2 (X : Cx p s m args meth c D vwCl tys cX2_rankSteps 5 RX2 wsG) (hN : nwS s) (hr : meth.sig.returnType = none) {res : (Unit × Hp)} {N : Nat}   : ∀ (n : Nat) (x0 : Nat) (x1 : Nat) (x2 : Int32)  (h : Hp) (H : Heap) (locs : List Loc) (ls : Array Slot), J_Plan_rankSteps_2 N n x0 x1 x2 h = some res → In D vwCl tys A s h H locs → lv_has ls 5 [(0, .ref x0), (1, .ref x1), (2, .int x2)] → W p l e rmX2_rankSteps s m args below meth c H locs 0 0 (MQ below (Qr D vwCl tys A none res.2) args s 0 0 A) (F0 m 2 ls []) := by
  have hx := X.1.1
  have hb := X.1.2.1
  have hml := X.1.2.2.1
  have ho := X.1.2.2.2.1
  have hts := X.1.2.2.2.2
  have hK := X.2.1
  have hT := X.2.2.2
  intro n
  induction n with
  | zero =>
    intro x0 x1 x2  h H locs ls hJ I hl
    exact nomatch (show (none : Option (Unit × Hp)) = some res from hJ)
  | succ n k2 =>
    intro x0 x1 x2  h H locs ls hJ I hl
    rw [J_Plan_rankSteps_2] at hJ
    refine lv_iload_n hx hb dX2_rankSteps_2 rfl (lv_at hl 2 rfl) ?_
    refine lv_bipush (v := 40) hx hb dX2_rankSteps_3 (by decide) ?_
    refine lv_icmp_ge (tgt := 26) hx hb dX2_rankSteps_5 (by decide) (fun c9 => ?_) (fun c9 => ?_)
    · rw [if_pos c9] at hJ
      refine lv_aload_n hx hb dX2_rankSteps_26 rfl (lv_at hl 0 rfl) ?_
      obtain ⟨v1, e9, hJ⟩ := rp_b hJ
      obtain ⟨f9, g9, e9⟩ := fI_s e9
      refine rp_get X I g9 e9 rfl wiX2 (by decide) wm_110 dX2_rankSteps_27 ?_
      refine lv_iconst (v := 1) hx hb dX2_rankSteps_30 (by decide) ?_
      refine lv_isub hx hb dX2_rankSteps_31 ?_
      refine lv_istore_n (lv' := [(2, .int (v1 - (1 : Int32))), (0, .ref x0), (1, .ref x1)]) hx hb dX2_rankSteps_32 rfl hl (by decide) rfl (fun ls hl => ?_)
      exact w_Plan_rankSteps_33 X hN hr N _ _ _ _ _ _ _ hJ I (lv_sub hl [1, 2, 0] rfl)
    · rw [if_neg c9] at hJ
      refine lv_aload_n hx hb dX2_rankSteps_8 rfl (lv_at hl 0 rfl) ?_
      obtain ⟨v15, e9, hJ⟩ := rp_b hJ
      obtain ⟨f9, g9, e9⟩ := fR_s e9
      refine rp_get X I g9 e9 rfl wiX2 (by decide) wm_111 dX2_rankSteps_9 ?_
      refine lv_iload_n hx hb dX2_rankSteps_12 rfl (lv_at hl 2 rfl) ?_
      refine lv_aload_n hx hb dX2_rankSteps_13 rfl (lv_at hl 1 rfl) ?_
      refine lv_iload_n hx hb dX2_rankSteps_14 rfl (lv_at hl 2 rfl) ?_
      obtain ⟨v16, e9, hJ⟩ := rp_b hJ
      refine rp_aald X I e9 rfl dX2_rankSteps_15 ?_
      obtain ⟨v17, e9, hJ⟩ := rp_b hJ
      obtain ⟨f9, g9, e9⟩ := fI_s e9
      refine rp_getN (host := "BuildDesk") X I g9 e9 rfl wiX5 (by decide) (hN.1 _ (by decide +kernel)) dX2_rankSteps_16 ?_
      obtain ⟨h18, e9, hJ⟩ := rp_b hJ
      refine rp_iast X I e9 rfl dX2_rankSteps_19 (fun H locs I => ?_)
      refine lv_iinc (v := (x2 + (1 : Int32))) (lv' := [(2, .int (x2 + (1 : Int32))), (0, .ref x0), (1, .ref x1)]) hx hb dX2_rankSteps_20 hl (k := 2) rfl rfl (by decide) rfl (fun ls hl => ?_)
      refine lv_goto (tgt := 2) hx hb dX2_rankSteps_23 (by decide) ?_
      exact k2 _ _ _ _ _ _ _ hJ I (lv_sub hl [1, 2, 0] rfl)
set_option maxHeartbeats 4000000 in
set_option maxRecDepth 100000 in
theorem c_Plan_rankSteps {l : Launch} {D : va_G} {tys : List (ClassId × FieldType)} {A : Nat → Prop} (hT : tys.map (fun q => q.2) = tyS) {N : Nat} {x0 : Nat} {x1 : Nat} {h : Hp} {res : (Unit × Hp)} (hJ : J_Plan_rankSteps N x0 x1 h = some res) : Ct l D vwCl tys A yX2_rankSteps (Cond.code yX2_rankSteps cX2_rankSteps 5 none :: wsG) rmX2_rankSteps [.ref x0, .ref x1] h none res.2 := by
  refine Met.ofW (cc := cX2_rankSteps) (maxL := 5) (ret := none) (by decide) rfl ?_
  intro p e s m args below meth c s₁ B hml hv
  obtain ⟨rfl, hA, hR, hK, hN⟩ := hv
  have hr := B.returns
  have hts : ∀ w ∈ wsG, w.before [.ref x0, .ref x1].toArray s = true := fun w hw => atoms_spec (ws := Cond.code yX2_rankSteps cX2_rankSteps 5 none :: wsG) B.pre w (List.mem_cons_of_mem _ hw)
  have X : Cx p s m [.ref x0, .ref x1].toArray meth c D vwCl tys cX2_rankSteps 5 RX2 wsG := ⟨⟨B.exec, B.bytes, hml, findClass_of_methodNamed B.named, hts⟩, hK, B.notSynchronized, hT⟩
  have hx := B.exec
  have hb := B.bytes
  have I : In D vwCl tys A s h s.heap [] := ⟨hR, va_S.rf, hA⟩
  have hl := lv_entry [.ref x0, .ref x1] (n := 5) (Nat.le_of_ble_eq_true rfl)
  rw [lg_entry_eq]
  generalize (lg_sl [.ref x0, .ref x1] ++ List.replicate (5 - (lg_sl [.ref x0, .ref x1]).length) Slot.unset).toArray = ls at hl ⊢
  have hl : lv_has ls 5 [(0, .ref x0), (1, .ref x1)] := hl
  have ho := X.1.2.2.2.1
  rw [J_Plan_rankSteps] at hJ
  refine lv_iconst (v := 0) hx hb dX2_rankSteps_0 (by decide) ?_
  refine lv_istore_n (lv' := [(2, .int (0 : Int32)), (0, .ref x0), (1, .ref x1)]) hx hb dX2_rankSteps_1 rfl hl (by decide) rfl (fun ls hl => ?_)
  exact w_Plan_rankSteps_2 X hN hr N _ _ _ _ _ _ _ hJ I (lv_sub hl [1, 2, 0] rfl)
def rmX2_greatestRank : Room := { frames := 1, cells := 0, slots := 0, locals := 21 }
def J_Plan_greatestRank_4 (N : Nat)  : Nat → Nat → Int32 → Int32 → Hp → Option (Int32 × Hp)
  | 0, _, _, _, _ => none
  | n + 1, x0, x1, x2, h =>
  (fI h 2 x0 2).bind fun v1 =>
  if v1 ≤ x2 then
  (some (x1, h))
  else
  ((fR h 2 x0 3).bind fun v2 =>
  (fR h 2 x0 1).bind fun v3 =>
  (aI h 0 v3 x2).bind fun v4 =>
  (aI h 0 v2 v4).bind fun v5 =>
  (J_Plan_greatestRank_4 N n) x0 (if x1 < v5 then v5 else x1) (x2 + (1 : Int32)) h)
def J_Plan_greatestRank (N : Nat) (x0 : Nat) (h : Hp) : Option (Int32 × Hp) :=
  J_Plan_greatestRank_4 N N x0 (0 : Int32) (0 : Int32) h
set_option maxHeartbeats 4000000 in
set_option maxRecDepth 100000 in
theorem w_Plan_greatestRank_4 (X : Cx p s m args meth c D vwCl tys cX2_greatestRank 3 RX2 wsG) (hN : nwS s) (hr : meth.sig.returnType = (some .int)) {res : (Int32 × Hp)} {N : Nat}   : ∀ (n : Nat) (x0 : Nat) (x1 : Int32) (x2 : Int32)  (h : Hp) (H : Heap) (locs : List Loc) (ls : Array Slot), J_Plan_greatestRank_4 N n x0 x1 x2 h = some res → In D vwCl tys A s h H locs → lv_has ls 3 [(0, .ref x0), (1, .int x1), (2, .int x2)] → W p l e rmX2_greatestRank s m args below meth c H locs 0 0 (MQ below (Qr D vwCl tys A (some (.int res.1)) res.2) args s 0 0 A) (F0 m 4 ls []) := by
  have hx := X.1.1
  have hb := X.1.2.1
  have hml := X.1.2.2.1
  have ho := X.1.2.2.2.1
  have hts := X.1.2.2.2.2
  have hK := X.2.1
  have hT := X.2.2.2
  intro n
  induction n with
  | zero =>
    intro x0 x1 x2  h H locs ls hJ I hl
    exact nomatch (show (none : Option (Int32 × Hp)) = some res from hJ)
  | succ n k4 =>
    intro x0 x1 x2  h H locs ls hJ I hl
    rw [J_Plan_greatestRank_4] at hJ
    refine lv_iload_n hx hb dX2_greatestRank_4 rfl (lv_at hl 2 rfl) ?_
    refine lv_aload_n hx hb dX2_greatestRank_5 rfl (lv_at hl 0 rfl) ?_
    obtain ⟨v1, e9, hJ⟩ := rp_b hJ
    obtain ⟨f9, g9, e9⟩ := fI_s e9
    refine rp_get X I g9 e9 rfl wiX2 (by decide) wm_110 dX2_greatestRank_6 ?_
    refine lv_icmp_ge (tgt := 34) hx hb dX2_greatestRank_9 (by decide) (fun c9 => ?_) (fun c9 => ?_)
    · rw [if_pos c9] at hJ
      refine lv_iload_n hx hb dX2_greatestRank_34 rfl (lv_at hl 1 rfl) ?_
      exact rp_iret X hr hJ I dX2_greatestRank_35
    · rw [if_neg c9] at hJ
      refine lv_iload_n hx hb dX2_greatestRank_12 rfl (lv_at hl 1 rfl) ?_
      refine lv_aload_n hx hb dX2_greatestRank_13 rfl (lv_at hl 0 rfl) ?_
      obtain ⟨v2, e9, hJ⟩ := rp_b hJ
      obtain ⟨f9, g9, e9⟩ := fR_s e9
      refine rp_get X I g9 e9 rfl wiX2 (by decide) wm_111 dX2_greatestRank_14 ?_
      refine lv_aload_n hx hb dX2_greatestRank_17 rfl (lv_at hl 0 rfl) ?_
      obtain ⟨v3, e9, hJ⟩ := rp_b hJ
      obtain ⟨f9, g9, e9⟩ := fR_s e9
      refine rp_get X I g9 e9 rfl wiX2 (by decide) wm_109 dX2_greatestRank_18 ?_
      refine lv_iload_n hx hb dX2_greatestRank_21 rfl (lv_at hl 2 rfl) ?_
      obtain ⟨v4, e9, hJ⟩ := rp_b hJ
      refine rp_iald X I e9 rfl dX2_greatestRank_22 ?_
      obtain ⟨v5, e9, hJ⟩ := rp_b hJ
      refine rp_iald X I e9 rfl dX2_greatestRank_23 ?_
      refine va_mmax hx hb (hml.trans hl.1.symm) ho (hts _ wm_396) (hts _ wm_397) (hts _ wm_46) (hts _ wm_398) (Nat.le_of_ble_eq_true rfl) (Nat.le_of_ble_eq_true rfl) (Nat.le_of_ble_eq_true rfl) (Nat.le_of_ble_eq_true rfl) dX2_greatestRank_24 ?_
      refine lv_istore_n (lv' := [(1, .int (if x1 < v5 then v5 else x1)), (0, .ref x0), (2, .int x2)]) hx hb dX2_greatestRank_27 rfl hl (by decide) rfl (fun ls hl => ?_)
      refine lv_iinc (v := (x2 + (1 : Int32))) (lv' := [(2, .int (x2 + (1 : Int32))), (1, .int (if x1 < v5 then v5 else x1)), (0, .ref x0)]) hx hb dX2_greatestRank_28 hl (k := 2) rfl rfl (by decide) rfl (fun ls hl => ?_)
      refine lv_goto (tgt := 4) hx hb dX2_greatestRank_31 (by decide) ?_
      exact k4 _ _ _ _ _ _ _ hJ I (lv_sub hl [2, 1, 0] rfl)
set_option maxHeartbeats 4000000 in
set_option maxRecDepth 100000 in
theorem c_Plan_greatestRank {l : Launch} {D : va_G} {tys : List (ClassId × FieldType)} {A : Nat → Prop} (hT : tys.map (fun q => q.2) = tyS) {N : Nat} {x0 : Nat} {h : Hp} {res : (Int32 × Hp)} (hJ : J_Plan_greatestRank N x0 h = some res) : Ct l D vwCl tys A yX2_greatestRank (Cond.code yX2_greatestRank cX2_greatestRank 3 (some .int) :: wsG) rmX2_greatestRank [.ref x0] h (some (.int res.1)) res.2 := by
  refine Met.ofW (cc := cX2_greatestRank) (maxL := 3) (ret := (some .int)) (by decide) rfl ?_
  intro p e s m args below meth c s₁ B hml hv
  obtain ⟨rfl, hA, hR, hK, hN⟩ := hv
  have hr := B.returns
  have hts : ∀ w ∈ wsG, w.before [.ref x0].toArray s = true := fun w hw => atoms_spec (ws := Cond.code yX2_greatestRank cX2_greatestRank 3 (some .int) :: wsG) B.pre w (List.mem_cons_of_mem _ hw)
  have X : Cx p s m [.ref x0].toArray meth c D vwCl tys cX2_greatestRank 3 RX2 wsG := ⟨⟨B.exec, B.bytes, hml, findClass_of_methodNamed B.named, hts⟩, hK, B.notSynchronized, hT⟩
  have hx := B.exec
  have hb := B.bytes
  have I : In D vwCl tys A s h s.heap [] := ⟨hR, va_S.rf, hA⟩
  have hl := lv_entry [.ref x0] (n := 3) (Nat.le_of_ble_eq_true rfl)
  rw [lg_entry_eq]
  generalize (lg_sl [.ref x0] ++ List.replicate (3 - (lg_sl [.ref x0]).length) Slot.unset).toArray = ls at hl ⊢
  have hl : lv_has ls 3 [(0, .ref x0)] := hl
  have ho := X.1.2.2.2.1
  rw [J_Plan_greatestRank] at hJ
  refine lv_iconst (v := 0) hx hb dX2_greatestRank_0 (by decide) ?_
  refine lv_istore_n (lv' := [(1, .int (0 : Int32)), (0, .ref x0)]) hx hb dX2_greatestRank_1 rfl hl (by decide) rfl (fun ls hl => ?_)
  refine lv_iconst (v := 0) hx hb dX2_greatestRank_2 (by decide) ?_
  refine lv_istore_n (lv' := [(2, .int (0 : Int32)), (1, .int (0 : Int32)), (0, .ref x0)]) hx hb dX2_greatestRank_3 rfl hl (by decide) rfl (fun ls hl => ?_)
  exact w_Plan_greatestRank_4 X hN hr N _ _ _ _ _ _ _ hJ I (lv_sub hl [2, 1, 0] rfl)
def rmX2_waitingFor : Room := { frames := 2, cells := 0, slots := 0, locals := 42 }
def J_Plan_waitingFor_5 (N : Nat)  : Nat → Nat → Int64 → Int64 → Int32 → Hp → Option (Int64 × Hp)
  | 0, _, _, _, _, _ => none
  | n + 1, x0, x1, x3, x5, h =>
  if (40 : Int32) ≤ x5 then
  (some (x3, h))
  else
  ((fJ h 2 x0 4).bind fun v1 =>
  (J_Desk_isIn N v1 x5 h).bind fun q2 =>
 if q2.1 = 0 then
  ((J_Plan_waitingFor_5 N n) x0 x1 x3 (x5 + (1 : Int32)) q2.2)
  else
  ((fR q2.2 2 x0 0).bind fun v3 =>
  (aJ q2.2 2 v3 x5).bind fun v4 =>
  if (lg_cmp (v4 &&& x1) (0 : Int64)) = 0 then
  ((J_Plan_waitingFor_5 N n) x0 x1 x3 (x5 + (1 : Int32)) q2.2)
  else
  ((J_Desk_bit N x5 q2.2).bind fun q5 =>
 (J_Plan_waitingFor_5 N n) x0 x1 (x3 ||| q5.1) (x5 + (1 : Int32)) q5.2)))
def J_Plan_waitingFor (N : Nat) (x0 : Nat) (x1 : Int64) (h : Hp) : Option (Int64 × Hp) :=
  J_Plan_waitingFor_5 N N x0 x1 (0 : Int64) (0 : Int32) h
set_option maxHeartbeats 4000000 in
set_option maxRecDepth 100000 in
theorem w_Plan_waitingFor_5 (X : Cx p s m args meth c D vwCl tys cX2_waitingFor 6 RX2 wsG) (hN : nwS s) (hr : meth.sig.returnType = (some .long)) {res : (Int64 × Hp)} {N : Nat}   : ∀ (n : Nat) (x0 : Nat) (x1 : Int64) (x3 : Int64) (x5 : Int32)  (h : Hp) (H : Heap) (locs : List Loc) (ls : Array Slot), J_Plan_waitingFor_5 N n x0 x1 x3 x5 h = some res → In D vwCl tys A s h H locs → lv_has ls 6 [(0, .ref x0), (1, .long x1), (3, .long x3), (5, .int x5)] → W p l e rmX2_waitingFor s m args below meth c H locs 0 0 (MQ below (Qr D vwCl tys A (some (.long res.1)) res.2) args s 0 0 A) (F0 m 5 ls []) := by
  have hx := X.1.1
  have hb := X.1.2.1
  have hml := X.1.2.2.1
  have ho := X.1.2.2.2.1
  have hts := X.1.2.2.2.2
  have hK := X.2.1
  have hT := X.2.2.2
  intro n
  induction n with
  | zero =>
    intro x0 x1 x3 x5  h H locs ls hJ I hl
    exact nomatch (show (none : Option (Int64 × Hp)) = some res from hJ)
  | succ n k5 =>
    intro x0 x1 x3 x5  h H locs ls hJ I hl
    rw [J_Plan_waitingFor_5] at hJ
    refine lv_iload hx hb dX2_waitingFor_5 (lv_at hl 3 rfl) ?_
    refine lv_bipush (v := 40) hx hb dX2_waitingFor_7 (by decide) ?_
    refine lv_icmp_ge (tgt := 52) hx hb dX2_waitingFor_9 (by decide) (fun c9 => ?_) (fun c9 => ?_)
    · rw [if_pos c9] at hJ
      refine lv_lload_n hx hb dX2_waitingFor_52 rfl (lv_at hl 2 rfl) ?_
      exact rp_lret X hr hJ I dX2_waitingFor_53
    · rw [if_neg c9] at hJ
      refine lv_aload_n hx hb dX2_waitingFor_12 rfl (lv_at hl 0 rfl) ?_
      obtain ⟨v1, e9, hJ⟩ := rp_b hJ
      obtain ⟨f9, g9, e9⟩ := fJ_s e9
      refine rp_get X I g9 e9 rfl wiX2 (by decide) wm_112 dX2_waitingFor_13 ?_
      refine lv_iload hx hb dX2_waitingFor_16 (lv_at hl 3 rfl) ?_
      obtain ⟨q2, e9, hJ⟩ := rp_b hJ
      refine rp_callSN (As := [.long v1, .int x5]) (rest := []) X hN I (c_Desk_isIn hT e9) ⟨(va_cnB (host := "BuildDesk") 2 hts (gdC wm_342) rfl rfl rfl (hN.1 _ (by decide +kernel)) (hts _ wm_33) (by decide +kernel) ⟨Nat.le_of_ble_eq_true rfl, Nat.le_of_ble_eq_true rfl⟩), hts _ wm_341, trivial⟩ rfl hl.1 rfl (Nat.le_of_ble_eq_true rfl) dX2_waitingFor_18 ⟨(Nat.le_of_ble_eq_true rfl), (Nat.le_of_ble_eq_true rfl)⟩ (fun H locs I => ?_)
      refine W.cs (cells' := 0) (slots' := 0) rfl rfl ?_
      refine lv_if_eq (tgt := 46) hx hb dX2_waitingFor_21 (by decide) (fun c9 => ?_) (fun c9 => ?_)
      · rw [if_pos c9] at hJ
        refine lv_iinc (v := (x5 + (1 : Int32))) (lv' := [(5, .int (x5 + (1 : Int32))), (0, .ref x0), (1, .long x1), (3, .long x3)]) hx hb dX2_waitingFor_46 hl (k := 3) rfl rfl (by decide) rfl (fun ls hl => ?_)
        refine lv_goto (tgt := 5) hx hb dX2_waitingFor_49 (by decide) ?_
        exact k5 _ _ _ _ _ _ _ _ hJ I (lv_sub hl [1, 2, 3, 0] rfl)
      · rw [if_neg c9] at hJ
        refine lv_aload_n hx hb dX2_waitingFor_24 rfl (lv_at hl 0 rfl) ?_
        obtain ⟨v3, e9, hJ⟩ := rp_b hJ
        obtain ⟨f9, g9, e9⟩ := fR_s e9
        refine rp_get X I g9 e9 rfl wiX2 (by decide) wm_108 dX2_waitingFor_25 ?_
        refine lv_iload hx hb dX2_waitingFor_28 (lv_at hl 3 rfl) ?_
        obtain ⟨v4, e9, hJ⟩ := rp_b hJ
        refine rp_lald X I e9 rfl dX2_waitingFor_30 ?_
        refine lv_lload_n hx hb dX2_waitingFor_31 rfl (lv_at hl 1 rfl) ?_
        refine lv_land hx hb dX2_waitingFor_32 ?_
        refine lv_lconst (v := 0) hx hb dX2_waitingFor_33 (by decide) ?_
        refine W.lcmp hx hb dX2_waitingFor_34 ?_
        refine lv_if_eq (tgt := 46) hx hb dX2_waitingFor_35 (by decide) (fun c9 => ?_) (fun c9 => ?_)
        · rw [if_pos c9] at hJ
          refine lv_iinc (v := (x5 + (1 : Int32))) (lv' := [(5, .int (x5 + (1 : Int32))), (0, .ref x0), (1, .long x1), (3, .long x3)]) hx hb dX2_waitingFor_46 hl (k := 3) rfl rfl (by decide) rfl (fun ls hl => ?_)
          refine lv_goto (tgt := 5) hx hb dX2_waitingFor_49 (by decide) ?_
          exact k5 _ _ _ _ _ _ _ _ hJ I (lv_sub hl [1, 2, 3, 0] rfl)
        · rw [if_neg c9] at hJ
          refine lv_lload_n hx hb dX2_waitingFor_38 rfl (lv_at hl 2 rfl) ?_
          refine lv_iload hx hb dX2_waitingFor_39 (lv_at hl 3 rfl) ?_
          obtain ⟨q5, e9, hJ⟩ := rp_b hJ
          refine rp_callSN (As := [.int x5]) (rest := [.long x3]) X hN I (c_Desk_bit hT e9) ⟨(va_cnB (host := "BuildDesk") 1 hts (gdC wm_340) rfl rfl rfl (hN.1 _ (by decide +kernel)) (hts _ wm_33) (by decide +kernel) ⟨Nat.le_of_ble_eq_true rfl, Nat.le_of_ble_eq_true rfl⟩), hts _ wm_339, trivial⟩ rfl hl.1 rfl (Nat.le_of_ble_eq_true rfl) dX2_waitingFor_41 ⟨(Nat.le_of_ble_eq_true rfl), (Nat.le_of_ble_eq_true rfl)⟩ (fun H locs I => ?_)
          refine W.cs (cells' := 0) (slots' := 0) rfl rfl ?_
          refine lv_lor hx hb dX2_waitingFor_44 ?_
          refine lv_lstore_n (lv' := [(3, .long (x3 ||| q5.1)), (0, .ref x0), (1, .long x1), (5, .int x5)]) hx hb dX2_waitingFor_45 rfl hl (by decide) rfl (fun ls hl => ?_)
          refine lv_iinc (v := (x5 + (1 : Int32))) (lv' := [(5, .int (x5 + (1 : Int32))), (3, .long (x3 ||| q5.1)), (0, .ref x0), (1, .long x1)]) hx hb dX2_waitingFor_46 hl (k := 3) rfl rfl (by decide) rfl (fun ls hl => ?_)
          refine lv_goto (tgt := 5) hx hb dX2_waitingFor_49 (by decide) ?_
          exact k5 _ _ _ _ _ _ _ _ hJ I (lv_sub hl [2, 3, 1, 0] rfl)
set_option maxHeartbeats 4000000 in
set_option maxRecDepth 100000 in
theorem c_Plan_waitingFor {l : Launch} {D : va_G} {tys : List (ClassId × FieldType)} {A : Nat → Prop} (hT : tys.map (fun q => q.2) = tyS) {N : Nat} {x0 : Nat} {x1 : Int64} {h : Hp} {res : (Int64 × Hp)} (hJ : J_Plan_waitingFor N x0 x1 h = some res) : Ct l D vwCl tys A yX2_waitingFor (Cond.code yX2_waitingFor cX2_waitingFor 6 (some .long) :: wsG) rmX2_waitingFor [.ref x0, .long x1] h (some (.long res.1)) res.2 := by
  refine Met.ofW (cc := cX2_waitingFor) (maxL := 6) (ret := (some .long)) (by decide) rfl ?_
  intro p e s m args below meth c s₁ B hml hv
  obtain ⟨rfl, hA, hR, hK, hN⟩ := hv
  have hr := B.returns
  have hts : ∀ w ∈ wsG, w.before [.ref x0, .long x1].toArray s = true := fun w hw => atoms_spec (ws := Cond.code yX2_waitingFor cX2_waitingFor 6 (some .long) :: wsG) B.pre w (List.mem_cons_of_mem _ hw)
  have X : Cx p s m [.ref x0, .long x1].toArray meth c D vwCl tys cX2_waitingFor 6 RX2 wsG := ⟨⟨B.exec, B.bytes, hml, findClass_of_methodNamed B.named, hts⟩, hK, B.notSynchronized, hT⟩
  have hx := B.exec
  have hb := B.bytes
  have I : In D vwCl tys A s h s.heap [] := ⟨hR, va_S.rf, hA⟩
  have hl := lv_entry [.ref x0, .long x1] (n := 6) (Nat.le_of_ble_eq_true rfl)
  rw [lg_entry_eq]
  generalize (lg_sl [.ref x0, .long x1] ++ List.replicate (6 - (lg_sl [.ref x0, .long x1]).length) Slot.unset).toArray = ls at hl ⊢
  have hl : lv_has ls 6 [(0, .ref x0), (1, .long x1)] := hl
  have ho := X.1.2.2.2.1
  rw [J_Plan_waitingFor] at hJ
  refine lv_lconst (v := 0) hx hb dX2_waitingFor_0 (by decide) ?_
  refine lv_lstore_n (lv' := [(3, .long (0 : Int64)), (0, .ref x0), (1, .long x1)]) hx hb dX2_waitingFor_1 rfl hl (by decide) rfl (fun ls hl => ?_)
  refine lv_iconst (v := 0) hx hb dX2_waitingFor_2 (by decide) ?_
  refine lv_istore (lv' := [(5, .int (0 : Int32)), (3, .long (0 : Int64)), (0, .ref x0), (1, .long x1)]) hx hb dX2_waitingFor_3 hl (by decide) rfl (fun ls hl => ?_)
  exact w_Plan_waitingFor_5 X hN hr N _ _ _ _ _ _ _ _ hJ I (lv_sub hl [2, 3, 1, 0] rfl)
end GW
end
section
section GW
variable {p : Program} {l : Launch} {e : Env} {s : State} {m : MethodId} {args : Array Value} {below : List Frame} {meth : Method} {c : Code} {D : va_G} {tys : List (ClassId × FieldType)} {A : Nat → Prop}
def rmX3_init : Room := { frames := 1, cells := 1, slots := 200, locals := 20 }
def J_Rep_init (N : Nat) (x0 : Nat) (h : Hp) : Option (Unit × Hp) :=
  (nI_ h 0 (200 : Int32)).bind fun q1 =>
  (sF q1.2 3 x0 4 (.ref q1.1)).bind fun h2 =>
  some ((), h2)
set_option maxHeartbeats 4000000 in
set_option maxRecDepth 100000 in
theorem c_Rep_init {l : Launch} {D : va_G} {tys : List (ClassId × FieldType)} {A : Nat → Prop} (hT : tys.map (fun q => q.2) = tyS) {N : Nat} {x0 : Nat} {h : Hp} {res : (Unit × Hp)} (hJ : J_Rep_init N x0 h = some res) : Ct l D vwCl tys A yX3_init (Cond.code yX3_init cX3_init 1 none :: wsG) rmX3_init [.ref x0] h none res.2 := by
  refine Met.ofW (cc := cX3_init) (maxL := 1) (ret := none) (by decide) rfl ?_
  intro p e s m args below meth c s₁ B hml hv
  obtain ⟨rfl, hA, hR, hK, hN⟩ := hv
  have hr := B.returns
  have hts : ∀ w ∈ wsG, w.before [.ref x0].toArray s = true := fun w hw => atoms_spec (ws := Cond.code yX3_init cX3_init 1 none :: wsG) B.pre w (List.mem_cons_of_mem _ hw)
  have X : Cx p s m [.ref x0].toArray meth c D vwCl tys cX3_init 1 RX3 wsG := ⟨⟨B.exec, B.bytes, hml, findClass_of_methodNamed B.named, hts⟩, hK, B.notSynchronized, hT⟩
  have hinit : meth.name = "<init>" := (name_of_methodNamed B.named B.method).1
  have hx := B.exec
  have hb := B.bytes
  have I : In D vwCl tys A s h s.heap [] := ⟨hR, va_S.rf, hA⟩
  have hl := lv_entry [.ref x0] (n := 1) (Nat.le_of_ble_eq_true rfl)
  rw [lg_entry_eq]
  generalize (lg_sl [.ref x0] ++ List.replicate (1 - (lg_sl [.ref x0]).length) Slot.unset).toArray = ls at hl ⊢
  have hl : lv_has ls 1 [(0, .ref x0)] := hl
  have ho := X.1.2.2.2.1
  rw [J_Rep_init] at hJ
  refine lv_aload_n hx hb dX3_init_0 rfl (lv_at hl 0 rfl) ?_
  refine W.objInit hx hb ho (hts _ wm_138) (hts _ wm_54) (hts _ wm_55) rfl (by rw [hml]; exact hl.1) rfl dX3_init_1 (Nat.le_of_ble_eq_true rfl) (Nat.le_of_ble_eq_true rfl) ?_
  refine W.eq (g2 := F0 m 4 ls []) rfl ?_
  refine lv_aload_n hx hb dX3_init_4 rfl (lv_at hl 0 rfl) ?_
  refine lv_sipush (v := 200) hx hb dX3_init_5 (by decide) ?_
  obtain ⟨q1, e9, hJ⟩ := rp_b hJ
  refine rp_newI (K := 200) (ty := .int) X I e9 (by decide) rfl rfl (by decide) wm_68 rfl (fun _ z => z) (Nat.le_of_ble_eq_true rfl) (Nat.le_of_ble_eq_true rfl) dX3_init_8 (fun H I => ?_)
  obtain ⟨h2, e9, hJ⟩ := rp_b hJ
  refine rp_putF (ty := (.array .int)) X I e9 rfl wiX3 tyX3 tyX3_ok nmX3 (by decide) wm_143 rfl hinit rfl (by decide +kernel) rfl rfl dX3_init_10 (fun H locs I => ?_)
  refine W.widen (k := 1) (n := 200) (Nat.le_of_ble_eq_true rfl) (Nat.le_of_ble_eq_true rfl) ?_
  exact rp_vret X hr hJ I dX3_init_13
def rmX3_open : Room := { frames := 2, cells := 0, slots := 0, locals := 43 }
def J_Rep_open (N : Nat) (x0 : Nat) (x1 : Nat) (h : Hp) : Option (Unit × Hp) :=
  (fI h 2 x1 2).bind fun v1 =>
  (sF h 3 x0 0 (.int v1)).bind fun h2 =>
  (sF h2 3 x0 1 (.int (0 : Int32))).bind fun h3 =>
  (sF h3 3 x0 2 (.int (0 : Int32))).bind fun h4 =>
  (isO h4 2 x1).bind fun _ =>
  (J_Plan_greatestRank N x1 h4).bind fun q5 =>
 (sF q5.2 3 x0 3 (.int q5.1)).bind fun h6 =>
  some ((), h6)
set_option maxHeartbeats 4000000 in
set_option maxRecDepth 100000 in
theorem c_Rep_open {l : Launch} {D : va_G} {tys : List (ClassId × FieldType)} {A : Nat → Prop} (hT : tys.map (fun q => q.2) = tyS) {N : Nat} {x0 : Nat} {x1 : Nat} {h : Hp} {res : (Unit × Hp)} (hJ : J_Rep_open N x0 x1 h = some res) : Ct l D vwCl tys A yX3_open (Cond.code yX3_open cX3_open 2 none :: wsG) rmX3_open [.ref x0, .ref x1] h none res.2 := by
  refine Met.ofW (cc := cX3_open) (maxL := 2) (ret := none) (by decide) rfl ?_
  intro p e s m args below meth c s₁ B hml hv
  obtain ⟨rfl, hA, hR, hK, hN⟩ := hv
  have hr := B.returns
  have hts : ∀ w ∈ wsG, w.before [.ref x0, .ref x1].toArray s = true := fun w hw => atoms_spec (ws := Cond.code yX3_open cX3_open 2 none :: wsG) B.pre w (List.mem_cons_of_mem _ hw)
  have X : Cx p s m [.ref x0, .ref x1].toArray meth c D vwCl tys cX3_open 2 RX3 wsG := ⟨⟨B.exec, B.bytes, hml, findClass_of_methodNamed B.named, hts⟩, hK, B.notSynchronized, hT⟩
  have hx := B.exec
  have hb := B.bytes
  have I : In D vwCl tys A s h s.heap [] := ⟨hR, va_S.rf, hA⟩
  have hl := lv_entry [.ref x0, .ref x1] (n := 2) (Nat.le_of_ble_eq_true rfl)
  rw [lg_entry_eq]
  generalize (lg_sl [.ref x0, .ref x1] ++ List.replicate (2 - (lg_sl [.ref x0, .ref x1]).length) Slot.unset).toArray = ls at hl ⊢
  have hl : lv_has ls 2 [(0, .ref x0), (1, .ref x1)] := hl
  have ho := X.1.2.2.2.1
  rw [J_Rep_open] at hJ
  refine lv_aload_n hx hb dX3_open_0 rfl (lv_at hl 0 rfl) ?_
  refine lv_aload_n hx hb dX3_open_1 rfl (lv_at hl 1 rfl) ?_
  obtain ⟨v1, e9, hJ⟩ := rp_b hJ
  obtain ⟨f9, g9, e9⟩ := fI_s e9
  refine rp_getN (host := "BuildDesk") X I g9 e9 rfl wiX2 (by decide) (hN.1 _ (by decide +kernel)) dX3_open_2 ?_
  obtain ⟨h2, e9, hJ⟩ := rp_b hJ
  refine rp_put (ty := .int) X I e9 rfl wiX3 tyX3 tyX3_ok nmX3 (by decide) wm_139 rfl (by decide +kernel) rfl rfl dX3_open_5 (fun H locs I => ?_)
  refine lv_aload_n hx hb dX3_open_8 rfl (lv_at hl 0 rfl) ?_
  refine lv_iconst (v := 0) hx hb dX3_open_9 (by decide) ?_
  obtain ⟨h3, e9, hJ⟩ := rp_b hJ
  refine rp_put (ty := .int) X I e9 rfl wiX3 tyX3 tyX3_ok nmX3 (by decide) wm_140 rfl (by decide +kernel) rfl rfl dX3_open_10 (fun H locs I => ?_)
  refine lv_aload_n hx hb dX3_open_13 rfl (lv_at hl 0 rfl) ?_
  refine lv_iconst (v := 0) hx hb dX3_open_14 (by decide) ?_
  obtain ⟨h4, e9, hJ⟩ := rp_b hJ
  refine rp_put (ty := .int) X I e9 rfl wiX3 tyX3 tyX3_ok nmX3 (by decide) wm_141 rfl (by decide +kernel) rfl rfl dX3_open_15 (fun H locs I => ?_)
  refine lv_aload_n hx hb dX3_open_18 rfl (lv_at hl 0 rfl) ?_
  refine lv_aload_n hx hb dX3_open_19 rfl (lv_at hl 1 rfl) ?_
  obtain ⟨u9, i9, hJ⟩ := rp_b hJ
  obtain ⟨f9, i9⟩ := isO_s i9
  obtain ⟨q5, e9, hJ⟩ := rp_b hJ
  refine rp_callV (As := []) (rest := [.ref x0]) X hN I (c_Plan_greatestRank hT e9) (cwV 0 hts (gdV wm_403 wm_404 wm_405 wm_36 wm_406) rfl rfl rfl (by decide +kernel) ⟨Nat.le_of_ble_eq_true rfl, Nat.le_of_ble_eq_true rfl⟩) i9 rfl rfl hl.1 rfl (Nat.le_of_ble_eq_true rfl) dX3_open_20 ⟨(Nat.le_of_ble_eq_true rfl), (Nat.le_of_ble_eq_true rfl)⟩ (fun H locs I => ?_)
  refine W.cs (cells' := 0) (slots' := 0) rfl rfl ?_
  obtain ⟨h6, e9, hJ⟩ := rp_b hJ
  refine rp_put (ty := .int) X I e9 rfl wiX3 tyX3 tyX3_ok nmX3 (by decide) wm_142 rfl (by decide +kernel) rfl rfl dX3_open_23 (fun H locs I => ?_)
  exact rp_vret X hr hJ I dX3_open_26
def rmX3_add : Room := { frames := 0, cells := 0, slots := 0, locals := 0 }
def J_Rep_add (N : Nat) (x0 : Nat) (x1 : Int32) (x2 : Int32) (x3 : Int32) (x4 : Int32) (x5 : Int32) (h : Hp) : Option (Unit × Hp) :=
  (fI h 3 x0 1).bind fun v1 =>
  if v1 < (40 : Int32) then
  ((fI h 3 x0 1).bind fun v2 =>
  (fR h 3 x0 4).bind fun v3 =>
  (sI h 0 v3 (v2 * (5 : Int32)) x1).bind fun h4 =>
  (fR h4 3 x0 4).bind fun v5 =>
  (sI h4 0 v5 ((v2 * (5 : Int32)) + (1 : Int32)) x2).bind fun h6 =>
  (fR h6 3 x0 4).bind fun v7 =>
  (sI h6 0 v7 ((v2 * (5 : Int32)) + (2 : Int32)) x3).bind fun h8 =>
  (fR h8 3 x0 4).bind fun v9 =>
  (sI h8 0 v9 ((v2 * (5 : Int32)) + (3 : Int32)) x4).bind fun h10 =>
  (fR h10 3 x0 4).bind fun v11 =>
  (sI h10 0 v11 ((v2 * (5 : Int32)) + (4 : Int32)) x5).bind fun h12 =>
  (fI h12 3 x0 1).bind fun v13 =>
  (sF h12 3 x0 1 (.int (v13 + (1 : Int32)))).bind fun h14 =>
  (fI h14 3 x0 2).bind fun v15 =>
  (sF h14 3 x0 2 (.int (v15 + (x3 - x2)))).bind fun h16 =>
  some ((), h16))
  else
  (some ((), h))
set_option maxHeartbeats 4000000 in
set_option maxRecDepth 100000 in
theorem c_Rep_add {l : Launch} {D : va_G} {tys : List (ClassId × FieldType)} {A : Nat → Prop} (hT : tys.map (fun q => q.2) = tyS) {N : Nat} {x0 : Nat} {x1 : Int32} {x2 : Int32} {x3 : Int32} {x4 : Int32} {x5 : Int32} {h : Hp} {res : (Unit × Hp)} (hJ : J_Rep_add N x0 x1 x2 x3 x4 x5 h = some res) : Ct l D vwCl tys A yX3_add (Cond.code yX3_add cX3_add 7 none :: wsG) rmX3_add [.ref x0, .int x1, .int x2, .int x3, .int x4, .int x5] h none res.2 := by
  refine Met.ofW (cc := cX3_add) (maxL := 7) (ret := none) (by decide) rfl ?_
  intro p e s m args below meth c s₁ B hml hv
  obtain ⟨rfl, hA, hR, hK, hN⟩ := hv
  have hr := B.returns
  have hts : ∀ w ∈ wsG, w.before [.ref x0, .int x1, .int x2, .int x3, .int x4, .int x5].toArray s = true := fun w hw => atoms_spec (ws := Cond.code yX3_add cX3_add 7 none :: wsG) B.pre w (List.mem_cons_of_mem _ hw)
  have X : Cx p s m [.ref x0, .int x1, .int x2, .int x3, .int x4, .int x5].toArray meth c D vwCl tys cX3_add 7 RX3 wsG := ⟨⟨B.exec, B.bytes, hml, findClass_of_methodNamed B.named, hts⟩, hK, B.notSynchronized, hT⟩
  have hx := B.exec
  have hb := B.bytes
  have I : In D vwCl tys A s h s.heap [] := ⟨hR, va_S.rf, hA⟩
  have hl := lv_entry [.ref x0, .int x1, .int x2, .int x3, .int x4, .int x5] (n := 7) (Nat.le_of_ble_eq_true rfl)
  rw [lg_entry_eq]
  generalize (lg_sl [.ref x0, .int x1, .int x2, .int x3, .int x4, .int x5] ++ List.replicate (7 - (lg_sl [.ref x0, .int x1, .int x2, .int x3, .int x4, .int x5]).length) Slot.unset).toArray = ls at hl ⊢
  have hl : lv_has ls 7 [(0, .ref x0), (1, .int x1), (2, .int x2), (3, .int x3), (4, .int x4), (5, .int x5)] := hl
  have ho := X.1.2.2.2.1
  rw [J_Rep_add] at hJ
  refine lv_aload_n hx hb dX3_add_0 rfl (lv_at hl 0 rfl) ?_
  obtain ⟨v1, e9, hJ⟩ := rp_b hJ
  obtain ⟨f9, g9, e9⟩ := fI_s e9
  refine rp_get X I g9 e9 rfl wiX3 (by decide) wm_140 dX3_add_1 ?_
  refine lv_bipush (v := 40) hx hb dX3_add_4 (by decide) ?_
  refine lv_icmp_lt (tgt := 10) hx hb dX3_add_6 (by decide) (fun c9 => ?_) (fun c9 => ?_)
  · rw [if_pos c9] at hJ
    refine lv_aload_n hx hb dX3_add_10 rfl (lv_at hl 0 rfl) ?_
    obtain ⟨v2, e9, hJ⟩ := rp_b hJ
    obtain ⟨f9, g9, e9⟩ := fI_s e9
    refine rp_get X I g9 e9 rfl wiX3 (by decide) wm_140 dX3_add_11 ?_
    refine lv_iconst (v := 5) hx hb dX3_add_14 (by decide) ?_
    refine lv_imul hx hb dX3_add_15 ?_
    refine lv_istore (lv' := [(6, .int (v2 * (5 : Int32))), (0, .ref x0), (1, .int x1), (2, .int x2), (3, .int x3), (4, .int x4), (5, .int x5)]) hx hb dX3_add_16 hl (by decide) rfl (fun ls hl => ?_)
    refine lv_aload_n hx hb dX3_add_18 rfl (lv_at hl 1 rfl) ?_
    obtain ⟨v3, e9, hJ⟩ := rp_b hJ
    obtain ⟨f9, g9, e9⟩ := fR_s e9
    refine rp_get X I g9 e9 rfl wiX3 (by decide) wm_143 dX3_add_19 ?_
    refine lv_iload hx hb dX3_add_22 (lv_at hl 0 rfl) ?_
    refine lv_iload_n hx hb dX3_add_24 rfl (lv_at hl 2 rfl) ?_
    obtain ⟨h4, e9, hJ⟩ := rp_b hJ
    refine rp_iast X I e9 rfl dX3_add_25 (fun H locs I => ?_)
    refine lv_aload_n hx hb dX3_add_26 rfl (lv_at hl 1 rfl) ?_
    obtain ⟨v5, e9, hJ⟩ := rp_b hJ
    obtain ⟨f9, g9, e9⟩ := fR_s e9
    refine rp_get X I g9 e9 rfl wiX3 (by decide) wm_143 dX3_add_27 ?_
    refine lv_iload hx hb dX3_add_30 (lv_at hl 0 rfl) ?_
    refine lv_iconst (v := 1) hx hb dX3_add_32 (by decide) ?_
    refine lv_iadd hx hb dX3_add_33 ?_
    refine lv_iload_n hx hb dX3_add_34 rfl (lv_at hl 3 rfl) ?_
    obtain ⟨h6, e9, hJ⟩ := rp_b hJ
    refine rp_iast X I e9 rfl dX3_add_35 (fun H locs I => ?_)
    refine lv_aload_n hx hb dX3_add_36 rfl (lv_at hl 1 rfl) ?_
    obtain ⟨v7, e9, hJ⟩ := rp_b hJ
    obtain ⟨f9, g9, e9⟩ := fR_s e9
    refine rp_get X I g9 e9 rfl wiX3 (by decide) wm_143 dX3_add_37 ?_
    refine lv_iload hx hb dX3_add_40 (lv_at hl 0 rfl) ?_
    refine lv_iconst (v := 2) hx hb dX3_add_42 (by decide) ?_
    refine lv_iadd hx hb dX3_add_43 ?_
    refine lv_iload_n hx hb dX3_add_44 rfl (lv_at hl 4 rfl) ?_
    obtain ⟨h8, e9, hJ⟩ := rp_b hJ
    refine rp_iast X I e9 rfl dX3_add_45 (fun H locs I => ?_)
    refine lv_aload_n hx hb dX3_add_46 rfl (lv_at hl 1 rfl) ?_
    obtain ⟨v9, e9, hJ⟩ := rp_b hJ
    obtain ⟨f9, g9, e9⟩ := fR_s e9
    refine rp_get X I g9 e9 rfl wiX3 (by decide) wm_143 dX3_add_47 ?_
    refine lv_iload hx hb dX3_add_50 (lv_at hl 0 rfl) ?_
    refine lv_iconst (v := 3) hx hb dX3_add_52 (by decide) ?_
    refine lv_iadd hx hb dX3_add_53 ?_
    refine lv_iload hx hb dX3_add_54 (lv_at hl 5 rfl) ?_
    obtain ⟨h10, e9, hJ⟩ := rp_b hJ
    refine rp_iast X I e9 rfl dX3_add_56 (fun H locs I => ?_)
    refine lv_aload_n hx hb dX3_add_57 rfl (lv_at hl 1 rfl) ?_
    obtain ⟨v11, e9, hJ⟩ := rp_b hJ
    obtain ⟨f9, g9, e9⟩ := fR_s e9
    refine rp_get X I g9 e9 rfl wiX3 (by decide) wm_143 dX3_add_58 ?_
    refine lv_iload hx hb dX3_add_61 (lv_at hl 0 rfl) ?_
    refine lv_iconst (v := 4) hx hb dX3_add_63 (by decide) ?_
    refine lv_iadd hx hb dX3_add_64 ?_
    refine lv_iload hx hb dX3_add_65 (lv_at hl 6 rfl) ?_
    obtain ⟨h12, e9, hJ⟩ := rp_b hJ
    refine rp_iast X I e9 rfl dX3_add_67 (fun H locs I => ?_)
    refine lv_aload_n hx hb dX3_add_68 rfl (lv_at hl 1 rfl) ?_
    refine lv_dup hx hb dX3_add_69 rfl ?_
    obtain ⟨v13, e9, hJ⟩ := rp_b hJ
    obtain ⟨f9, g9, e9⟩ := fI_s e9
    refine rp_get X I g9 e9 rfl wiX3 (by decide) wm_140 dX3_add_70 ?_
    refine lv_iconst (v := 1) hx hb dX3_add_73 (by decide) ?_
    refine lv_iadd hx hb dX3_add_74 ?_
    obtain ⟨h14, e9, hJ⟩ := rp_b hJ
    refine rp_put (ty := .int) X I e9 rfl wiX3 tyX3 tyX3_ok nmX3 (by decide) wm_140 rfl (by decide +kernel) rfl rfl dX3_add_75 (fun H locs I => ?_)
    refine lv_aload_n hx hb dX3_add_78 rfl (lv_at hl 1 rfl) ?_
    refine lv_dup hx hb dX3_add_79 rfl ?_
    obtain ⟨v15, e9, hJ⟩ := rp_b hJ
    obtain ⟨f9, g9, e9⟩ := fI_s e9
    refine rp_get X I g9 e9 rfl wiX3 (by decide) wm_141 dX3_add_80 ?_
    refine lv_iload_n hx hb dX3_add_83 rfl (lv_at hl 4 rfl) ?_
    refine lv_iload_n hx hb dX3_add_84 rfl (lv_at hl 3 rfl) ?_
    refine lv_isub hx hb dX3_add_85 ?_
    refine lv_iadd hx hb dX3_add_86 ?_
    obtain ⟨h16, e9, hJ⟩ := rp_b hJ
    refine rp_put (ty := .int) X I e9 rfl wiX3 tyX3 tyX3_ok nmX3 (by decide) wm_141 rfl (by decide +kernel) rfl rfl dX3_add_87 (fun H locs I => ?_)
    exact rp_vret X hr hJ I dX3_add_90
  · rw [if_neg c9] at hJ
    exact rp_vret X hr hJ I dX3_add_9
def rmX3_cell : Room := { frames := 0, cells := 0, slots := 0, locals := 0 }
def J_Rep_cell (N : Nat) (x0 : Nat) (x1 : Int32) (x2 : Int32) (h : Hp) : Option (Int32 × Hp) :=
  (fR h 3 x0 4).bind fun v1 =>
  (aI h 0 v1 ((x1 * (5 : Int32)) + x2)).bind fun v2 =>
  some (v2, h)
set_option maxHeartbeats 4000000 in
set_option maxRecDepth 100000 in
theorem c_Rep_cell {l : Launch} {D : va_G} {tys : List (ClassId × FieldType)} {A : Nat → Prop} (hT : tys.map (fun q => q.2) = tyS) {N : Nat} {x0 : Nat} {x1 : Int32} {x2 : Int32} {h : Hp} {res : (Int32 × Hp)} (hJ : J_Rep_cell N x0 x1 x2 h = some res) : Ct l D vwCl tys A yX3_cell (Cond.code yX3_cell cX3_cell 3 (some .int) :: wsG) rmX3_cell [.ref x0, .int x1, .int x2] h (some (.int res.1)) res.2 := by
  refine Met.ofW (cc := cX3_cell) (maxL := 3) (ret := (some .int)) (by decide) rfl ?_
  intro p e s m args below meth c s₁ B hml hv
  obtain ⟨rfl, hA, hR, hK, hN⟩ := hv
  have hr := B.returns
  have hts : ∀ w ∈ wsG, w.before [.ref x0, .int x1, .int x2].toArray s = true := fun w hw => atoms_spec (ws := Cond.code yX3_cell cX3_cell 3 (some .int) :: wsG) B.pre w (List.mem_cons_of_mem _ hw)
  have X : Cx p s m [.ref x0, .int x1, .int x2].toArray meth c D vwCl tys cX3_cell 3 RX3 wsG := ⟨⟨B.exec, B.bytes, hml, findClass_of_methodNamed B.named, hts⟩, hK, B.notSynchronized, hT⟩
  have hx := B.exec
  have hb := B.bytes
  have I : In D vwCl tys A s h s.heap [] := ⟨hR, va_S.rf, hA⟩
  have hl := lv_entry [.ref x0, .int x1, .int x2] (n := 3) (Nat.le_of_ble_eq_true rfl)
  rw [lg_entry_eq]
  generalize (lg_sl [.ref x0, .int x1, .int x2] ++ List.replicate (3 - (lg_sl [.ref x0, .int x1, .int x2]).length) Slot.unset).toArray = ls at hl ⊢
  have hl : lv_has ls 3 [(0, .ref x0), (1, .int x1), (2, .int x2)] := hl
  have ho := X.1.2.2.2.1
  rw [J_Rep_cell] at hJ
  refine lv_aload_n hx hb dX3_cell_0 rfl (lv_at hl 0 rfl) ?_
  obtain ⟨v1, e9, hJ⟩ := rp_b hJ
  obtain ⟨f9, g9, e9⟩ := fR_s e9
  refine rp_get X I g9 e9 rfl wiX3 (by decide) wm_143 dX3_cell_1 ?_
  refine lv_iload_n hx hb dX3_cell_4 rfl (lv_at hl 1 rfl) ?_
  refine lv_iconst (v := 5) hx hb dX3_cell_5 (by decide) ?_
  refine lv_imul hx hb dX3_cell_6 ?_
  refine lv_iload_n hx hb dX3_cell_7 rfl (lv_at hl 2 rfl) ?_
  refine lv_iadd hx hb dX3_cell_8 ?_
  obtain ⟨v2, e9, hJ⟩ := rp_b hJ
  refine rp_iald X I e9 rfl dX3_cell_9 ?_
  exact rp_iret X hr hJ I dX3_cell_10
def rmX4_init : Room := { frames := 1, cells := 2, slots := 81, locals := 20 }
def J_Round_init (N : Nat) (x0 : Nat) (h : Hp) : Option (Unit × Hp) :=
  (nI_ h 0 (40 : Int32)).bind fun q1 =>
  (sF q1.2 4 x0 0 (.ref q1.1)).bind fun h2 =>
  (nJ_ h2 2 (41 : Int32)).bind fun q3 =>
  (sF q3.2 4 x0 2 (.ref q3.1)).bind fun h4 =>
  some ((), h4)
set_option maxHeartbeats 4000000 in
set_option maxRecDepth 100000 in
theorem c_Round_init {l : Launch} {D : va_G} {tys : List (ClassId × FieldType)} {A : Nat → Prop} (hT : tys.map (fun q => q.2) = tyS) {N : Nat} {x0 : Nat} {h : Hp} {res : (Unit × Hp)} (hJ : J_Round_init N x0 h = some res) : Ct l D vwCl tys A yX4_init (Cond.code yX4_init cX4_init 1 none :: wsG) rmX4_init [.ref x0] h none res.2 := by
  refine Met.ofW (cc := cX4_init) (maxL := 1) (ret := none) (by decide) rfl ?_
  intro p e s m args below meth c s₁ B hml hv
  obtain ⟨rfl, hA, hR, hK, hN⟩ := hv
  have hr := B.returns
  have hts : ∀ w ∈ wsG, w.before [.ref x0].toArray s = true := fun w hw => atoms_spec (ws := Cond.code yX4_init cX4_init 1 none :: wsG) B.pre w (List.mem_cons_of_mem _ hw)
  have X : Cx p s m [.ref x0].toArray meth c D vwCl tys cX4_init 1 RX4 wsG := ⟨⟨B.exec, B.bytes, hml, findClass_of_methodNamed B.named, hts⟩, hK, B.notSynchronized, hT⟩
  have hinit : meth.name = "<init>" := (name_of_methodNamed B.named B.method).1
  have hx := B.exec
  have hb := B.bytes
  have I : In D vwCl tys A s h s.heap [] := ⟨hR, va_S.rf, hA⟩
  have hl := lv_entry [.ref x0] (n := 1) (Nat.le_of_ble_eq_true rfl)
  rw [lg_entry_eq]
  generalize (lg_sl [.ref x0] ++ List.replicate (1 - (lg_sl [.ref x0]).length) Slot.unset).toArray = ls at hl ⊢
  have hl : lv_has ls 1 [(0, .ref x0)] := hl
  have ho := X.1.2.2.2.1
  rw [J_Round_init] at hJ
  refine lv_aload_n hx hb dX4_init_0 rfl (lv_at hl 0 rfl) ?_
  refine W.objInit hx hb ho (hts _ wm_153) (hts _ wm_54) (hts _ wm_55) rfl (by rw [hml]; exact hl.1) rfl dX4_init_1 (Nat.le_of_ble_eq_true rfl) (Nat.le_of_ble_eq_true rfl) ?_
  refine W.eq (g2 := F0 m 4 ls []) rfl ?_
  refine lv_aload_n hx hb dX4_init_4 rfl (lv_at hl 0 rfl) ?_
  refine lv_bipush (v := 40) hx hb dX4_init_5 (by decide) ?_
  obtain ⟨q1, e9, hJ⟩ := rp_b hJ
  refine rp_newI (K := 40) (ty := .int) X I e9 (by decide) rfl rfl (by decide) wm_68 rfl (fun _ z => z) (Nat.le_of_ble_eq_true rfl) (Nat.le_of_ble_eq_true rfl) dX4_init_7 (fun H I => ?_)
  obtain ⟨h2, e9, hJ⟩ := rp_b hJ
  refine rp_putF (ty := (.array .int)) X I e9 rfl wiX4 tyX4 tyX4_ok nmX4 (by decide) wm_154 rfl hinit rfl (by decide +kernel) rfl rfl dX4_init_9 (fun H locs I => ?_)
  refine lv_aload_n hx hb dX4_init_12 rfl (lv_at hl 0 rfl) ?_
  refine lv_bipush (v := 41) hx hb dX4_init_13 (by decide) ?_
  obtain ⟨q3, e9, hJ⟩ := rp_b hJ
  refine rp_newJ (K := 41) (ty := .long) X I e9 (by decide) rfl rfl (by decide) wm_118 rfl (fun _ z => z) (Nat.le_of_ble_eq_true rfl) (Nat.le_of_ble_eq_true rfl) dX4_init_15 (fun H I => ?_)
  obtain ⟨h4, e9, hJ⟩ := rp_b hJ
  refine rp_putF (ty := (.array .long)) X I e9 rfl wiX4 tyX4 tyX4_ok nmX4 (by decide) wm_156 rfl hinit rfl (by decide +kernel) rfl rfl dX4_init_17 (fun H locs I => ?_)
  refine W.widen (k := 2) (n := 81) (Nat.le_of_ble_eq_true rfl) (Nat.le_of_ble_eq_true rfl) ?_
  exact rp_vret X hr hJ I dX4_init_20
def rmX4_measure : Room := { frames := 3, cells := 0, slots := 0, locals := 67 }
def J_Round_measure_12 (N : Nat)  : Nat → Nat → Int32 → Nat → Int32 → Hp → Option (Int32 × Hp)
  | 0, _, _, _, _, _ => none
  | n + 1, x0, x1, x2, x3, h =>
  if (40 : Int32) < x3 then
  (some ((0 : Int32), h))
  else
  ((fR h 4 x0 2).bind fun v4 =>
  (fR h 4 x0 2).bind fun v5 =>
  (aJ h 2 v5 (x3 - (1 : Int32))).bind fun v6 =>
  (isO h 2 x2).bind fun _ =>
  (J_Plan_waitingFor N x2 v6 h).bind fun q7 =>
 (sJ q7.2 2 v4 x3 q7.1).bind fun h8 =>
  (fR h8 4 x0 2).bind fun v9 =>
  (aJ h8 2 v9 x3).bind fun v10 =>
  (J_Desk_isIn N v10 x1 h8).bind fun q11 =>
 if q11.1 = 0 then
  ((J_Round_measure_12 N n) x0 x1 x2 (x3 + (1 : Int32)) q11.2)
  else
  (some (x3, q11.2)))
def J_Round_measure (N : Nat) (x0 : Nat) (x1 : Int32) (x2 : Nat) (h : Hp) : Option (Int32 × Hp) :=
  (fR h 4 x0 2).bind fun v1 =>
  (J_Desk_bit N x1 h).bind fun q2 =>
 (sJ q2.2 2 v1 (0 : Int32) q2.1).bind fun h3 =>
  J_Round_measure_12 N N x0 x1 x2 (1 : Int32) h3
set_option maxHeartbeats 4000000 in
set_option maxRecDepth 100000 in
theorem w_Round_measure_12 (X : Cx p s m args meth c D vwCl tys cX4_measure 4 RX4 wsG) (hN : nwS s) (hr : meth.sig.returnType = (some .int)) {res : (Int32 × Hp)} {N : Nat}   : ∀ (n : Nat) (x0 : Nat) (x1 : Int32) (x2 : Nat) (x3 : Int32)  (h : Hp) (H : Heap) (locs : List Loc) (ls : Array Slot), J_Round_measure_12 N n x0 x1 x2 x3 h = some res → In D vwCl tys A s h H locs → lv_has ls 4 [(0, .ref x0), (1, .int x1), (2, .ref x2), (3, .int x3)] → W p l e rmX4_measure s m args below meth c H locs 0 0 (MQ below (Qr D vwCl tys A (some (.int res.1)) res.2) args s 0 0 A) (F0 m 12 ls []) := by
  have hx := X.1.1
  have hb := X.1.2.1
  have hml := X.1.2.2.1
  have ho := X.1.2.2.2.1
  have hts := X.1.2.2.2.2
  have hK := X.2.1
  have hT := X.2.2.2
  intro n
  induction n with
  | zero =>
    intro x0 x1 x2 x3  h H locs ls hJ I hl
    exact nomatch (show (none : Option (Int32 × Hp)) = some res from hJ)
  | succ n k12 =>
    intro x0 x1 x2 x3  h H locs ls hJ I hl
    rw [J_Round_measure_12] at hJ
    refine lv_iload_n hx hb dX4_measure_12 rfl (lv_at hl 3 rfl) ?_
    refine lv_bipush (v := 40) hx hb dX4_measure_13 (by decide) ?_
    refine lv_icmp_gt (tgt := 57) hx hb dX4_measure_15 (by decide) (fun c9 => ?_) (fun c9 => ?_)
    · rw [if_pos c9] at hJ
      refine lv_iconst (v := 0) hx hb dX4_measure_57 (by decide) ?_
      exact rp_iret X hr hJ I dX4_measure_58
    · rw [if_neg c9] at hJ
      refine lv_aload_n hx hb dX4_measure_18 rfl (lv_at hl 0 rfl) ?_
      obtain ⟨v4, e9, hJ⟩ := rp_b hJ
      obtain ⟨f9, g9, e9⟩ := fR_s e9
      refine rp_get X I g9 e9 rfl wiX4 (by decide) wm_156 dX4_measure_19 ?_
      refine lv_iload_n hx hb dX4_measure_22 rfl (lv_at hl 3 rfl) ?_
      refine lv_aload_n hx hb dX4_measure_23 rfl (lv_at hl 2 rfl) ?_
      refine lv_aload_n hx hb dX4_measure_24 rfl (lv_at hl 0 rfl) ?_
      obtain ⟨v5, e9, hJ⟩ := rp_b hJ
      obtain ⟨f9, g9, e9⟩ := fR_s e9
      refine rp_get X I g9 e9 rfl wiX4 (by decide) wm_156 dX4_measure_25 ?_
      refine lv_iload_n hx hb dX4_measure_28 rfl (lv_at hl 3 rfl) ?_
      refine lv_iconst (v := 1) hx hb dX4_measure_29 (by decide) ?_
      refine lv_isub hx hb dX4_measure_30 ?_
      obtain ⟨v6, e9, hJ⟩ := rp_b hJ
      refine rp_lald X I e9 rfl dX4_measure_31 ?_
      obtain ⟨u9, i9, hJ⟩ := rp_b hJ
      obtain ⟨f9, i9⟩ := isO_s i9
      obtain ⟨q7, e9, hJ⟩ := rp_b hJ
      refine rp_callV (As := [.long v6]) (rest := [.int x3, .ref v4]) X hN I (c_Plan_waitingFor hT e9) (cwV 1 hts (gdV wm_356 wm_357 wm_358 wm_36 wm_359) rfl rfl rfl (by decide +kernel) ⟨Nat.le_of_ble_eq_true rfl, Nat.le_of_ble_eq_true rfl⟩) i9 rfl rfl hl.1 rfl (Nat.le_of_ble_eq_true rfl) dX4_measure_32 ⟨(Nat.le_of_ble_eq_true rfl), (Nat.le_of_ble_eq_true rfl)⟩ (fun H locs I => ?_)
      refine W.cs (cells' := 0) (slots' := 0) rfl rfl ?_
      obtain ⟨h8, e9, hJ⟩ := rp_b hJ
      refine rp_last X I e9 rfl dX4_measure_35 (fun H locs I => ?_)
      refine lv_aload_n hx hb dX4_measure_36 rfl (lv_at hl 0 rfl) ?_
      obtain ⟨v9, e9, hJ⟩ := rp_b hJ
      obtain ⟨f9, g9, e9⟩ := fR_s e9
      refine rp_get X I g9 e9 rfl wiX4 (by decide) wm_156 dX4_measure_37 ?_
      refine lv_iload_n hx hb dX4_measure_40 rfl (lv_at hl 3 rfl) ?_
      obtain ⟨v10, e9, hJ⟩ := rp_b hJ
      refine rp_lald X I e9 rfl dX4_measure_41 ?_
      refine lv_iload_n hx hb dX4_measure_42 rfl (lv_at hl 1 rfl) ?_
      obtain ⟨q11, e9, hJ⟩ := rp_b hJ
      refine rp_callSN (As := [.long v10, .int x1]) (rest := []) X hN I (c_Desk_isIn hT e9) ⟨(va_cnB (host := "BuildDesk") 2 hts (gdC wm_342) rfl rfl rfl (hN.1 _ (by decide +kernel)) (hts _ wm_33) (by decide +kernel) ⟨Nat.le_of_ble_eq_true rfl, Nat.le_of_ble_eq_true rfl⟩), hts _ wm_341, trivial⟩ rfl hl.1 rfl (Nat.le_of_ble_eq_true rfl) dX4_measure_43 ⟨(Nat.le_of_ble_eq_true rfl), (Nat.le_of_ble_eq_true rfl)⟩ (fun H locs I => ?_)
      refine W.cs (cells' := 0) (slots' := 0) rfl rfl ?_
      refine lv_if_eq (tgt := 51) hx hb dX4_measure_46 (by decide) (fun c9 => ?_) (fun c9 => ?_)
      · rw [if_pos c9] at hJ
        refine lv_iinc (v := (x3 + (1 : Int32))) (lv' := [(3, .int (x3 + (1 : Int32))), (0, .ref x0), (1, .int x1), (2, .ref x2)]) hx hb dX4_measure_51 hl (k := 3) rfl rfl (by decide) rfl (fun ls hl => ?_)
        refine lv_goto (tgt := 12) hx hb dX4_measure_54 (by decide) ?_
        exact k12 _ _ _ _ _ _ _ _ hJ I (lv_sub hl [1, 2, 3, 0] rfl)
      · rw [if_neg c9] at hJ
        refine lv_iload_n hx hb dX4_measure_49 rfl (lv_at hl 3 rfl) ?_
        exact rp_iret X hr hJ I dX4_measure_50
set_option maxHeartbeats 4000000 in
set_option maxRecDepth 100000 in
theorem c_Round_measure {l : Launch} {D : va_G} {tys : List (ClassId × FieldType)} {A : Nat → Prop} (hT : tys.map (fun q => q.2) = tyS) {N : Nat} {x0 : Nat} {x1 : Int32} {x2 : Nat} {h : Hp} {res : (Int32 × Hp)} (hJ : J_Round_measure N x0 x1 x2 h = some res) : Ct l D vwCl tys A yX4_measure (Cond.code yX4_measure cX4_measure 4 (some .int) :: wsG) rmX4_measure [.ref x0, .int x1, .ref x2] h (some (.int res.1)) res.2 := by
  refine Met.ofW (cc := cX4_measure) (maxL := 4) (ret := (some .int)) (by decide) rfl ?_
  intro p e s m args below meth c s₁ B hml hv
  obtain ⟨rfl, hA, hR, hK, hN⟩ := hv
  have hr := B.returns
  have hts : ∀ w ∈ wsG, w.before [.ref x0, .int x1, .ref x2].toArray s = true := fun w hw => atoms_spec (ws := Cond.code yX4_measure cX4_measure 4 (some .int) :: wsG) B.pre w (List.mem_cons_of_mem _ hw)
  have X : Cx p s m [.ref x0, .int x1, .ref x2].toArray meth c D vwCl tys cX4_measure 4 RX4 wsG := ⟨⟨B.exec, B.bytes, hml, findClass_of_methodNamed B.named, hts⟩, hK, B.notSynchronized, hT⟩
  have hx := B.exec
  have hb := B.bytes
  have I : In D vwCl tys A s h s.heap [] := ⟨hR, va_S.rf, hA⟩
  have hl := lv_entry [.ref x0, .int x1, .ref x2] (n := 4) (Nat.le_of_ble_eq_true rfl)
  rw [lg_entry_eq]
  generalize (lg_sl [.ref x0, .int x1, .ref x2] ++ List.replicate (4 - (lg_sl [.ref x0, .int x1, .ref x2]).length) Slot.unset).toArray = ls at hl ⊢
  have hl : lv_has ls 4 [(0, .ref x0), (1, .int x1), (2, .ref x2)] := hl
  have ho := X.1.2.2.2.1
  rw [J_Round_measure] at hJ
  refine lv_aload_n hx hb dX4_measure_0 rfl (lv_at hl 0 rfl) ?_
  obtain ⟨v1, e9, hJ⟩ := rp_b hJ
  obtain ⟨f9, g9, e9⟩ := fR_s e9
  refine rp_get X I g9 e9 rfl wiX4 (by decide) wm_156 dX4_measure_1 ?_
  refine lv_iconst (v := 0) hx hb dX4_measure_4 (by decide) ?_
  refine lv_iload_n hx hb dX4_measure_5 rfl (lv_at hl 1 rfl) ?_
  obtain ⟨q2, e9, hJ⟩ := rp_b hJ
  refine rp_callSN (As := [.int x1]) (rest := [.int (0 : Int32), .ref v1]) X hN I (c_Desk_bit hT e9) ⟨(va_cnB (host := "BuildDesk") 1 hts (gdC wm_340) rfl rfl rfl (hN.1 _ (by decide +kernel)) (hts _ wm_33) (by decide +kernel) ⟨Nat.le_of_ble_eq_true rfl, Nat.le_of_ble_eq_true rfl⟩), hts _ wm_339, trivial⟩ rfl hl.1 rfl (Nat.le_of_ble_eq_true rfl) dX4_measure_6 ⟨(Nat.le_of_ble_eq_true rfl), (Nat.le_of_ble_eq_true rfl)⟩ (fun H locs I => ?_)
  refine W.cs (cells' := 0) (slots' := 0) rfl rfl ?_
  obtain ⟨h3, e9, hJ⟩ := rp_b hJ
  refine rp_last X I e9 rfl dX4_measure_9 (fun H locs I => ?_)
  refine lv_iconst (v := 1) hx hb dX4_measure_10 (by decide) ?_
  refine lv_istore_n (lv' := [(3, .int (1 : Int32)), (0, .ref x0), (1, .int x1), (2, .ref x2)]) hx hb dX4_measure_11 rfl hl (by decide) rfl (fun ls hl => ?_)
  exact w_Round_measure_12 X hN hr N _ _ _ _ _ _ _ _ hJ I (lv_sub hl [1, 2, 3, 0] rfl)
def rmX4_least : Room := { frames := 2, cells := 0, slots := 0, locals := 42 }
def J_Round_least_2 (N : Nat)  : Nat → Int64 → Int32 → Int32 → Hp → Option (Int32 × Hp)
  | 0, _, _, _, _ => none
  | n + 1, x0, x2, x3, h =>
  if (40 : Int32) ≤ x3 then
  (some (x2, h))
  else
  ((J_Desk_isIn N x0 x3 h).bind fun q1 =>
 if q1.1 = 0 then
  ((J_Round_least_2 N n) x0 x2 (x3 + (1 : Int32)) q1.2)
  else
  (some (x3, q1.2)))
def J_Round_least (N : Nat) (x0 : Int64) (x2 : Int32) (h : Hp) : Option (Int32 × Hp) :=
  J_Round_least_2 N N x0 x2 (0 : Int32) h
set_option maxHeartbeats 4000000 in
set_option maxRecDepth 100000 in
theorem w_Round_least_2 (X : Cx p s m args meth c D vwCl tys cX4_least 4 RX4 wsG) (hN : nwS s) (hr : meth.sig.returnType = (some .int)) {res : (Int32 × Hp)} {N : Nat}   : ∀ (n : Nat) (x0 : Int64) (x2 : Int32) (x3 : Int32)  (h : Hp) (H : Heap) (locs : List Loc) (ls : Array Slot), J_Round_least_2 N n x0 x2 x3 h = some res → In D vwCl tys A s h H locs → lv_has ls 4 [(0, .long x0), (2, .int x2), (3, .int x3)] → W p l e rmX4_least s m args below meth c H locs 0 0 (MQ below (Qr D vwCl tys A (some (.int res.1)) res.2) args s 0 0 A) (F0 m 2 ls []) := by
  have hx := X.1.1
  have hb := X.1.2.1
  have hml := X.1.2.2.1
  have ho := X.1.2.2.2.1
  have hts := X.1.2.2.2.2
  have hK := X.2.1
  have hT := X.2.2.2
  intro n
  induction n with
  | zero =>
    intro x0 x2 x3  h H locs ls hJ I hl
    exact nomatch (show (none : Option (Int32 × Hp)) = some res from hJ)
  | succ n k2 =>
    intro x0 x2 x3  h H locs ls hJ I hl
    rw [J_Round_least_2] at hJ
    refine lv_iload_n hx hb dX4_least_2 rfl (lv_at hl 2 rfl) ?_
    refine lv_bipush (v := 40) hx hb dX4_least_3 (by decide) ?_
    refine lv_icmp_ge (tgt := 24) hx hb dX4_least_5 (by decide) (fun c9 => ?_) (fun c9 => ?_)
    · rw [if_pos c9] at hJ
      refine lv_iload_n hx hb dX4_least_24 rfl (lv_at hl 1 rfl) ?_
      exact rp_iret X hr hJ I dX4_least_25
    · rw [if_neg c9] at hJ
      refine lv_lload_n hx hb dX4_least_8 rfl (lv_at hl 0 rfl) ?_
      refine lv_iload_n hx hb dX4_least_9 rfl (lv_at hl 2 rfl) ?_
      obtain ⟨q1, e9, hJ⟩ := rp_b hJ
      refine rp_callSN (As := [.long x0, .int x3]) (rest := []) X hN I (c_Desk_isIn hT e9) ⟨(va_cnB (host := "BuildDesk") 2 hts (gdC wm_342) rfl rfl rfl (hN.1 _ (by decide +kernel)) (hts _ wm_33) (by decide +kernel) ⟨Nat.le_of_ble_eq_true rfl, Nat.le_of_ble_eq_true rfl⟩), hts _ wm_341, trivial⟩ rfl hl.1 rfl (Nat.le_of_ble_eq_true rfl) dX4_least_10 ⟨(Nat.le_of_ble_eq_true rfl), (Nat.le_of_ble_eq_true rfl)⟩ (fun H locs I => ?_)
      refine W.cs (cells' := 0) (slots' := 0) rfl rfl ?_
      refine lv_if_eq (tgt := 18) hx hb dX4_least_13 (by decide) (fun c9 => ?_) (fun c9 => ?_)
      · rw [if_pos c9] at hJ
        refine lv_iinc (v := (x3 + (1 : Int32))) (lv' := [(3, .int (x3 + (1 : Int32))), (0, .long x0), (2, .int x2)]) hx hb dX4_least_18 hl (k := 2) rfl rfl (by decide) rfl (fun ls hl => ?_)
        refine lv_goto (tgt := 2) hx hb dX4_least_21 (by decide) ?_
        exact k2 _ _ _ _ _ _ _ hJ I (lv_sub hl [1, 2, 0] rfl)
      · rw [if_neg c9] at hJ
        refine lv_iload_n hx hb dX4_least_16 rfl (lv_at hl 2 rfl) ?_
        exact rp_iret X hr hJ I dX4_least_17
set_option maxHeartbeats 4000000 in
set_option maxRecDepth 100000 in
theorem c_Round_least {l : Launch} {D : va_G} {tys : List (ClassId × FieldType)} {A : Nat → Prop} (hT : tys.map (fun q => q.2) = tyS) {N : Nat} {x0 : Int64} {x2 : Int32} {h : Hp} {res : (Int32 × Hp)} (hJ : J_Round_least N x0 x2 h = some res) : Ct l D vwCl tys A yX4_least (Cond.code yX4_least cX4_least 4 (some .int) :: wsG) rmX4_least [.long x0, .int x2] h (some (.int res.1)) res.2 := by
  refine Met.ofW (cc := cX4_least) (maxL := 4) (ret := (some .int)) (by decide) rfl ?_
  intro p e s m args below meth c s₁ B hml hv
  obtain ⟨rfl, hA, hR, hK, hN⟩ := hv
  have hr := B.returns
  have hts : ∀ w ∈ wsG, w.before [.long x0, .int x2].toArray s = true := fun w hw => atoms_spec (ws := Cond.code yX4_least cX4_least 4 (some .int) :: wsG) B.pre w (List.mem_cons_of_mem _ hw)
  have X : Cx p s m [.long x0, .int x2].toArray meth c D vwCl tys cX4_least 4 RX4 wsG := ⟨⟨B.exec, B.bytes, hml, findClass_of_methodNamed B.named, hts⟩, hK, B.notSynchronized, hT⟩
  have hx := B.exec
  have hb := B.bytes
  have I : In D vwCl tys A s h s.heap [] := ⟨hR, va_S.rf, hA⟩
  have hl := lv_entry [.long x0, .int x2] (n := 4) (Nat.le_of_ble_eq_true rfl)
  rw [lg_entry_eq]
  generalize (lg_sl [.long x0, .int x2] ++ List.replicate (4 - (lg_sl [.long x0, .int x2]).length) Slot.unset).toArray = ls at hl ⊢
  have hl : lv_has ls 4 [(0, .long x0), (2, .int x2)] := hl
  have ho := X.1.2.2.2.1
  rw [J_Round_least] at hJ
  refine lv_iconst (v := 0) hx hb dX4_least_0 (by decide) ?_
  refine lv_istore_n (lv' := [(3, .int (0 : Int32)), (0, .long x0), (2, .int x2)]) hx hb dX4_least_1 rfl hl (by decide) rfl (fun ls hl => ?_)
  exact w_Round_least_2 X hN hr N _ _ _ _ _ _ _ hJ I (lv_sub hl [1, 2, 0] rfl)
def rmX4_walk : Room := { frames := 3, cells := 0, slots := 0, locals := 65 }
def J_Round_walk_6 (N : Nat)  : Nat → Nat → Int32 → Int32 → Nat → Int32 → Int32 → Hp → Option (Unit × Hp)
  | 0, _, _, _, _, _, _, _ => none
  | n + 1, x0, x1, x2, x3, x4, x5, h =>
  if x2 ≤ x5 then
  ((sF h 4 x0 1 (.int x2)).bind fun h1 =>
  some ((), h1))
  else
  (if (40 : Int32) ≤ x5 then
  ((sF h 4 x0 1 (.int x2)).bind fun h2 =>
  some ((), h2))
  else
  ((fR h 4 x0 0).bind fun v3 =>
  (sI h 0 v3 x5 x4).bind fun h4 =>
  (fR h4 2 x3 0).bind fun v5 =>
  (aJ h4 2 v5 x4).bind fun v6 =>
  (fR h4 4 x0 2).bind fun v7 =>
  (aJ h4 2 v7 ((x2 - x5) - (1 : Int32))).bind fun v8 =>
  (J_Round_least N (v6 &&& v8) x1 h4).bind fun q9 =>
 (J_Round_walk_6 N n) x0 x1 x2 x3 q9.1 (x5 + (1 : Int32)) q9.2))
def J_Round_walk (N : Nat) (x0 : Nat) (x1 : Int32) (x2 : Int32) (x3 : Nat) (h : Hp) : Option (Unit × Hp) :=
  J_Round_walk_6 N N x0 x1 x2 x3 x1 (0 : Int32) h
set_option maxHeartbeats 4000000 in
set_option maxRecDepth 100000 in
theorem w_Round_walk_6 (X : Cx p s m args meth c D vwCl tys cX4_walk 6 RX4 wsG) (hN : nwS s) (hr : meth.sig.returnType = none) {res : (Unit × Hp)} {N : Nat}   : ∀ (n : Nat) (x0 : Nat) (x1 : Int32) (x2 : Int32) (x3 : Nat) (x4 : Int32) (x5 : Int32)  (h : Hp) (H : Heap) (locs : List Loc) (ls : Array Slot), J_Round_walk_6 N n x0 x1 x2 x3 x4 x5 h = some res → In D vwCl tys A s h H locs → lv_has ls 6 [(0, .ref x0), (1, .int x1), (2, .int x2), (3, .ref x3), (4, .int x4), (5, .int x5)] → W p l e rmX4_walk s m args below meth c H locs 0 0 (MQ below (Qr D vwCl tys A none res.2) args s 0 0 A) (F0 m 6 ls []) := by
  have hx := X.1.1
  have hb := X.1.2.1
  have hml := X.1.2.2.1
  have ho := X.1.2.2.2.1
  have hts := X.1.2.2.2.2
  have hK := X.2.1
  have hT := X.2.2.2
  intro n
  induction n with
  | zero =>
    intro x0 x1 x2 x3 x4 x5  h H locs ls hJ I hl
    exact nomatch (show (none : Option (Unit × Hp)) = some res from hJ)
  | succ n k6 =>
    intro x0 x1 x2 x3 x4 x5  h H locs ls hJ I hl
    rw [J_Round_walk_6] at hJ
    refine lv_iload hx hb dX4_walk_6 (lv_at hl 5 rfl) ?_
    refine lv_iload_n hx hb dX4_walk_8 rfl (lv_at hl 2 rfl) ?_
    refine lv_icmp_ge (tgt := 59) hx hb dX4_walk_9 (by decide) (fun c9 => ?_) (fun c9 => ?_)
    · rw [if_pos c9] at hJ
      refine lv_aload_n hx hb dX4_walk_59 rfl (lv_at hl 0 rfl) ?_
      refine lv_iload_n hx hb dX4_walk_60 rfl (lv_at hl 2 rfl) ?_
      obtain ⟨h1, e9, hJ⟩ := rp_b hJ
      refine rp_put (ty := .int) X I e9 rfl wiX4 tyX4 tyX4_ok nmX4 (by decide) wm_155 rfl (by decide +kernel) rfl rfl dX4_walk_61 (fun H locs I => ?_)
      exact rp_vret X hr hJ I dX4_walk_64
    · rw [if_neg c9] at hJ
      refine lv_iload hx hb dX4_walk_12 (lv_at hl 5 rfl) ?_
      refine lv_bipush (v := 40) hx hb dX4_walk_14 (by decide) ?_
      refine lv_icmp_ge (tgt := 59) hx hb dX4_walk_16 (by decide) (fun c9 => ?_) (fun c9 => ?_)
      · rw [if_pos c9] at hJ
        refine lv_aload_n hx hb dX4_walk_59 rfl (lv_at hl 0 rfl) ?_
        refine lv_iload_n hx hb dX4_walk_60 rfl (lv_at hl 2 rfl) ?_
        obtain ⟨h2, e9, hJ⟩ := rp_b hJ
        refine rp_put (ty := .int) X I e9 rfl wiX4 tyX4 tyX4_ok nmX4 (by decide) wm_155 rfl (by decide +kernel) rfl rfl dX4_walk_61 (fun H locs I => ?_)
        exact rp_vret X hr hJ I dX4_walk_64
      · rw [if_neg c9] at hJ
        refine lv_aload_n hx hb dX4_walk_19 rfl (lv_at hl 0 rfl) ?_
        obtain ⟨v3, e9, hJ⟩ := rp_b hJ
        obtain ⟨f9, g9, e9⟩ := fR_s e9
        refine rp_get X I g9 e9 rfl wiX4 (by decide) wm_154 dX4_walk_20 ?_
        refine lv_iload hx hb dX4_walk_23 (lv_at hl 5 rfl) ?_
        refine lv_iload hx hb dX4_walk_25 (lv_at hl 4 rfl) ?_
        obtain ⟨h4, e9, hJ⟩ := rp_b hJ
        refine rp_iast X I e9 rfl dX4_walk_27 (fun H locs I => ?_)
        refine lv_aload_n hx hb dX4_walk_28 rfl (lv_at hl 3 rfl) ?_
        obtain ⟨v5, e9, hJ⟩ := rp_b hJ
        obtain ⟨f9, g9, e9⟩ := fR_s e9
        refine rp_getN (host := "BuildDesk") X I g9 e9 rfl wiX2 (by decide) (hN.1 _ (by decide +kernel)) dX4_walk_29 ?_
        refine lv_iload hx hb dX4_walk_32 (lv_at hl 4 rfl) ?_
        obtain ⟨v6, e9, hJ⟩ := rp_b hJ
        refine rp_lald X I e9 rfl dX4_walk_34 ?_
        refine lv_aload_n hx hb dX4_walk_35 rfl (lv_at hl 0 rfl) ?_
        obtain ⟨v7, e9, hJ⟩ := rp_b hJ
        obtain ⟨f9, g9, e9⟩ := fR_s e9
        refine rp_get X I g9 e9 rfl wiX4 (by decide) wm_156 dX4_walk_36 ?_
        refine lv_iload_n hx hb dX4_walk_39 rfl (lv_at hl 2 rfl) ?_
        refine lv_iload hx hb dX4_walk_40 (lv_at hl 5 rfl) ?_
        refine lv_isub hx hb dX4_walk_42 ?_
        refine lv_iconst (v := 1) hx hb dX4_walk_43 (by decide) ?_
        refine lv_isub hx hb dX4_walk_44 ?_
        obtain ⟨v8, e9, hJ⟩ := rp_b hJ
        refine rp_lald X I e9 rfl dX4_walk_45 ?_
        refine lv_land hx hb dX4_walk_46 ?_
        refine lv_iload_n hx hb dX4_walk_47 rfl (lv_at hl 1 rfl) ?_
        obtain ⟨q9, e9, hJ⟩ := rp_b hJ
        refine rp_callS (As := [.long (v6 &&& v8), .int x1]) (rest := []) X hN I (c_Round_least hT e9) (cwS 2 hts (gdS wm_363 wm_364 wm_39 wm_365) rfl rfl rfl (by decide +kernel) ⟨Nat.le_of_ble_eq_true rfl, Nat.le_of_ble_eq_true rfl⟩) rfl hl.1 rfl (Nat.le_of_ble_eq_true rfl) dX4_walk_48 ⟨(Nat.le_of_ble_eq_true rfl), (Nat.le_of_ble_eq_true rfl)⟩ (fun H locs I => ?_)
        refine W.cs (cells' := 0) (slots' := 0) rfl rfl ?_
        refine lv_istore (lv' := [(4, .int q9.1), (0, .ref x0), (1, .int x1), (2, .int x2), (3, .ref x3), (5, .int x5)]) hx hb dX4_walk_51 hl (by decide) rfl (fun ls hl => ?_)
        refine lv_iinc (v := (x5 + (1 : Int32))) (lv' := [(5, .int (x5 + (1 : Int32))), (4, .int q9.1), (0, .ref x0), (1, .int x1), (2, .int x2), (3, .ref x3)]) hx hb dX4_walk_53 hl (k := 5) rfl rfl (by decide) rfl (fun ls hl => ?_)
        refine lv_goto (tgt := 6) hx hb dX4_walk_56 (by decide) ?_
        exact k6 _ _ _ _ _ _ _ _ _ _ hJ I (lv_sub hl [2, 3, 4, 5, 1, 0] rfl)
set_option maxHeartbeats 4000000 in
set_option maxRecDepth 100000 in
theorem c_Round_walk {l : Launch} {D : va_G} {tys : List (ClassId × FieldType)} {A : Nat → Prop} (hT : tys.map (fun q => q.2) = tyS) {N : Nat} {x0 : Nat} {x1 : Int32} {x2 : Int32} {x3 : Nat} {h : Hp} {res : (Unit × Hp)} (hJ : J_Round_walk N x0 x1 x2 x3 h = some res) : Ct l D vwCl tys A yX4_walk (Cond.code yX4_walk cX4_walk 6 none :: wsG) rmX4_walk [.ref x0, .int x1, .int x2, .ref x3] h none res.2 := by
  refine Met.ofW (cc := cX4_walk) (maxL := 6) (ret := none) (by decide) rfl ?_
  intro p e s m args below meth c s₁ B hml hv
  obtain ⟨rfl, hA, hR, hK, hN⟩ := hv
  have hr := B.returns
  have hts : ∀ w ∈ wsG, w.before [.ref x0, .int x1, .int x2, .ref x3].toArray s = true := fun w hw => atoms_spec (ws := Cond.code yX4_walk cX4_walk 6 none :: wsG) B.pre w (List.mem_cons_of_mem _ hw)
  have X : Cx p s m [.ref x0, .int x1, .int x2, .ref x3].toArray meth c D vwCl tys cX4_walk 6 RX4 wsG := ⟨⟨B.exec, B.bytes, hml, findClass_of_methodNamed B.named, hts⟩, hK, B.notSynchronized, hT⟩
  have hx := B.exec
  have hb := B.bytes
  have I : In D vwCl tys A s h s.heap [] := ⟨hR, va_S.rf, hA⟩
  have hl := lv_entry [.ref x0, .int x1, .int x2, .ref x3] (n := 6) (Nat.le_of_ble_eq_true rfl)
  rw [lg_entry_eq]
  generalize (lg_sl [.ref x0, .int x1, .int x2, .ref x3] ++ List.replicate (6 - (lg_sl [.ref x0, .int x1, .int x2, .ref x3]).length) Slot.unset).toArray = ls at hl ⊢
  have hl : lv_has ls 6 [(0, .ref x0), (1, .int x1), (2, .int x2), (3, .ref x3)] := hl
  have ho := X.1.2.2.2.1
  rw [J_Round_walk] at hJ
  refine lv_iload_n hx hb dX4_walk_0 rfl (lv_at hl 1 rfl) ?_
  refine lv_istore (lv' := [(4, .int x1), (0, .ref x0), (1, .int x1), (2, .int x2), (3, .ref x3)]) hx hb dX4_walk_1 hl (by decide) rfl (fun ls hl => ?_)
  refine lv_iconst (v := 0) hx hb dX4_walk_3 (by decide) ?_
  refine lv_istore (lv' := [(5, .int (0 : Int32)), (4, .int x1), (0, .ref x0), (1, .int x1), (2, .int x2), (3, .ref x3)]) hx hb dX4_walk_4 hl (by decide) rfl (fun ls hl => ?_)
  exact w_Round_walk_6 X hN hr N _ _ _ _ _ _ _ _ _ _ hJ I (lv_sub hl [2, 3, 4, 5, 1, 0] rfl)
def rmX4_find : Room := { frames := 4, cells := 0, slots := 0, locals := 90 }
def J_Round_find_2 (N : Nat)  : Nat → Nat → Nat → Int32 → Hp → Option (Unit × Hp)
  | 0, _, _, _, _ => none
  | n + 1, x0, x1, x2, h =>
  if (40 : Int32) ≤ x2 then
  (some ((), h))
  else
  ((fJ h 2 x1 4).bind fun v1 =>
  (J_Desk_isIn N v1 x2 h).bind fun q2 =>
 if q2.1 = 0 then
  ((J_Round_find_2 N n) x0 x1 (x2 + (1 : Int32)) q2.2)
  else
  ((isO q2.2 4 x0).bind fun _ =>
  (J_Round_measure N x0 x2 x1 q2.2).bind fun q3 =>
 if q3.1 ≤ 0 then
  ((J_Round_find_2 N n) x0 x1 (x2 + (1 : Int32)) q3.2)
  else
  ((isO q3.2 4 x0).bind fun _ =>
  (J_Round_walk N x0 x2 q3.1 x1 q3.2).bind fun q4 =>
 some ((), q4.2))))
def J_Round_find (N : Nat) (x0 : Nat) (x1 : Nat) (h : Hp) : Option (Unit × Hp) :=
  J_Round_find_2 N N x0 x1 (0 : Int32) h
set_option maxHeartbeats 4000000 in
set_option maxRecDepth 100000 in
theorem w_Round_find_2 (X : Cx p s m args meth c D vwCl tys cX4_find 4 RX4 wsG) (hN : nwS s) (hr : meth.sig.returnType = none) {res : (Unit × Hp)} {N : Nat}   : ∀ (n : Nat) (x0 : Nat) (x1 : Nat) (x2 : Int32)  (h : Hp) (H : Heap) (locs : List Loc) (ls : Array Slot), J_Round_find_2 N n x0 x1 x2 h = some res → In D vwCl tys A s h H locs → lv_has ls 4 [(0, .ref x0), (1, .ref x1), (2, .int x2)] → W p l e rmX4_find s m args below meth c H locs 0 0 (MQ below (Qr D vwCl tys A none res.2) args s 0 0 A) (F0 m 2 ls []) := by
  have hx := X.1.1
  have hb := X.1.2.1
  have hml := X.1.2.2.1
  have ho := X.1.2.2.2.1
  have hts := X.1.2.2.2.2
  have hK := X.2.1
  have hT := X.2.2.2
  intro n
  induction n with
  | zero =>
    intro x0 x1 x2  h H locs ls hJ I hl
    exact nomatch (show (none : Option (Unit × Hp)) = some res from hJ)
  | succ n k2 =>
    intro x0 x1 x2  h H locs ls hJ I hl
    rw [J_Round_find_2] at hJ
    refine lv_iload_n hx hb dX4_find_2 rfl (lv_at hl 2 rfl) ?_
    refine lv_bipush (v := 40) hx hb dX4_find_3 (by decide) ?_
    refine lv_icmp_ge (tgt := 44) hx hb dX4_find_5 (by decide) (fun c9 => ?_) (fun c9 => ?_)
    · rw [if_pos c9] at hJ
      exact rp_vret X hr hJ I dX4_find_44
    · rw [if_neg c9] at hJ
      refine lv_aload_n hx hb dX4_find_8 rfl (lv_at hl 1 rfl) ?_
      obtain ⟨v1, e9, hJ⟩ := rp_b hJ
      obtain ⟨f9, g9, e9⟩ := fJ_s e9
      refine rp_getN (host := "BuildDesk") X I g9 e9 rfl wiX2 (by decide) (hN.1 _ (by decide +kernel)) dX4_find_9 ?_
      refine lv_iload_n hx hb dX4_find_12 rfl (lv_at hl 2 rfl) ?_
      obtain ⟨q2, e9, hJ⟩ := rp_b hJ
      refine rp_callSN (As := [.long v1, .int x2]) (rest := []) X hN I (c_Desk_isIn hT e9) ⟨(va_cnB (host := "BuildDesk") 2 hts (gdC wm_342) rfl rfl rfl (hN.1 _ (by decide +kernel)) (hts _ wm_33) (by decide +kernel) ⟨Nat.le_of_ble_eq_true rfl, Nat.le_of_ble_eq_true rfl⟩), hts _ wm_341, trivial⟩ rfl hl.1 rfl (Nat.le_of_ble_eq_true rfl) dX4_find_13 ⟨(Nat.le_of_ble_eq_true rfl), (Nat.le_of_ble_eq_true rfl)⟩ (fun H locs I => ?_)
      refine W.cs (cells' := 0) (slots' := 0) rfl rfl ?_
      refine lv_if_eq (tgt := 38) hx hb dX4_find_16 (by decide) (fun c9 => ?_) (fun c9 => ?_)
      · rw [if_pos c9] at hJ
        refine lv_iinc (v := (x2 + (1 : Int32))) (lv' := [(2, .int (x2 + (1 : Int32))), (0, .ref x0), (1, .ref x1)]) hx hb dX4_find_38 hl (k := 2) rfl rfl (by decide) rfl (fun ls hl => ?_)
        refine lv_goto (tgt := 2) hx hb dX4_find_41 (by decide) ?_
        exact k2 _ _ _ _ _ _ _ hJ I (lv_sub hl [1, 2, 0] rfl)
      · rw [if_neg c9] at hJ
        refine lv_aload_n hx hb dX4_find_19 rfl (lv_at hl 0 rfl) ?_
        refine lv_iload_n hx hb dX4_find_20 rfl (lv_at hl 2 rfl) ?_
        refine lv_aload_n hx hb dX4_find_21 rfl (lv_at hl 1 rfl) ?_
        obtain ⟨u9, i9, hJ⟩ := rp_b hJ
        obtain ⟨f9, i9⟩ := isO_s i9
        obtain ⟨q3, e9, hJ⟩ := rp_b hJ
        refine rp_callV (As := [.int x2, .ref x1]) (rest := []) X hN I (c_Round_measure hT e9) (cwV 2 hts (gdV wm_353 wm_354 wm_7 wm_39 wm_355) rfl rfl rfl (by decide +kernel) ⟨Nat.le_of_ble_eq_true rfl, Nat.le_of_ble_eq_true rfl⟩) i9 rfl rfl hl.1 rfl (Nat.le_of_ble_eq_true rfl) dX4_find_22 ⟨(Nat.le_of_ble_eq_true rfl), (Nat.le_of_ble_eq_true rfl)⟩ (fun H locs I => ?_)
        refine W.cs (cells' := 0) (slots' := 0) rfl rfl ?_
        refine lv_istore_n (lv' := [(3, .int q3.1), (0, .ref x0), (1, .ref x1), (2, .int x2)]) hx hb dX4_find_25 rfl hl (by decide) rfl (fun ls hl => ?_)
        refine lv_iload_n hx hb dX4_find_26 rfl (lv_at hl 0 rfl) ?_
        refine lv_if_le (tgt := 38) hx hb dX4_find_27 (by decide) (fun c9 => ?_) (fun c9 => ?_)
        · rw [if_pos c9] at hJ
          refine lv_iinc (v := (x2 + (1 : Int32))) (lv' := [(2, .int (x2 + (1 : Int32))), (3, .int q3.1), (0, .ref x0), (1, .ref x1)]) hx hb dX4_find_38 hl (k := 3) rfl rfl (by decide) rfl (fun ls hl => ?_)
          refine lv_goto (tgt := 2) hx hb dX4_find_41 (by decide) ?_
          exact k2 _ _ _ _ _ _ _ hJ I (lv_sub hl [2, 3, 0] rfl)
        · rw [if_neg c9] at hJ
          refine lv_aload_n hx hb dX4_find_30 rfl (lv_at hl 1 rfl) ?_
          refine lv_iload_n hx hb dX4_find_31 rfl (lv_at hl 3 rfl) ?_
          refine lv_iload_n hx hb dX4_find_32 rfl (lv_at hl 0 rfl) ?_
          refine lv_aload_n hx hb dX4_find_33 rfl (lv_at hl 2 rfl) ?_
          obtain ⟨u9, i9, hJ⟩ := rp_b hJ
          obtain ⟨f9, i9⟩ := isO_s i9
          obtain ⟨q4, e9, hJ⟩ := rp_b hJ
          refine rp_callV (As := [.int x2, .int q3.1, .ref x1]) (rest := []) X hN I (c_Round_walk hT e9) (cwV 3 hts (gdV wm_360 wm_361 wm_8 wm_39 wm_362) rfl rfl rfl (by decide +kernel) ⟨Nat.le_of_ble_eq_true rfl, Nat.le_of_ble_eq_true rfl⟩) i9 rfl rfl hl.1 rfl (Nat.le_of_ble_eq_true rfl) dX4_find_34 ⟨(Nat.le_of_ble_eq_true rfl), (Nat.le_of_ble_eq_true rfl)⟩ (fun H locs I => ?_)
          refine W.cs (cells' := 0) (slots' := 0) rfl rfl ?_
          exact rp_vret X hr hJ I dX4_find_37
set_option maxHeartbeats 4000000 in
set_option maxRecDepth 100000 in
theorem c_Round_find {l : Launch} {D : va_G} {tys : List (ClassId × FieldType)} {A : Nat → Prop} (hT : tys.map (fun q => q.2) = tyS) {N : Nat} {x0 : Nat} {x1 : Nat} {h : Hp} {res : (Unit × Hp)} (hJ : J_Round_find N x0 x1 h = some res) : Ct l D vwCl tys A yX4_find (Cond.code yX4_find cX4_find 4 none :: wsG) rmX4_find [.ref x0, .ref x1] h none res.2 := by
  refine Met.ofW (cc := cX4_find) (maxL := 4) (ret := none) (by decide) rfl ?_
  intro p e s m args below meth c s₁ B hml hv
  obtain ⟨rfl, hA, hR, hK, hN⟩ := hv
  have hr := B.returns
  have hts : ∀ w ∈ wsG, w.before [.ref x0, .ref x1].toArray s = true := fun w hw => atoms_spec (ws := Cond.code yX4_find cX4_find 4 none :: wsG) B.pre w (List.mem_cons_of_mem _ hw)
  have X : Cx p s m [.ref x0, .ref x1].toArray meth c D vwCl tys cX4_find 4 RX4 wsG := ⟨⟨B.exec, B.bytes, hml, findClass_of_methodNamed B.named, hts⟩, hK, B.notSynchronized, hT⟩
  have hx := B.exec
  have hb := B.bytes
  have I : In D vwCl tys A s h s.heap [] := ⟨hR, va_S.rf, hA⟩
  have hl := lv_entry [.ref x0, .ref x1] (n := 4) (Nat.le_of_ble_eq_true rfl)
  rw [lg_entry_eq]
  generalize (lg_sl [.ref x0, .ref x1] ++ List.replicate (4 - (lg_sl [.ref x0, .ref x1]).length) Slot.unset).toArray = ls at hl ⊢
  have hl : lv_has ls 4 [(0, .ref x0), (1, .ref x1)] := hl
  have ho := X.1.2.2.2.1
  rw [J_Round_find] at hJ
  refine lv_iconst (v := 0) hx hb dX4_find_0 (by decide) ?_
  refine lv_istore_n (lv' := [(2, .int (0 : Int32)), (0, .ref x0), (1, .ref x1)]) hx hb dX4_find_1 rfl hl (by decide) rfl (fun ls hl => ?_)
  exact w_Round_find_2 X hN hr N _ _ _ _ _ _ _ hJ I (lv_sub hl [1, 2, 0] rfl)
end GW
end
section
section GW
variable {p : Program} {l : Launch} {e : Env} {s : State} {m : MethodId} {args : Array Value} {below : List Frame} {meth : Method} {c : Code} {D : va_G} {tys : List (ClassId × FieldType)} {A : Nat → Prop}
def rmX6_isStepNumber : Room := { frames := 0, cells := 0, slots := 0, locals := 0 }
def J_Desk_isStepNumber_14 (N : Nat)    (h : Hp) : Option (Int32 × Hp) :=
  some ((0 : Int32), h)
def J_Desk_isStepNumber (N : Nat) (x0 : Int32) (h : Hp) : Option (Int32 × Hp) :=
  if x0 < 0 then
  (J_Desk_isStepNumber_14 N h)
  else
  (if (40 : Int32) ≤ x0 then
  (J_Desk_isStepNumber_14 N h)
  else
  (some ((1 : Int32), h)))
set_option maxHeartbeats 4000000 in
set_option maxRecDepth 100000 in
theorem w_Desk_isStepNumber_14 (X : Cx p s m args meth c D vwCl tys cX6_isStepNumber 1 RX6 wsG) (hN : nwS s) (hr : meth.sig.returnType = (some .boolean)) {res : (Int32 × Hp)} {N : Nat}   : ∀   (h : Hp) (H : Heap) (locs : List Loc) (ls : Array Slot), J_Desk_isStepNumber_14 N h = some res → In D vwCl tys A s h H locs → lv_has ls 1 [] → W p l e rmX6_isStepNumber s m args below meth c H locs 0 0 (MQ below (Qr D vwCl tys A (some (.int res.1)) res.2) args s 0 0 A) (F0 m 14 ls []) := by
  have hx := X.1.1
  have hb := X.1.2.1
  have hml := X.1.2.2.1
  have ho := X.1.2.2.2.1
  have hts := X.1.2.2.2.2
  have hK := X.2.1
  have hT := X.2.2.2
  intro   h H locs ls hJ I hl
  rw [J_Desk_isStepNumber_14] at hJ
  refine lv_iconst (v := 0) hx hb dX6_isStepNumber_14 (by decide) ?_
  exact rp_zret X hr (Or.inl rfl) hJ I dX6_isStepNumber_15
set_option maxHeartbeats 4000000 in
set_option maxRecDepth 100000 in
theorem c_Desk_isStepNumber {l : Launch} {D : va_G} {tys : List (ClassId × FieldType)} {A : Nat → Prop} (hT : tys.map (fun q => q.2) = tyS) {N : Nat} {x0 : Int32} {h : Hp} {res : (Int32 × Hp)} (hJ : J_Desk_isStepNumber N x0 h = some res) : Ct l D vwCl tys A yX6_isStepNumber (Cond.code yX6_isStepNumber cX6_isStepNumber 1 (some .boolean) :: wsG) rmX6_isStepNumber [.int x0] h (some (.int res.1)) res.2 := by
  refine Met.ofW (cc := cX6_isStepNumber) (maxL := 1) (ret := (some .boolean)) (by decide) rfl ?_
  intro p e s m args below meth c s₁ B hml hv
  obtain ⟨rfl, hA, hR, hK, hN⟩ := hv
  have hr := B.returns
  have hts : ∀ w ∈ wsG, w.before [.int x0].toArray s = true := fun w hw => atoms_spec (ws := Cond.code yX6_isStepNumber cX6_isStepNumber 1 (some .boolean) :: wsG) B.pre w (List.mem_cons_of_mem _ hw)
  have X : Cx p s m [.int x0].toArray meth c D vwCl tys cX6_isStepNumber 1 RX6 wsG := ⟨⟨B.exec, B.bytes, hml, findClass_of_methodNamed B.named, hts⟩, hK, B.notSynchronized, hT⟩
  have hx := B.exec
  have hb := B.bytes
  have I : In D vwCl tys A s h s.heap [] := ⟨hR, va_S.rf, hA⟩
  have hl := lv_entry [.int x0] (n := 1) (Nat.le_of_ble_eq_true rfl)
  rw [lg_entry_eq]
  generalize (lg_sl [.int x0] ++ List.replicate (1 - (lg_sl [.int x0]).length) Slot.unset).toArray = ls at hl ⊢
  have hl : lv_has ls 1 [(0, .int x0)] := hl
  have ho := X.1.2.2.2.1
  rw [J_Desk_isStepNumber] at hJ
  refine lv_iload_n hx hb dX6_isStepNumber_0 rfl (lv_at hl 0 rfl) ?_
  refine lv_if_lt (tgt := 14) hx hb dX6_isStepNumber_1 (by decide) (fun c9 => ?_) (fun c9 => ?_)
  · rw [if_pos c9] at hJ
    exact w_Desk_isStepNumber_14 X hN hr _ _ _ _ hJ I (lv_sub hl [] rfl)
  · rw [if_neg c9] at hJ
    refine lv_iload_n hx hb dX6_isStepNumber_4 rfl (lv_at hl 0 rfl) ?_
    refine lv_bipush (v := 40) hx hb dX6_isStepNumber_5 (by decide) ?_
    refine lv_icmp_ge (tgt := 14) hx hb dX6_isStepNumber_7 (by decide) (fun c9 => ?_) (fun c9 => ?_)
    · rw [if_pos c9] at hJ
      exact w_Desk_isStepNumber_14 X hN hr _ _ _ _ hJ I (lv_sub hl [] rfl)
    · rw [if_neg c9] at hJ
      refine lv_iconst (v := 1) hx hb dX6_isStepNumber_10 (by decide) ?_
      refine lv_goto (tgt := 15) hx hb dX6_isStepNumber_11 (by decide) ?_
      exact rp_zret X hr (Or.inr rfl) hJ I dX6_isStepNumber_15
def rmX6_step : Room := { frames := 1, cells := 0, slots := 0, locals := 23 }
def J_Desk_step (N : Nat) (x0 : Nat) (x1 : Int32) (x2 : Int32) (x3 : Int32) (x4 : Int32) (h : Hp) : Option (Int32 × Hp) :=
  (J_Desk_isStepNumber N x1 h).bind fun q1 =>
 if q1.1 = 0 then
  (some ((0 : Int32), q1.2))
  else
  (if x4 < (1 : Int32) then
  (some ((0 : Int32), q1.2))
  else
  (if x4 ≤ (100 : Int32) then
  ((fR q1.2 6 x0 1).bind fun v2 =>
  (aR q1.2 3 v2 x1).bind fun v3 =>
  (isO q1.2 5 v3).bind fun _ =>
  (J_Step_tell N v3 x2 x3 x4 q1.2).bind fun q4 =>
 some ((1 : Int32), q4.2))
  else
  (some ((0 : Int32), q1.2))))
set_option maxHeartbeats 4000000 in
set_option maxRecDepth 100000 in
theorem c_Desk_step {l : Launch} {D : va_G} {tys : List (ClassId × FieldType)} {A : Nat → Prop} (hT : tys.map (fun q => q.2) = tyS) {N : Nat} {x0 : Nat} {x1 : Int32} {x2 : Int32} {x3 : Int32} {x4 : Int32} {h : Hp} {res : (Int32 × Hp)} (hJ : J_Desk_step N x0 x1 x2 x3 x4 h = some res) : Ct l D vwCl tys A yX6_step (Cond.code yX6_step cX6_step 5 (some .boolean) :: wsG) rmX6_step [.ref x0, .int x1, .int x2, .int x3, .int x4] h (some (.int res.1)) res.2 := by
  refine Met.ofW (cc := cX6_step) (maxL := 5) (ret := (some .boolean)) (by decide) rfl ?_
  intro p e s m args below meth c s₁ B hml hv
  obtain ⟨rfl, hA, hR, hK, hN⟩ := hv
  have hr := B.returns
  have hts : ∀ w ∈ wsG, w.before [.ref x0, .int x1, .int x2, .int x3, .int x4].toArray s = true := fun w hw => atoms_spec (ws := Cond.code yX6_step cX6_step 5 (some .boolean) :: wsG) B.pre w (List.mem_cons_of_mem _ hw)
  have X : Cx p s m [.ref x0, .int x1, .int x2, .int x3, .int x4].toArray meth c D vwCl tys cX6_step 5 RX6 wsG := ⟨⟨B.exec, B.bytes, hml, findClass_of_methodNamed B.named, hts⟩, hK, B.notSynchronized, hT⟩
  have hx := B.exec
  have hb := B.bytes
  have I : In D vwCl tys A s h s.heap [] := ⟨hR, va_S.rf, hA⟩
  have hl := lv_entry [.ref x0, .int x1, .int x2, .int x3, .int x4] (n := 5) (Nat.le_of_ble_eq_true rfl)
  rw [lg_entry_eq]
  generalize (lg_sl [.ref x0, .int x1, .int x2, .int x3, .int x4] ++ List.replicate (5 - (lg_sl [.ref x0, .int x1, .int x2, .int x3, .int x4]).length) Slot.unset).toArray = ls at hl ⊢
  have hl : lv_has ls 5 [(0, .ref x0), (1, .int x1), (2, .int x2), (3, .int x3), (4, .int x4)] := hl
  have ho := X.1.2.2.2.1
  rw [J_Desk_step] at hJ
  refine lv_iload_n hx hb dX6_step_0 rfl (lv_at hl 1 rfl) ?_
  obtain ⟨q1, e9, hJ⟩ := rp_b hJ
  refine rp_callS (As := [.int x1]) (rest := []) X hN I (c_Desk_isStepNumber hT e9) (cwS 1 hts (gdS wm_176 wm_177 wm_33 wm_178) rfl rfl rfl (by decide +kernel) ⟨Nat.le_of_ble_eq_true rfl, Nat.le_of_ble_eq_true rfl⟩) rfl hl.1 rfl (Nat.le_of_ble_eq_true rfl) dX6_step_1 ⟨(Nat.le_of_ble_eq_true rfl), (Nat.le_of_ble_eq_true rfl)⟩ (fun H locs I => ?_)
  refine W.cs (cells' := 0) (slots' := 0) rfl rfl ?_
  refine lv_if_eq (tgt := 20) hx hb dX6_step_4 (by decide) (fun c9 => ?_) (fun c9 => ?_)
  · rw [if_pos c9] at hJ
    refine lv_iconst (v := 0) hx hb dX6_step_20 (by decide) ?_
    exact rp_zret X hr (Or.inl rfl) hJ I dX6_step_21
  · rw [if_neg c9] at hJ
    refine lv_iload hx hb dX6_step_7 (lv_at hl 4 rfl) ?_
    refine lv_iconst (v := 1) hx hb dX6_step_9 (by decide) ?_
    refine lv_icmp_lt (tgt := 20) hx hb dX6_step_10 (by decide) (fun c9 => ?_) (fun c9 => ?_)
    · rw [if_pos c9] at hJ
      refine lv_iconst (v := 0) hx hb dX6_step_20 (by decide) ?_
      exact rp_zret X hr (Or.inl rfl) hJ I dX6_step_21
    · rw [if_neg c9] at hJ
      refine lv_iload hx hb dX6_step_13 (lv_at hl 4 rfl) ?_
      refine lv_bipush (v := 100) hx hb dX6_step_15 (by decide) ?_
      refine lv_icmp_le (tgt := 22) hx hb dX6_step_17 (by decide) (fun c9 => ?_) (fun c9 => ?_)
      · rw [if_pos c9] at hJ
        refine lv_aload_n hx hb dX6_step_22 rfl (lv_at hl 0 rfl) ?_
        obtain ⟨v2, e9, hJ⟩ := rp_b hJ
        obtain ⟨f9, g9, e9⟩ := fR_s e9
        refine rp_get X I g9 e9 rfl wiX6 (by decide) wm_161 dX6_step_23 ?_
        refine lv_iload_n hx hb dX6_step_26 rfl (lv_at hl 1 rfl) ?_
        obtain ⟨v3, e9, hJ⟩ := rp_b hJ
        refine rp_aald X I e9 rfl dX6_step_27 ?_
        refine lv_iload_n hx hb dX6_step_28 rfl (lv_at hl 2 rfl) ?_
        refine lv_iload_n hx hb dX6_step_29 rfl (lv_at hl 3 rfl) ?_
        refine lv_iload hx hb dX6_step_30 (lv_at hl 4 rfl) ?_
        obtain ⟨u9, i9, hJ⟩ := rp_b hJ
        obtain ⟨f9, i9⟩ := isO_s i9
        obtain ⟨q4, e9, hJ⟩ := rp_b hJ
        refine rp_callV (As := [.int x2, .int x3, .int x4]) (rest := []) X hN I (c_Step_tell hT e9) (cwV 3 hts (gdV wm_179 wm_180 wm_181 wm_35 wm_182) rfl rfl rfl (by decide +kernel) ⟨Nat.le_of_ble_eq_true rfl, Nat.le_of_ble_eq_true rfl⟩) i9 rfl rfl hl.1 rfl (Nat.le_of_ble_eq_true rfl) dX6_step_32 ⟨(Nat.le_of_ble_eq_true rfl), (Nat.le_of_ble_eq_true rfl)⟩ (fun H locs I => ?_)
        refine W.cs (cells' := 0) (slots' := 0) rfl rfl ?_
        refine lv_iconst (v := 1) hx hb dX6_step_35 (by decide) ?_
        exact rp_zret X hr (Or.inr rfl) hJ I dX6_step_36
      · rw [if_neg c9] at hJ
        refine lv_iconst (v := 0) hx hb dX6_step_20 (by decide) ?_
        exact rp_zret X hr (Or.inl rfl) hJ I dX6_step_21
def rmX6_isThere : Room := { frames := 1, cells := 0, slots := 0, locals := 20 }
def J_Desk_isThere_23 (N : Nat)    (h : Hp) : Option (Int32 × Hp) :=
  some ((0 : Int32), h)
def J_Desk_isThere (N : Nat) (x0 : Nat) (x1 : Int32) (h : Hp) : Option (Int32 × Hp) :=
  (J_Desk_isStepNumber N x1 h).bind fun q1 =>
 if q1.1 = 0 then
  (J_Desk_isThere_23 N q1.2)
  else
  ((fR q1.2 6 x0 1).bind fun v2 =>
  (aR q1.2 3 v2 x1).bind fun v3 =>
  (fI q1.2 5 v3 0).bind fun v4 =>
  if v4 = 0 then
  (J_Desk_isThere_23 N q1.2)
  else
  (some ((1 : Int32), q1.2)))
set_option maxHeartbeats 4000000 in
set_option maxRecDepth 100000 in
theorem w_Desk_isThere_23 (X : Cx p s m args meth c D vwCl tys cX6_isThere 2 RX6 wsG) (hN : nwS s) (hr : meth.sig.returnType = (some .boolean)) {res : (Int32 × Hp)} {N : Nat}   : ∀   (h : Hp) (H : Heap) (locs : List Loc) (ls : Array Slot), J_Desk_isThere_23 N h = some res → In D vwCl tys A s h H locs → lv_has ls 2 [] → W p l e rmX6_isThere s m args below meth c H locs 0 0 (MQ below (Qr D vwCl tys A (some (.int res.1)) res.2) args s 0 0 A) (F0 m 23 ls []) := by
  have hx := X.1.1
  have hb := X.1.2.1
  have hml := X.1.2.2.1
  have ho := X.1.2.2.2.1
  have hts := X.1.2.2.2.2
  have hK := X.2.1
  have hT := X.2.2.2
  intro   h H locs ls hJ I hl
  rw [J_Desk_isThere_23] at hJ
  refine lv_iconst (v := 0) hx hb dX6_isThere_23 (by decide) ?_
  exact rp_zret X hr (Or.inl rfl) hJ I dX6_isThere_24
set_option maxHeartbeats 4000000 in
set_option maxRecDepth 100000 in
theorem c_Desk_isThere {l : Launch} {D : va_G} {tys : List (ClassId × FieldType)} {A : Nat → Prop} (hT : tys.map (fun q => q.2) = tyS) {N : Nat} {x0 : Nat} {x1 : Int32} {h : Hp} {res : (Int32 × Hp)} (hJ : J_Desk_isThere N x0 x1 h = some res) : Ct l D vwCl tys A yX6_isThere (Cond.code yX6_isThere cX6_isThere 2 (some .boolean) :: wsG) rmX6_isThere [.ref x0, .int x1] h (some (.int res.1)) res.2 := by
  refine Met.ofW (cc := cX6_isThere) (maxL := 2) (ret := (some .boolean)) (by decide) rfl ?_
  intro p e s m args below meth c s₁ B hml hv
  obtain ⟨rfl, hA, hR, hK, hN⟩ := hv
  have hr := B.returns
  have hts : ∀ w ∈ wsG, w.before [.ref x0, .int x1].toArray s = true := fun w hw => atoms_spec (ws := Cond.code yX6_isThere cX6_isThere 2 (some .boolean) :: wsG) B.pre w (List.mem_cons_of_mem _ hw)
  have X : Cx p s m [.ref x0, .int x1].toArray meth c D vwCl tys cX6_isThere 2 RX6 wsG := ⟨⟨B.exec, B.bytes, hml, findClass_of_methodNamed B.named, hts⟩, hK, B.notSynchronized, hT⟩
  have hx := B.exec
  have hb := B.bytes
  have I : In D vwCl tys A s h s.heap [] := ⟨hR, va_S.rf, hA⟩
  have hl := lv_entry [.ref x0, .int x1] (n := 2) (Nat.le_of_ble_eq_true rfl)
  rw [lg_entry_eq]
  generalize (lg_sl [.ref x0, .int x1] ++ List.replicate (2 - (lg_sl [.ref x0, .int x1]).length) Slot.unset).toArray = ls at hl ⊢
  have hl : lv_has ls 2 [(0, .ref x0), (1, .int x1)] := hl
  have ho := X.1.2.2.2.1
  rw [J_Desk_isThere] at hJ
  refine lv_iload_n hx hb dX6_isThere_0 rfl (lv_at hl 1 rfl) ?_
  obtain ⟨q1, e9, hJ⟩ := rp_b hJ
  refine rp_callS (As := [.int x1]) (rest := []) X hN I (c_Desk_isStepNumber hT e9) (cwS 1 hts (gdS wm_176 wm_177 wm_33 wm_178) rfl rfl rfl (by decide +kernel) ⟨Nat.le_of_ble_eq_true rfl, Nat.le_of_ble_eq_true rfl⟩) rfl hl.1 rfl (Nat.le_of_ble_eq_true rfl) dX6_isThere_1 ⟨(Nat.le_of_ble_eq_true rfl), (Nat.le_of_ble_eq_true rfl)⟩ (fun H locs I => ?_)
  refine W.cs (cells' := 0) (slots' := 0) rfl rfl ?_
  refine lv_if_eq (tgt := 23) hx hb dX6_isThere_4 (by decide) (fun c9 => ?_) (fun c9 => ?_)
  · rw [if_pos c9] at hJ
    exact w_Desk_isThere_23 X hN hr _ _ _ _ hJ I (lv_sub hl [] rfl)
  · rw [if_neg c9] at hJ
    refine lv_aload_n hx hb dX6_isThere_7 rfl (lv_at hl 0 rfl) ?_
    obtain ⟨v2, e9, hJ⟩ := rp_b hJ
    obtain ⟨f9, g9, e9⟩ := fR_s e9
    refine rp_get X I g9 e9 rfl wiX6 (by decide) wm_161 dX6_isThere_8 ?_
    refine lv_iload_n hx hb dX6_isThere_11 rfl (lv_at hl 1 rfl) ?_
    obtain ⟨v3, e9, hJ⟩ := rp_b hJ
    refine rp_aald X I e9 rfl dX6_isThere_12 ?_
    obtain ⟨v4, e9, hJ⟩ := rp_b hJ
    obtain ⟨f9, g9, e9⟩ := fI_s e9
    refine rp_getN (host := "BuildDesk") X I g9 e9 rfl wiX5 (by decide) (hN.1 _ (by decide +kernel)) dX6_isThere_13 ?_
    refine lv_if_eq (tgt := 23) hx hb dX6_isThere_16 (by decide) (fun c9 => ?_) (fun c9 => ?_)
    · rw [if_pos c9] at hJ
      exact w_Desk_isThere_23 X hN hr _ _ _ _ hJ I (lv_sub hl [] rfl)
    · rw [if_neg c9] at hJ
      refine lv_iconst (v := 1) hx hb dX6_isThere_19 (by decide) ?_
      refine lv_goto (tgt := 24) hx hb dX6_isThere_20 (by decide) ?_
      exact rp_zret X hr (Or.inr rfl) hJ I dX6_isThere_24
def rmX6_isFile : Room := { frames := 0, cells := 0, slots := 0, locals := 0 }
def J_Desk_isFile_14 (N : Nat)    (h : Hp) : Option (Int32 × Hp) :=
  some ((0 : Int32), h)
def J_Desk_isFile (N : Nat) (x0 : Int32) (h : Hp) : Option (Int32 × Hp) :=
  if x0 < 0 then
  (J_Desk_isFile_14 N h)
  else
  (if (64 : Int32) ≤ x0 then
  (J_Desk_isFile_14 N h)
  else
  (some ((1 : Int32), h)))
set_option maxHeartbeats 4000000 in
set_option maxRecDepth 100000 in
theorem w_Desk_isFile_14 (X : Cx p s m args meth c D vwCl tys cX6_isFile 1 RX6 wsG) (hN : nwS s) (hr : meth.sig.returnType = (some .boolean)) {res : (Int32 × Hp)} {N : Nat}   : ∀   (h : Hp) (H : Heap) (locs : List Loc) (ls : Array Slot), J_Desk_isFile_14 N h = some res → In D vwCl tys A s h H locs → lv_has ls 1 [] → W p l e rmX6_isFile s m args below meth c H locs 0 0 (MQ below (Qr D vwCl tys A (some (.int res.1)) res.2) args s 0 0 A) (F0 m 14 ls []) := by
  have hx := X.1.1
  have hb := X.1.2.1
  have hml := X.1.2.2.1
  have ho := X.1.2.2.2.1
  have hts := X.1.2.2.2.2
  have hK := X.2.1
  have hT := X.2.2.2
  intro   h H locs ls hJ I hl
  rw [J_Desk_isFile_14] at hJ
  refine lv_iconst (v := 0) hx hb dX6_isFile_14 (by decide) ?_
  exact rp_zret X hr (Or.inl rfl) hJ I dX6_isFile_15
set_option maxHeartbeats 4000000 in
set_option maxRecDepth 100000 in
theorem c_Desk_isFile {l : Launch} {D : va_G} {tys : List (ClassId × FieldType)} {A : Nat → Prop} (hT : tys.map (fun q => q.2) = tyS) {N : Nat} {x0 : Int32} {h : Hp} {res : (Int32 × Hp)} (hJ : J_Desk_isFile N x0 h = some res) : Ct l D vwCl tys A yX6_isFile (Cond.code yX6_isFile cX6_isFile 1 (some .boolean) :: wsG) rmX6_isFile [.int x0] h (some (.int res.1)) res.2 := by
  refine Met.ofW (cc := cX6_isFile) (maxL := 1) (ret := (some .boolean)) (by decide) rfl ?_
  intro p e s m args below meth c s₁ B hml hv
  obtain ⟨rfl, hA, hR, hK, hN⟩ := hv
  have hr := B.returns
  have hts : ∀ w ∈ wsG, w.before [.int x0].toArray s = true := fun w hw => atoms_spec (ws := Cond.code yX6_isFile cX6_isFile 1 (some .boolean) :: wsG) B.pre w (List.mem_cons_of_mem _ hw)
  have X : Cx p s m [.int x0].toArray meth c D vwCl tys cX6_isFile 1 RX6 wsG := ⟨⟨B.exec, B.bytes, hml, findClass_of_methodNamed B.named, hts⟩, hK, B.notSynchronized, hT⟩
  have hx := B.exec
  have hb := B.bytes
  have I : In D vwCl tys A s h s.heap [] := ⟨hR, va_S.rf, hA⟩
  have hl := lv_entry [.int x0] (n := 1) (Nat.le_of_ble_eq_true rfl)
  rw [lg_entry_eq]
  generalize (lg_sl [.int x0] ++ List.replicate (1 - (lg_sl [.int x0]).length) Slot.unset).toArray = ls at hl ⊢
  have hl : lv_has ls 1 [(0, .int x0)] := hl
  have ho := X.1.2.2.2.1
  rw [J_Desk_isFile] at hJ
  refine lv_iload_n hx hb dX6_isFile_0 rfl (lv_at hl 0 rfl) ?_
  refine lv_if_lt (tgt := 14) hx hb dX6_isFile_1 (by decide) (fun c9 => ?_) (fun c9 => ?_)
  · rw [if_pos c9] at hJ
    exact w_Desk_isFile_14 X hN hr _ _ _ _ hJ I (lv_sub hl [] rfl)
  · rw [if_neg c9] at hJ
    refine lv_iload_n hx hb dX6_isFile_4 rfl (lv_at hl 0 rfl) ?_
    refine lv_bipush (v := 64) hx hb dX6_isFile_5 (by decide) ?_
    refine lv_icmp_ge (tgt := 14) hx hb dX6_isFile_7 (by decide) (fun c9 => ?_) (fun c9 => ?_)
    · rw [if_pos c9] at hJ
      exact w_Desk_isFile_14 X hN hr _ _ _ _ hJ I (lv_sub hl [] rfl)
    · rw [if_neg c9] at hJ
      refine lv_iconst (v := 1) hx hb dX6_isFile_10 (by decide) ?_
      refine lv_goto (tgt := 15) hx hb dX6_isFile_11 (by decide) ?_
      exact rp_zret X hr (Or.inr rfl) hJ I dX6_isFile_15
def rmX6_input : Room := { frames := 2, cells := 0, slots := 0, locals := 41 }
def J_Desk_input_32 (N : Nat)    (h : Hp) : Option (Int32 × Hp) :=
  some ((0 : Int32), h)
def J_Desk_input (N : Nat) (x0 : Nat) (x1 : Int32) (x2 : Int32) (h : Hp) : Option (Int32 × Hp) :=
  (isO h 6 x0).bind fun _ =>
  (J_Desk_isThere N x0 x1 h).bind fun q1 =>
 if q1.1 = 0 then
  (J_Desk_input_32 N q1.2)
  else
  ((J_Desk_isFile N x2 q1.2).bind fun q2 =>
 if q2.1 = 0 then
  (J_Desk_input_32 N q2.2)
  else
  ((fR q2.2 6 x0 1).bind fun v3 =>
  (aR q2.2 3 v3 x1).bind fun v4 =>
  (isO q2.2 5 v4).bind fun _ =>
  (J_Step_addInput N v4 x2 q2.2).bind fun q5 =>
 if q5.1 = 0 then
  (J_Desk_input_32 N q5.2)
  else
  (some ((1 : Int32), q5.2))))
set_option maxHeartbeats 4000000 in
set_option maxRecDepth 100000 in
theorem w_Desk_input_32 (X : Cx p s m args meth c D vwCl tys cX6_input 3 RX6 wsG) (hN : nwS s) (hr : meth.sig.returnType = (some .boolean)) {res : (Int32 × Hp)} {N : Nat}   : ∀   (h : Hp) (H : Heap) (locs : List Loc) (ls : Array Slot), J_Desk_input_32 N h = some res → In D vwCl tys A s h H locs → lv_has ls 3 [] → W p l e rmX6_input s m args below meth c H locs 0 0 (MQ below (Qr D vwCl tys A (some (.int res.1)) res.2) args s 0 0 A) (F0 m 32 ls []) := by
  have hx := X.1.1
  have hb := X.1.2.1
  have hml := X.1.2.2.1
  have ho := X.1.2.2.2.1
  have hts := X.1.2.2.2.2
  have hK := X.2.1
  have hT := X.2.2.2
  intro   h H locs ls hJ I hl
  rw [J_Desk_input_32] at hJ
  refine lv_iconst (v := 0) hx hb dX6_input_32 (by decide) ?_
  exact rp_zret X hr (Or.inl rfl) hJ I dX6_input_33
set_option maxHeartbeats 4000000 in
set_option maxRecDepth 100000 in
theorem c_Desk_input {l : Launch} {D : va_G} {tys : List (ClassId × FieldType)} {A : Nat → Prop} (hT : tys.map (fun q => q.2) = tyS) {N : Nat} {x0 : Nat} {x1 : Int32} {x2 : Int32} {h : Hp} {res : (Int32 × Hp)} (hJ : J_Desk_input N x0 x1 x2 h = some res) : Ct l D vwCl tys A yX6_input (Cond.code yX6_input cX6_input 3 (some .boolean) :: wsG) rmX6_input [.ref x0, .int x1, .int x2] h (some (.int res.1)) res.2 := by
  refine Met.ofW (cc := cX6_input) (maxL := 3) (ret := (some .boolean)) (by decide) rfl ?_
  intro p e s m args below meth c s₁ B hml hv
  obtain ⟨rfl, hA, hR, hK, hN⟩ := hv
  have hr := B.returns
  have hts : ∀ w ∈ wsG, w.before [.ref x0, .int x1, .int x2].toArray s = true := fun w hw => atoms_spec (ws := Cond.code yX6_input cX6_input 3 (some .boolean) :: wsG) B.pre w (List.mem_cons_of_mem _ hw)
  have X : Cx p s m [.ref x0, .int x1, .int x2].toArray meth c D vwCl tys cX6_input 3 RX6 wsG := ⟨⟨B.exec, B.bytes, hml, findClass_of_methodNamed B.named, hts⟩, hK, B.notSynchronized, hT⟩
  have hx := B.exec
  have hb := B.bytes
  have I : In D vwCl tys A s h s.heap [] := ⟨hR, va_S.rf, hA⟩
  have hl := lv_entry [.ref x0, .int x1, .int x2] (n := 3) (Nat.le_of_ble_eq_true rfl)
  rw [lg_entry_eq]
  generalize (lg_sl [.ref x0, .int x1, .int x2] ++ List.replicate (3 - (lg_sl [.ref x0, .int x1, .int x2]).length) Slot.unset).toArray = ls at hl ⊢
  have hl : lv_has ls 3 [(0, .ref x0), (1, .int x1), (2, .int x2)] := hl
  have ho := X.1.2.2.2.1
  rw [J_Desk_input] at hJ
  refine lv_aload_n hx hb dX6_input_0 rfl (lv_at hl 0 rfl) ?_
  refine lv_iload_n hx hb dX6_input_1 rfl (lv_at hl 1 rfl) ?_
  obtain ⟨u9, i9, hJ⟩ := rp_b hJ
  obtain ⟨f9, i9⟩ := isO_s i9
  obtain ⟨q1, e9, hJ⟩ := rp_b hJ
  refine rp_callV (As := [.int x1]) (rest := []) X hN I (c_Desk_isThere hT e9) (cwV 1 hts (gdV wm_187 wm_188 wm_0 wm_33 wm_189) rfl rfl rfl (by decide +kernel) ⟨Nat.le_of_ble_eq_true rfl, Nat.le_of_ble_eq_true rfl⟩) i9 rfl rfl hl.1 rfl (Nat.le_of_ble_eq_true rfl) dX6_input_2 ⟨(Nat.le_of_ble_eq_true rfl), (Nat.le_of_ble_eq_true rfl)⟩ (fun H locs I => ?_)
  refine W.cs (cells' := 0) (slots' := 0) rfl rfl ?_
  refine lv_if_eq (tgt := 32) hx hb dX6_input_5 (by decide) (fun c9 => ?_) (fun c9 => ?_)
  · rw [if_pos c9] at hJ
    exact w_Desk_input_32 X hN hr _ _ _ _ hJ I (lv_sub hl [] rfl)
  · rw [if_neg c9] at hJ
    refine lv_iload_n hx hb dX6_input_8 rfl (lv_at hl 2 rfl) ?_
    obtain ⟨q2, e9, hJ⟩ := rp_b hJ
    refine rp_callS (As := [.int x2]) (rest := []) X hN I (c_Desk_isFile hT e9) (cwS 1 hts (gdS wm_190 wm_191 wm_33 wm_192) rfl rfl rfl (by decide +kernel) ⟨Nat.le_of_ble_eq_true rfl, Nat.le_of_ble_eq_true rfl⟩) rfl hl.1 rfl (Nat.le_of_ble_eq_true rfl) dX6_input_9 ⟨(Nat.le_of_ble_eq_true rfl), (Nat.le_of_ble_eq_true rfl)⟩ (fun H locs I => ?_)
    refine W.cs (cells' := 0) (slots' := 0) rfl rfl ?_
    refine lv_if_eq (tgt := 32) hx hb dX6_input_12 (by decide) (fun c9 => ?_) (fun c9 => ?_)
    · rw [if_pos c9] at hJ
      exact w_Desk_input_32 X hN hr _ _ _ _ hJ I (lv_sub hl [] rfl)
    · rw [if_neg c9] at hJ
      refine lv_aload_n hx hb dX6_input_15 rfl (lv_at hl 0 rfl) ?_
      obtain ⟨v3, e9, hJ⟩ := rp_b hJ
      obtain ⟨f9, g9, e9⟩ := fR_s e9
      refine rp_get X I g9 e9 rfl wiX6 (by decide) wm_161 dX6_input_16 ?_
      refine lv_iload_n hx hb dX6_input_19 rfl (lv_at hl 1 rfl) ?_
      obtain ⟨v4, e9, hJ⟩ := rp_b hJ
      refine rp_aald X I e9 rfl dX6_input_20 ?_
      refine lv_iload_n hx hb dX6_input_21 rfl (lv_at hl 2 rfl) ?_
      obtain ⟨u9, i9, hJ⟩ := rp_b hJ
      obtain ⟨f9, i9⟩ := isO_s i9
      obtain ⟨q5, e9, hJ⟩ := rp_b hJ
      refine rp_callV (As := [.int x2]) (rest := []) X hN I (c_Step_addInput hT e9) (cwV 1 hts (gdV wm_193 wm_194 wm_195 wm_35 wm_196) rfl rfl rfl (by decide +kernel) ⟨Nat.le_of_ble_eq_true rfl, Nat.le_of_ble_eq_true rfl⟩) i9 rfl rfl hl.1 rfl (Nat.le_of_ble_eq_true rfl) dX6_input_22 ⟨(Nat.le_of_ble_eq_true rfl), (Nat.le_of_ble_eq_true rfl)⟩ (fun H locs I => ?_)
      refine W.cs (cells' := 0) (slots' := 0) rfl rfl ?_
      refine lv_if_eq (tgt := 32) hx hb dX6_input_25 (by decide) (fun c9 => ?_) (fun c9 => ?_)
      · rw [if_pos c9] at hJ
        exact w_Desk_input_32 X hN hr _ _ _ _ hJ I (lv_sub hl [] rfl)
      · rw [if_neg c9] at hJ
        refine lv_iconst (v := 1) hx hb dX6_input_28 (by decide) ?_
        refine lv_goto (tgt := 33) hx hb dX6_input_29 (by decide) ?_
        exact rp_zret X hr (Or.inr rfl) hJ I dX6_input_33
def rmX6_isSource : Room := { frames := 1, cells := 0, slots := 0, locals := 21 }
def J_Desk_isSource_23 (N : Nat)    (h : Hp) : Option (Int32 × Hp) :=
  some ((0 : Int32), h)
def J_Desk_isSource (N : Nat) (x0 : Nat) (x1 : Int32) (h : Hp) : Option (Int32 × Hp) :=
  (J_Desk_isFile N x1 h).bind fun q1 =>
 if q1.1 = 0 then
  (J_Desk_isSource_23 N q1.2)
  else
  ((fR q1.2 6 x0 0).bind fun v2 =>
  (isO q1.2 1 v2).bind fun _ =>
  (J_File_makerOf N v2 x1 q1.2).bind fun q3 =>
 if q3.1 = (-1 : Int32) then
  (some ((1 : Int32), q3.2))
  else
  (J_Desk_isSource_23 N q3.2))
set_option maxHeartbeats 4000000 in
set_option maxRecDepth 100000 in
theorem w_Desk_isSource_23 (X : Cx p s m args meth c D vwCl tys cX6_isSource 2 RX6 wsG) (hN : nwS s) (hr : meth.sig.returnType = (some .boolean)) {res : (Int32 × Hp)} {N : Nat}   : ∀   (h : Hp) (H : Heap) (locs : List Loc) (ls : Array Slot), J_Desk_isSource_23 N h = some res → In D vwCl tys A s h H locs → lv_has ls 2 [] → W p l e rmX6_isSource s m args below meth c H locs 0 0 (MQ below (Qr D vwCl tys A (some (.int res.1)) res.2) args s 0 0 A) (F0 m 23 ls []) := by
  have hx := X.1.1
  have hb := X.1.2.1
  have hml := X.1.2.2.1
  have ho := X.1.2.2.2.1
  have hts := X.1.2.2.2.2
  have hK := X.2.1
  have hT := X.2.2.2
  intro   h H locs ls hJ I hl
  rw [J_Desk_isSource_23] at hJ
  refine lv_iconst (v := 0) hx hb dX6_isSource_23 (by decide) ?_
  exact rp_zret X hr (Or.inl rfl) hJ I dX6_isSource_24
set_option maxHeartbeats 4000000 in
set_option maxRecDepth 100000 in
theorem c_Desk_isSource {l : Launch} {D : va_G} {tys : List (ClassId × FieldType)} {A : Nat → Prop} (hT : tys.map (fun q => q.2) = tyS) {N : Nat} {x0 : Nat} {x1 : Int32} {h : Hp} {res : (Int32 × Hp)} (hJ : J_Desk_isSource N x0 x1 h = some res) : Ct l D vwCl tys A yX6_isSource (Cond.code yX6_isSource cX6_isSource 2 (some .boolean) :: wsG) rmX6_isSource [.ref x0, .int x1] h (some (.int res.1)) res.2 := by
  refine Met.ofW (cc := cX6_isSource) (maxL := 2) (ret := (some .boolean)) (by decide) rfl ?_
  intro p e s m args below meth c s₁ B hml hv
  obtain ⟨rfl, hA, hR, hK, hN⟩ := hv
  have hr := B.returns
  have hts : ∀ w ∈ wsG, w.before [.ref x0, .int x1].toArray s = true := fun w hw => atoms_spec (ws := Cond.code yX6_isSource cX6_isSource 2 (some .boolean) :: wsG) B.pre w (List.mem_cons_of_mem _ hw)
  have X : Cx p s m [.ref x0, .int x1].toArray meth c D vwCl tys cX6_isSource 2 RX6 wsG := ⟨⟨B.exec, B.bytes, hml, findClass_of_methodNamed B.named, hts⟩, hK, B.notSynchronized, hT⟩
  have hx := B.exec
  have hb := B.bytes
  have I : In D vwCl tys A s h s.heap [] := ⟨hR, va_S.rf, hA⟩
  have hl := lv_entry [.ref x0, .int x1] (n := 2) (Nat.le_of_ble_eq_true rfl)
  rw [lg_entry_eq]
  generalize (lg_sl [.ref x0, .int x1] ++ List.replicate (2 - (lg_sl [.ref x0, .int x1]).length) Slot.unset).toArray = ls at hl ⊢
  have hl : lv_has ls 2 [(0, .ref x0), (1, .int x1)] := hl
  have ho := X.1.2.2.2.1
  rw [J_Desk_isSource] at hJ
  refine lv_iload_n hx hb dX6_isSource_0 rfl (lv_at hl 1 rfl) ?_
  obtain ⟨q1, e9, hJ⟩ := rp_b hJ
  refine rp_callS (As := [.int x1]) (rest := []) X hN I (c_Desk_isFile hT e9) (cwS 1 hts (gdS wm_190 wm_191 wm_33 wm_192) rfl rfl rfl (by decide +kernel) ⟨Nat.le_of_ble_eq_true rfl, Nat.le_of_ble_eq_true rfl⟩) rfl hl.1 rfl (Nat.le_of_ble_eq_true rfl) dX6_isSource_1 ⟨(Nat.le_of_ble_eq_true rfl), (Nat.le_of_ble_eq_true rfl)⟩ (fun H locs I => ?_)
  refine W.cs (cells' := 0) (slots' := 0) rfl rfl ?_
  refine lv_if_eq (tgt := 23) hx hb dX6_isSource_4 (by decide) (fun c9 => ?_) (fun c9 => ?_)
  · rw [if_pos c9] at hJ
    exact w_Desk_isSource_23 X hN hr _ _ _ _ hJ I (lv_sub hl [] rfl)
  · rw [if_neg c9] at hJ
    refine lv_aload_n hx hb dX6_isSource_7 rfl (lv_at hl 0 rfl) ?_
    obtain ⟨v2, e9, hJ⟩ := rp_b hJ
    obtain ⟨f9, g9, e9⟩ := fR_s e9
    refine rp_get X I g9 e9 rfl wiX6 (by decide) wm_160 dX6_isSource_8 ?_
    refine lv_iload_n hx hb dX6_isSource_11 rfl (lv_at hl 1 rfl) ?_
    obtain ⟨u9, i9, hJ⟩ := rp_b hJ
    obtain ⟨f9, i9⟩ := isO_s i9
    obtain ⟨q3, e9, hJ⟩ := rp_b hJ
    refine rp_callV (As := [.int x1]) (rest := []) X hN I (c_File_makerOf hT e9) (cwV 1 hts (gdV wm_204 wm_205 wm_206 wm_34 wm_207) rfl rfl rfl (by decide +kernel) ⟨Nat.le_of_ble_eq_true rfl, Nat.le_of_ble_eq_true rfl⟩) i9 rfl rfl hl.1 rfl (Nat.le_of_ble_eq_true rfl) dX6_isSource_12 ⟨(Nat.le_of_ble_eq_true rfl), (Nat.le_of_ble_eq_true rfl)⟩ (fun H locs I => ?_)
    refine W.cs (cells' := 0) (slots' := 0) rfl rfl ?_
    refine lv_iconst (v := -1) hx hb dX6_isSource_15 (by decide) ?_
    refine lv_icmp_ne (tgt := 23) hx hb dX6_isSource_16 (by decide) (fun c9 => ?_) (fun c9 => ?_)
    · rw [if_neg c9] at hJ
      exact w_Desk_isSource_23 X hN hr _ _ _ _ hJ I (lv_sub hl [] rfl)
    · rw [if_pos c9] at hJ
      refine lv_iconst (v := 1) hx hb dX6_isSource_19 (by decide) ?_
      refine lv_goto (tgt := 24) hx hb dX6_isSource_20 (by decide) ?_
      exact rp_zret X hr (Or.inr rfl) hJ I dX6_isSource_24
def rmX6_output : Room := { frames := 2, cells := 0, slots := 0, locals := 42 }
def J_Desk_output (N : Nat) (x0 : Nat) (x1 : Int32) (x2 : Int32) (h : Hp) : Option (Int32 × Hp) :=
  (isO h 6 x0).bind fun _ =>
  (J_Desk_isThere N x0 x1 h).bind fun q1 =>
 if q1.1 = 0 then
  (some ((0 : Int32), q1.2))
  else
  ((isO q1.2 6 x0).bind fun _ =>
  (J_Desk_isSource N x0 x2 q1.2).bind fun q2 =>
 if q2.1 = 0 then
  (some ((0 : Int32), q2.2))
  else
  ((fR q2.2 6 x0 1).bind fun v3 =>
  (aR q2.2 3 v3 x1).bind fun v4 =>
  (isO q2.2 5 v4).bind fun _ =>
  (J_Step_addOutput N v4 x2 q2.2).bind fun q5 =>
 if q5.1 = 0 then
  (some ((0 : Int32), q5.2))
  else
  ((fR q5.2 6 x0 0).bind fun v6 =>
  (isO q5.2 1 v6).bind fun _ =>
  (J_File_setMaker N v6 x2 x1 q5.2).bind fun q7 =>
 some ((1 : Int32), q7.2))))
set_option maxHeartbeats 4000000 in
set_option maxRecDepth 100000 in
theorem c_Desk_output {l : Launch} {D : va_G} {tys : List (ClassId × FieldType)} {A : Nat → Prop} (hT : tys.map (fun q => q.2) = tyS) {N : Nat} {x0 : Nat} {x1 : Int32} {x2 : Int32} {h : Hp} {res : (Int32 × Hp)} (hJ : J_Desk_output N x0 x1 x2 h = some res) : Ct l D vwCl tys A yX6_output (Cond.code yX6_output cX6_output 3 (some .boolean) :: wsG) rmX6_output [.ref x0, .int x1, .int x2] h (some (.int res.1)) res.2 := by
  refine Met.ofW (cc := cX6_output) (maxL := 3) (ret := (some .boolean)) (by decide) rfl ?_
  intro p e s m args below meth c s₁ B hml hv
  obtain ⟨rfl, hA, hR, hK, hN⟩ := hv
  have hr := B.returns
  have hts : ∀ w ∈ wsG, w.before [.ref x0, .int x1, .int x2].toArray s = true := fun w hw => atoms_spec (ws := Cond.code yX6_output cX6_output 3 (some .boolean) :: wsG) B.pre w (List.mem_cons_of_mem _ hw)
  have X : Cx p s m [.ref x0, .int x1, .int x2].toArray meth c D vwCl tys cX6_output 3 RX6 wsG := ⟨⟨B.exec, B.bytes, hml, findClass_of_methodNamed B.named, hts⟩, hK, B.notSynchronized, hT⟩
  have hx := B.exec
  have hb := B.bytes
  have I : In D vwCl tys A s h s.heap [] := ⟨hR, va_S.rf, hA⟩
  have hl := lv_entry [.ref x0, .int x1, .int x2] (n := 3) (Nat.le_of_ble_eq_true rfl)
  rw [lg_entry_eq]
  generalize (lg_sl [.ref x0, .int x1, .int x2] ++ List.replicate (3 - (lg_sl [.ref x0, .int x1, .int x2]).length) Slot.unset).toArray = ls at hl ⊢
  have hl : lv_has ls 3 [(0, .ref x0), (1, .int x1), (2, .int x2)] := hl
  have ho := X.1.2.2.2.1
  rw [J_Desk_output] at hJ
  refine lv_aload_n hx hb dX6_output_0 rfl (lv_at hl 0 rfl) ?_
  refine lv_iload_n hx hb dX6_output_1 rfl (lv_at hl 1 rfl) ?_
  obtain ⟨u9, i9, hJ⟩ := rp_b hJ
  obtain ⟨f9, i9⟩ := isO_s i9
  obtain ⟨q1, e9, hJ⟩ := rp_b hJ
  refine rp_callV (As := [.int x1]) (rest := []) X hN I (c_Desk_isThere hT e9) (cwV 1 hts (gdV wm_187 wm_188 wm_0 wm_33 wm_189) rfl rfl rfl (by decide +kernel) ⟨Nat.le_of_ble_eq_true rfl, Nat.le_of_ble_eq_true rfl⟩) i9 rfl rfl hl.1 rfl (Nat.le_of_ble_eq_true rfl) dX6_output_2 ⟨(Nat.le_of_ble_eq_true rfl), (Nat.le_of_ble_eq_true rfl)⟩ (fun H locs I => ?_)
  refine W.cs (cells' := 0) (slots' := 0) rfl rfl ?_
  refine lv_if_eq (tgt := 29) hx hb dX6_output_5 (by decide) (fun c9 => ?_) (fun c9 => ?_)
  · rw [if_pos c9] at hJ
    refine lv_iconst (v := 0) hx hb dX6_output_29 (by decide) ?_
    exact rp_zret X hr (Or.inl rfl) hJ I dX6_output_30
  · rw [if_neg c9] at hJ
    refine lv_aload_n hx hb dX6_output_8 rfl (lv_at hl 0 rfl) ?_
    refine lv_iload_n hx hb dX6_output_9 rfl (lv_at hl 2 rfl) ?_
    obtain ⟨u9, i9, hJ⟩ := rp_b hJ
    obtain ⟨f9, i9⟩ := isO_s i9
    obtain ⟨q2, e9, hJ⟩ := rp_b hJ
    refine rp_callV (As := [.int x2]) (rest := []) X hN I (c_Desk_isSource hT e9) (cwV 1 hts (gdV wm_201 wm_202 wm_1 wm_33 wm_203) rfl rfl rfl (by decide +kernel) ⟨Nat.le_of_ble_eq_true rfl, Nat.le_of_ble_eq_true rfl⟩) i9 rfl rfl hl.1 rfl (Nat.le_of_ble_eq_true rfl) dX6_output_10 ⟨(Nat.le_of_ble_eq_true rfl), (Nat.le_of_ble_eq_true rfl)⟩ (fun H locs I => ?_)
    refine W.cs (cells' := 0) (slots' := 0) rfl rfl ?_
    refine lv_if_eq (tgt := 29) hx hb dX6_output_13 (by decide) (fun c9 => ?_) (fun c9 => ?_)
    · rw [if_pos c9] at hJ
      refine lv_iconst (v := 0) hx hb dX6_output_29 (by decide) ?_
      exact rp_zret X hr (Or.inl rfl) hJ I dX6_output_30
    · rw [if_neg c9] at hJ
      refine lv_aload_n hx hb dX6_output_16 rfl (lv_at hl 0 rfl) ?_
      obtain ⟨v3, e9, hJ⟩ := rp_b hJ
      obtain ⟨f9, g9, e9⟩ := fR_s e9
      refine rp_get X I g9 e9 rfl wiX6 (by decide) wm_161 dX6_output_17 ?_
      refine lv_iload_n hx hb dX6_output_20 rfl (lv_at hl 1 rfl) ?_
      obtain ⟨v4, e9, hJ⟩ := rp_b hJ
      refine rp_aald X I e9 rfl dX6_output_21 ?_
      refine lv_iload_n hx hb dX6_output_22 rfl (lv_at hl 2 rfl) ?_
      obtain ⟨u9, i9, hJ⟩ := rp_b hJ
      obtain ⟨f9, i9⟩ := isO_s i9
      obtain ⟨q5, e9, hJ⟩ := rp_b hJ
      refine rp_callV (As := [.int x2]) (rest := []) X hN I (c_Step_addOutput hT e9) (cwV 1 hts (gdV wm_208 wm_209 wm_210 wm_35 wm_211) rfl rfl rfl (by decide +kernel) ⟨Nat.le_of_ble_eq_true rfl, Nat.le_of_ble_eq_true rfl⟩) i9 rfl rfl hl.1 rfl (Nat.le_of_ble_eq_true rfl) dX6_output_23 ⟨(Nat.le_of_ble_eq_true rfl), (Nat.le_of_ble_eq_true rfl)⟩ (fun H locs I => ?_)
      refine W.cs (cells' := 0) (slots' := 0) rfl rfl ?_
      refine lv_if_ne (tgt := 31) hx hb dX6_output_26 (by decide) (fun c9 => ?_) (fun c9 => ?_)
      · rw [if_neg c9] at hJ
        refine lv_aload_n hx hb dX6_output_31 rfl (lv_at hl 0 rfl) ?_
        obtain ⟨v6, e9, hJ⟩ := rp_b hJ
        obtain ⟨f9, g9, e9⟩ := fR_s e9
        refine rp_get X I g9 e9 rfl wiX6 (by decide) wm_160 dX6_output_32 ?_
        refine lv_iload_n hx hb dX6_output_35 rfl (lv_at hl 2 rfl) ?_
        refine lv_iload_n hx hb dX6_output_36 rfl (lv_at hl 1 rfl) ?_
        obtain ⟨u9, i9, hJ⟩ := rp_b hJ
        obtain ⟨f9, i9⟩ := isO_s i9
        obtain ⟨q7, e9, hJ⟩ := rp_b hJ
        refine rp_callV (As := [.int x2, .int x1]) (rest := []) X hN I (c_File_setMaker hT e9) (cwV 2 hts (gdV wm_212 wm_213 wm_214 wm_34 wm_215) rfl rfl rfl (by decide +kernel) ⟨Nat.le_of_ble_eq_true rfl, Nat.le_of_ble_eq_true rfl⟩) i9 rfl rfl hl.1 rfl (Nat.le_of_ble_eq_true rfl) dX6_output_37 ⟨(Nat.le_of_ble_eq_true rfl), (Nat.le_of_ble_eq_true rfl)⟩ (fun H locs I => ?_)
        refine W.cs (cells' := 0) (slots' := 0) rfl rfl ?_
        refine lv_iconst (v := 1) hx hb dX6_output_40 (by decide) ?_
        exact rp_zret X hr (Or.inr rfl) hJ I dX6_output_41
      · rw [if_pos c9] at hJ
        refine lv_iconst (v := 0) hx hb dX6_output_29 (by decide) ?_
        exact rp_zret X hr (Or.inl rfl) hJ I dX6_output_30
def rmX6_drop : Room := { frames := 2, cells := 0, slots := 0, locals := 44 }
def J_Desk_drop (N : Nat) (x0 : Nat) (x1 : Int32) (h : Hp) : Option (Int32 × Hp) :=
  (isO h 6 x0).bind fun _ =>
  (J_Desk_isThere N x0 x1 h).bind fun q1 =>
 if q1.1 = 0 then
  (some ((0 : Int32), q1.2))
  else
  ((fR q1.2 6 x0 1).bind fun v2 =>
  (aR q1.2 3 v2 x1).bind fun v3 =>
  (fR q1.2 6 x0 0).bind fun v4 =>
  (isO q1.2 5 v3).bind fun _ =>
  (J_Step_leave N v3 v4 q1.2).bind fun q5 =>
 some ((1 : Int32), q5.2))
set_option maxHeartbeats 4000000 in
set_option maxRecDepth 100000 in
theorem c_Desk_drop {l : Launch} {D : va_G} {tys : List (ClassId × FieldType)} {A : Nat → Prop} (hT : tys.map (fun q => q.2) = tyS) {N : Nat} {x0 : Nat} {x1 : Int32} {h : Hp} {res : (Int32 × Hp)} (hJ : J_Desk_drop N x0 x1 h = some res) : Ct l D vwCl tys A yX6_drop (Cond.code yX6_drop cX6_drop 2 (some .boolean) :: wsG) rmX6_drop [.ref x0, .int x1] h (some (.int res.1)) res.2 := by
  refine Met.ofW (cc := cX6_drop) (maxL := 2) (ret := (some .boolean)) (by decide) rfl ?_
  intro p e s m args below meth c s₁ B hml hv
  obtain ⟨rfl, hA, hR, hK, hN⟩ := hv
  have hr := B.returns
  have hts : ∀ w ∈ wsG, w.before [.ref x0, .int x1].toArray s = true := fun w hw => atoms_spec (ws := Cond.code yX6_drop cX6_drop 2 (some .boolean) :: wsG) B.pre w (List.mem_cons_of_mem _ hw)
  have X : Cx p s m [.ref x0, .int x1].toArray meth c D vwCl tys cX6_drop 2 RX6 wsG := ⟨⟨B.exec, B.bytes, hml, findClass_of_methodNamed B.named, hts⟩, hK, B.notSynchronized, hT⟩
  have hx := B.exec
  have hb := B.bytes
  have I : In D vwCl tys A s h s.heap [] := ⟨hR, va_S.rf, hA⟩
  have hl := lv_entry [.ref x0, .int x1] (n := 2) (Nat.le_of_ble_eq_true rfl)
  rw [lg_entry_eq]
  generalize (lg_sl [.ref x0, .int x1] ++ List.replicate (2 - (lg_sl [.ref x0, .int x1]).length) Slot.unset).toArray = ls at hl ⊢
  have hl : lv_has ls 2 [(0, .ref x0), (1, .int x1)] := hl
  have ho := X.1.2.2.2.1
  rw [J_Desk_drop] at hJ
  refine lv_aload_n hx hb dX6_drop_0 rfl (lv_at hl 0 rfl) ?_
  refine lv_iload_n hx hb dX6_drop_1 rfl (lv_at hl 1 rfl) ?_
  obtain ⟨u9, i9, hJ⟩ := rp_b hJ
  obtain ⟨f9, i9⟩ := isO_s i9
  obtain ⟨q1, e9, hJ⟩ := rp_b hJ
  refine rp_callV (As := [.int x1]) (rest := []) X hN I (c_Desk_isThere hT e9) (cwV 1 hts (gdV wm_187 wm_188 wm_0 wm_33 wm_189) rfl rfl rfl (by decide +kernel) ⟨Nat.le_of_ble_eq_true rfl, Nat.le_of_ble_eq_true rfl⟩) i9 rfl rfl hl.1 rfl (Nat.le_of_ble_eq_true rfl) dX6_drop_2 ⟨(Nat.le_of_ble_eq_true rfl), (Nat.le_of_ble_eq_true rfl)⟩ (fun H locs I => ?_)
  refine W.cs (cells' := 0) (slots' := 0) rfl rfl ?_
  refine lv_if_ne (tgt := 10) hx hb dX6_drop_5 (by decide) (fun c9 => ?_) (fun c9 => ?_)
  · rw [if_neg c9] at hJ
    refine lv_aload_n hx hb dX6_drop_10 rfl (lv_at hl 0 rfl) ?_
    obtain ⟨v2, e9, hJ⟩ := rp_b hJ
    obtain ⟨f9, g9, e9⟩ := fR_s e9
    refine rp_get X I g9 e9 rfl wiX6 (by decide) wm_161 dX6_drop_11 ?_
    refine lv_iload_n hx hb dX6_drop_14 rfl (lv_at hl 1 rfl) ?_
    obtain ⟨v3, e9, hJ⟩ := rp_b hJ
    refine rp_aald X I e9 rfl dX6_drop_15 ?_
    refine lv_aload_n hx hb dX6_drop_16 rfl (lv_at hl 0 rfl) ?_
    obtain ⟨v4, e9, hJ⟩ := rp_b hJ
    obtain ⟨f9, g9, e9⟩ := fR_s e9
    refine rp_get X I g9 e9 rfl wiX6 (by decide) wm_160 dX6_drop_17 ?_
    obtain ⟨u9, i9, hJ⟩ := rp_b hJ
    obtain ⟨f9, i9⟩ := isO_s i9
    obtain ⟨q5, e9, hJ⟩ := rp_b hJ
    refine rp_callV (As := [.ref v4]) (rest := []) X hN I (c_Step_leave hT e9) (cwV 1 hts (gdV wm_220 wm_221 wm_222 wm_35 wm_223) rfl rfl rfl (by decide +kernel) ⟨Nat.le_of_ble_eq_true rfl, Nat.le_of_ble_eq_true rfl⟩) i9 rfl rfl hl.1 rfl (Nat.le_of_ble_eq_true rfl) dX6_drop_20 ⟨(Nat.le_of_ble_eq_true rfl), (Nat.le_of_ble_eq_true rfl)⟩ (fun H locs I => ?_)
    refine W.cs (cells' := 0) (slots' := 0) rfl rfl ?_
    refine lv_iconst (v := 1) hx hb dX6_drop_23 (by decide) ?_
    exact rp_zret X hr (Or.inr rfl) hJ I dX6_drop_24
  · rw [if_pos c9] at hJ
    refine lv_iconst (v := 0) hx hb dX6_drop_8 (by decide) ?_
    exact rp_zret X hr (Or.inl rfl) hJ I dX6_drop_9
def rmX6_source : Room := { frames := 2, cells := 0, slots := 0, locals := 42 }
def J_Desk_source (N : Nat) (x0 : Nat) (x1 : Int32) (x2 : Int32) (h : Hp) : Option (Int32 × Hp) :=
  (isO h 6 x0).bind fun _ =>
  (J_Desk_isSource N x0 x1 h).bind fun q1 =>
 if q1.1 = 0 then
  (some ((0 : Int32), q1.2))
  else
  ((fR q1.2 6 x0 0).bind fun v2 =>
  (isO q1.2 1 v2).bind fun _ =>
  (J_File_fill N v2 x1 x2 q1.2).bind fun q3 =>
 some ((1 : Int32), q3.2))
set_option maxHeartbeats 4000000 in
set_option maxRecDepth 100000 in
theorem c_Desk_source {l : Launch} {D : va_G} {tys : List (ClassId × FieldType)} {A : Nat → Prop} (hT : tys.map (fun q => q.2) = tyS) {N : Nat} {x0 : Nat} {x1 : Int32} {x2 : Int32} {h : Hp} {res : (Int32 × Hp)} (hJ : J_Desk_source N x0 x1 x2 h = some res) : Ct l D vwCl tys A yX6_source (Cond.code yX6_source cX6_source 3 (some .boolean) :: wsG) rmX6_source [.ref x0, .int x1, .int x2] h (some (.int res.1)) res.2 := by
  refine Met.ofW (cc := cX6_source) (maxL := 3) (ret := (some .boolean)) (by decide) rfl ?_
  intro p e s m args below meth c s₁ B hml hv
  obtain ⟨rfl, hA, hR, hK, hN⟩ := hv
  have hr := B.returns
  have hts : ∀ w ∈ wsG, w.before [.ref x0, .int x1, .int x2].toArray s = true := fun w hw => atoms_spec (ws := Cond.code yX6_source cX6_source 3 (some .boolean) :: wsG) B.pre w (List.mem_cons_of_mem _ hw)
  have X : Cx p s m [.ref x0, .int x1, .int x2].toArray meth c D vwCl tys cX6_source 3 RX6 wsG := ⟨⟨B.exec, B.bytes, hml, findClass_of_methodNamed B.named, hts⟩, hK, B.notSynchronized, hT⟩
  have hx := B.exec
  have hb := B.bytes
  have I : In D vwCl tys A s h s.heap [] := ⟨hR, va_S.rf, hA⟩
  have hl := lv_entry [.ref x0, .int x1, .int x2] (n := 3) (Nat.le_of_ble_eq_true rfl)
  rw [lg_entry_eq]
  generalize (lg_sl [.ref x0, .int x1, .int x2] ++ List.replicate (3 - (lg_sl [.ref x0, .int x1, .int x2]).length) Slot.unset).toArray = ls at hl ⊢
  have hl : lv_has ls 3 [(0, .ref x0), (1, .int x1), (2, .int x2)] := hl
  have ho := X.1.2.2.2.1
  rw [J_Desk_source] at hJ
  refine lv_aload_n hx hb dX6_source_0 rfl (lv_at hl 0 rfl) ?_
  refine lv_iload_n hx hb dX6_source_1 rfl (lv_at hl 1 rfl) ?_
  obtain ⟨u9, i9, hJ⟩ := rp_b hJ
  obtain ⟨f9, i9⟩ := isO_s i9
  obtain ⟨q1, e9, hJ⟩ := rp_b hJ
  refine rp_callV (As := [.int x1]) (rest := []) X hN I (c_Desk_isSource hT e9) (cwV 1 hts (gdV wm_201 wm_202 wm_1 wm_33 wm_203) rfl rfl rfl (by decide +kernel) ⟨Nat.le_of_ble_eq_true rfl, Nat.le_of_ble_eq_true rfl⟩) i9 rfl rfl hl.1 rfl (Nat.le_of_ble_eq_true rfl) dX6_source_2 ⟨(Nat.le_of_ble_eq_true rfl), (Nat.le_of_ble_eq_true rfl)⟩ (fun H locs I => ?_)
  refine W.cs (cells' := 0) (slots' := 0) rfl rfl ?_
  refine lv_if_ne (tgt := 10) hx hb dX6_source_5 (by decide) (fun c9 => ?_) (fun c9 => ?_)
  · rw [if_neg c9] at hJ
    refine lv_aload_n hx hb dX6_source_10 rfl (lv_at hl 0 rfl) ?_
    obtain ⟨v2, e9, hJ⟩ := rp_b hJ
    obtain ⟨f9, g9, e9⟩ := fR_s e9
    refine rp_get X I g9 e9 rfl wiX6 (by decide) wm_160 dX6_source_11 ?_
    refine lv_iload_n hx hb dX6_source_14 rfl (lv_at hl 1 rfl) ?_
    refine lv_iload_n hx hb dX6_source_15 rfl (lv_at hl 2 rfl) ?_
    obtain ⟨u9, i9, hJ⟩ := rp_b hJ
    obtain ⟨f9, i9⟩ := isO_s i9
    obtain ⟨q3, e9, hJ⟩ := rp_b hJ
    refine rp_callV (As := [.int x1, .int x2]) (rest := []) X hN I (c_File_fill hT e9) (cwV 2 hts (gdV wm_229 wm_230 wm_231 wm_34 wm_232) rfl rfl rfl (by decide +kernel) ⟨Nat.le_of_ble_eq_true rfl, Nat.le_of_ble_eq_true rfl⟩) i9 rfl rfl hl.1 rfl (Nat.le_of_ble_eq_true rfl) dX6_source_16 ⟨(Nat.le_of_ble_eq_true rfl), (Nat.le_of_ble_eq_true rfl)⟩ (fun H locs I => ?_)
    refine W.cs (cells' := 0) (slots' := 0) rfl rfl ?_
    refine lv_iconst (v := 1) hx hb dX6_source_19 (by decide) ?_
    exact rp_zret X hr (Or.inr rfl) hJ I dX6_source_20
  · rw [if_pos c9] at hJ
    refine lv_iconst (v := 0) hx hb dX6_source_8 (by decide) ?_
    exact rp_zret X hr (Or.inl rfl) hJ I dX6_source_9
def rmX6_spoil : Room := { frames := 1, cells := 0, slots := 0, locals := 22 }
def J_Desk_spoil_22 (N : Nat)    (h : Hp) : Option (Int32 × Hp) :=
  some ((0 : Int32), h)
def J_Desk_spoil (N : Nat) (x0 : Nat) (x1 : Int32) (h : Hp) : Option (Int32 × Hp) :=
  (J_Desk_isFile N x1 h).bind fun q1 =>
 if q1.1 = 0 then
  (J_Desk_spoil_22 N q1.2)
  else
  ((fR q1.2 6 x0 0).bind fun v2 =>
  (isO q1.2 1 v2).bind fun _ =>
  (J_File_empty N v2 x1 q1.2).bind fun q3 =>
 if q3.1 = 0 then
  (J_Desk_spoil_22 N q3.2)
  else
  (some ((1 : Int32), q3.2)))
set_option maxHeartbeats 4000000 in
set_option maxRecDepth 100000 in
theorem w_Desk_spoil_22 (X : Cx p s m args meth c D vwCl tys cX6_spoil 2 RX6 wsG) (hN : nwS s) (hr : meth.sig.returnType = (some .boolean)) {res : (Int32 × Hp)} {N : Nat}   : ∀   (h : Hp) (H : Heap) (locs : List Loc) (ls : Array Slot), J_Desk_spoil_22 N h = some res → In D vwCl tys A s h H locs → lv_has ls 2 [] → W p l e rmX6_spoil s m args below meth c H locs 0 0 (MQ below (Qr D vwCl tys A (some (.int res.1)) res.2) args s 0 0 A) (F0 m 22 ls []) := by
  have hx := X.1.1
  have hb := X.1.2.1
  have hml := X.1.2.2.1
  have ho := X.1.2.2.2.1
  have hts := X.1.2.2.2.2
  have hK := X.2.1
  have hT := X.2.2.2
  intro   h H locs ls hJ I hl
  rw [J_Desk_spoil_22] at hJ
  refine lv_iconst (v := 0) hx hb dX6_spoil_22 (by decide) ?_
  exact rp_zret X hr (Or.inl rfl) hJ I dX6_spoil_23
set_option maxHeartbeats 4000000 in
set_option maxRecDepth 100000 in
theorem c_Desk_spoil {l : Launch} {D : va_G} {tys : List (ClassId × FieldType)} {A : Nat → Prop} (hT : tys.map (fun q => q.2) = tyS) {N : Nat} {x0 : Nat} {x1 : Int32} {h : Hp} {res : (Int32 × Hp)} (hJ : J_Desk_spoil N x0 x1 h = some res) : Ct l D vwCl tys A yX6_spoil (Cond.code yX6_spoil cX6_spoil 2 (some .boolean) :: wsG) rmX6_spoil [.ref x0, .int x1] h (some (.int res.1)) res.2 := by
  refine Met.ofW (cc := cX6_spoil) (maxL := 2) (ret := (some .boolean)) (by decide) rfl ?_
  intro p e s m args below meth c s₁ B hml hv
  obtain ⟨rfl, hA, hR, hK, hN⟩ := hv
  have hr := B.returns
  have hts : ∀ w ∈ wsG, w.before [.ref x0, .int x1].toArray s = true := fun w hw => atoms_spec (ws := Cond.code yX6_spoil cX6_spoil 2 (some .boolean) :: wsG) B.pre w (List.mem_cons_of_mem _ hw)
  have X : Cx p s m [.ref x0, .int x1].toArray meth c D vwCl tys cX6_spoil 2 RX6 wsG := ⟨⟨B.exec, B.bytes, hml, findClass_of_methodNamed B.named, hts⟩, hK, B.notSynchronized, hT⟩
  have hx := B.exec
  have hb := B.bytes
  have I : In D vwCl tys A s h s.heap [] := ⟨hR, va_S.rf, hA⟩
  have hl := lv_entry [.ref x0, .int x1] (n := 2) (Nat.le_of_ble_eq_true rfl)
  rw [lg_entry_eq]
  generalize (lg_sl [.ref x0, .int x1] ++ List.replicate (2 - (lg_sl [.ref x0, .int x1]).length) Slot.unset).toArray = ls at hl ⊢
  have hl : lv_has ls 2 [(0, .ref x0), (1, .int x1)] := hl
  have ho := X.1.2.2.2.1
  rw [J_Desk_spoil] at hJ
  refine lv_iload_n hx hb dX6_spoil_0 rfl (lv_at hl 1 rfl) ?_
  obtain ⟨q1, e9, hJ⟩ := rp_b hJ
  refine rp_callS (As := [.int x1]) (rest := []) X hN I (c_Desk_isFile hT e9) (cwS 1 hts (gdS wm_190 wm_191 wm_33 wm_192) rfl rfl rfl (by decide +kernel) ⟨Nat.le_of_ble_eq_true rfl, Nat.le_of_ble_eq_true rfl⟩) rfl hl.1 rfl (Nat.le_of_ble_eq_true rfl) dX6_spoil_1 ⟨(Nat.le_of_ble_eq_true rfl), (Nat.le_of_ble_eq_true rfl)⟩ (fun H locs I => ?_)
  refine W.cs (cells' := 0) (slots' := 0) rfl rfl ?_
  refine lv_if_eq (tgt := 22) hx hb dX6_spoil_4 (by decide) (fun c9 => ?_) (fun c9 => ?_)
  · rw [if_pos c9] at hJ
    exact w_Desk_spoil_22 X hN hr _ _ _ _ hJ I (lv_sub hl [] rfl)
  · rw [if_neg c9] at hJ
    refine lv_aload_n hx hb dX6_spoil_7 rfl (lv_at hl 0 rfl) ?_
    obtain ⟨v2, e9, hJ⟩ := rp_b hJ
    obtain ⟨f9, g9, e9⟩ := fR_s e9
    refine rp_get X I g9 e9 rfl wiX6 (by decide) wm_160 dX6_spoil_8 ?_
    refine lv_iload_n hx hb dX6_spoil_11 rfl (lv_at hl 1 rfl) ?_
    obtain ⟨u9, i9, hJ⟩ := rp_b hJ
    obtain ⟨f9, i9⟩ := isO_s i9
    obtain ⟨q3, e9, hJ⟩ := rp_b hJ
    refine rp_callV (As := [.int x1]) (rest := []) X hN I (c_File_empty hT e9) (cwV 1 hts (gdV wm_237 wm_238 wm_239 wm_34 wm_240) rfl rfl rfl (by decide +kernel) ⟨Nat.le_of_ble_eq_true rfl, Nat.le_of_ble_eq_true rfl⟩) i9 rfl rfl hl.1 rfl (Nat.le_of_ble_eq_true rfl) dX6_spoil_12 ⟨(Nat.le_of_ble_eq_true rfl), (Nat.le_of_ble_eq_true rfl)⟩ (fun H locs I => ?_)
    refine W.cs (cells' := 0) (slots' := 0) rfl rfl ?_
    refine lv_if_eq (tgt := 22) hx hb dX6_spoil_15 (by decide) (fun c9 => ?_) (fun c9 => ?_)
    · rw [if_pos c9] at hJ
      exact w_Desk_spoil_22 X hN hr _ _ _ _ hJ I (lv_sub hl [] rfl)
    · rw [if_neg c9] at hJ
      refine lv_iconst (v := 1) hx hb dX6_spoil_18 (by decide) ?_
      refine lv_goto (tgt := 23) hx hb dX6_spoil_19 (by decide) ?_
      exact rp_zret X hr (Or.inr rfl) hJ I dX6_spoil_23
def rmX6_sourceLacks : Room := { frames := 2, cells := 0, slots := 0, locals := 43 }
def J_Desk_sourceLacks_15 (N : Nat)  : Nat → Nat → Int32 → Hp → Option (Int32 × Hp)
  | 0, _, _, _ => none
  | n + 1, x0, x2, h =>
  if (40 : Int32) ≤ x2 then
  (some ((0 : Int32), h))
  else
  ((fR h 6 x0 2).bind fun v3 =>
  (fJ h 2 v3 4).bind fun v4 =>
  (J_Desk_isIn N v4 x2 h).bind fun q5 =>
 if q5.1 = 0 then
  ((J_Desk_sourceLacks_15 N n) x0 (x2 + (1 : Int32)) q5.2)
  else
  ((fR q5.2 6 x0 1).bind fun v6 =>
  (aR q5.2 3 v6 x2).bind fun v7 =>
  (fR q5.2 6 x0 0).bind fun v8 =>
  (isO q5.2 5 v7).bind fun _ =>
  (J_Step_lacksSource N v7 v8 q5.2).bind fun q9 =>
 if q9.1 = 0 then
  ((J_Desk_sourceLacks_15 N n) x0 (x2 + (1 : Int32)) q9.2)
  else
  (some ((1 : Int32), q9.2))))
def J_Desk_sourceLacks (N : Nat) (x0 : Nat) (x1 : Int32) (h : Hp) : Option (Int32 × Hp) :=
  (fR h 6 x0 0).bind fun v1 =>
  (isO h 1 v1).bind fun _ =>
  (J_File_lacksSource N v1 x1 h).bind fun q2 =>
 if q2.1 = 0 then
  (J_Desk_sourceLacks_15 N N x0 (0 : Int32) q2.2)
  else
  (some ((1 : Int32), q2.2))
set_option maxHeartbeats 4000000 in
set_option maxRecDepth 100000 in
theorem w_Desk_sourceLacks_15 (X : Cx p s m args meth c D vwCl tys cX6_sourceLacks 3 RX6 wsG) (hN : nwS s) (hr : meth.sig.returnType = (some .boolean)) {res : (Int32 × Hp)} {N : Nat}   : ∀ (n : Nat) (x0 : Nat) (x2 : Int32)  (h : Hp) (H : Heap) (locs : List Loc) (ls : Array Slot), J_Desk_sourceLacks_15 N n x0 x2 h = some res → In D vwCl tys A s h H locs → lv_has ls 3 [(0, .ref x0), (2, .int x2)] → W p l e rmX6_sourceLacks s m args below meth c H locs 0 0 (MQ below (Qr D vwCl tys A (some (.int res.1)) res.2) args s 0 0 A) (F0 m 15 ls []) := by
  have hx := X.1.1
  have hb := X.1.2.1
  have hml := X.1.2.2.1
  have ho := X.1.2.2.2.1
  have hts := X.1.2.2.2.2
  have hK := X.2.1
  have hT := X.2.2.2
  intro n
  induction n with
  | zero =>
    intro x0 x2  h H locs ls hJ I hl
    exact nomatch (show (none : Option (Int32 × Hp)) = some res from hJ)
  | succ n k15 =>
    intro x0 x2  h H locs ls hJ I hl
    rw [J_Desk_sourceLacks_15] at hJ
    refine lv_iload_n hx hb dX6_sourceLacks_15 rfl (lv_at hl 1 rfl) ?_
    refine lv_bipush (v := 40) hx hb dX6_sourceLacks_16 (by decide) ?_
    refine lv_icmp_ge (tgt := 59) hx hb dX6_sourceLacks_18 (by decide) (fun c9 => ?_) (fun c9 => ?_)
    · rw [if_pos c9] at hJ
      refine lv_iconst (v := 0) hx hb dX6_sourceLacks_59 (by decide) ?_
      exact rp_zret X hr (Or.inl rfl) hJ I dX6_sourceLacks_60
    · rw [if_neg c9] at hJ
      refine lv_aload_n hx hb dX6_sourceLacks_21 rfl (lv_at hl 0 rfl) ?_
      obtain ⟨v3, e9, hJ⟩ := rp_b hJ
      obtain ⟨f9, g9, e9⟩ := fR_s e9
      refine rp_get X I g9 e9 rfl wiX6 (by decide) wm_162 dX6_sourceLacks_22 ?_
      obtain ⟨v4, e9, hJ⟩ := rp_b hJ
      obtain ⟨f9, g9, e9⟩ := fJ_s e9
      refine rp_getN (host := "BuildDesk") X I g9 e9 rfl wiX2 (by decide) (hN.1 _ (by decide +kernel)) dX6_sourceLacks_25 ?_
      refine lv_iload_n hx hb dX6_sourceLacks_28 rfl (lv_at hl 1 rfl) ?_
      obtain ⟨q5, e9, hJ⟩ := rp_b hJ
      refine rp_callS (As := [.long v4, .int x2]) (rest := []) X hN I (c_Desk_isIn hT e9) (cwS 2 hts (gdS wm_386 wm_341 wm_33 wm_342) rfl rfl rfl (by decide +kernel) ⟨Nat.le_of_ble_eq_true rfl, Nat.le_of_ble_eq_true rfl⟩) rfl hl.1 rfl (Nat.le_of_ble_eq_true rfl) dX6_sourceLacks_29 ⟨(Nat.le_of_ble_eq_true rfl), (Nat.le_of_ble_eq_true rfl)⟩ (fun H locs I => ?_)
      refine W.cs (cells' := 0) (slots' := 0) rfl rfl ?_
      refine lv_if_eq (tgt := 53) hx hb dX6_sourceLacks_32 (by decide) (fun c9 => ?_) (fun c9 => ?_)
      · rw [if_pos c9] at hJ
        refine lv_iinc (v := (x2 + (1 : Int32))) (lv' := [(2, .int (x2 + (1 : Int32))), (0, .ref x0)]) hx hb dX6_sourceLacks_53 hl (k := 1) rfl rfl (by decide) rfl (fun ls hl => ?_)
        refine lv_goto (tgt := 15) hx hb dX6_sourceLacks_56 (by decide) ?_
        exact k15 _ _ _ _ _ _ hJ I (lv_sub hl [1, 0] rfl)
      · rw [if_neg c9] at hJ
        refine lv_aload_n hx hb dX6_sourceLacks_35 rfl (lv_at hl 0 rfl) ?_
        obtain ⟨v6, e9, hJ⟩ := rp_b hJ
        obtain ⟨f9, g9, e9⟩ := fR_s e9
        refine rp_get X I g9 e9 rfl wiX6 (by decide) wm_161 dX6_sourceLacks_36 ?_
        refine lv_iload_n hx hb dX6_sourceLacks_39 rfl (lv_at hl 1 rfl) ?_
        obtain ⟨v7, e9, hJ⟩ := rp_b hJ
        refine rp_aald X I e9 rfl dX6_sourceLacks_40 ?_
        refine lv_aload_n hx hb dX6_sourceLacks_41 rfl (lv_at hl 0 rfl) ?_
        obtain ⟨v8, e9, hJ⟩ := rp_b hJ
        obtain ⟨f9, g9, e9⟩ := fR_s e9
        refine rp_get X I g9 e9 rfl wiX6 (by decide) wm_160 dX6_sourceLacks_42 ?_
        obtain ⟨u9, i9, hJ⟩ := rp_b hJ
        obtain ⟨f9, i9⟩ := isO_s i9
        obtain ⟨q9, e9, hJ⟩ := rp_b hJ
        refine rp_callV (As := [.ref v8]) (rest := []) X hN I (c_Step_lacksSource hT e9) (cwV 1 hts (gdV wm_387 wm_388 wm_389 wm_35 wm_390) rfl rfl rfl (by decide +kernel) ⟨Nat.le_of_ble_eq_true rfl, Nat.le_of_ble_eq_true rfl⟩) i9 rfl rfl hl.1 rfl (Nat.le_of_ble_eq_true rfl) dX6_sourceLacks_45 ⟨(Nat.le_of_ble_eq_true rfl), (Nat.le_of_ble_eq_true rfl)⟩ (fun H locs I => ?_)
        refine W.cs (cells' := 0) (slots' := 0) rfl rfl ?_
        refine lv_if_eq (tgt := 53) hx hb dX6_sourceLacks_48 (by decide) (fun c9 => ?_) (fun c9 => ?_)
        · rw [if_pos c9] at hJ
          refine lv_iinc (v := (x2 + (1 : Int32))) (lv' := [(2, .int (x2 + (1 : Int32))), (0, .ref x0)]) hx hb dX6_sourceLacks_53 hl (k := 1) rfl rfl (by decide) rfl (fun ls hl => ?_)
          refine lv_goto (tgt := 15) hx hb dX6_sourceLacks_56 (by decide) ?_
          exact k15 _ _ _ _ _ _ hJ I (lv_sub hl [1, 0] rfl)
        · rw [if_neg c9] at hJ
          refine lv_iconst (v := 1) hx hb dX6_sourceLacks_51 (by decide) ?_
          exact rp_zret X hr (Or.inr rfl) hJ I dX6_sourceLacks_52
set_option maxHeartbeats 4000000 in
set_option maxRecDepth 100000 in
theorem c_Desk_sourceLacks {l : Launch} {D : va_G} {tys : List (ClassId × FieldType)} {A : Nat → Prop} (hT : tys.map (fun q => q.2) = tyS) {N : Nat} {x0 : Nat} {x1 : Int32} {h : Hp} {res : (Int32 × Hp)} (hJ : J_Desk_sourceLacks N x0 x1 h = some res) : Ct l D vwCl tys A yX6_sourceLacks (Cond.code yX6_sourceLacks cX6_sourceLacks 3 (some .boolean) :: wsG) rmX6_sourceLacks [.ref x0, .int x1] h (some (.int res.1)) res.2 := by
  refine Met.ofW (cc := cX6_sourceLacks) (maxL := 3) (ret := (some .boolean)) (by decide) rfl ?_
  intro p e s m args below meth c s₁ B hml hv
  obtain ⟨rfl, hA, hR, hK, hN⟩ := hv
  have hr := B.returns
  have hts : ∀ w ∈ wsG, w.before [.ref x0, .int x1].toArray s = true := fun w hw => atoms_spec (ws := Cond.code yX6_sourceLacks cX6_sourceLacks 3 (some .boolean) :: wsG) B.pre w (List.mem_cons_of_mem _ hw)
  have X : Cx p s m [.ref x0, .int x1].toArray meth c D vwCl tys cX6_sourceLacks 3 RX6 wsG := ⟨⟨B.exec, B.bytes, hml, findClass_of_methodNamed B.named, hts⟩, hK, B.notSynchronized, hT⟩
  have hx := B.exec
  have hb := B.bytes
  have I : In D vwCl tys A s h s.heap [] := ⟨hR, va_S.rf, hA⟩
  have hl := lv_entry [.ref x0, .int x1] (n := 3) (Nat.le_of_ble_eq_true rfl)
  rw [lg_entry_eq]
  generalize (lg_sl [.ref x0, .int x1] ++ List.replicate (3 - (lg_sl [.ref x0, .int x1]).length) Slot.unset).toArray = ls at hl ⊢
  have hl : lv_has ls 3 [(0, .ref x0), (1, .int x1)] := hl
  have ho := X.1.2.2.2.1
  rw [J_Desk_sourceLacks] at hJ
  refine lv_aload_n hx hb dX6_sourceLacks_0 rfl (lv_at hl 0 rfl) ?_
  obtain ⟨v1, e9, hJ⟩ := rp_b hJ
  obtain ⟨f9, g9, e9⟩ := fR_s e9
  refine rp_get X I g9 e9 rfl wiX6 (by decide) wm_160 dX6_sourceLacks_1 ?_
  refine lv_iload_n hx hb dX6_sourceLacks_4 rfl (lv_at hl 1 rfl) ?_
  obtain ⟨u9, i9, hJ⟩ := rp_b hJ
  obtain ⟨f9, i9⟩ := isO_s i9
  obtain ⟨q2, e9, hJ⟩ := rp_b hJ
  refine rp_callV (As := [.int x1]) (rest := []) X hN I (c_File_lacksSource hT e9) (cwV 1 hts (gdV wm_382 wm_383 wm_384 wm_34 wm_385) rfl rfl rfl (by decide +kernel) ⟨Nat.le_of_ble_eq_true rfl, Nat.le_of_ble_eq_true rfl⟩) i9 rfl rfl hl.1 rfl (Nat.le_of_ble_eq_true rfl) dX6_sourceLacks_5 ⟨(Nat.le_of_ble_eq_true rfl), (Nat.le_of_ble_eq_true rfl)⟩ (fun H locs I => ?_)
  refine W.cs (cells' := 0) (slots' := 0) rfl rfl ?_
  refine lv_if_eq (tgt := 13) hx hb dX6_sourceLacks_8 (by decide) (fun c9 => ?_) (fun c9 => ?_)
  · rw [if_pos c9] at hJ
    refine lv_iconst (v := 0) hx hb dX6_sourceLacks_13 (by decide) ?_
    refine lv_istore_n (lv' := [(2, .int (0 : Int32)), (0, .ref x0), (1, .int x1)]) hx hb dX6_sourceLacks_14 rfl hl (by decide) rfl (fun ls hl => ?_)
    exact w_Desk_sourceLacks_15 X hN hr N _ _ _ _ _ _ hJ I (lv_sub hl [1, 0] rfl)
  · rw [if_neg c9] at hJ
    refine lv_iconst (v := 1) hx hb dX6_sourceLacks_11 (by decide) ?_
    exact rp_zret X hr (Or.inr rfl) hJ I dX6_sourceLacks_12
def rmX6_endSteps : Room := { frames := 3, cells := 0, slots := 0, locals := 64 }
def J_Desk_endSteps_2 (N : Nat)  : Nat → Nat → Int32 → Int32 → Hp → Option (Unit × Hp)
  | 0, _, _, _, _ => none
  | n + 1, x0, x1, x2, h =>
  if (40 : Int32) ≤ x2 then
  (some ((), h))
  else
  ((fR h 6 x0 3).bind fun v1 =>
  (isO h 0 v1).bind fun _ =>
  (J_Crew_endsAt N v1 x2 x1 h).bind fun q2 =>
 if q2.1 = 0 then
  ((J_Desk_endSteps_2 N n) x0 x1 (x2 + (1 : Int32)) q2.2)
  else
  ((fR q2.2 6 x0 1).bind fun v3 =>
  (aR q2.2 3 v3 x2).bind fun v4 =>
  (fR q2.2 6 x0 0).bind fun v5 =>
  (isO q2.2 5 v4).bind fun _ =>
  (J_Step_make N v4 v5 q2.2).bind fun q6 =>
 (fR q6.2 6 x0 3).bind fun v7 =>
  (isO q6.2 0 v7).bind fun _ =>
  (J_Crew_end N v7 x2 q6.2).bind fun q8 =>
 (J_Desk_endSteps_2 N n) x0 x1 (x2 + (1 : Int32)) q8.2))
def J_Desk_endSteps (N : Nat) (x0 : Nat) (x1 : Int32) (h : Hp) : Option (Unit × Hp) :=
  J_Desk_endSteps_2 N N x0 x1 (0 : Int32) h
set_option maxHeartbeats 4000000 in
set_option maxRecDepth 100000 in
theorem w_Desk_endSteps_2 (X : Cx p s m args meth c D vwCl tys cX6_endSteps 3 RX6 wsG) (hN : nwS s) (hr : meth.sig.returnType = none) {res : (Unit × Hp)} {N : Nat}   : ∀ (n : Nat) (x0 : Nat) (x1 : Int32) (x2 : Int32)  (h : Hp) (H : Heap) (locs : List Loc) (ls : Array Slot), J_Desk_endSteps_2 N n x0 x1 x2 h = some res → In D vwCl tys A s h H locs → lv_has ls 3 [(0, .ref x0), (1, .int x1), (2, .int x2)] → W p l e rmX6_endSteps s m args below meth c H locs 0 0 (MQ below (Qr D vwCl tys A none res.2) args s 0 0 A) (F0 m 2 ls []) := by
  have hx := X.1.1
  have hb := X.1.2.1
  have hml := X.1.2.2.1
  have ho := X.1.2.2.2.1
  have hts := X.1.2.2.2.2
  have hK := X.2.1
  have hT := X.2.2.2
  intro n
  induction n with
  | zero =>
    intro x0 x1 x2  h H locs ls hJ I hl
    exact nomatch (show (none : Option (Unit × Hp)) = some res from hJ)
  | succ n k2 =>
    intro x0 x1 x2  h H locs ls hJ I hl
    rw [J_Desk_endSteps_2] at hJ
    refine lv_iload_n hx hb dX6_endSteps_2 rfl (lv_at hl 2 rfl) ?_
    refine lv_bipush (v := 40) hx hb dX6_endSteps_3 (by decide) ?_
    refine lv_icmp_ge (tgt := 47) hx hb dX6_endSteps_5 (by decide) (fun c9 => ?_) (fun c9 => ?_)
    · rw [if_pos c9] at hJ
      exact rp_vret X hr hJ I dX6_endSteps_47
    · rw [if_neg c9] at hJ
      refine lv_aload_n hx hb dX6_endSteps_8 rfl (lv_at hl 0 rfl) ?_
      obtain ⟨v1, e9, hJ⟩ := rp_b hJ
      obtain ⟨f9, g9, e9⟩ := fR_s e9
      refine rp_get X I g9 e9 rfl wiX6 (by decide) wm_163 dX6_endSteps_9 ?_
      refine lv_iload_n hx hb dX6_endSteps_12 rfl (lv_at hl 2 rfl) ?_
      refine lv_iload_n hx hb dX6_endSteps_13 rfl (lv_at hl 1 rfl) ?_
      obtain ⟨u9, i9, hJ⟩ := rp_b hJ
      obtain ⟨f9, i9⟩ := isO_s i9
      obtain ⟨q2, e9, hJ⟩ := rp_b hJ
      refine rp_callV (As := [.int x2, .int x1]) (rest := []) X hN I (c_Crew_endsAt hT e9) (cwV 2 hts (gdV wm_417 wm_418 wm_419 wm_37 wm_420) rfl rfl rfl (by decide +kernel) ⟨Nat.le_of_ble_eq_true rfl, Nat.le_of_ble_eq_true rfl⟩) i9 rfl rfl hl.1 rfl (Nat.le_of_ble_eq_true rfl) dX6_endSteps_14 ⟨(Nat.le_of_ble_eq_true rfl), (Nat.le_of_ble_eq_true rfl)⟩ (fun H locs I => ?_)
      refine W.cs (cells' := 0) (slots' := 0) rfl rfl ?_
      refine lv_if_eq (tgt := 41) hx hb dX6_endSteps_17 (by decide) (fun c9 => ?_) (fun c9 => ?_)
      · rw [if_pos c9] at hJ
        refine lv_iinc (v := (x2 + (1 : Int32))) (lv' := [(2, .int (x2 + (1 : Int32))), (0, .ref x0), (1, .int x1)]) hx hb dX6_endSteps_41 hl (k := 2) rfl rfl (by decide) rfl (fun ls hl => ?_)
        refine lv_goto (tgt := 2) hx hb dX6_endSteps_44 (by decide) ?_
        exact k2 _ _ _ _ _ _ _ hJ I (lv_sub hl [1, 2, 0] rfl)
      · rw [if_neg c9] at hJ
        refine lv_aload_n hx hb dX6_endSteps_20 rfl (lv_at hl 0 rfl) ?_
        obtain ⟨v3, e9, hJ⟩ := rp_b hJ
        obtain ⟨f9, g9, e9⟩ := fR_s e9
        refine rp_get X I g9 e9 rfl wiX6 (by decide) wm_161 dX6_endSteps_21 ?_
        refine lv_iload_n hx hb dX6_endSteps_24 rfl (lv_at hl 2 rfl) ?_
        obtain ⟨v4, e9, hJ⟩ := rp_b hJ
        refine rp_aald X I e9 rfl dX6_endSteps_25 ?_
        refine lv_aload_n hx hb dX6_endSteps_26 rfl (lv_at hl 0 rfl) ?_
        obtain ⟨v5, e9, hJ⟩ := rp_b hJ
        obtain ⟨f9, g9, e9⟩ := fR_s e9
        refine rp_get X I g9 e9 rfl wiX6 (by decide) wm_160 dX6_endSteps_27 ?_
        obtain ⟨u9, i9, hJ⟩ := rp_b hJ
        obtain ⟨f9, i9⟩ := isO_s i9
        obtain ⟨q6, e9, hJ⟩ := rp_b hJ
        refine rp_callV (As := [.ref v5]) (rest := []) X hN I (c_Step_make hT e9) (cwV 1 hts (gdV wm_421 wm_422 wm_423 wm_35 wm_424) rfl rfl rfl (by decide +kernel) ⟨Nat.le_of_ble_eq_true rfl, Nat.le_of_ble_eq_true rfl⟩) i9 rfl rfl hl.1 rfl (Nat.le_of_ble_eq_true rfl) dX6_endSteps_30 ⟨(Nat.le_of_ble_eq_true rfl), (Nat.le_of_ble_eq_true rfl)⟩ (fun H locs I => ?_)
        refine W.cs (cells' := 0) (slots' := 0) rfl rfl ?_
        refine lv_aload_n hx hb dX6_endSteps_33 rfl (lv_at hl 0 rfl) ?_
        obtain ⟨v7, e9, hJ⟩ := rp_b hJ
        obtain ⟨f9, g9, e9⟩ := fR_s e9
        refine rp_get X I g9 e9 rfl wiX6 (by decide) wm_163 dX6_endSteps_34 ?_
        refine lv_iload_n hx hb dX6_endSteps_37 rfl (lv_at hl 2 rfl) ?_
        obtain ⟨u9, i9, hJ⟩ := rp_b hJ
        obtain ⟨f9, i9⟩ := isO_s i9
        obtain ⟨q8, e9, hJ⟩ := rp_b hJ
        refine rp_callV (As := [.int x2]) (rest := []) X hN I (c_Crew_end hT e9) (cwV 1 hts (gdV wm_427 wm_428 wm_429 wm_37 wm_430) rfl rfl rfl (by decide +kernel) ⟨Nat.le_of_ble_eq_true rfl, Nat.le_of_ble_eq_true rfl⟩) i9 rfl rfl hl.1 rfl (Nat.le_of_ble_eq_true rfl) dX6_endSteps_38 ⟨(Nat.le_of_ble_eq_true rfl), (Nat.le_of_ble_eq_true rfl)⟩ (fun H locs I => ?_)
        refine W.cs (cells' := 0) (slots' := 0) rfl rfl ?_
        refine lv_iinc (v := (x2 + (1 : Int32))) (lv' := [(2, .int (x2 + (1 : Int32))), (0, .ref x0), (1, .int x1)]) hx hb dX6_endSteps_41 hl (k := 2) rfl rfl (by decide) rfl (fun ls hl => ?_)
        refine lv_goto (tgt := 2) hx hb dX6_endSteps_44 (by decide) ?_
        exact k2 _ _ _ _ _ _ _ hJ I (lv_sub hl [1, 2, 0] rfl)
set_option maxHeartbeats 4000000 in
set_option maxRecDepth 100000 in
theorem c_Desk_endSteps {l : Launch} {D : va_G} {tys : List (ClassId × FieldType)} {A : Nat → Prop} (hT : tys.map (fun q => q.2) = tyS) {N : Nat} {x0 : Nat} {x1 : Int32} {h : Hp} {res : (Unit × Hp)} (hJ : J_Desk_endSteps N x0 x1 h = some res) : Ct l D vwCl tys A yX6_endSteps (Cond.code yX6_endSteps cX6_endSteps 3 none :: wsG) rmX6_endSteps [.ref x0, .int x1] h none res.2 := by
  refine Met.ofW (cc := cX6_endSteps) (maxL := 3) (ret := none) (by decide) rfl ?_
  intro p e s m args below meth c s₁ B hml hv
  obtain ⟨rfl, hA, hR, hK, hN⟩ := hv
  have hr := B.returns
  have hts : ∀ w ∈ wsG, w.before [.ref x0, .int x1].toArray s = true := fun w hw => atoms_spec (ws := Cond.code yX6_endSteps cX6_endSteps 3 none :: wsG) B.pre w (List.mem_cons_of_mem _ hw)
  have X : Cx p s m [.ref x0, .int x1].toArray meth c D vwCl tys cX6_endSteps 3 RX6 wsG := ⟨⟨B.exec, B.bytes, hml, findClass_of_methodNamed B.named, hts⟩, hK, B.notSynchronized, hT⟩
  have hx := B.exec
  have hb := B.bytes
  have I : In D vwCl tys A s h s.heap [] := ⟨hR, va_S.rf, hA⟩
  have hl := lv_entry [.ref x0, .int x1] (n := 3) (Nat.le_of_ble_eq_true rfl)
  rw [lg_entry_eq]
  generalize (lg_sl [.ref x0, .int x1] ++ List.replicate (3 - (lg_sl [.ref x0, .int x1]).length) Slot.unset).toArray = ls at hl ⊢
  have hl : lv_has ls 3 [(0, .ref x0), (1, .int x1)] := hl
  have ho := X.1.2.2.2.1
  rw [J_Desk_endSteps] at hJ
  refine lv_iconst (v := 0) hx hb dX6_endSteps_0 (by decide) ?_
  refine lv_istore_n (lv' := [(2, .int (0 : Int32)), (0, .ref x0), (1, .int x1)]) hx hb dX6_endSteps_1 rfl hl (by decide) rfl (fun ls hl => ?_)
  exact w_Desk_endSteps_2 X hN hr N _ _ _ _ _ _ _ hJ I (lv_sub hl [1, 2, 0] rfl)
def rmX6_isReady : Room := { frames := 3, cells := 0, slots := 0, locals := 63 }
def J_Desk_isReady_48 (N : Nat)    (h : Hp) : Option (Int32 × Hp) :=
  some ((0 : Int32), h)
def J_Desk_isReady (N : Nat) (x0 : Nat) (x1 : Int32) (h : Hp) : Option (Int32 × Hp) :=
  (fR h 6 x0 2).bind fun v1 =>
  (fJ h 2 v1 4).bind fun v2 =>
  (J_Desk_isIn N v2 x1 h).bind fun q3 =>
 if q3.1 = 0 then
  (J_Desk_isReady_48 N q3.2)
  else
  ((fR q3.2 6 x0 3).bind fun v4 =>
  (isO q3.2 0 v4).bind fun _ =>
  (J_Crew_isOpen N v4 x1 q3.2).bind fun q5 =>
 if q5.1 = 0 then
  (J_Desk_isReady_48 N q5.2)
  else
  ((fR q5.2 6 x0 3).bind fun v6 =>
  (fR q5.2 6 x0 2).bind fun v7 =>
  (fR q5.2 2 v7 0).bind fun v8 =>
  (aJ q5.2 2 v8 x1).bind fun v9 =>
  (isO q5.2 0 v6).bind fun _ =>
  (J_Crew_areDone N v6 v9 q5.2).bind fun q10 =>
 if q10.1 = 0 then
  (J_Desk_isReady_48 N q10.2)
  else
  (some ((1 : Int32), q10.2))))
set_option maxHeartbeats 4000000 in
set_option maxRecDepth 100000 in
theorem w_Desk_isReady_48 (X : Cx p s m args meth c D vwCl tys cX6_isReady 2 RX6 wsG) (hN : nwS s) (hr : meth.sig.returnType = (some .boolean)) {res : (Int32 × Hp)} {N : Nat}   : ∀   (h : Hp) (H : Heap) (locs : List Loc) (ls : Array Slot), J_Desk_isReady_48 N h = some res → In D vwCl tys A s h H locs → lv_has ls 2 [] → W p l e rmX6_isReady s m args below meth c H locs 0 0 (MQ below (Qr D vwCl tys A (some (.int res.1)) res.2) args s 0 0 A) (F0 m 48 ls []) := by
  have hx := X.1.1
  have hb := X.1.2.1
  have hml := X.1.2.2.1
  have ho := X.1.2.2.2.1
  have hts := X.1.2.2.2.2
  have hK := X.2.1
  have hT := X.2.2.2
  intro   h H locs ls hJ I hl
  rw [J_Desk_isReady_48] at hJ
  refine lv_iconst (v := 0) hx hb dX6_isReady_48 (by decide) ?_
  exact rp_zret X hr (Or.inl rfl) hJ I dX6_isReady_49
set_option maxHeartbeats 4000000 in
set_option maxRecDepth 100000 in
theorem c_Desk_isReady {l : Launch} {D : va_G} {tys : List (ClassId × FieldType)} {A : Nat → Prop} (hT : tys.map (fun q => q.2) = tyS) {N : Nat} {x0 : Nat} {x1 : Int32} {h : Hp} {res : (Int32 × Hp)} (hJ : J_Desk_isReady N x0 x1 h = some res) : Ct l D vwCl tys A yX6_isReady (Cond.code yX6_isReady cX6_isReady 2 (some .boolean) :: wsG) rmX6_isReady [.ref x0, .int x1] h (some (.int res.1)) res.2 := by
  refine Met.ofW (cc := cX6_isReady) (maxL := 2) (ret := (some .boolean)) (by decide) rfl ?_
  intro p e s m args below meth c s₁ B hml hv
  obtain ⟨rfl, hA, hR, hK, hN⟩ := hv
  have hr := B.returns
  have hts : ∀ w ∈ wsG, w.before [.ref x0, .int x1].toArray s = true := fun w hw => atoms_spec (ws := Cond.code yX6_isReady cX6_isReady 2 (some .boolean) :: wsG) B.pre w (List.mem_cons_of_mem _ hw)
  have X : Cx p s m [.ref x0, .int x1].toArray meth c D vwCl tys cX6_isReady 2 RX6 wsG := ⟨⟨B.exec, B.bytes, hml, findClass_of_methodNamed B.named, hts⟩, hK, B.notSynchronized, hT⟩
  have hx := B.exec
  have hb := B.bytes
  have I : In D vwCl tys A s h s.heap [] := ⟨hR, va_S.rf, hA⟩
  have hl := lv_entry [.ref x0, .int x1] (n := 2) (Nat.le_of_ble_eq_true rfl)
  rw [lg_entry_eq]
  generalize (lg_sl [.ref x0, .int x1] ++ List.replicate (2 - (lg_sl [.ref x0, .int x1]).length) Slot.unset).toArray = ls at hl ⊢
  have hl : lv_has ls 2 [(0, .ref x0), (1, .int x1)] := hl
  have ho := X.1.2.2.2.1
  rw [J_Desk_isReady] at hJ
  refine lv_aload_n hx hb dX6_isReady_0 rfl (lv_at hl 0 rfl) ?_
  obtain ⟨v1, e9, hJ⟩ := rp_b hJ
  obtain ⟨f9, g9, e9⟩ := fR_s e9
  refine rp_get X I g9 e9 rfl wiX6 (by decide) wm_162 dX6_isReady_1 ?_
  obtain ⟨v2, e9, hJ⟩ := rp_b hJ
  obtain ⟨f9, g9, e9⟩ := fJ_s e9
  refine rp_getN (host := "BuildDesk") X I g9 e9 rfl wiX2 (by decide) (hN.1 _ (by decide +kernel)) dX6_isReady_4 ?_
  refine lv_iload_n hx hb dX6_isReady_7 rfl (lv_at hl 1 rfl) ?_
  obtain ⟨q3, e9, hJ⟩ := rp_b hJ
  refine rp_callS (As := [.long v2, .int x1]) (rest := []) X hN I (c_Desk_isIn hT e9) (cwS 2 hts (gdS wm_386 wm_341 wm_33 wm_342) rfl rfl rfl (by decide +kernel) ⟨Nat.le_of_ble_eq_true rfl, Nat.le_of_ble_eq_true rfl⟩) rfl hl.1 rfl (Nat.le_of_ble_eq_true rfl) dX6_isReady_8 ⟨(Nat.le_of_ble_eq_true rfl), (Nat.le_of_ble_eq_true rfl)⟩ (fun H locs I => ?_)
  refine W.cs (cells' := 0) (slots' := 0) rfl rfl ?_
  refine lv_if_eq (tgt := 48) hx hb dX6_isReady_11 (by decide) (fun c9 => ?_) (fun c9 => ?_)
  · rw [if_pos c9] at hJ
    exact w_Desk_isReady_48 X hN hr _ _ _ _ hJ I (lv_sub hl [] rfl)
  · rw [if_neg c9] at hJ
    refine lv_aload_n hx hb dX6_isReady_14 rfl (lv_at hl 0 rfl) ?_
    obtain ⟨v4, e9, hJ⟩ := rp_b hJ
    obtain ⟨f9, g9, e9⟩ := fR_s e9
    refine rp_get X I g9 e9 rfl wiX6 (by decide) wm_163 dX6_isReady_15 ?_
    refine lv_iload_n hx hb dX6_isReady_18 rfl (lv_at hl 1 rfl) ?_
    obtain ⟨u9, i9, hJ⟩ := rp_b hJ
    obtain ⟨f9, i9⟩ := isO_s i9
    obtain ⟨q5, e9, hJ⟩ := rp_b hJ
    refine rp_callV (As := [.int x1]) (rest := []) X hN I (c_Crew_isOpen hT e9) (cwV 1 hts (gdV wm_438 wm_439 wm_440 wm_37 wm_441) rfl rfl rfl (by decide +kernel) ⟨Nat.le_of_ble_eq_true rfl, Nat.le_of_ble_eq_true rfl⟩) i9 rfl rfl hl.1 rfl (Nat.le_of_ble_eq_true rfl) dX6_isReady_19 ⟨(Nat.le_of_ble_eq_true rfl), (Nat.le_of_ble_eq_true rfl)⟩ (fun H locs I => ?_)
    refine W.cs (cells' := 0) (slots' := 0) rfl rfl ?_
    refine lv_if_eq (tgt := 48) hx hb dX6_isReady_22 (by decide) (fun c9 => ?_) (fun c9 => ?_)
    · rw [if_pos c9] at hJ
      exact w_Desk_isReady_48 X hN hr _ _ _ _ hJ I (lv_sub hl [] rfl)
    · rw [if_neg c9] at hJ
      refine lv_aload_n hx hb dX6_isReady_25 rfl (lv_at hl 0 rfl) ?_
      obtain ⟨v6, e9, hJ⟩ := rp_b hJ
      obtain ⟨f9, g9, e9⟩ := fR_s e9
      refine rp_get X I g9 e9 rfl wiX6 (by decide) wm_163 dX6_isReady_26 ?_
      refine lv_aload_n hx hb dX6_isReady_29 rfl (lv_at hl 0 rfl) ?_
      obtain ⟨v7, e9, hJ⟩ := rp_b hJ
      obtain ⟨f9, g9, e9⟩ := fR_s e9
      refine rp_get X I g9 e9 rfl wiX6 (by decide) wm_162 dX6_isReady_30 ?_
      obtain ⟨v8, e9, hJ⟩ := rp_b hJ
      obtain ⟨f9, g9, e9⟩ := fR_s e9
      refine rp_getN (host := "BuildDesk") X I g9 e9 rfl wiX2 (by decide) (hN.1 _ (by decide +kernel)) dX6_isReady_33 ?_
      refine lv_iload_n hx hb dX6_isReady_36 rfl (lv_at hl 1 rfl) ?_
      obtain ⟨v9, e9, hJ⟩ := rp_b hJ
      refine rp_lald X I e9 rfl dX6_isReady_37 ?_
      obtain ⟨u9, i9, hJ⟩ := rp_b hJ
      obtain ⟨f9, i9⟩ := isO_s i9
      obtain ⟨q10, e9, hJ⟩ := rp_b hJ
      refine rp_callV (As := [.long v9]) (rest := []) X hN I (c_Crew_areDone hT e9) (cwV 1 hts (gdV wm_442 wm_443 wm_444 wm_37 wm_445) rfl rfl rfl (by decide +kernel) ⟨Nat.le_of_ble_eq_true rfl, Nat.le_of_ble_eq_true rfl⟩) i9 rfl rfl hl.1 rfl (Nat.le_of_ble_eq_true rfl) dX6_isReady_38 ⟨(Nat.le_of_ble_eq_true rfl), (Nat.le_of_ble_eq_true rfl)⟩ (fun H locs I => ?_)
      refine W.cs (cells' := 0) (slots' := 0) rfl rfl ?_
      refine lv_if_eq (tgt := 48) hx hb dX6_isReady_41 (by decide) (fun c9 => ?_) (fun c9 => ?_)
      · rw [if_pos c9] at hJ
        exact w_Desk_isReady_48 X hN hr _ _ _ _ hJ I (lv_sub hl [] rfl)
      · rw [if_neg c9] at hJ
        refine lv_iconst (v := 1) hx hb dX6_isReady_44 (by decide) ?_
        refine lv_goto (tgt := 49) hx hb dX6_isReady_45 (by decide) ?_
        exact rp_zret X hr (Or.inr rfl) hJ I dX6_isReady_49
def rmX6_passOverSteps : Room := { frames := 4, cells := 0, slots := 0, locals := 84 }
def J_Desk_passOverSteps_18 (N : Nat) (r4 : Nat → Int32 → Int32 → Hp → Option (Unit × Hp)) : Nat → Nat → Int32 → Int32 → Int32 → Hp → Option (Unit × Hp)
  | 0, _, _, _, _, _ => none
  | n + 1, x0, x1, x2, x3, h =>
  if (40 : Int32) ≤ x3 then
  (r4 x0 x1 (x2 + (1 : Int32)) h)
  else
  ((isO h 6 x0).bind fun _ =>
  (J_Desk_isReady N x0 x3 h).bind fun q1 =>
 if q1.1 = 0 then
  ((J_Desk_passOverSteps_18 N r4 n) x0 x1 x2 (x3 + (1 : Int32)) q1.2)
  else
  ((fR q1.2 6 x0 1).bind fun v2 =>
  (aR q1.2 3 v2 x3).bind fun v3 =>
  (fR q1.2 6 x0 0).bind fun v4 =>
  (isO q1.2 5 v3).bind fun _ =>
  (J_Step_whyDue N v3 v4 q1.2).bind fun q5 =>
 if q5.1 = 0 then
  ((fR q5.2 6 x0 3).bind fun v6 =>
  (isO q5.2 0 v6).bind fun _ =>
  (J_Crew_passOver N v6 x3 q5.2).bind fun q7 =>
 (J_Desk_passOverSteps_18 N r4 n) x0 (1 : Int32) x2 (x3 + (1 : Int32)) q7.2)
  else
  ((J_Desk_passOverSteps_18 N r4 n) x0 x1 x2 (x3 + (1 : Int32)) q5.2)))
def J_Desk_passOverSteps_4 (N : Nat)  : Nat → Nat → Int32 → Int32 → Hp → Option (Unit × Hp)
  | 0, _, _, _, _ => none
  | n + 1, x0, x1, x2, h =>
  if x1 = 0 then
  (some ((), h))
  else
  (if (40 : Int32) ≤ x2 then
  (some ((), h))
  else
  (J_Desk_passOverSteps_18 N (J_Desk_passOverSteps_4 N n) N x0 (0 : Int32) x2 (0 : Int32) h))
def J_Desk_passOverSteps (N : Nat) (x0 : Nat) (h : Hp) : Option (Unit × Hp) :=
  J_Desk_passOverSteps_4 N N x0 (1 : Int32) (0 : Int32) h
set_option maxHeartbeats 4000000 in
set_option maxRecDepth 100000 in
theorem w_Desk_passOverSteps_18 (X : Cx p s m args meth c D vwCl tys cX6_passOverSteps 4 RX6 wsG) (hN : nwS s) (hr : meth.sig.returnType = none) {res : (Unit × Hp)} {N : Nat} {r4 : Nat → Int32 → Int32 → Hp → Option (Unit × Hp)} (k4 : ∀ (x0 : Nat) (x1 : Int32) (x2 : Int32) (h : Hp) (H : Heap) (locs : List Loc) (ls : Array Slot), r4 x0 x1 x2 h = some res → In D vwCl tys A s h H locs → lv_has ls 4 [(0, .ref x0), (1, .int x1), (2, .int x2)] → W p l e rmX6_passOverSteps s m args below meth c H locs 0 0 (MQ below (Qr D vwCl tys A none res.2) args s 0 0 A) (F0 m 4 ls [])) : ∀ (n : Nat) (x0 : Nat) (x1 : Int32) (x2 : Int32) (x3 : Int32)  (h : Hp) (H : Heap) (locs : List Loc) (ls : Array Slot), J_Desk_passOverSteps_18 N r4 n x0 x1 x2 x3 h = some res → In D vwCl tys A s h H locs → lv_has ls 4 [(0, .ref x0), (1, .int x1), (2, .int x2), (3, .int x3)] → W p l e rmX6_passOverSteps s m args below meth c H locs 0 0 (MQ below (Qr D vwCl tys A none res.2) args s 0 0 A) (F0 m 18 ls []) := by
  have hx := X.1.1
  have hb := X.1.2.1
  have hml := X.1.2.2.1
  have ho := X.1.2.2.2.1
  have hts := X.1.2.2.2.2
  have hK := X.2.1
  have hT := X.2.2.2
  intro n
  induction n with
  | zero =>
    intro x0 x1 x2 x3  h H locs ls hJ I hl
    exact nomatch (show (none : Option (Unit × Hp)) = some res from hJ)
  | succ n k18 =>
    intro x0 x1 x2 x3  h H locs ls hJ I hl
    rw [J_Desk_passOverSteps_18] at hJ
    refine lv_iload_n hx hb dX6_passOverSteps_18 rfl (lv_at hl 3 rfl) ?_
    refine lv_bipush (v := 40) hx hb dX6_passOverSteps_19 (by decide) ?_
    refine lv_icmp_ge (tgt := 64) hx hb dX6_passOverSteps_21 (by decide) (fun c9 => ?_) (fun c9 => ?_)
    · rw [if_pos c9] at hJ
      refine lv_iinc (v := (x2 + (1 : Int32))) (lv' := [(2, .int (x2 + (1 : Int32))), (0, .ref x0), (1, .int x1), (3, .int x3)]) hx hb dX6_passOverSteps_64 hl (k := 2) rfl rfl (by decide) rfl (fun ls hl => ?_)
      refine lv_goto (tgt := 4) hx hb dX6_passOverSteps_67 (by decide) ?_
      exact k4 _ _ _ _ _ _ _ hJ I (lv_sub hl [1, 2, 0] rfl)
    · rw [if_neg c9] at hJ
      refine lv_aload_n hx hb dX6_passOverSteps_24 rfl (lv_at hl 0 rfl) ?_
      refine lv_iload_n hx hb dX6_passOverSteps_25 rfl (lv_at hl 3 rfl) ?_
      obtain ⟨u9, i9, hJ⟩ := rp_b hJ
      obtain ⟨f9, i9⟩ := isO_s i9
      obtain ⟨q1, e9, hJ⟩ := rp_b hJ
      refine rp_callV (As := [.int x3]) (rest := []) X hN I (c_Desk_isReady hT e9) (cwV 1 hts (gdV wm_435 wm_436 wm_13 wm_33 wm_437) rfl rfl rfl (by decide +kernel) ⟨Nat.le_of_ble_eq_true rfl, Nat.le_of_ble_eq_true rfl⟩) i9 rfl rfl hl.1 rfl (Nat.le_of_ble_eq_true rfl) dX6_passOverSteps_26 ⟨(Nat.le_of_ble_eq_true rfl), (Nat.le_of_ble_eq_true rfl)⟩ (fun H locs I => ?_)
      refine W.cs (cells' := 0) (slots' := 0) rfl rfl ?_
      refine lv_if_eq (tgt := 58) hx hb dX6_passOverSteps_29 (by decide) (fun c9 => ?_) (fun c9 => ?_)
      · rw [if_pos c9] at hJ
        refine lv_iinc (v := (x3 + (1 : Int32))) (lv' := [(3, .int (x3 + (1 : Int32))), (0, .ref x0), (1, .int x1), (2, .int x2)]) hx hb dX6_passOverSteps_58 hl (k := 3) rfl rfl (by decide) rfl (fun ls hl => ?_)
        refine lv_goto (tgt := 18) hx hb dX6_passOverSteps_61 (by decide) ?_
        exact k18 _ _ _ _ _ _ _ _ hJ I (lv_sub hl [1, 2, 3, 0] rfl)
      · rw [if_neg c9] at hJ
        refine lv_aload_n hx hb dX6_passOverSteps_32 rfl (lv_at hl 0 rfl) ?_
        obtain ⟨v2, e9, hJ⟩ := rp_b hJ
        obtain ⟨f9, g9, e9⟩ := fR_s e9
        refine rp_get X I g9 e9 rfl wiX6 (by decide) wm_161 dX6_passOverSteps_33 ?_
        refine lv_iload_n hx hb dX6_passOverSteps_36 rfl (lv_at hl 3 rfl) ?_
        obtain ⟨v3, e9, hJ⟩ := rp_b hJ
        refine rp_aald X I e9 rfl dX6_passOverSteps_37 ?_
        refine lv_aload_n hx hb dX6_passOverSteps_38 rfl (lv_at hl 0 rfl) ?_
        obtain ⟨v4, e9, hJ⟩ := rp_b hJ
        obtain ⟨f9, g9, e9⟩ := fR_s e9
        refine rp_get X I g9 e9 rfl wiX6 (by decide) wm_160 dX6_passOverSteps_39 ?_
        obtain ⟨u9, i9, hJ⟩ := rp_b hJ
        obtain ⟨f9, i9⟩ := isO_s i9
        obtain ⟨q5, e9, hJ⟩ := rp_b hJ
        refine rp_callV (As := [.ref v4]) (rest := []) X hN I (c_Step_whyDue hT e9) (cwV 1 hts (gdV wm_256 wm_257 wm_258 wm_35 wm_259) rfl rfl rfl (by decide +kernel) ⟨Nat.le_of_ble_eq_true rfl, Nat.le_of_ble_eq_true rfl⟩) i9 rfl rfl hl.1 rfl (Nat.le_of_ble_eq_true rfl) dX6_passOverSteps_42 ⟨(Nat.le_of_ble_eq_true rfl), (Nat.le_of_ble_eq_true rfl)⟩ (fun H locs I => ?_)
        refine W.cs (cells' := 0) (slots' := 0) rfl rfl ?_
        refine lv_if_ne (tgt := 58) hx hb dX6_passOverSteps_45 (by decide) (fun c9 => ?_) (fun c9 => ?_)
        · rw [if_neg c9] at hJ
          refine lv_iinc (v := (x3 + (1 : Int32))) (lv' := [(3, .int (x3 + (1 : Int32))), (0, .ref x0), (1, .int x1), (2, .int x2)]) hx hb dX6_passOverSteps_58 hl (k := 3) rfl rfl (by decide) rfl (fun ls hl => ?_)
          refine lv_goto (tgt := 18) hx hb dX6_passOverSteps_61 (by decide) ?_
          exact k18 _ _ _ _ _ _ _ _ hJ I (lv_sub hl [1, 2, 3, 0] rfl)
        · rw [if_pos c9] at hJ
          refine lv_aload_n hx hb dX6_passOverSteps_48 rfl (lv_at hl 0 rfl) ?_
          obtain ⟨v6, e9, hJ⟩ := rp_b hJ
          obtain ⟨f9, g9, e9⟩ := fR_s e9
          refine rp_get X I g9 e9 rfl wiX6 (by decide) wm_163 dX6_passOverSteps_49 ?_
          refine lv_iload_n hx hb dX6_passOverSteps_52 rfl (lv_at hl 3 rfl) ?_
          obtain ⟨u9, i9, hJ⟩ := rp_b hJ
          obtain ⟨f9, i9⟩ := isO_s i9
          obtain ⟨q7, e9, hJ⟩ := rp_b hJ
          refine rp_callV (As := [.int x3]) (rest := []) X hN I (c_Crew_passOver hT e9) (cwV 1 hts (gdV wm_446 wm_447 wm_448 wm_37 wm_449) rfl rfl rfl (by decide +kernel) ⟨Nat.le_of_ble_eq_true rfl, Nat.le_of_ble_eq_true rfl⟩) i9 rfl rfl hl.1 rfl (Nat.le_of_ble_eq_true rfl) dX6_passOverSteps_53 ⟨(Nat.le_of_ble_eq_true rfl), (Nat.le_of_ble_eq_true rfl)⟩ (fun H locs I => ?_)
          refine W.cs (cells' := 0) (slots' := 0) rfl rfl ?_
          refine lv_iconst (v := 1) hx hb dX6_passOverSteps_56 (by decide) ?_
          refine lv_istore_n (lv' := [(1, .int (1 : Int32)), (0, .ref x0), (2, .int x2), (3, .int x3)]) hx hb dX6_passOverSteps_57 rfl hl (by decide) rfl (fun ls hl => ?_)
          refine lv_iinc (v := (x3 + (1 : Int32))) (lv' := [(3, .int (x3 + (1 : Int32))), (1, .int (1 : Int32)), (0, .ref x0), (2, .int x2)]) hx hb dX6_passOverSteps_58 hl (k := 3) rfl rfl (by decide) rfl (fun ls hl => ?_)
          refine lv_goto (tgt := 18) hx hb dX6_passOverSteps_61 (by decide) ?_
          exact k18 _ _ _ _ _ _ _ _ hJ I (lv_sub hl [2, 1, 3, 0] rfl)
set_option maxHeartbeats 4000000 in
set_option maxRecDepth 100000 in
theorem w_Desk_passOverSteps_4 (X : Cx p s m args meth c D vwCl tys cX6_passOverSteps 4 RX6 wsG) (hN : nwS s) (hr : meth.sig.returnType = none) {res : (Unit × Hp)} {N : Nat}   : ∀ (n : Nat) (x0 : Nat) (x1 : Int32) (x2 : Int32)  (h : Hp) (H : Heap) (locs : List Loc) (ls : Array Slot), J_Desk_passOverSteps_4 N n x0 x1 x2 h = some res → In D vwCl tys A s h H locs → lv_has ls 4 [(0, .ref x0), (1, .int x1), (2, .int x2)] → W p l e rmX6_passOverSteps s m args below meth c H locs 0 0 (MQ below (Qr D vwCl tys A none res.2) args s 0 0 A) (F0 m 4 ls []) := by
  have hx := X.1.1
  have hb := X.1.2.1
  have hml := X.1.2.2.1
  have ho := X.1.2.2.2.1
  have hts := X.1.2.2.2.2
  have hK := X.2.1
  have hT := X.2.2.2
  intro n
  induction n with
  | zero =>
    intro x0 x1 x2  h H locs ls hJ I hl
    exact nomatch (show (none : Option (Unit × Hp)) = some res from hJ)
  | succ n k4 =>
    intro x0 x1 x2  h H locs ls hJ I hl
    rw [J_Desk_passOverSteps_4] at hJ
    refine lv_iload_n hx hb dX6_passOverSteps_4 rfl (lv_at hl 1 rfl) ?_
    refine lv_if_eq (tgt := 70) hx hb dX6_passOverSteps_5 (by decide) (fun c9 => ?_) (fun c9 => ?_)
    · rw [if_pos c9] at hJ
      exact rp_vret X hr hJ I dX6_passOverSteps_70
    · rw [if_neg c9] at hJ
      refine lv_iload_n hx hb dX6_passOverSteps_8 rfl (lv_at hl 2 rfl) ?_
      refine lv_bipush (v := 40) hx hb dX6_passOverSteps_9 (by decide) ?_
      refine lv_icmp_ge (tgt := 70) hx hb dX6_passOverSteps_11 (by decide) (fun c9 => ?_) (fun c9 => ?_)
      · rw [if_pos c9] at hJ
        exact rp_vret X hr hJ I dX6_passOverSteps_70
      · rw [if_neg c9] at hJ
        refine lv_iconst (v := 0) hx hb dX6_passOverSteps_14 (by decide) ?_
        refine lv_istore_n (lv' := [(1, .int (0 : Int32)), (0, .ref x0), (2, .int x2)]) hx hb dX6_passOverSteps_15 rfl hl (by decide) rfl (fun ls hl => ?_)
        refine lv_iconst (v := 0) hx hb dX6_passOverSteps_16 (by decide) ?_
        refine lv_istore_n (lv' := [(3, .int (0 : Int32)), (1, .int (0 : Int32)), (0, .ref x0), (2, .int x2)]) hx hb dX6_passOverSteps_17 rfl hl (by decide) rfl (fun ls hl => ?_)
        exact w_Desk_passOverSteps_18 X hN hr k4 N _ _ _ _ _ _ _ _ hJ I (lv_sub hl [2, 1, 3, 0] rfl)
set_option maxHeartbeats 4000000 in
set_option maxRecDepth 100000 in
theorem c_Desk_passOverSteps {l : Launch} {D : va_G} {tys : List (ClassId × FieldType)} {A : Nat → Prop} (hT : tys.map (fun q => q.2) = tyS) {N : Nat} {x0 : Nat} {h : Hp} {res : (Unit × Hp)} (hJ : J_Desk_passOverSteps N x0 h = some res) : Ct l D vwCl tys A yX6_passOverSteps (Cond.code yX6_passOverSteps cX6_passOverSteps 4 none :: wsG) rmX6_passOverSteps [.ref x0] h none res.2 := by
  refine Met.ofW (cc := cX6_passOverSteps) (maxL := 4) (ret := none) (by decide) rfl ?_
  intro p e s m args below meth c s₁ B hml hv
  obtain ⟨rfl, hA, hR, hK, hN⟩ := hv
  have hr := B.returns
  have hts : ∀ w ∈ wsG, w.before [.ref x0].toArray s = true := fun w hw => atoms_spec (ws := Cond.code yX6_passOverSteps cX6_passOverSteps 4 none :: wsG) B.pre w (List.mem_cons_of_mem _ hw)
  have X : Cx p s m [.ref x0].toArray meth c D vwCl tys cX6_passOverSteps 4 RX6 wsG := ⟨⟨B.exec, B.bytes, hml, findClass_of_methodNamed B.named, hts⟩, hK, B.notSynchronized, hT⟩
  have hx := B.exec
  have hb := B.bytes
  have I : In D vwCl tys A s h s.heap [] := ⟨hR, va_S.rf, hA⟩
  have hl := lv_entry [.ref x0] (n := 4) (Nat.le_of_ble_eq_true rfl)
  rw [lg_entry_eq]
  generalize (lg_sl [.ref x0] ++ List.replicate (4 - (lg_sl [.ref x0]).length) Slot.unset).toArray = ls at hl ⊢
  have hl : lv_has ls 4 [(0, .ref x0)] := hl
  have ho := X.1.2.2.2.1
  rw [J_Desk_passOverSteps] at hJ
  refine lv_iconst (v := 1) hx hb dX6_passOverSteps_0 (by decide) ?_
  refine lv_istore_n (lv' := [(1, .int (1 : Int32)), (0, .ref x0)]) hx hb dX6_passOverSteps_1 rfl hl (by decide) rfl (fun ls hl => ?_)
  refine lv_iconst (v := 0) hx hb dX6_passOverSteps_2 (by decide) ?_
  refine lv_istore_n (lv' := [(2, .int (0 : Int32)), (1, .int (1 : Int32)), (0, .ref x0)]) hx hb dX6_passOverSteps_3 rfl hl (by decide) rfl (fun ls hl => ?_)
  exact w_Desk_passOverSteps_4 X hN hr N _ _ _ _ _ _ _ hJ I (lv_sub hl [2, 1, 0] rfl)
def rmX6_nextToBegin : Room := { frames := 4, cells := 0, slots := 0, locals := 84 }
def J_Desk_nextToBegin_6 (N : Nat)  : Nat → Nat → Int32 → Int32 → Int32 → Hp → Option (Int32 × Hp)
  | 0, _, _, _, _, _ => none
  | n + 1, x0, x1, x2, x3, h =>
  if (40 : Int32) ≤ x3 then
  (some (x1, h))
  else
  ((isO h 6 x0).bind fun _ =>
  (J_Desk_isReady N x0 x3 h).bind fun q1 =>
 if q1.1 = 0 then
  ((J_Desk_nextToBegin_6 N n) x0 x1 x2 (x3 + (1 : Int32)) q1.2)
  else
  ((fR q1.2 6 x0 2).bind fun v2 =>
  (fR q1.2 2 v2 3).bind fun v3 =>
  (aI q1.2 0 v3 x3).bind fun v4 =>
  if v4 ≤ x2 then
  ((J_Desk_nextToBegin_6 N n) x0 x1 x2 (x3 + (1 : Int32)) q1.2)
  else
  ((fR q1.2 6 x0 2).bind fun v5 =>
  (fR q1.2 2 v5 3).bind fun v6 =>
  (aI q1.2 0 v6 x3).bind fun v7 =>
  (J_Desk_nextToBegin_6 N n) x0 x3 v7 (x3 + (1 : Int32)) q1.2)))
def J_Desk_nextToBegin (N : Nat) (x0 : Nat) (h : Hp) : Option (Int32 × Hp) :=
  J_Desk_nextToBegin_6 N N x0 (-1 : Int32) (0 : Int32) (0 : Int32) h
set_option maxHeartbeats 4000000 in
set_option maxRecDepth 100000 in
theorem w_Desk_nextToBegin_6 (X : Cx p s m args meth c D vwCl tys cX6_nextToBegin 4 RX6 wsG) (hN : nwS s) (hr : meth.sig.returnType = (some .int)) {res : (Int32 × Hp)} {N : Nat}   : ∀ (n : Nat) (x0 : Nat) (x1 : Int32) (x2 : Int32) (x3 : Int32)  (h : Hp) (H : Heap) (locs : List Loc) (ls : Array Slot), J_Desk_nextToBegin_6 N n x0 x1 x2 x3 h = some res → In D vwCl tys A s h H locs → lv_has ls 4 [(0, .ref x0), (1, .int x1), (2, .int x2), (3, .int x3)] → W p l e rmX6_nextToBegin s m args below meth c H locs 0 0 (MQ below (Qr D vwCl tys A (some (.int res.1)) res.2) args s 0 0 A) (F0 m 6 ls []) := by
  have hx := X.1.1
  have hb := X.1.2.1
  have hml := X.1.2.2.1
  have ho := X.1.2.2.2.1
  have hts := X.1.2.2.2.2
  have hK := X.2.1
  have hT := X.2.2.2
  intro n
  induction n with
  | zero =>
    intro x0 x1 x2 x3  h H locs ls hJ I hl
    exact nomatch (show (none : Option (Int32 × Hp)) = some res from hJ)
  | succ n k6 =>
    intro x0 x1 x2 x3  h H locs ls hJ I hl
    rw [J_Desk_nextToBegin_6] at hJ
    refine lv_iload_n hx hb dX6_nextToBegin_6 rfl (lv_at hl 3 rfl) ?_
    refine lv_bipush (v := 40) hx hb dX6_nextToBegin_7 (by decide) ?_
    refine lv_icmp_ge (tgt := 51) hx hb dX6_nextToBegin_9 (by decide) (fun c9 => ?_) (fun c9 => ?_)
    · rw [if_pos c9] at hJ
      refine lv_iload_n hx hb dX6_nextToBegin_51 rfl (lv_at hl 1 rfl) ?_
      exact rp_iret X hr hJ I dX6_nextToBegin_52
    · rw [if_neg c9] at hJ
      refine lv_aload_n hx hb dX6_nextToBegin_12 rfl (lv_at hl 0 rfl) ?_
      refine lv_iload_n hx hb dX6_nextToBegin_13 rfl (lv_at hl 3 rfl) ?_
      obtain ⟨u9, i9, hJ⟩ := rp_b hJ
      obtain ⟨f9, i9⟩ := isO_s i9
      obtain ⟨q1, e9, hJ⟩ := rp_b hJ
      refine rp_callV (As := [.int x3]) (rest := []) X hN I (c_Desk_isReady hT e9) (cwV 1 hts (gdV wm_435 wm_436 wm_13 wm_33 wm_437) rfl rfl rfl (by decide +kernel) ⟨Nat.le_of_ble_eq_true rfl, Nat.le_of_ble_eq_true rfl⟩) i9 rfl rfl hl.1 rfl (Nat.le_of_ble_eq_true rfl) dX6_nextToBegin_14 ⟨(Nat.le_of_ble_eq_true rfl), (Nat.le_of_ble_eq_true rfl)⟩ (fun H locs I => ?_)
      refine W.cs (cells' := 0) (slots' := 0) rfl rfl ?_
      refine lv_if_eq (tgt := 45) hx hb dX6_nextToBegin_17 (by decide) (fun c9 => ?_) (fun c9 => ?_)
      · rw [if_pos c9] at hJ
        refine lv_iinc (v := (x3 + (1 : Int32))) (lv' := [(3, .int (x3 + (1 : Int32))), (0, .ref x0), (1, .int x1), (2, .int x2)]) hx hb dX6_nextToBegin_45 hl (k := 3) rfl rfl (by decide) rfl (fun ls hl => ?_)
        refine lv_goto (tgt := 6) hx hb dX6_nextToBegin_48 (by decide) ?_
        exact k6 _ _ _ _ _ _ _ _ hJ I (lv_sub hl [1, 2, 3, 0] rfl)
      · rw [if_neg c9] at hJ
        refine lv_aload_n hx hb dX6_nextToBegin_20 rfl (lv_at hl 0 rfl) ?_
        obtain ⟨v2, e9, hJ⟩ := rp_b hJ
        obtain ⟨f9, g9, e9⟩ := fR_s e9
        refine rp_get X I g9 e9 rfl wiX6 (by decide) wm_162 dX6_nextToBegin_21 ?_
        obtain ⟨v3, e9, hJ⟩ := rp_b hJ
        obtain ⟨f9, g9, e9⟩ := fR_s e9
        refine rp_getN (host := "BuildDesk") X I g9 e9 rfl wiX2 (by decide) (hN.1 _ (by decide +kernel)) dX6_nextToBegin_24 ?_
        refine lv_iload_n hx hb dX6_nextToBegin_27 rfl (lv_at hl 3 rfl) ?_
        obtain ⟨v4, e9, hJ⟩ := rp_b hJ
        refine rp_iald X I e9 rfl dX6_nextToBegin_28 ?_
        refine lv_iload_n hx hb dX6_nextToBegin_29 rfl (lv_at hl 2 rfl) ?_
        refine lv_icmp_le (tgt := 45) hx hb dX6_nextToBegin_30 (by decide) (fun c9 => ?_) (fun c9 => ?_)
        · rw [if_pos c9] at hJ
          refine lv_iinc (v := (x3 + (1 : Int32))) (lv' := [(3, .int (x3 + (1 : Int32))), (0, .ref x0), (1, .int x1), (2, .int x2)]) hx hb dX6_nextToBegin_45 hl (k := 3) rfl rfl (by decide) rfl (fun ls hl => ?_)
          refine lv_goto (tgt := 6) hx hb dX6_nextToBegin_48 (by decide) ?_
          exact k6 _ _ _ _ _ _ _ _ hJ I (lv_sub hl [1, 2, 3, 0] rfl)
        · rw [if_neg c9] at hJ
          refine lv_iload_n hx hb dX6_nextToBegin_33 rfl (lv_at hl 3 rfl) ?_
          refine lv_istore_n (lv' := [(1, .int x3), (0, .ref x0), (2, .int x2), (3, .int x3)]) hx hb dX6_nextToBegin_34 rfl hl (by decide) rfl (fun ls hl => ?_)
          refine lv_aload_n hx hb dX6_nextToBegin_35 rfl (lv_at hl 1 rfl) ?_
          obtain ⟨v5, e9, hJ⟩ := rp_b hJ
          obtain ⟨f9, g9, e9⟩ := fR_s e9
          refine rp_get X I g9 e9 rfl wiX6 (by decide) wm_162 dX6_nextToBegin_36 ?_
          obtain ⟨v6, e9, hJ⟩ := rp_b hJ
          obtain ⟨f9, g9, e9⟩ := fR_s e9
          refine rp_getN (host := "BuildDesk") X I g9 e9 rfl wiX2 (by decide) (hN.1 _ (by decide +kernel)) dX6_nextToBegin_39 ?_
          refine lv_iload_n hx hb dX6_nextToBegin_42 rfl (lv_at hl 3 rfl) ?_
          obtain ⟨v7, e9, hJ⟩ := rp_b hJ
          refine rp_iald X I e9 rfl dX6_nextToBegin_43 ?_
          refine lv_istore_n (lv' := [(2, .int v7), (1, .int x3), (0, .ref x0), (3, .int x3)]) hx hb dX6_nextToBegin_44 rfl hl (by decide) rfl (fun ls hl => ?_)
          refine lv_iinc (v := (x3 + (1 : Int32))) (lv' := [(3, .int (x3 + (1 : Int32))), (2, .int v7), (1, .int x3), (0, .ref x0)]) hx hb dX6_nextToBegin_45 hl (k := 3) rfl rfl (by decide) rfl (fun ls hl => ?_)
          refine lv_goto (tgt := 6) hx hb dX6_nextToBegin_48 (by decide) ?_
          exact k6 _ _ _ _ _ _ _ _ hJ I (lv_sub hl [3, 2, 1, 0] rfl)
set_option maxHeartbeats 4000000 in
set_option maxRecDepth 100000 in
theorem c_Desk_nextToBegin {l : Launch} {D : va_G} {tys : List (ClassId × FieldType)} {A : Nat → Prop} (hT : tys.map (fun q => q.2) = tyS) {N : Nat} {x0 : Nat} {h : Hp} {res : (Int32 × Hp)} (hJ : J_Desk_nextToBegin N x0 h = some res) : Ct l D vwCl tys A yX6_nextToBegin (Cond.code yX6_nextToBegin cX6_nextToBegin 4 (some .int) :: wsG) rmX6_nextToBegin [.ref x0] h (some (.int res.1)) res.2 := by
  refine Met.ofW (cc := cX6_nextToBegin) (maxL := 4) (ret := (some .int)) (by decide) rfl ?_
  intro p e s m args below meth c s₁ B hml hv
  obtain ⟨rfl, hA, hR, hK, hN⟩ := hv
  have hr := B.returns
  have hts : ∀ w ∈ wsG, w.before [.ref x0].toArray s = true := fun w hw => atoms_spec (ws := Cond.code yX6_nextToBegin cX6_nextToBegin 4 (some .int) :: wsG) B.pre w (List.mem_cons_of_mem _ hw)
  have X : Cx p s m [.ref x0].toArray meth c D vwCl tys cX6_nextToBegin 4 RX6 wsG := ⟨⟨B.exec, B.bytes, hml, findClass_of_methodNamed B.named, hts⟩, hK, B.notSynchronized, hT⟩
  have hx := B.exec
  have hb := B.bytes
  have I : In D vwCl tys A s h s.heap [] := ⟨hR, va_S.rf, hA⟩
  have hl := lv_entry [.ref x0] (n := 4) (Nat.le_of_ble_eq_true rfl)
  rw [lg_entry_eq]
  generalize (lg_sl [.ref x0] ++ List.replicate (4 - (lg_sl [.ref x0]).length) Slot.unset).toArray = ls at hl ⊢
  have hl : lv_has ls 4 [(0, .ref x0)] := hl
  have ho := X.1.2.2.2.1
  rw [J_Desk_nextToBegin] at hJ
  refine lv_iconst (v := -1) hx hb dX6_nextToBegin_0 (by decide) ?_
  refine lv_istore_n (lv' := [(1, .int (-1 : Int32)), (0, .ref x0)]) hx hb dX6_nextToBegin_1 rfl hl (by decide) rfl (fun ls hl => ?_)
  refine lv_iconst (v := 0) hx hb dX6_nextToBegin_2 (by decide) ?_
  refine lv_istore_n (lv' := [(2, .int (0 : Int32)), (1, .int (-1 : Int32)), (0, .ref x0)]) hx hb dX6_nextToBegin_3 rfl hl (by decide) rfl (fun ls hl => ?_)
  refine lv_iconst (v := 0) hx hb dX6_nextToBegin_4 (by decide) ?_
  refine lv_istore_n (lv' := [(3, .int (0 : Int32)), (2, .int (0 : Int32)), (1, .int (-1 : Int32)), (0, .ref x0)]) hx hb dX6_nextToBegin_5 rfl hl (by decide) rfl (fun ls hl => ?_)
  exact w_Desk_nextToBegin_6 X hN hr N _ _ _ _ _ _ _ _ hJ I (lv_sub hl [3, 2, 1, 0] rfl)
def rmX6_beginSteps : Room := { frames := 5, cells := 0, slots := 0, locals := 107 }
def J_Desk_beginSteps_2 (N : Nat)  : Nat → Nat → Int32 → Int32 → Int32 → Hp → Option (Unit × Hp)
  | 0, _, _, _, _, _ => none
  | n + 1, x0, x1, x2, x3, h =>
  if x2 ≤ x3 then
  (some ((), h))
  else
  (if (8 : Int32) ≤ x3 then
  (some ((), h))
  else
  ((fR h 6 x0 3).bind fun v1 =>
  (isO h 0 v1).bind fun _ =>
  (J_Crew_isBusy N v1 x3 h).bind fun q2 =>
 if q2.1 = 0 then
  ((isO q2.2 6 x0).bind fun _ =>
  (J_Desk_nextToBegin N x0 q2.2).bind fun q3 =>
 if q3.1 = (-1 : Int32) then
  (some ((), q3.2))
  else
  ((fR q3.2 6 x0 1).bind fun v4 =>
  (aR q3.2 3 v4 q3.1).bind fun v5 =>
  (fI q3.2 5 v5 3).bind fun v6 =>
  (fR q3.2 6 x0 4).bind fun v7 =>
  (fR q3.2 6 x0 1).bind fun v8 =>
  (aR q3.2 3 v8 q3.1).bind fun v9 =>
  (fR q3.2 6 x0 0).bind fun v10 =>
  (isO q3.2 5 v9).bind fun _ =>
  (J_Step_whyDue N v9 v10 q3.2).bind fun q11 =>
 (isO q11.2 3 v7).bind fun _ =>
  (J_Rep_add N v7 q3.1 x1 (x1 + v6) x3 q11.1 q11.2).bind fun q12 =>
 (fR q12.2 6 x0 3).bind fun v13 =>
  (isO q12.2 0 v13).bind fun _ =>
  (J_Crew_begin N v13 q3.1 x3 (x1 + v6) q12.2).bind fun q14 =>
 (J_Desk_beginSteps_2 N n) x0 x1 x2 (x3 + (1 : Int32)) q14.2))
  else
  ((J_Desk_beginSteps_2 N n) x0 x1 x2 (x3 + (1 : Int32)) q2.2)))
def J_Desk_beginSteps (N : Nat) (x0 : Nat) (x1 : Int32) (x2 : Int32) (h : Hp) : Option (Unit × Hp) :=
  J_Desk_beginSteps_2 N N x0 x1 x2 (0 : Int32) h
set_option maxHeartbeats 4000000 in
set_option maxRecDepth 100000 in
theorem w_Desk_beginSteps_2 (X : Cx p s m args meth c D vwCl tys cX6_beginSteps 6 RX6 wsG) (hN : nwS s) (hr : meth.sig.returnType = none) {res : (Unit × Hp)} {N : Nat}   : ∀ (n : Nat) (x0 : Nat) (x1 : Int32) (x2 : Int32) (x3 : Int32)  (h : Hp) (H : Heap) (locs : List Loc) (ls : Array Slot), J_Desk_beginSteps_2 N n x0 x1 x2 x3 h = some res → In D vwCl tys A s h H locs → lv_has ls 6 [(0, .ref x0), (1, .int x1), (2, .int x2), (3, .int x3)] → W p l e rmX6_beginSteps s m args below meth c H locs 0 0 (MQ below (Qr D vwCl tys A none res.2) args s 0 0 A) (F0 m 2 ls []) := by
  have hx := X.1.1
  have hb := X.1.2.1
  have hml := X.1.2.2.1
  have ho := X.1.2.2.2.1
  have hts := X.1.2.2.2.2
  have hK := X.2.1
  have hT := X.2.2.2
  intro n
  induction n with
  | zero =>
    intro x0 x1 x2 x3  h H locs ls hJ I hl
    exact nomatch (show (none : Option (Unit × Hp)) = some res from hJ)
  | succ n k2 =>
    intro x0 x1 x2 x3  h H locs ls hJ I hl
    rw [J_Desk_beginSteps_2] at hJ
    refine lv_iload_n hx hb dX6_beginSteps_2 rfl (lv_at hl 3 rfl) ?_
    refine lv_iload_n hx hb dX6_beginSteps_3 rfl (lv_at hl 2 rfl) ?_
    refine lv_icmp_ge (tgt := 96) hx hb dX6_beginSteps_4 (by decide) (fun c9 => ?_) (fun c9 => ?_)
    · rw [if_pos c9] at hJ
      exact rp_vret X hr hJ I dX6_beginSteps_96
    · rw [if_neg c9] at hJ
      refine lv_iload_n hx hb dX6_beginSteps_7 rfl (lv_at hl 3 rfl) ?_
      refine lv_bipush (v := 8) hx hb dX6_beginSteps_8 (by decide) ?_
      refine lv_icmp_ge (tgt := 96) hx hb dX6_beginSteps_10 (by decide) (fun c9 => ?_) (fun c9 => ?_)
      · rw [if_pos c9] at hJ
        exact rp_vret X hr hJ I dX6_beginSteps_96
      · rw [if_neg c9] at hJ
        refine lv_aload_n hx hb dX6_beginSteps_13 rfl (lv_at hl 0 rfl) ?_
        obtain ⟨v1, e9, hJ⟩ := rp_b hJ
        obtain ⟨f9, g9, e9⟩ := fR_s e9
        refine rp_get X I g9 e9 rfl wiX6 (by decide) wm_163 dX6_beginSteps_14 ?_
        refine lv_iload_n hx hb dX6_beginSteps_17 rfl (lv_at hl 3 rfl) ?_
        obtain ⟨u9, i9, hJ⟩ := rp_b hJ
        obtain ⟨f9, i9⟩ := isO_s i9
        obtain ⟨q2, e9, hJ⟩ := rp_b hJ
        refine rp_callV (As := [.int x3]) (rest := []) X hN I (c_Crew_isBusy hT e9) (cwV 1 hts (gdV wm_453 wm_454 wm_455 wm_37 wm_456) rfl rfl rfl (by decide +kernel) ⟨Nat.le_of_ble_eq_true rfl, Nat.le_of_ble_eq_true rfl⟩) i9 rfl rfl hl.1 rfl (Nat.le_of_ble_eq_true rfl) dX6_beginSteps_18 ⟨(Nat.le_of_ble_eq_true rfl), (Nat.le_of_ble_eq_true rfl)⟩ (fun H locs I => ?_)
        refine W.cs (cells' := 0) (slots' := 0) rfl rfl ?_
        refine lv_if_ne (tgt := 90) hx hb dX6_beginSteps_21 (by decide) (fun c9 => ?_) (fun c9 => ?_)
        · rw [if_neg c9] at hJ
          refine lv_iinc (v := (x3 + (1 : Int32))) (lv' := [(3, .int (x3 + (1 : Int32))), (0, .ref x0), (1, .int x1), (2, .int x2)]) hx hb dX6_beginSteps_90 hl (k := 3) rfl rfl (by decide) rfl (fun ls hl => ?_)
          refine lv_goto (tgt := 2) hx hb dX6_beginSteps_93 (by decide) ?_
          exact k2 _ _ _ _ _ _ _ _ hJ I (lv_sub hl [1, 2, 3, 0] rfl)
        · rw [if_pos c9] at hJ
          refine lv_aload_n hx hb dX6_beginSteps_24 rfl (lv_at hl 0 rfl) ?_
          obtain ⟨u9, i9, hJ⟩ := rp_b hJ
          obtain ⟨f9, i9⟩ := isO_s i9
          obtain ⟨q3, e9, hJ⟩ := rp_b hJ
          refine rp_callV (As := []) (rest := []) X hN I (c_Desk_nextToBegin hT e9) (cwV 0 hts (gdV wm_457 wm_458 wm_15 wm_33 wm_459) rfl rfl rfl (by decide +kernel) ⟨Nat.le_of_ble_eq_true rfl, Nat.le_of_ble_eq_true rfl⟩) i9 rfl rfl hl.1 rfl (Nat.le_of_ble_eq_true rfl) dX6_beginSteps_25 ⟨(Nat.le_of_ble_eq_true rfl), (Nat.le_of_ble_eq_true rfl)⟩ (fun H locs I => ?_)
          refine W.cs (cells' := 0) (slots' := 0) rfl rfl ?_
          refine lv_istore (lv' := [(4, .int q3.1), (0, .ref x0), (1, .int x1), (2, .int x2), (3, .int x3)]) hx hb dX6_beginSteps_28 hl (by decide) rfl (fun ls hl => ?_)
          refine lv_iload hx hb dX6_beginSteps_30 (lv_at hl 0 rfl) ?_
          refine lv_iconst (v := -1) hx hb dX6_beginSteps_32 (by decide) ?_
          refine lv_icmp_ne (tgt := 37) hx hb dX6_beginSteps_33 (by decide) (fun c9 => ?_) (fun c9 => ?_)
          · rw [if_neg c9] at hJ
            refine lv_iload_n hx hb dX6_beginSteps_37 rfl (lv_at hl 2 rfl) ?_
            refine lv_aload_n hx hb dX6_beginSteps_38 rfl (lv_at hl 1 rfl) ?_
            obtain ⟨v4, e9, hJ⟩ := rp_b hJ
            obtain ⟨f9, g9, e9⟩ := fR_s e9
            refine rp_get X I g9 e9 rfl wiX6 (by decide) wm_161 dX6_beginSteps_39 ?_
            refine lv_iload hx hb dX6_beginSteps_42 (lv_at hl 0 rfl) ?_
            obtain ⟨v5, e9, hJ⟩ := rp_b hJ
            refine rp_aald X I e9 rfl dX6_beginSteps_44 ?_
            obtain ⟨v6, e9, hJ⟩ := rp_b hJ
            obtain ⟨f9, g9, e9⟩ := fI_s e9
            refine rp_getN (host := "BuildDesk") X I g9 e9 rfl wiX5 (by decide) (hN.1 _ (by decide +kernel)) dX6_beginSteps_45 ?_
            refine lv_iadd hx hb dX6_beginSteps_48 ?_
            refine lv_istore (lv' := [(5, .int (x1 + v6)), (4, .int q3.1), (0, .ref x0), (1, .int x1), (2, .int x2), (3, .int x3)]) hx hb dX6_beginSteps_49 hl (by decide) rfl (fun ls hl => ?_)
            refine lv_aload_n hx hb dX6_beginSteps_51 rfl (lv_at hl 2 rfl) ?_
            obtain ⟨v7, e9, hJ⟩ := rp_b hJ
            obtain ⟨f9, g9, e9⟩ := fR_s e9
            refine rp_get X I g9 e9 rfl wiX6 (by decide) wm_164 dX6_beginSteps_52 ?_
            refine lv_iload hx hb dX6_beginSteps_55 (lv_at hl 1 rfl) ?_
            refine lv_iload_n hx hb dX6_beginSteps_57 rfl (lv_at hl 3 rfl) ?_
            refine lv_iload hx hb dX6_beginSteps_58 (lv_at hl 0 rfl) ?_
            refine lv_iload_n hx hb dX6_beginSteps_60 rfl (lv_at hl 5 rfl) ?_
            refine lv_aload_n hx hb dX6_beginSteps_61 rfl (lv_at hl 2 rfl) ?_
            obtain ⟨v8, e9, hJ⟩ := rp_b hJ
            obtain ⟨f9, g9, e9⟩ := fR_s e9
            refine rp_get X I g9 e9 rfl wiX6 (by decide) wm_161 dX6_beginSteps_62 ?_
            refine lv_iload hx hb dX6_beginSteps_65 (lv_at hl 1 rfl) ?_
            obtain ⟨v9, e9, hJ⟩ := rp_b hJ
            refine rp_aald X I e9 rfl dX6_beginSteps_67 ?_
            refine lv_aload_n hx hb dX6_beginSteps_68 rfl (lv_at hl 2 rfl) ?_
            obtain ⟨v10, e9, hJ⟩ := rp_b hJ
            obtain ⟨f9, g9, e9⟩ := fR_s e9
            refine rp_get X I g9 e9 rfl wiX6 (by decide) wm_160 dX6_beginSteps_69 ?_
            obtain ⟨u9, i9, hJ⟩ := rp_b hJ
            obtain ⟨f9, i9⟩ := isO_s i9
            obtain ⟨q11, e9, hJ⟩ := rp_b hJ
            refine rp_callV (As := [.ref v10]) (rest := [.int x3, .int (x1 + v6), .int x1, .int q3.1, .ref v7]) X hN I (c_Step_whyDue hT e9) (cwV 1 hts (gdV wm_256 wm_257 wm_258 wm_35 wm_259) rfl rfl rfl (by decide +kernel) ⟨Nat.le_of_ble_eq_true rfl, Nat.le_of_ble_eq_true rfl⟩) i9 rfl rfl hl.1 rfl (Nat.le_of_ble_eq_true rfl) dX6_beginSteps_72 ⟨(Nat.le_of_ble_eq_true rfl), (Nat.le_of_ble_eq_true rfl)⟩ (fun H locs I => ?_)
            refine W.cs (cells' := 0) (slots' := 0) rfl rfl ?_
            obtain ⟨u9, i9, hJ⟩ := rp_b hJ
            obtain ⟨f9, i9⟩ := isO_s i9
            obtain ⟨q12, e9, hJ⟩ := rp_b hJ
            refine rp_callV (As := [.int q3.1, .int x1, .int (x1 + v6), .int x3, .int q11.1]) (rest := []) X hN I (c_Rep_add hT e9) (cwV 5 hts (gdV wm_460 wm_461 wm_462 wm_38 wm_463) rfl rfl rfl (by decide +kernel) ⟨Nat.le_of_ble_eq_true rfl, Nat.le_of_ble_eq_true rfl⟩) i9 rfl rfl hl.1 rfl (Nat.le_of_ble_eq_true rfl) dX6_beginSteps_75 ⟨(Nat.le_of_ble_eq_true rfl), (Nat.le_of_ble_eq_true rfl)⟩ (fun H locs I => ?_)
            refine W.cs (cells' := 0) (slots' := 0) rfl rfl ?_
            refine lv_aload_n hx hb dX6_beginSteps_78 rfl (lv_at hl 2 rfl) ?_
            obtain ⟨v13, e9, hJ⟩ := rp_b hJ
            obtain ⟨f9, g9, e9⟩ := fR_s e9
            refine rp_get X I g9 e9 rfl wiX6 (by decide) wm_163 dX6_beginSteps_79 ?_
            refine lv_iload hx hb dX6_beginSteps_82 (lv_at hl 1 rfl) ?_
            refine lv_iload_n hx hb dX6_beginSteps_84 rfl (lv_at hl 5 rfl) ?_
            refine lv_iload hx hb dX6_beginSteps_85 (lv_at hl 0 rfl) ?_
            obtain ⟨u9, i9, hJ⟩ := rp_b hJ
            obtain ⟨f9, i9⟩ := isO_s i9
            obtain ⟨q14, e9, hJ⟩ := rp_b hJ
            refine rp_callV (As := [.int q3.1, .int x3, .int (x1 + v6)]) (rest := []) X hN I (c_Crew_begin hT e9) (cwV 3 hts (gdV wm_464 wm_465 wm_466 wm_37 wm_467) rfl rfl rfl (by decide +kernel) ⟨Nat.le_of_ble_eq_true rfl, Nat.le_of_ble_eq_true rfl⟩) i9 rfl rfl hl.1 rfl (Nat.le_of_ble_eq_true rfl) dX6_beginSteps_87 ⟨(Nat.le_of_ble_eq_true rfl), (Nat.le_of_ble_eq_true rfl)⟩ (fun H locs I => ?_)
            refine W.cs (cells' := 0) (slots' := 0) rfl rfl ?_
            refine lv_iinc (v := (x3 + (1 : Int32))) (lv' := [(3, .int (x3 + (1 : Int32))), (5, .int (x1 + v6)), (4, .int q3.1), (0, .ref x0), (1, .int x1), (2, .int x2)]) hx hb dX6_beginSteps_90 hl (k := 5) rfl rfl (by decide) rfl (fun ls hl => ?_)
            refine lv_goto (tgt := 2) hx hb dX6_beginSteps_93 (by decide) ?_
            exact k2 _ _ _ _ _ _ _ _ hJ I (lv_sub hl [3, 4, 5, 0] rfl)
          · rw [if_pos c9] at hJ
            exact rp_vret X hr hJ I dX6_beginSteps_36
set_option maxHeartbeats 4000000 in
set_option maxRecDepth 100000 in
theorem c_Desk_beginSteps {l : Launch} {D : va_G} {tys : List (ClassId × FieldType)} {A : Nat → Prop} (hT : tys.map (fun q => q.2) = tyS) {N : Nat} {x0 : Nat} {x1 : Int32} {x2 : Int32} {h : Hp} {res : (Unit × Hp)} (hJ : J_Desk_beginSteps N x0 x1 x2 h = some res) : Ct l D vwCl tys A yX6_beginSteps (Cond.code yX6_beginSteps cX6_beginSteps 6 none :: wsG) rmX6_beginSteps [.ref x0, .int x1, .int x2] h none res.2 := by
  refine Met.ofW (cc := cX6_beginSteps) (maxL := 6) (ret := none) (by decide) rfl ?_
  intro p e s m args below meth c s₁ B hml hv
  obtain ⟨rfl, hA, hR, hK, hN⟩ := hv
  have hr := B.returns
  have hts : ∀ w ∈ wsG, w.before [.ref x0, .int x1, .int x2].toArray s = true := fun w hw => atoms_spec (ws := Cond.code yX6_beginSteps cX6_beginSteps 6 none :: wsG) B.pre w (List.mem_cons_of_mem _ hw)
  have X : Cx p s m [.ref x0, .int x1, .int x2].toArray meth c D vwCl tys cX6_beginSteps 6 RX6 wsG := ⟨⟨B.exec, B.bytes, hml, findClass_of_methodNamed B.named, hts⟩, hK, B.notSynchronized, hT⟩
  have hx := B.exec
  have hb := B.bytes
  have I : In D vwCl tys A s h s.heap [] := ⟨hR, va_S.rf, hA⟩
  have hl := lv_entry [.ref x0, .int x1, .int x2] (n := 6) (Nat.le_of_ble_eq_true rfl)
  rw [lg_entry_eq]
  generalize (lg_sl [.ref x0, .int x1, .int x2] ++ List.replicate (6 - (lg_sl [.ref x0, .int x1, .int x2]).length) Slot.unset).toArray = ls at hl ⊢
  have hl : lv_has ls 6 [(0, .ref x0), (1, .int x1), (2, .int x2)] := hl
  have ho := X.1.2.2.2.1
  rw [J_Desk_beginSteps] at hJ
  refine lv_iconst (v := 0) hx hb dX6_beginSteps_0 (by decide) ?_
  refine lv_istore_n (lv' := [(3, .int (0 : Int32)), (0, .ref x0), (1, .int x1), (2, .int x2)]) hx hb dX6_beginSteps_1 rfl hl (by decide) rfl (fun ls hl => ?_)
  exact w_Desk_beginSteps_2 X hN hr N _ _ _ _ _ _ _ _ hJ I (lv_sub hl [1, 2, 3, 0] rfl)
def rmX6_makeNeeded : Room := { frames := 6, cells := 0, slots := 0, locals := 132 }
def J_Desk_makeNeeded_11 (N : Nat)  : Nat → Nat → Int32 → Int32 → Int32 → Hp → Option (Int32 × Hp)
  | 0, _, _, _, _, _ => none
  | n + 1, x0, x1, x2, x3, h =>
  if (40 : Int32) < x3 then
  (some (x2, h))
  else
  ((isO h 6 x0).bind fun _ =>
  (J_Desk_endSteps N x0 x2 h).bind fun q3 =>
 (isO q3.2 6 x0).bind fun _ =>
  (J_Desk_passOverSteps N x0 q3.2).bind fun q4 =>
 (isO q4.2 6 x0).bind fun _ =>
  (J_Desk_beginSteps N x0 x2 x1 q4.2).bind fun q5 =>
 (fR q5.2 6 x0 3).bind fun v6 =>
  (isO q5.2 0 v6).bind fun _ =>
  (J_Crew_nextEnd N v6 q5.2).bind fun q7 =>
 if q7.1 = (-1 : Int32) then
  (some (x2, q7.2))
  else
  ((J_Desk_makeNeeded_11 N n) x0 x1 q7.1 (x3 + (1 : Int32)) q7.2))
def J_Desk_makeNeeded (N : Nat) (x0 : Nat) (x1 : Int32) (h : Hp) : Option (Int32 × Hp) :=
  (fR h 6 x0 3).bind fun v1 =>
  (isO h 0 v1).bind fun _ =>
  (J_Crew_comeIn N v1 h).bind fun q2 =>
 J_Desk_makeNeeded_11 N N x0 x1 (0 : Int32) (0 : Int32) q2.2
set_option maxHeartbeats 4000000 in
set_option maxRecDepth 100000 in
theorem w_Desk_makeNeeded_11 (X : Cx p s m args meth c D vwCl tys cX6_makeNeeded 5 RX6 wsG) (hN : nwS s) (hr : meth.sig.returnType = (some .int)) {res : (Int32 × Hp)} {N : Nat}   : ∀ (n : Nat) (x0 : Nat) (x1 : Int32) (x2 : Int32) (x3 : Int32)  (h : Hp) (H : Heap) (locs : List Loc) (ls : Array Slot), J_Desk_makeNeeded_11 N n x0 x1 x2 x3 h = some res → In D vwCl tys A s h H locs → lv_has ls 5 [(0, .ref x0), (1, .int x1), (2, .int x2), (3, .int x3)] → W p l e rmX6_makeNeeded s m args below meth c H locs 0 0 (MQ below (Qr D vwCl tys A (some (.int res.1)) res.2) args s 0 0 A) (F0 m 11 ls []) := by
  have hx := X.1.1
  have hb := X.1.2.1
  have hml := X.1.2.2.1
  have ho := X.1.2.2.2.1
  have hts := X.1.2.2.2.2
  have hK := X.2.1
  have hT := X.2.2.2
  intro n
  induction n with
  | zero =>
    intro x0 x1 x2 x3  h H locs ls hJ I hl
    exact nomatch (show (none : Option (Int32 × Hp)) = some res from hJ)
  | succ n k11 =>
    intro x0 x1 x2 x3  h H locs ls hJ I hl
    rw [J_Desk_makeNeeded_11] at hJ
    refine lv_iload_n hx hb dX6_makeNeeded_11 rfl (lv_at hl 3 rfl) ?_
    refine lv_bipush (v := 40) hx hb dX6_makeNeeded_12 (by decide) ?_
    refine lv_icmp_gt (tgt := 58) hx hb dX6_makeNeeded_14 (by decide) (fun c9 => ?_) (fun c9 => ?_)
    · rw [if_pos c9] at hJ
      refine lv_iload_n hx hb dX6_makeNeeded_58 rfl (lv_at hl 2 rfl) ?_
      exact rp_iret X hr hJ I dX6_makeNeeded_59
    · rw [if_neg c9] at hJ
      refine lv_aload_n hx hb dX6_makeNeeded_17 rfl (lv_at hl 0 rfl) ?_
      refine lv_iload_n hx hb dX6_makeNeeded_18 rfl (lv_at hl 2 rfl) ?_
      obtain ⟨u9, i9, hJ⟩ := rp_b hJ
      obtain ⟨f9, i9⟩ := isO_s i9
      obtain ⟨q3, e9, hJ⟩ := rp_b hJ
      refine rp_callV (As := [.int x2]) (rest := []) X hN I (c_Desk_endSteps hT e9) (cwV 1 hts (gdV wm_414 wm_415 wm_11 wm_33 wm_416) rfl rfl rfl (by decide +kernel) ⟨Nat.le_of_ble_eq_true rfl, Nat.le_of_ble_eq_true rfl⟩) i9 rfl rfl hl.1 rfl (Nat.le_of_ble_eq_true rfl) dX6_makeNeeded_19 ⟨(Nat.le_of_ble_eq_true rfl), (Nat.le_of_ble_eq_true rfl)⟩ (fun H locs I => ?_)
      refine W.cs (cells' := 0) (slots' := 0) rfl rfl ?_
      refine lv_aload_n hx hb dX6_makeNeeded_22 rfl (lv_at hl 0 rfl) ?_
      obtain ⟨u9, i9, hJ⟩ := rp_b hJ
      obtain ⟨f9, i9⟩ := isO_s i9
      obtain ⟨q4, e9, hJ⟩ := rp_b hJ
      refine rp_callV (As := []) (rest := []) X hN I (c_Desk_passOverSteps hT e9) (cwV 0 hts (gdV wm_432 wm_433 wm_12 wm_33 wm_434) rfl rfl rfl (by decide +kernel) ⟨Nat.le_of_ble_eq_true rfl, Nat.le_of_ble_eq_true rfl⟩) i9 rfl rfl hl.1 rfl (Nat.le_of_ble_eq_true rfl) dX6_makeNeeded_23 ⟨(Nat.le_of_ble_eq_true rfl), (Nat.le_of_ble_eq_true rfl)⟩ (fun H locs I => ?_)
      refine W.cs (cells' := 0) (slots' := 0) rfl rfl ?_
      refine lv_aload_n hx hb dX6_makeNeeded_26 rfl (lv_at hl 0 rfl) ?_
      refine lv_iload_n hx hb dX6_makeNeeded_27 rfl (lv_at hl 2 rfl) ?_
      refine lv_iload_n hx hb dX6_makeNeeded_28 rfl (lv_at hl 1 rfl) ?_
      obtain ⟨u9, i9, hJ⟩ := rp_b hJ
      obtain ⟨f9, i9⟩ := isO_s i9
      obtain ⟨q5, e9, hJ⟩ := rp_b hJ
      refine rp_callV (As := [.int x2, .int x1]) (rest := []) X hN I (c_Desk_beginSteps hT e9) (cwV 2 hts (gdV wm_450 wm_451 wm_14 wm_33 wm_452) rfl rfl rfl (by decide +kernel) ⟨Nat.le_of_ble_eq_true rfl, Nat.le_of_ble_eq_true rfl⟩) i9 rfl rfl hl.1 rfl (Nat.le_of_ble_eq_true rfl) dX6_makeNeeded_29 ⟨(Nat.le_of_ble_eq_true rfl), (Nat.le_of_ble_eq_true rfl)⟩ (fun H locs I => ?_)
      refine W.cs (cells' := 0) (slots' := 0) rfl rfl ?_
      refine lv_aload_n hx hb dX6_makeNeeded_32 rfl (lv_at hl 0 rfl) ?_
      obtain ⟨v6, e9, hJ⟩ := rp_b hJ
      obtain ⟨f9, g9, e9⟩ := fR_s e9
      refine rp_get X I g9 e9 rfl wiX6 (by decide) wm_163 dX6_makeNeeded_33 ?_
      obtain ⟨u9, i9, hJ⟩ := rp_b hJ
      obtain ⟨f9, i9⟩ := isO_s i9
      obtain ⟨q7, e9, hJ⟩ := rp_b hJ
      refine rp_callV (As := []) (rest := []) X hN I (c_Crew_nextEnd hT e9) (cwV 0 hts (gdV wm_468 wm_469 wm_470 wm_37 wm_471) rfl rfl rfl (by decide +kernel) ⟨Nat.le_of_ble_eq_true rfl, Nat.le_of_ble_eq_true rfl⟩) i9 rfl rfl hl.1 rfl (Nat.le_of_ble_eq_true rfl) dX6_makeNeeded_36 ⟨(Nat.le_of_ble_eq_true rfl), (Nat.le_of_ble_eq_true rfl)⟩ (fun H locs I => ?_)
      refine W.cs (cells' := 0) (slots' := 0) rfl rfl ?_
      refine lv_istore (lv' := [(4, .int q7.1), (0, .ref x0), (1, .int x1), (2, .int x2), (3, .int x3)]) hx hb dX6_makeNeeded_39 hl (by decide) rfl (fun ls hl => ?_)
      refine lv_iload hx hb dX6_makeNeeded_41 (lv_at hl 0 rfl) ?_
      refine lv_iconst (v := -1) hx hb dX6_makeNeeded_43 (by decide) ?_
      refine lv_icmp_ne (tgt := 49) hx hb dX6_makeNeeded_44 (by decide) (fun c9 => ?_) (fun c9 => ?_)
      · rw [if_neg c9] at hJ
        refine lv_iload hx hb dX6_makeNeeded_49 (lv_at hl 0 rfl) ?_
        refine lv_istore_n (lv' := [(2, .int q7.1), (4, .int q7.1), (0, .ref x0), (1, .int x1), (3, .int x3)]) hx hb dX6_makeNeeded_51 rfl hl (by decide) rfl (fun ls hl => ?_)
        refine lv_iinc (v := (x3 + (1 : Int32))) (lv' := [(3, .int (x3 + (1 : Int32))), (2, .int q7.1), (4, .int q7.1), (0, .ref x0), (1, .int x1)]) hx hb dX6_makeNeeded_52 hl (k := 4) rfl rfl (by decide) rfl (fun ls hl => ?_)
        refine lv_goto (tgt := 11) hx hb dX6_makeNeeded_55 (by decide) ?_
        exact k11 _ _ _ _ _ _ _ _ hJ I (lv_sub hl [3, 4, 1, 0] rfl)
      · rw [if_pos c9] at hJ
        refine lv_iload_n hx hb dX6_makeNeeded_47 rfl (lv_at hl 3 rfl) ?_
        exact rp_iret X hr hJ I dX6_makeNeeded_48
set_option maxHeartbeats 4000000 in
set_option maxRecDepth 100000 in
theorem c_Desk_makeNeeded {l : Launch} {D : va_G} {tys : List (ClassId × FieldType)} {A : Nat → Prop} (hT : tys.map (fun q => q.2) = tyS) {N : Nat} {x0 : Nat} {x1 : Int32} {h : Hp} {res : (Int32 × Hp)} (hJ : J_Desk_makeNeeded N x0 x1 h = some res) : Ct l D vwCl tys A yX6_makeNeeded (Cond.code yX6_makeNeeded cX6_makeNeeded 5 (some .int) :: wsG) rmX6_makeNeeded [.ref x0, .int x1] h (some (.int res.1)) res.2 := by
  refine Met.ofW (cc := cX6_makeNeeded) (maxL := 5) (ret := (some .int)) (by decide) rfl ?_
  intro p e s m args below meth c s₁ B hml hv
  obtain ⟨rfl, hA, hR, hK, hN⟩ := hv
  have hr := B.returns
  have hts : ∀ w ∈ wsG, w.before [.ref x0, .int x1].toArray s = true := fun w hw => atoms_spec (ws := Cond.code yX6_makeNeeded cX6_makeNeeded 5 (some .int) :: wsG) B.pre w (List.mem_cons_of_mem _ hw)
  have X : Cx p s m [.ref x0, .int x1].toArray meth c D vwCl tys cX6_makeNeeded 5 RX6 wsG := ⟨⟨B.exec, B.bytes, hml, findClass_of_methodNamed B.named, hts⟩, hK, B.notSynchronized, hT⟩
  have hx := B.exec
  have hb := B.bytes
  have I : In D vwCl tys A s h s.heap [] := ⟨hR, va_S.rf, hA⟩
  have hl := lv_entry [.ref x0, .int x1] (n := 5) (Nat.le_of_ble_eq_true rfl)
  rw [lg_entry_eq]
  generalize (lg_sl [.ref x0, .int x1] ++ List.replicate (5 - (lg_sl [.ref x0, .int x1]).length) Slot.unset).toArray = ls at hl ⊢
  have hl : lv_has ls 5 [(0, .ref x0), (1, .int x1)] := hl
  have ho := X.1.2.2.2.1
  rw [J_Desk_makeNeeded] at hJ
  refine lv_aload_n hx hb dX6_makeNeeded_0 rfl (lv_at hl 0 rfl) ?_
  obtain ⟨v1, e9, hJ⟩ := rp_b hJ
  obtain ⟨f9, g9, e9⟩ := fR_s e9
  refine rp_get X I g9 e9 rfl wiX6 (by decide) wm_163 dX6_makeNeeded_1 ?_
  obtain ⟨u9, i9, hJ⟩ := rp_b hJ
  obtain ⟨f9, i9⟩ := isO_s i9
  obtain ⟨q2, e9, hJ⟩ := rp_b hJ
  refine rp_callV (As := []) (rest := []) X hN I (c_Crew_comeIn hT e9) (cwV 0 hts (gdV wm_410 wm_411 wm_412 wm_37 wm_413) rfl rfl rfl (by decide +kernel) ⟨Nat.le_of_ble_eq_true rfl, Nat.le_of_ble_eq_true rfl⟩) i9 rfl rfl hl.1 rfl (Nat.le_of_ble_eq_true rfl) dX6_makeNeeded_4 ⟨(Nat.le_of_ble_eq_true rfl), (Nat.le_of_ble_eq_true rfl)⟩ (fun H locs I => ?_)
  refine W.cs (cells' := 0) (slots' := 0) rfl rfl ?_
  refine lv_iconst (v := 0) hx hb dX6_makeNeeded_7 (by decide) ?_
  refine lv_istore_n (lv' := [(2, .int (0 : Int32)), (0, .ref x0), (1, .int x1)]) hx hb dX6_makeNeeded_8 rfl hl (by decide) rfl (fun ls hl => ?_)
  refine lv_iconst (v := 0) hx hb dX6_makeNeeded_9 (by decide) ?_
  refine lv_istore_n (lv' := [(3, .int (0 : Int32)), (2, .int (0 : Int32)), (0, .ref x0), (1, .int x1)]) hx hb dX6_makeNeeded_10 rfl hl (by decide) rfl (fun ls hl => ?_)
  exact w_Desk_makeNeeded_11 X hN hr N _ _ _ _ _ _ _ _ hJ I (lv_sub hl [2, 3, 1, 0] rfl)
def rmX6_countSteps : Room := { frames := 0, cells := 0, slots := 0, locals := 0 }
def J_Desk_countSteps_4 (N : Nat)  : Nat → Nat → Int32 → Int32 → Hp → Option (Int32 × Hp)
  | 0, _, _, _, _ => none
  | n + 1, x0, x1, x2, h =>
  if (40 : Int32) ≤ x2 then
  (some (x1, h))
  else
  ((fR h 6 x0 1).bind fun v1 =>
  (aR h 3 v1 x2).bind fun v2 =>
  (fI h 5 v2 0).bind fun v3 =>
  if v3 = 0 then
  ((J_Desk_countSteps_4 N n) x0 x1 (x2 + (1 : Int32)) h)
  else
  ((J_Desk_countSteps_4 N n) x0 (x1 + (1 : Int32)) (x2 + (1 : Int32)) h))
def J_Desk_countSteps (N : Nat) (x0 : Nat) (h : Hp) : Option (Int32 × Hp) :=
  J_Desk_countSteps_4 N N x0 (0 : Int32) (0 : Int32) h
set_option maxHeartbeats 4000000 in
set_option maxRecDepth 100000 in
theorem w_Desk_countSteps_4 (X : Cx p s m args meth c D vwCl tys cX6_countSteps 3 RX6 wsG) (hN : nwS s) (hr : meth.sig.returnType = (some .int)) {res : (Int32 × Hp)} {N : Nat}   : ∀ (n : Nat) (x0 : Nat) (x1 : Int32) (x2 : Int32)  (h : Hp) (H : Heap) (locs : List Loc) (ls : Array Slot), J_Desk_countSteps_4 N n x0 x1 x2 h = some res → In D vwCl tys A s h H locs → lv_has ls 3 [(0, .ref x0), (1, .int x1), (2, .int x2)] → W p l e rmX6_countSteps s m args below meth c H locs 0 0 (MQ below (Qr D vwCl tys A (some (.int res.1)) res.2) args s 0 0 A) (F0 m 4 ls []) := by
  have hx := X.1.1
  have hb := X.1.2.1
  have hml := X.1.2.2.1
  have ho := X.1.2.2.2.1
  have hts := X.1.2.2.2.2
  have hK := X.2.1
  have hT := X.2.2.2
  intro n
  induction n with
  | zero =>
    intro x0 x1 x2  h H locs ls hJ I hl
    exact nomatch (show (none : Option (Int32 × Hp)) = some res from hJ)
  | succ n k4 =>
    intro x0 x1 x2  h H locs ls hJ I hl
    rw [J_Desk_countSteps_4] at hJ
    refine lv_iload_n hx hb dX6_countSteps_4 rfl (lv_at hl 2 rfl) ?_
    refine lv_bipush (v := 40) hx hb dX6_countSteps_5 (by decide) ?_
    refine lv_icmp_ge (tgt := 31) hx hb dX6_countSteps_7 (by decide) (fun c9 => ?_) (fun c9 => ?_)
    · rw [if_pos c9] at hJ
      refine lv_iload_n hx hb dX6_countSteps_31 rfl (lv_at hl 1 rfl) ?_
      exact rp_iret X hr hJ I dX6_countSteps_32
    · rw [if_neg c9] at hJ
      refine lv_aload_n hx hb dX6_countSteps_10 rfl (lv_at hl 0 rfl) ?_
      obtain ⟨v1, e9, hJ⟩ := rp_b hJ
      obtain ⟨f9, g9, e9⟩ := fR_s e9
      refine rp_get X I g9 e9 rfl wiX6 (by decide) wm_161 dX6_countSteps_11 ?_
      refine lv_iload_n hx hb dX6_countSteps_14 rfl (lv_at hl 2 rfl) ?_
      obtain ⟨v2, e9, hJ⟩ := rp_b hJ
      refine rp_aald X I e9 rfl dX6_countSteps_15 ?_
      obtain ⟨v3, e9, hJ⟩ := rp_b hJ
      obtain ⟨f9, g9, e9⟩ := fI_s e9
      refine rp_getN (host := "BuildDesk") X I g9 e9 rfl wiX5 (by decide) (hN.1 _ (by decide +kernel)) dX6_countSteps_16 ?_
      refine lv_if_eq (tgt := 25) hx hb dX6_countSteps_19 (by decide) (fun c9 => ?_) (fun c9 => ?_)
      · rw [if_pos c9] at hJ
        refine lv_iinc (v := (x2 + (1 : Int32))) (lv' := [(2, .int (x2 + (1 : Int32))), (0, .ref x0), (1, .int x1)]) hx hb dX6_countSteps_25 hl (k := 2) rfl rfl (by decide) rfl (fun ls hl => ?_)
        refine lv_goto (tgt := 4) hx hb dX6_countSteps_28 (by decide) ?_
        exact k4 _ _ _ _ _ _ _ hJ I (lv_sub hl [1, 2, 0] rfl)
      · rw [if_neg c9] at hJ
        refine lv_iinc (v := (x1 + (1 : Int32))) (lv' := [(1, .int (x1 + (1 : Int32))), (0, .ref x0), (2, .int x2)]) hx hb dX6_countSteps_22 hl (k := 1) rfl rfl (by decide) rfl (fun ls hl => ?_)
        refine lv_iinc (v := (x2 + (1 : Int32))) (lv' := [(2, .int (x2 + (1 : Int32))), (1, .int (x1 + (1 : Int32))), (0, .ref x0)]) hx hb dX6_countSteps_25 hl (k := 2) rfl rfl (by decide) rfl (fun ls hl => ?_)
        refine lv_goto (tgt := 4) hx hb dX6_countSteps_28 (by decide) ?_
        exact k4 _ _ _ _ _ _ _ hJ I (lv_sub hl [2, 1, 0] rfl)
set_option maxHeartbeats 4000000 in
set_option maxRecDepth 100000 in
theorem c_Desk_countSteps {l : Launch} {D : va_G} {tys : List (ClassId × FieldType)} {A : Nat → Prop} (hT : tys.map (fun q => q.2) = tyS) {N : Nat} {x0 : Nat} {h : Hp} {res : (Int32 × Hp)} (hJ : J_Desk_countSteps N x0 h = some res) : Ct l D vwCl tys A yX6_countSteps (Cond.code yX6_countSteps cX6_countSteps 3 (some .int) :: wsG) rmX6_countSteps [.ref x0] h (some (.int res.1)) res.2 := by
  refine Met.ofW (cc := cX6_countSteps) (maxL := 3) (ret := (some .int)) (by decide) rfl ?_
  intro p e s m args below meth c s₁ B hml hv
  obtain ⟨rfl, hA, hR, hK, hN⟩ := hv
  have hr := B.returns
  have hts : ∀ w ∈ wsG, w.before [.ref x0].toArray s = true := fun w hw => atoms_spec (ws := Cond.code yX6_countSteps cX6_countSteps 3 (some .int) :: wsG) B.pre w (List.mem_cons_of_mem _ hw)
  have X : Cx p s m [.ref x0].toArray meth c D vwCl tys cX6_countSteps 3 RX6 wsG := ⟨⟨B.exec, B.bytes, hml, findClass_of_methodNamed B.named, hts⟩, hK, B.notSynchronized, hT⟩
  have hx := B.exec
  have hb := B.bytes
  have I : In D vwCl tys A s h s.heap [] := ⟨hR, va_S.rf, hA⟩
  have hl := lv_entry [.ref x0] (n := 3) (Nat.le_of_ble_eq_true rfl)
  rw [lg_entry_eq]
  generalize (lg_sl [.ref x0] ++ List.replicate (3 - (lg_sl [.ref x0]).length) Slot.unset).toArray = ls at hl ⊢
  have hl : lv_has ls 3 [(0, .ref x0)] := hl
  have ho := X.1.2.2.2.1
  rw [J_Desk_countSteps] at hJ
  refine lv_iconst (v := 0) hx hb dX6_countSteps_0 (by decide) ?_
  refine lv_istore_n (lv' := [(1, .int (0 : Int32)), (0, .ref x0)]) hx hb dX6_countSteps_1 rfl hl (by decide) rfl (fun ls hl => ?_)
  refine lv_iconst (v := 0) hx hb dX6_countSteps_2 (by decide) ?_
  refine lv_istore_n (lv' := [(2, .int (0 : Int32)), (1, .int (0 : Int32)), (0, .ref x0)]) hx hb dX6_countSteps_3 rfl hl (by decide) rfl (fun ls hl => ?_)
  exact w_Desk_countSteps_4 X hN hr N _ _ _ _ _ _ _ hJ I (lv_sub hl [2, 1, 0] rfl)
def rmX6_count : Room := { frames := 1, cells := 0, slots := 0, locals := 22 }
def J_Desk_count (N : Nat) (x0 : Nat) (x1 : Int32) (h : Hp) : Option (Int32 × Hp) :=
  if x1 = (0 : Int32) then
  ((fR h 6 x0 4).bind fun v1 =>
  (fI h 3 v1 0).bind fun v2 =>
  some (v2, h))
  else if x1 = (1 : Int32) then
  ((fR h 6 x0 4).bind fun v3 =>
  (fI h 3 v3 1).bind fun v4 =>
  some (v4, h))
  else if x1 = (2 : Int32) then
  ((fR h 6 x0 4).bind fun v5 =>
  (fI h 3 v5 2).bind fun v6 =>
  some (v6, h))
  else if x1 = (3 : Int32) then
  ((fR h 6 x0 4).bind fun v7 =>
  (fI h 3 v7 3).bind fun v8 =>
  some (v8, h))
  else if x1 = (4 : Int32) then
  ((fR h 6 x0 0).bind fun v9 =>
  (isO h 1 v9).bind fun _ =>
  (J_File_countFilled N v9 h).bind fun q10 =>
 some (q10.1, q10.2))
  else if x1 = (5 : Int32) then
  ((isO h 6 x0).bind fun _ =>
  (J_Desk_countSteps N x0 h).bind fun q11 =>
 some (q11.1, q11.2))
  else (some ((-1 : Int32), h))
set_option maxHeartbeats 4000000 in
set_option maxRecDepth 100000 in
theorem c_Desk_count {l : Launch} {D : va_G} {tys : List (ClassId × FieldType)} {A : Nat → Prop} (hT : tys.map (fun q => q.2) = tyS) {N : Nat} {x0 : Nat} {x1 : Int32} {h : Hp} {res : (Int32 × Hp)} (hJ : J_Desk_count N x0 x1 h = some res) : Ct l D vwCl tys A yX6_count (Cond.code yX6_count cX6_count 2 (some .int) :: wsG) rmX6_count [.ref x0, .int x1] h (some (.int res.1)) res.2 := by
  refine Met.ofW (cc := cX6_count) (maxL := 2) (ret := (some .int)) (by decide) rfl ?_
  intro p e s m args below meth c s₁ B hml hv
  obtain ⟨rfl, hA, hR, hK, hN⟩ := hv
  have hr := B.returns
  have hts : ∀ w ∈ wsG, w.before [.ref x0, .int x1].toArray s = true := fun w hw => atoms_spec (ws := Cond.code yX6_count cX6_count 2 (some .int) :: wsG) B.pre w (List.mem_cons_of_mem _ hw)
  have X : Cx p s m [.ref x0, .int x1].toArray meth c D vwCl tys cX6_count 2 RX6 wsG := ⟨⟨B.exec, B.bytes, hml, findClass_of_methodNamed B.named, hts⟩, hK, B.notSynchronized, hT⟩
  have hx := B.exec
  have hb := B.bytes
  have I : In D vwCl tys A s h s.heap [] := ⟨hR, va_S.rf, hA⟩
  have hl := lv_entry [.ref x0, .int x1] (n := 2) (Nat.le_of_ble_eq_true rfl)
  rw [lg_entry_eq]
  generalize (lg_sl [.ref x0, .int x1] ++ List.replicate (2 - (lg_sl [.ref x0, .int x1]).length) Slot.unset).toArray = ls at hl ⊢
  have hl : lv_has ls 2 [(0, .ref x0), (1, .int x1)] := hl
  have ho := X.1.2.2.2.1
  rw [J_Desk_count] at hJ
  refine lv_iload_n hx hb dX6_count_0 rfl (lv_at hl 1 rfl) ?_
  by_cases c9 : x1 = (0 : Int32)
  · rw [if_pos c9] at hJ
    refine lv_tableIn (tgt := 40) (off := 39) hx hb dX6_count_1 (by rw [c9]; decide) (by rw [c9]; decide) (by rw [c9]; decide) (by decide) ?_
    refine lv_aload_n hx hb dX6_count_40 rfl (lv_at hl 0 rfl) ?_
    obtain ⟨v1, e9, hJ⟩ := rp_b hJ
    obtain ⟨f9, g9, e9⟩ := fR_s e9
    refine rp_get X I g9 e9 rfl wiX6 (by decide) wm_164 dX6_count_41 ?_
    obtain ⟨v2, e9, hJ⟩ := rp_b hJ
    obtain ⟨f9, g9, e9⟩ := fI_s e9
    refine rp_getN (host := "BuildDesk") X I g9 e9 rfl wiX3 (by decide) (hN.1 _ (by decide +kernel)) dX6_count_44 ?_
    exact rp_iret X hr hJ I dX6_count_47
  rw [if_neg c9] at hJ
  have n0 := c9
  by_cases c9 : x1 = (1 : Int32)
  · rw [if_pos c9] at hJ
    refine lv_tableIn (tgt := 48) (off := 47) hx hb dX6_count_1 (by rw [c9]; decide) (by rw [c9]; decide) (by rw [c9]; decide) (by decide) ?_
    refine lv_aload_n hx hb dX6_count_48 rfl (lv_at hl 0 rfl) ?_
    obtain ⟨v3, e9, hJ⟩ := rp_b hJ
    obtain ⟨f9, g9, e9⟩ := fR_s e9
    refine rp_get X I g9 e9 rfl wiX6 (by decide) wm_164 dX6_count_49 ?_
    obtain ⟨v4, e9, hJ⟩ := rp_b hJ
    obtain ⟨f9, g9, e9⟩ := fI_s e9
    refine rp_getN (host := "BuildDesk") X I g9 e9 rfl wiX3 (by decide) (hN.1 _ (by decide +kernel)) dX6_count_52 ?_
    exact rp_iret X hr hJ I dX6_count_55
  rw [if_neg c9] at hJ
  have n1 := c9
  by_cases c9 : x1 = (2 : Int32)
  · rw [if_pos c9] at hJ
    refine lv_tableIn (tgt := 56) (off := 55) hx hb dX6_count_1 (by rw [c9]; decide) (by rw [c9]; decide) (by rw [c9]; decide) (by decide) ?_
    refine lv_aload_n hx hb dX6_count_56 rfl (lv_at hl 0 rfl) ?_
    obtain ⟨v5, e9, hJ⟩ := rp_b hJ
    obtain ⟨f9, g9, e9⟩ := fR_s e9
    refine rp_get X I g9 e9 rfl wiX6 (by decide) wm_164 dX6_count_57 ?_
    obtain ⟨v6, e9, hJ⟩ := rp_b hJ
    obtain ⟨f9, g9, e9⟩ := fI_s e9
    refine rp_getN (host := "BuildDesk") X I g9 e9 rfl wiX3 (by decide) (hN.1 _ (by decide +kernel)) dX6_count_60 ?_
    exact rp_iret X hr hJ I dX6_count_63
  rw [if_neg c9] at hJ
  have n2 := c9
  by_cases c9 : x1 = (3 : Int32)
  · rw [if_pos c9] at hJ
    refine lv_tableIn (tgt := 64) (off := 63) hx hb dX6_count_1 (by rw [c9]; decide) (by rw [c9]; decide) (by rw [c9]; decide) (by decide) ?_
    refine lv_aload_n hx hb dX6_count_64 rfl (lv_at hl 0 rfl) ?_
    obtain ⟨v7, e9, hJ⟩ := rp_b hJ
    obtain ⟨f9, g9, e9⟩ := fR_s e9
    refine rp_get X I g9 e9 rfl wiX6 (by decide) wm_164 dX6_count_65 ?_
    obtain ⟨v8, e9, hJ⟩ := rp_b hJ
    obtain ⟨f9, g9, e9⟩ := fI_s e9
    refine rp_getN (host := "BuildDesk") X I g9 e9 rfl wiX3 (by decide) (hN.1 _ (by decide +kernel)) dX6_count_68 ?_
    exact rp_iret X hr hJ I dX6_count_71
  rw [if_neg c9] at hJ
  have n3 := c9
  by_cases c9 : x1 = (4 : Int32)
  · rw [if_pos c9] at hJ
    refine lv_tableIn (tgt := 72) (off := 71) hx hb dX6_count_1 (by rw [c9]; decide) (by rw [c9]; decide) (by rw [c9]; decide) (by decide) ?_
    refine lv_aload_n hx hb dX6_count_72 rfl (lv_at hl 0 rfl) ?_
    obtain ⟨v9, e9, hJ⟩ := rp_b hJ
    obtain ⟨f9, g9, e9⟩ := fR_s e9
    refine rp_get X I g9 e9 rfl wiX6 (by decide) wm_160 dX6_count_73 ?_
    obtain ⟨u9, i9, hJ⟩ := rp_b hJ
    obtain ⟨f9, i9⟩ := isO_s i9
    obtain ⟨q10, e9, hJ⟩ := rp_b hJ
    refine rp_callV (As := []) (rest := []) X hN I (c_File_countFilled hT e9) (cwV 0 hts (gdV wm_245 wm_246 wm_247 wm_34 wm_248) rfl rfl rfl (by decide +kernel) ⟨Nat.le_of_ble_eq_true rfl, Nat.le_of_ble_eq_true rfl⟩) i9 rfl rfl hl.1 rfl (Nat.le_of_ble_eq_true rfl) dX6_count_76 ⟨(Nat.le_of_ble_eq_true rfl), (Nat.le_of_ble_eq_true rfl)⟩ (fun H locs I => ?_)
    refine W.cs (cells' := 0) (slots' := 0) rfl rfl ?_
    exact rp_iret X hr hJ I dX6_count_79
  rw [if_neg c9] at hJ
  have n4 := c9
  by_cases c9 : x1 = (5 : Int32)
  · rw [if_pos c9] at hJ
    refine lv_tableIn (tgt := 80) (off := 79) hx hb dX6_count_1 (by rw [c9]; decide) (by rw [c9]; decide) (by rw [c9]; decide) (by decide) ?_
    refine lv_aload_n hx hb dX6_count_80 rfl (lv_at hl 0 rfl) ?_
    obtain ⟨u9, i9, hJ⟩ := rp_b hJ
    obtain ⟨f9, i9⟩ := isO_s i9
    obtain ⟨q11, e9, hJ⟩ := rp_b hJ
    refine rp_callV (As := []) (rest := []) X hN I (c_Desk_countSteps hT e9) (cwV 0 hts (gdV wm_249 wm_250 wm_2 wm_33 wm_251) rfl rfl rfl (by decide +kernel) ⟨Nat.le_of_ble_eq_true rfl, Nat.le_of_ble_eq_true rfl⟩) i9 rfl rfl hl.1 rfl (Nat.le_of_ble_eq_true rfl) dX6_count_81 ⟨(Nat.le_of_ble_eq_true rfl), (Nat.le_of_ble_eq_true rfl)⟩ (fun H locs I => ?_)
    refine W.cs (cells' := 0) (slots' := 0) rfl rfl ?_
    exact rp_iret X hr hJ I dX6_count_84
  rw [if_neg c9] at hJ
  have n5 := c9
  refine lv_tableOut (tgt := 85) hx hb dX6_count_1 (rp_swOut 6 (by decide) (fun k hk => match k, hk with | 0, _ => n0  | 1, _ => n1  | 2, _ => n2  | 3, _ => n3  | 4, _ => n4  | 5, _ => n5 | k + 6, h => absurd h (by omega))) (by decide) ?_
  refine lv_iconst (v := -1) hx hb dX6_count_85 (by decide) ?_
  exact rp_iret X hr hJ I dX6_count_86
def rmX6_reason : Room := { frames := 3, cells := 0, slots := 0, locals := 65 }
def J_Desk_reason (N : Nat) (x0 : Nat) (x1 : Int32) (h : Hp) : Option (Int32 × Hp) :=
  (isO h 6 x0).bind fun _ =>
  (J_Desk_isThere N x0 x1 h).bind fun q1 =>
 if q1.1 = 0 then
  (some ((-1 : Int32), q1.2))
  else
  ((fR q1.2 6 x0 1).bind fun v2 =>
  (aR q1.2 3 v2 x1).bind fun v3 =>
  (fR q1.2 6 x0 0).bind fun v4 =>
  (isO q1.2 5 v3).bind fun _ =>
  (J_Step_whyDue N v3 v4 q1.2).bind fun q5 =>
 some (q5.1, q5.2))
set_option maxHeartbeats 4000000 in
set_option maxRecDepth 100000 in
theorem c_Desk_reason {l : Launch} {D : va_G} {tys : List (ClassId × FieldType)} {A : Nat → Prop} (hT : tys.map (fun q => q.2) = tyS) {N : Nat} {x0 : Nat} {x1 : Int32} {h : Hp} {res : (Int32 × Hp)} (hJ : J_Desk_reason N x0 x1 h = some res) : Ct l D vwCl tys A yX6_reason (Cond.code yX6_reason cX6_reason 2 (some .int) :: wsG) rmX6_reason [.ref x0, .int x1] h (some (.int res.1)) res.2 := by
  refine Met.ofW (cc := cX6_reason) (maxL := 2) (ret := (some .int)) (by decide) rfl ?_
  intro p e s m args below meth c s₁ B hml hv
  obtain ⟨rfl, hA, hR, hK, hN⟩ := hv
  have hr := B.returns
  have hts : ∀ w ∈ wsG, w.before [.ref x0, .int x1].toArray s = true := fun w hw => atoms_spec (ws := Cond.code yX6_reason cX6_reason 2 (some .int) :: wsG) B.pre w (List.mem_cons_of_mem _ hw)
  have X : Cx p s m [.ref x0, .int x1].toArray meth c D vwCl tys cX6_reason 2 RX6 wsG := ⟨⟨B.exec, B.bytes, hml, findClass_of_methodNamed B.named, hts⟩, hK, B.notSynchronized, hT⟩
  have hx := B.exec
  have hb := B.bytes
  have I : In D vwCl tys A s h s.heap [] := ⟨hR, va_S.rf, hA⟩
  have hl := lv_entry [.ref x0, .int x1] (n := 2) (Nat.le_of_ble_eq_true rfl)
  rw [lg_entry_eq]
  generalize (lg_sl [.ref x0, .int x1] ++ List.replicate (2 - (lg_sl [.ref x0, .int x1]).length) Slot.unset).toArray = ls at hl ⊢
  have hl : lv_has ls 2 [(0, .ref x0), (1, .int x1)] := hl
  have ho := X.1.2.2.2.1
  rw [J_Desk_reason] at hJ
  refine lv_aload_n hx hb dX6_reason_0 rfl (lv_at hl 0 rfl) ?_
  refine lv_iload_n hx hb dX6_reason_1 rfl (lv_at hl 1 rfl) ?_
  obtain ⟨u9, i9, hJ⟩ := rp_b hJ
  obtain ⟨f9, i9⟩ := isO_s i9
  obtain ⟨q1, e9, hJ⟩ := rp_b hJ
  refine rp_callV (As := [.int x1]) (rest := []) X hN I (c_Desk_isThere hT e9) (cwV 1 hts (gdV wm_187 wm_188 wm_0 wm_33 wm_189) rfl rfl rfl (by decide +kernel) ⟨Nat.le_of_ble_eq_true rfl, Nat.le_of_ble_eq_true rfl⟩) i9 rfl rfl hl.1 rfl (Nat.le_of_ble_eq_true rfl) dX6_reason_2 ⟨(Nat.le_of_ble_eq_true rfl), (Nat.le_of_ble_eq_true rfl)⟩ (fun H locs I => ?_)
  refine W.cs (cells' := 0) (slots' := 0) rfl rfl ?_
  refine lv_if_eq (tgt := 24) hx hb dX6_reason_5 (by decide) (fun c9 => ?_) (fun c9 => ?_)
  · rw [if_pos c9] at hJ
    refine lv_iconst (v := -1) hx hb dX6_reason_24 (by decide) ?_
    exact rp_iret X hr hJ I dX6_reason_25
  · rw [if_neg c9] at hJ
    refine lv_aload_n hx hb dX6_reason_8 rfl (lv_at hl 0 rfl) ?_
    obtain ⟨v2, e9, hJ⟩ := rp_b hJ
    obtain ⟨f9, g9, e9⟩ := fR_s e9
    refine rp_get X I g9 e9 rfl wiX6 (by decide) wm_161 dX6_reason_9 ?_
    refine lv_iload_n hx hb dX6_reason_12 rfl (lv_at hl 1 rfl) ?_
    obtain ⟨v3, e9, hJ⟩ := rp_b hJ
    refine rp_aald X I e9 rfl dX6_reason_13 ?_
    refine lv_aload_n hx hb dX6_reason_14 rfl (lv_at hl 0 rfl) ?_
    obtain ⟨v4, e9, hJ⟩ := rp_b hJ
    obtain ⟨f9, g9, e9⟩ := fR_s e9
    refine rp_get X I g9 e9 rfl wiX6 (by decide) wm_160 dX6_reason_15 ?_
    obtain ⟨u9, i9, hJ⟩ := rp_b hJ
    obtain ⟨f9, i9⟩ := isO_s i9
    obtain ⟨q5, e9, hJ⟩ := rp_b hJ
    refine rp_callV (As := [.ref v4]) (rest := []) X hN I (c_Step_whyDue hT e9) (cwV 1 hts (gdV wm_256 wm_257 wm_258 wm_35 wm_259) rfl rfl rfl (by decide +kernel) ⟨Nat.le_of_ble_eq_true rfl, Nat.le_of_ble_eq_true rfl⟩) i9 rfl rfl hl.1 rfl (Nat.le_of_ble_eq_true rfl) dX6_reason_18 ⟨(Nat.le_of_ble_eq_true rfl), (Nat.le_of_ble_eq_true rfl)⟩ (fun H locs I => ?_)
    refine W.cs (cells' := 0) (slots' := 0) rfl rfl ?_
    refine lv_goto (tgt := 25) hx hb dX6_reason_21 (by decide) ?_
    exact rp_iret X hr hJ I dX6_reason_25
end GW
end
