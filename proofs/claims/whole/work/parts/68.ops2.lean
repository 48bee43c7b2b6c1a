section O2
variable {V : Vw} {z b z2 c N : Nat} {I P : Nat → Nat → Int32} {J : Nat → Nat → Int64} {F F2 : Nat → Option HE}
theorem file_x (x : Int32) : ((∀ h : Hp, J_Desk_isFile N x h = some (0, h)) ∧ ∀ h : Hp, J_Mod_isFile N x h = some (0, h)) ∨ ∃ f, f < 64 ∧ x = nI f ∧ (∀ h : Hp, J_Desk_isFile N x h = some (1, h)) ∧ ∀ h : Hp, J_Mod_isFile N x h = some (1, h) := by
  by_cases q1 : x < 0
  · left; constructor <;> intro h <;> simp (disch := first | assumption | omega | decide) only [J_Desk_isFile, J_Desk_isFile_14, J_Mod_isFile, J_Mod_isFile_14, ifp, ifn, Option.bind_some, n_s, n_le, n_lt, n_eq, l8, l40, l64, g40, u40, u6, u3, u0, mul6, mul3, J_bit, cmp0, b2_0, zR_b, zR_0, zR_1, up2_eq, up2_ne, up2J_eq, up2J_ne, mkv_eq, n_m1]
  by_cases q2 : (64 : Int32) ≤ x
  · left; constructor <;> intro h <;> simp (disch := first | assumption | omega | decide) only [J_Desk_isFile, J_Desk_isFile_14, J_Mod_isFile, J_Mod_isFile_14, ifp, ifn, Option.bind_some, n_s, n_le, n_lt, n_eq, l8, l40, l64, g40, u40, u6, u3, u0, mul6, mul3, J_bit, cmp0, b2_0, zR_b, zR_0, zR_1, up2_eq, up2_ne, up2J_eq, up2J_ne, mkv_eq, n_m1]
  obtain ⟨f, hf, rfl⟩ := rng64 q1 q2
  right
  refine ⟨f, hf, rfl, ?_, ?_⟩ <;> intro h <;> simp (disch := first | assumption | omega | decide) only [J_Desk_isFile, J_Desk_isFile_14, J_Mod_isFile, J_Mod_isFile_14, ifp, ifn, Option.bind_some, n_s, n_le, n_lt, n_eq, l8, l40, l64, g40, u40, u6, u3, u0, mul6, mul3, J_bit, cmp0, b2_0, zR_b, zR_0, zR_1, up2_eq, up2_ne, up2J_eq, up2J_ne, mkv_eq, n_m1]
theorem there_x (hS : PS V I P) (x : Int32) : (J_Desk_isThere N b x (z, dH b I J F) = some (0, (z, dH b I J F)) ∧ J_Mod_isStep N c x (z2, mH c (up2 P 0 0 0) F2) = some (0, (z2, mH c (up2 P 0 0 0) F2))) ∨ ∃ s, s < 40 ∧ x = nI s ∧ vth V s = true ∧ J_Desk_isThere N b x (z, dH b I J F) = some (1, (z, dH b I J F)) ∧ J_Mod_isStep N c x (z2, mH c (up2 P 0 0 0) F2) = some (1, (z2, mH c (up2 P 0 0 0) F2)) := by
  by_cases q1 : x < 0
  · left; constructor
    · simp (disch := first | assumption | omega | decide) only [J_Desk_isThere, J_Desk_isThere_23, J_Desk_isStepNumber, J_Desk_isStepNumber_14, DO_0, DR_0_0, DR_0_1, DR_0_2, DR_0_3, DR_0_4, DR_0_5, DO_1, DR_1_0, DR_1_1, DR_1_2, DA_2, DB_2, DA_3, DB_3, DA_4, DB_4, DA_5, DO_166, DR_166_0, DR_166_1, DG_166_2, DS_166_2, DR_166_3, DG_166_4, DS_166_4, DA_167, DB_167, DA_168, DB_168, DA_169, DB_169, DO_170, DR_170_0, DR_170_1, DR_170_2, DG_170_3, DS_170_3, DG_170_4, DS_170_4, DA_171, DB_171, DA_172, DB_172, DA_173, DB_173, DO_174, DG_174_0, DS_174_0, DG_174_1, DS_174_1, DG_174_2, DS_174_2, DG_174_3, DS_174_3, DR_174_4, DA_175, DB_175, DO_176, DR_176_0, DG_176_1, DS_176_1, DR_176_2, DA_177, DB_177, DA_178, DB_178, DO_st, DG_st_0, DS_st_0, DG_st_1, DS_st_1, DG_st_2, DS_st_2, DG_st_3, DS_st_3, DR_st_4, DG_st_5, DS_st_5, DR_st_6, DG_st_7, DS_st_7, DG_st_8, DS_st_8, DG_st_9, DS_st_9, DG_st_10, DS_st_10, DG_st_11, DS_st_11, DG_st_12, DS_st_12, DR_st_13, DA_st_1, DB_st_1, DA_st_2, DB_st_2, DA_st_3, DB_st_3, ifp, ifn, Option.bind_some, n_s, n_le, n_lt, n_eq, l8, l40, l64, g40, u40, u6, u3, u0, mul6, mul3, J_bit, cmp0, b2_0, zR_b, zR_0, zR_1, up2_eq, up2_ne, up2J_eq, up2J_ne, mkv_eq, n_m1]
    · simp (disch := first | assumption | omega | decide) only [J_Mod_isStep, J_Mod_isStep_23, MO_0, MG_0_0, MS_0_0, MR_0_1, MR_0_2, MR_0_3, MR_0_4, MR_0_5, MR_0_6, MR_0_7, MR_0_8, MR_0_9, MR_0_10, MR_0_11, MR_0_12, MR_0_13, MR_0_14, MR_0_15, MR_0_16, MR_0_17, MR_0_18, MR_0_19, MR_0_20, MR_0_21, MR_0_22, MR_0_23, MR_0_24, MR_0_25, MR_0_26, MG_0_27, MS_0_27, MG_0_28, MS_0_28, MG_0_29, MS_0_29, MG_0_30, MS_0_30, MG_0_31, MS_0_31, MR_0_32, MR_0_33, MR_0_34, MR_0_35, MR_0_36, MG_0_37, MS_0_37, MR_0_38, MR_0_39, MA_1, MB_1, MA_2, MB_2, MA_3, MB_3, MA_4, MB_4, MA_5, MB_5, MA_6, MB_6, MA_7, MB_7, MA_8, MB_8, MA_9, MB_9, MA_10, MB_10, MA_11, MB_11, MA_12, MB_12, MA_13, MB_13, MA_14, MB_14, MA_15, MB_15, MA_16, MB_16, MA_17, MB_17, MA_18, MB_18, MA_19, MB_19, MA_20, MB_20, MA_21, MB_21, MA_22, MB_22, MA_23, MB_23, MA_24, MB_24, MA_25, MB_25, MA_26, MB_26, MA_27, MB_27, MA_28, MB_28, MA_29, MB_29, MA_30, MB_30, MA_31, MB_31, MA_32, MB_32, MA_33, MB_33, ifp, ifn, Option.bind_some, n_s, n_le, n_lt, n_eq, l8, l40, l64, g40, u40, u6, u3, u0, mul6, mul3, J_bit, cmp0, b2_0, zR_b, zR_0, zR_1, up2_eq, up2_ne, up2J_eq, up2J_ne, mkv_eq, n_m1]
  by_cases q2 : (40 : Int32) ≤ x
  · left; constructor
    · simp (disch := first | assumption | omega | decide) only [J_Desk_isThere, J_Desk_isThere_23, J_Desk_isStepNumber, J_Desk_isStepNumber_14, DO_0, DR_0_0, DR_0_1, DR_0_2, DR_0_3, DR_0_4, DR_0_5, DO_1, DR_1_0, DR_1_1, DR_1_2, DA_2, DB_2, DA_3, DB_3, DA_4, DB_4, DA_5, DO_166, DR_166_0, DR_166_1, DG_166_2, DS_166_2, DR_166_3, DG_166_4, DS_166_4, DA_167, DB_167, DA_168, DB_168, DA_169, DB_169, DO_170, DR_170_0, DR_170_1, DR_170_2, DG_170_3, DS_170_3, DG_170_4, DS_170_4, DA_171, DB_171, DA_172, DB_172, DA_173, DB_173, DO_174, DG_174_0, DS_174_0, DG_174_1, DS_174_1, DG_174_2, DS_174_2, DG_174_3, DS_174_3, DR_174_4, DA_175, DB_175, DO_176, DR_176_0, DG_176_1, DS_176_1, DR_176_2, DA_177, DB_177, DA_178, DB_178, DO_st, DG_st_0, DS_st_0, DG_st_1, DS_st_1, DG_st_2, DS_st_2, DG_st_3, DS_st_3, DR_st_4, DG_st_5, DS_st_5, DR_st_6, DG_st_7, DS_st_7, DG_st_8, DS_st_8, DG_st_9, DS_st_9, DG_st_10, DS_st_10, DG_st_11, DS_st_11, DG_st_12, DS_st_12, DR_st_13, DA_st_1, DB_st_1, DA_st_2, DB_st_2, DA_st_3, DB_st_3, ifp, ifn, Option.bind_some, n_s, n_le, n_lt, n_eq, l8, l40, l64, g40, u40, u6, u3, u0, mul6, mul3, J_bit, cmp0, b2_0, zR_b, zR_0, zR_1, up2_eq, up2_ne, up2J_eq, up2J_ne, mkv_eq, n_m1]
    · simp (disch := first | assumption | omega | decide) only [J_Mod_isStep, J_Mod_isStep_23, MO_0, MG_0_0, MS_0_0, MR_0_1, MR_0_2, MR_0_3, MR_0_4, MR_0_5, MR_0_6, MR_0_7, MR_0_8, MR_0_9, MR_0_10, MR_0_11, MR_0_12, MR_0_13, MR_0_14, MR_0_15, MR_0_16, MR_0_17, MR_0_18, MR_0_19, MR_0_20, MR_0_21, MR_0_22, MR_0_23, MR_0_24, MR_0_25, MR_0_26, MG_0_27, MS_0_27, MG_0_28, MS_0_28, MG_0_29, MS_0_29, MG_0_30, MS_0_30, MG_0_31, MS_0_31, MR_0_32, MR_0_33, MR_0_34, MR_0_35, MR_0_36, MG_0_37, MS_0_37, MR_0_38, MR_0_39, MA_1, MB_1, MA_2, MB_2, MA_3, MB_3, MA_4, MB_4, MA_5, MB_5, MA_6, MB_6, MA_7, MB_7, MA_8, MB_8, MA_9, MB_9, MA_10, MB_10, MA_11, MB_11, MA_12, MB_12, MA_13, MB_13, MA_14, MB_14, MA_15, MB_15, MA_16, MB_16, MA_17, MB_17, MA_18, MB_18, MA_19, MB_19, MA_20, MB_20, MA_21, MB_21, MA_22, MB_22, MA_23, MB_23, MA_24, MB_24, MA_25, MB_25, MA_26, MB_26, MA_27, MB_27, MA_28, MB_28, MA_29, MB_29, MA_30, MB_30, MA_31, MB_31, MA_32, MB_32, MA_33, MB_33, ifp, ifn, Option.bind_some, n_s, n_le, n_lt, n_eq, l8, l40, l64, g40, u40, u6, u3, u0, mul6, mul3, J_bit, cmp0, b2_0, zR_b, zR_0, zR_1, up2_eq, up2_ne, up2J_eq, up2J_ne, mkv_eq, n_m1]
  obtain ⟨s, hs, rfl⟩ := rng40 q1 q2
  obtain ⟨g1, g2⟩ := hS.2.2.2.1 s hs
  have u1 : ¬ (1 : Int32) = 0 := by decide
  cases e : vth V s
  · left; constructor
    · simp (disch := first | assumption | omega | decide) only [J_Desk_isThere, J_Desk_isThere_23, J_Desk_isStepNumber, J_Desk_isStepNumber_14, g1, e, DO_0, DR_0_0, DR_0_1, DR_0_2, DR_0_3, DR_0_4, DR_0_5, DO_1, DR_1_0, DR_1_1, DR_1_2, DA_2, DB_2, DA_3, DB_3, DA_4, DB_4, DA_5, DO_166, DR_166_0, DR_166_1, DG_166_2, DS_166_2, DR_166_3, DG_166_4, DS_166_4, DA_167, DB_167, DA_168, DB_168, DA_169, DB_169, DO_170, DR_170_0, DR_170_1, DR_170_2, DG_170_3, DS_170_3, DG_170_4, DS_170_4, DA_171, DB_171, DA_172, DB_172, DA_173, DB_173, DO_174, DG_174_0, DS_174_0, DG_174_1, DS_174_1, DG_174_2, DS_174_2, DG_174_3, DS_174_3, DR_174_4, DA_175, DB_175, DO_176, DR_176_0, DG_176_1, DS_176_1, DR_176_2, DA_177, DB_177, DA_178, DB_178, DO_st, DG_st_0, DS_st_0, DG_st_1, DS_st_1, DG_st_2, DS_st_2, DG_st_3, DS_st_3, DR_st_4, DG_st_5, DS_st_5, DR_st_6, DG_st_7, DS_st_7, DG_st_8, DS_st_8, DG_st_9, DS_st_9, DG_st_10, DS_st_10, DG_st_11, DS_st_11, DG_st_12, DS_st_12, DR_st_13, DA_st_1, DB_st_1, DA_st_2, DB_st_2, DA_st_3, DB_st_3, ifp, ifn, Option.bind_some, n_s, n_le, n_lt, n_eq, l8, l40, l64, g40, u40, u6, u3, u0, mul6, mul3, J_bit, cmp0, b2_0, zR_b, zR_0, zR_1, up2_eq, up2_ne, up2J_eq, up2J_ne, mkv_eq, n_m1]
    · simp (disch := first | assumption | omega | decide) only [J_Mod_isStep, J_Mod_isStep_23, g2, e, MO_0, MG_0_0, MS_0_0, MR_0_1, MR_0_2, MR_0_3, MR_0_4, MR_0_5, MR_0_6, MR_0_7, MR_0_8, MR_0_9, MR_0_10, MR_0_11, MR_0_12, MR_0_13, MR_0_14, MR_0_15, MR_0_16, MR_0_17, MR_0_18, MR_0_19, MR_0_20, MR_0_21, MR_0_22, MR_0_23, MR_0_24, MR_0_25, MR_0_26, MG_0_27, MS_0_27, MG_0_28, MS_0_28, MG_0_29, MS_0_29, MG_0_30, MS_0_30, MG_0_31, MS_0_31, MR_0_32, MR_0_33, MR_0_34, MR_0_35, MR_0_36, MG_0_37, MS_0_37, MR_0_38, MR_0_39, MA_1, MB_1, MA_2, MB_2, MA_3, MB_3, MA_4, MB_4, MA_5, MB_5, MA_6, MB_6, MA_7, MB_7, MA_8, MB_8, MA_9, MB_9, MA_10, MB_10, MA_11, MB_11, MA_12, MB_12, MA_13, MB_13, MA_14, MB_14, MA_15, MB_15, MA_16, MB_16, MA_17, MB_17, MA_18, MB_18, MA_19, MB_19, MA_20, MB_20, MA_21, MB_21, MA_22, MB_22, MA_23, MB_23, MA_24, MB_24, MA_25, MB_25, MA_26, MB_26, MA_27, MB_27, MA_28, MB_28, MA_29, MB_29, MA_30, MB_30, MA_31, MB_31, MA_32, MB_32, MA_33, MB_33, ifp, ifn, Option.bind_some, n_s, n_le, n_lt, n_eq, l8, l40, l64, g40, u40, u6, u3, u0, mul6, mul3, J_bit, cmp0, b2_0, zR_b, zR_0, zR_1, up2_eq, up2_ne, up2J_eq, up2J_ne, mkv_eq, n_m1]
  · right
    refine ⟨s, hs, rfl, e, ?_, ?_⟩
    · simp (disch := first | assumption | omega | decide) only [J_Desk_isThere, J_Desk_isThere_23, J_Desk_isStepNumber, J_Desk_isStepNumber_14, g1, e, DO_0, DR_0_0, DR_0_1, DR_0_2, DR_0_3, DR_0_4, DR_0_5, DO_1, DR_1_0, DR_1_1, DR_1_2, DA_2, DB_2, DA_3, DB_3, DA_4, DB_4, DA_5, DO_166, DR_166_0, DR_166_1, DG_166_2, DS_166_2, DR_166_3, DG_166_4, DS_166_4, DA_167, DB_167, DA_168, DB_168, DA_169, DB_169, DO_170, DR_170_0, DR_170_1, DR_170_2, DG_170_3, DS_170_3, DG_170_4, DS_170_4, DA_171, DB_171, DA_172, DB_172, DA_173, DB_173, DO_174, DG_174_0, DS_174_0, DG_174_1, DS_174_1, DG_174_2, DS_174_2, DG_174_3, DS_174_3, DR_174_4, DA_175, DB_175, DO_176, DR_176_0, DG_176_1, DS_176_1, DR_176_2, DA_177, DB_177, DA_178, DB_178, DO_st, DG_st_0, DS_st_0, DG_st_1, DS_st_1, DG_st_2, DS_st_2, DG_st_3, DS_st_3, DR_st_4, DG_st_5, DS_st_5, DR_st_6, DG_st_7, DS_st_7, DG_st_8, DS_st_8, DG_st_9, DS_st_9, DG_st_10, DS_st_10, DG_st_11, DS_st_11, DG_st_12, DS_st_12, DR_st_13, DA_st_1, DB_st_1, DA_st_2, DB_st_2, DA_st_3, DB_st_3, ifp, ifn, Option.bind_some, n_s, n_le, n_lt, n_eq, l8, l40, l64, g40, u40, u6, u3, u0, mul6, mul3, J_bit, cmp0, b2_0, zR_b, zR_0, zR_1, up2_eq, up2_ne, up2J_eq, up2J_ne, mkv_eq, n_m1]
    · simp (disch := first | assumption | omega | decide) only [J_Mod_isStep, J_Mod_isStep_23, g2, e, MO_0, MG_0_0, MS_0_0, MR_0_1, MR_0_2, MR_0_3, MR_0_4, MR_0_5, MR_0_6, MR_0_7, MR_0_8, MR_0_9, MR_0_10, MR_0_11, MR_0_12, MR_0_13, MR_0_14, MR_0_15, MR_0_16, MR_0_17, MR_0_18, MR_0_19, MR_0_20, MR_0_21, MR_0_22, MR_0_23, MR_0_24, MR_0_25, MR_0_26, MG_0_27, MS_0_27, MG_0_28, MS_0_28, MG_0_29, MS_0_29, MG_0_30, MS_0_30, MG_0_31, MS_0_31, MR_0_32, MR_0_33, MR_0_34, MR_0_35, MR_0_36, MG_0_37, MS_0_37, MR_0_38, MR_0_39, MA_1, MB_1, MA_2, MB_2, MA_3, MB_3, MA_4, MB_4, MA_5, MB_5, MA_6, MB_6, MA_7, MB_7, MA_8, MB_8, MA_9, MB_9, MA_10, MB_10, MA_11, MB_11, MA_12, MB_12, MA_13, MB_13, MA_14, MB_14, MA_15, MB_15, MA_16, MB_16, MA_17, MB_17, MA_18, MB_18, MA_19, MB_19, MA_20, MB_20, MA_21, MB_21, MA_22, MB_22, MA_23, MB_23, MA_24, MB_24, MA_25, MB_25, MA_26, MB_26, MA_27, MB_27, MA_28, MB_28, MA_29, MB_29, MA_30, MB_30, MA_31, MB_31, MA_32, MB_32, MA_33, MB_33, ifp, ifn, Option.bind_some, n_s, n_le, n_lt, n_eq, l8, l40, l64, g40, u40, u6, u3, u0, mul6, mul3, J_bit, cmp0, b2_0, zR_b, zR_0, zR_1, up2_eq, up2_ne, up2J_eq, up2J_ne, mkv_eq, n_m1]
theorem e6 {k : Nat} (h : k < 2 ^ 31) : (nI k = (6 : Int32)) = (k = 6) := n_eq (k := 6) h (by decide)
theorem e3 {k : Nat} (h : k < 2 ^ 31) : (nI k = (3 : Int32)) = (k = 3) := n_eq (k := 3) h (by decide)
theorem o_input (hS : PS V I P) (hRD : RD I P) (x1 x2 : Int32) : ∃ v V' I' P', J_Desk_input N b x1 x2 (z, dH b I J F) = some (v, (z, dH b I' J F)) ∧ J_Mod_input N c x1 x2 (z2, mH c P F2) = some (v, (z2, mH c P' F2)) ∧ PS V' I' P' ∧ RD I' P' := by
  have u1 : ¬ (1 : Int32) = 0 := by decide
  rcases there_x (N := N) (z := z) (b := b) (z2 := z2) (c := c) (J := J) (F := F) (F2 := F2) hS x1 with ⟨t1, t2⟩ | ⟨s, hs, rfl, hth, t1, t2⟩
  · refine op_no (f := J_Desk_input N b x1 x2) (g := J_Mod_input N c x1 x2) hS hRD (v := 0) ?_ ?_
    · simp (disch := first | assumption | omega | decide) only [J_Desk_input, J_Desk_input_32, t1, DO_0, DR_0_0, DR_0_1, DR_0_2, DR_0_3, DR_0_4, DR_0_5, DO_1, DR_1_0, DR_1_1, DR_1_2, DA_2, DB_2, DA_3, DB_3, DA_4, DB_4, DA_5, DO_166, DR_166_0, DR_166_1, DG_166_2, DS_166_2, DR_166_3, DG_166_4, DS_166_4, DA_167, DB_167, DA_168, DB_168, DA_169, DB_169, DO_170, DR_170_0, DR_170_1, DR_170_2, DG_170_3, DS_170_3, DG_170_4, DS_170_4, DA_171, DB_171, DA_172, DB_172, DA_173, DB_173, DO_174, DG_174_0, DS_174_0, DG_174_1, DS_174_1, DG_174_2, DS_174_2, DG_174_3, DS_174_3, DR_174_4, DA_175, DB_175, DO_176, DR_176_0, DG_176_1, DS_176_1, DR_176_2, DA_177, DB_177, DA_178, DB_178, DO_st, DG_st_0, DS_st_0, DG_st_1, DS_st_1, DG_st_2, DS_st_2, DG_st_3, DS_st_3, DR_st_4, DG_st_5, DS_st_5, DR_st_6, DG_st_7, DS_st_7, DG_st_8, DS_st_8, DG_st_9, DS_st_9, DG_st_10, DS_st_10, DG_st_11, DS_st_11, DG_st_12, DS_st_12, DR_st_13, DA_st_1, DB_st_1, DA_st_2, DB_st_2, DA_st_3, DB_st_3, ifp, ifn, Option.bind_some, n_s, n_le, n_lt, n_eq, l8, l40, l64, g40, u40, u6, u3, u0, mul6, mul3, J_bit, cmp0, b2_0, zR_b, zR_0, zR_1, up2_eq, up2_ne, up2J_eq, up2J_ne, mkv_eq, n_m1]
    · simp (disch := first | assumption | omega | decide) only [J_Mod_input, t2, MO_0, MG_0_0, MS_0_0, MR_0_1, MR_0_2, MR_0_3, MR_0_4, MR_0_5, MR_0_6, MR_0_7, MR_0_8, MR_0_9, MR_0_10, MR_0_11, MR_0_12, MR_0_13, MR_0_14, MR_0_15, MR_0_16, MR_0_17, MR_0_18, MR_0_19, MR_0_20, MR_0_21, MR_0_22, MR_0_23, MR_0_24, MR_0_25, MR_0_26, MG_0_27, MS_0_27, MG_0_28, MS_0_28, MG_0_29, MS_0_29, MG_0_30, MS_0_30, MG_0_31, MS_0_31, MR_0_32, MR_0_33, MR_0_34, MR_0_35, MR_0_36, MG_0_37, MS_0_37, MR_0_38, MR_0_39, MA_1, MB_1, MA_2, MB_2, MA_3, MB_3, MA_4, MB_4, MA_5, MB_5, MA_6, MB_6, MA_7, MB_7, MA_8, MB_8, MA_9, MB_9, MA_10, MB_10, MA_11, MB_11, MA_12, MB_12, MA_13, MB_13, MA_14, MB_14, MA_15, MB_15, MA_16, MB_16, MA_17, MB_17, MA_18, MB_18, MA_19, MB_19, MA_20, MB_20, MA_21, MB_21, MA_22, MB_22, MA_23, MB_23, MA_24, MB_24, MA_25, MB_25, MA_26, MB_26, MA_27, MB_27, MA_28, MB_28, MA_29, MB_29, MA_30, MB_30, MA_31, MB_31, MA_32, MB_32, MA_33, MB_33, ifp, ifn, Option.bind_some, n_s, n_le, n_lt, n_eq, l8, l40, l64, g40, u40, u6, u3, u0, mul6, mul3, J_bit, cmp0, b2_0, zR_b, zR_0, zR_1, up2_eq, up2_ne, up2J_eq, up2J_ne, mkv_eq, n_m1]
  rcases file_x (N := N) x2 with ⟨f1, f2⟩ | ⟨f, hf, rfl, f1, f2⟩
  · refine op_no (f := J_Desk_input N b (nI s) x2) (g := J_Mod_input N c (nI s) x2) hS hRD (v := 0) ?_ ?_
    · simp (disch := first | assumption | omega | decide) only [J_Desk_input, J_Desk_input_32, t1, f1, DO_0, DR_0_0, DR_0_1, DR_0_2, DR_0_3, DR_0_4, DR_0_5, DO_1, DR_1_0, DR_1_1, DR_1_2, DA_2, DB_2, DA_3, DB_3, DA_4, DB_4, DA_5, DO_166, DR_166_0, DR_166_1, DG_166_2, DS_166_2, DR_166_3, DG_166_4, DS_166_4, DA_167, DB_167, DA_168, DB_168, DA_169, DB_169, DO_170, DR_170_0, DR_170_1, DR_170_2, DG_170_3, DS_170_3, DG_170_4, DS_170_4, DA_171, DB_171, DA_172, DB_172, DA_173, DB_173, DO_174, DG_174_0, DS_174_0, DG_174_1, DS_174_1, DG_174_2, DS_174_2, DG_174_3, DS_174_3, DR_174_4, DA_175, DB_175, DO_176, DR_176_0, DG_176_1, DS_176_1, DR_176_2, DA_177, DB_177, DA_178, DB_178, DO_st, DG_st_0, DS_st_0, DG_st_1, DS_st_1, DG_st_2, DS_st_2, DG_st_3, DS_st_3, DR_st_4, DG_st_5, DS_st_5, DR_st_6, DG_st_7, DS_st_7, DG_st_8, DS_st_8, DG_st_9, DS_st_9, DG_st_10, DS_st_10, DG_st_11, DS_st_11, DG_st_12, DS_st_12, DR_st_13, DA_st_1, DB_st_1, DA_st_2, DB_st_2, DA_st_3, DB_st_3, ifp, ifn, Option.bind_some, n_s, n_le, n_lt, n_eq, l8, l40, l64, g40, u40, u6, u3, u0, mul6, mul3, J_bit, cmp0, b2_0, zR_b, zR_0, zR_1, up2_eq, up2_ne, up2J_eq, up2J_ne, mkv_eq, n_m1]
    · simp (disch := first | assumption | omega | decide) only [J_Mod_input, t2, f2, MO_0, MG_0_0, MS_0_0, MR_0_1, MR_0_2, MR_0_3, MR_0_4, MR_0_5, MR_0_6, MR_0_7, MR_0_8, MR_0_9, MR_0_10, MR_0_11, MR_0_12, MR_0_13, MR_0_14, MR_0_15, MR_0_16, MR_0_17, MR_0_18, MR_0_19, MR_0_20, MR_0_21, MR_0_22, MR_0_23, MR_0_24, MR_0_25, MR_0_26, MG_0_27, MS_0_27, MG_0_28, MS_0_28, MG_0_29, MS_0_29, MG_0_30, MS_0_30, MG_0_31, MS_0_31, MR_0_32, MR_0_33, MR_0_34, MR_0_35, MR_0_36, MG_0_37, MS_0_37, MR_0_38, MR_0_39, MA_1, MB_1, MA_2, MB_2, MA_3, MB_3, MA_4, MB_4, MA_5, MB_5, MA_6, MB_6, MA_7, MB_7, MA_8, MB_8, MA_9, MB_9, MA_10, MB_10, MA_11, MB_11, MA_12, MB_12, MA_13, MB_13, MA_14, MB_14, MA_15, MB_15, MA_16, MB_16, MA_17, MB_17, MA_18, MB_18, MA_19, MB_19, MA_20, MB_20, MA_21, MB_21, MA_22, MB_22, MA_23, MB_23, MA_24, MB_24, MA_25, MB_25, MA_26, MB_26, MA_27, MB_27, MA_28, MB_28, MA_29, MB_29, MA_30, MB_30, MA_31, MB_31, MA_32, MB_32, MA_33, MB_33, ifp, ifn, Option.bind_some, n_s, n_le, n_lt, n_eq, l8, l40, l64, g40, u40, u6, u3, u0, mul6, mul3, J_bit, cmp0, b2_0, zR_b, zR_0, zR_1, up2_eq, up2_ne, up2J_eq, up2J_ne, mkv_eq, n_m1]
  have i5 := (hS.2.1.1 s hs).1
  have p8 := (hS.2.2.1.1 s hs hth).1
  have a2 := hS.1.1 s hs
  by_cases q : vic V s = 6
  · refine op_no (f := J_Desk_input N b (nI s) (nI f)) (g := J_Mod_input N c (nI s) (nI f)) hS hRD (v := 0) ?_ ?_
    · simp (disch := first | assumption | omega | decide) only [J_Desk_input, J_Desk_input_32, t1, f1, J_Step_addInput, i5, DO_0, DR_0_0, DR_0_1, DR_0_2, DR_0_3, DR_0_4, DR_0_5, DO_1, DR_1_0, DR_1_1, DR_1_2, DA_2, DB_2, DA_3, DB_3, DA_4, DB_4, DA_5, DO_166, DR_166_0, DR_166_1, DG_166_2, DS_166_2, DR_166_3, DG_166_4, DS_166_4, DA_167, DB_167, DA_168, DB_168, DA_169, DB_169, DO_170, DR_170_0, DR_170_1, DR_170_2, DG_170_3, DS_170_3, DG_170_4, DS_170_4, DA_171, DB_171, DA_172, DB_172, DA_173, DB_173, DO_174, DG_174_0, DS_174_0, DG_174_1, DS_174_1, DG_174_2, DS_174_2, DG_174_3, DS_174_3, DR_174_4, DA_175, DB_175, DO_176, DR_176_0, DG_176_1, DS_176_1, DR_176_2, DA_177, DB_177, DA_178, DB_178, DO_st, DG_st_0, DS_st_0, DG_st_1, DS_st_1, DG_st_2, DS_st_2, DG_st_3, DS_st_3, DR_st_4, DG_st_5, DS_st_5, DR_st_6, DG_st_7, DS_st_7, DG_st_8, DS_st_8, DG_st_9, DS_st_9, DG_st_10, DS_st_10, DG_st_11, DS_st_11, DG_st_12, DS_st_12, DR_st_13, DA_st_1, DB_st_1, DA_st_2, DB_st_2, DA_st_3, DB_st_3, ifp, ifn, Option.bind_some, n_s, n_le, n_lt, n_eq, l8, l40, l64, g40, u40, u6, u3, u0, mul6, mul3, J_bit, cmp0, b2_0, zR_b, zR_0, zR_1, up2_eq, up2_ne, up2J_eq, up2J_ne, mkv_eq, n_m1]
    · simp (disch := first | assumption | omega | decide) only [J_Mod_input, t2, f2, p8, e6, MO_0, MG_0_0, MS_0_0, MR_0_1, MR_0_2, MR_0_3, MR_0_4, MR_0_5, MR_0_6, MR_0_7, MR_0_8, MR_0_9, MR_0_10, MR_0_11, MR_0_12, MR_0_13, MR_0_14, MR_0_15, MR_0_16, MR_0_17, MR_0_18, MR_0_19, MR_0_20, MR_0_21, MR_0_22, MR_0_23, MR_0_24, MR_0_25, MR_0_26, MG_0_27, MS_0_27, MG_0_28, MS_0_28, MG_0_29, MS_0_29, MG_0_30, MS_0_30, MG_0_31, MS_0_31, MR_0_32, MR_0_33, MR_0_34, MR_0_35, MR_0_36, MG_0_37, MS_0_37, MR_0_38, MR_0_39, MA_1, MB_1, MA_2, MB_2, MA_3, MB_3, MA_4, MB_4, MA_5, MB_5, MA_6, MB_6, MA_7, MB_7, MA_8, MB_8, MA_9, MB_9, MA_10, MB_10, MA_11, MB_11, MA_12, MB_12, MA_13, MB_13, MA_14, MB_14, MA_15, MB_15, MA_16, MB_16, MA_17, MB_17, MA_18, MB_18, MA_19, MB_19, MA_20, MB_20, MA_21, MB_21, MA_22, MB_22, MA_23, MB_23, MA_24, MB_24, MA_25, MB_25, MA_26, MB_26, MA_27, MB_27, MA_28, MB_28, MA_29, MB_29, MA_30, MB_30, MA_31, MB_31, MA_32, MB_32, MA_33, MB_33, ifp, ifn, Option.bind_some, n_s, n_le, n_lt, n_eq, l8, l40, l64, g40, u40, u6, u3, u0, mul6, mul3, J_bit, cmp0, b2_0, zR_b, zR_0, zR_1, up2_eq, up2_ne, up2J_eq, up2J_ne, mkv_eq, n_m1]
  obtain ⟨h1, h2, h3, h4, h5, h6, h7, h8, h9, ⟨tl, h10, h11⟩, h12, h13⟩ := hS
  have ics : vic (vup (vup V 4 (6 * s + vic V s) f) 0 s (vic V s + 1)) s = vic V s + 1 := by simp (disch := first | assumption | omega | decide) only [vic, vup_eq]
  have icn : ∀ t, t ≠ s → vic (vup (vup V 4 (6 * s + vic V s) f) 0 s (vic V s + 1)) t = vic V t := fun t ht => by simp (disch := first | assumption | omega | decide) only [vic, vup_ne]
  have e_oc : ∀ t, voc (vup (vup V 4 (6 * s + vic V s) f) 0 s (vic V s + 1)) t = voc V t := fun t => by simp (disch := first | assumption | omega | decide) only [voc, vup_ne]
  have e_du : ∀ t, vdu (vup (vup V 4 (6 * s + vic V s) f) 0 s (vic V s + 1)) t = vdu V t := fun t => by simp (disch := first | assumption | omega | decide) only [vdu, vup_ne]
  have e_mk : ∀ t, vmk (vup (vup V 4 (6 * s + vic V s) f) 0 s (vic V s + 1)) t = vmk V t := fun t => by simp (disch := first | assumption | omega | decide) only [vmk, vup_ne]
  have e_ou : ∀ t k, vou (vup (vup V 4 (6 * s + vic V s) f) 0 s (vic V s + 1)) t k = vou V t k := fun t k => by simp (disch := first | assumption | omega | decide) only [vou, vup_ne]
  have e_th : ∀ t, vth (vup (vup V 4 (6 * s + vic V s) f) 0 s (vic V s + 1)) t = vth V t := fun t => by simp (disch := first | assumption | omega | decide) only [vth, vup_ne]
  have ins : vin (vup (vup V 4 (6 * s + vic V s) f) 0 s (vic V s + 1)) s (vic V s) = f := by simp (disch := first | assumption | omega | decide) only [vin, vup_ne, vup_eq]
  have inn : ∀ t k, 6 * t + k ≠ 6 * s + vic V s → vin (vup (vup V 4 (6 * s + vic V s) f) 0 s (vic V s + 1)) t k = vin V t k := fun t k ht => by simp (disch := first | assumption | omega | decide) only [vin, vup_ne]
  have g0 : ∀ t k, t < 40 → k < vic (vup (vup V 4 (6 * s + vic V s) f) 0 s (vic V s + 1)) t → (t = s ∧ k = vic V s) ∨ (k < vic V t ∧ 6 * t + k ≠ 6 * s + vic V s) := by
    intro t k ht hk
    by_cases q1 : t = s
    · subst q1; rw [ics] at hk
      by_cases q2 : k = vic V t
      · exact Or.inl ⟨rfl, q2⟩
      · right; omega
    · rw [icn t q1] at hk
      have := (h1.1 t ht).1
      right; omega
  refine ⟨1, vup (vup V 4 (6 * s + vic V s) f) 0 s (vic V s + 1), up2 (up2 I (6 + 4 * s + 1) (vic V s) (nI f)) (6 + 4 * s) 5 (nI (vic V s + 1)), up2 (up2 (up2 P 0 0 0) 10 (6 * s + vic V s) (nI f)) 8 s (nI (vic V s + 1)), ?_, ?_, ⟨⟨fun t ht => ?_, fun t k ht hk => ?_, fun t k ht hk => ?_, fun g hg => ?_, fun g hg hm => ?_, fun t ht hh => ?_, fun t ht hh => ?_⟩, ⟨fun t ht => ?_, fun t k ht hk => ?_, fun t k ht hk => ?_, fun g hg => ?_⟩, ⟨fun t ht hh => ?_, fun t k ht hh hk => ?_, fun t k ht hh hk => ?_, fun g hg => ?_, fun t ht => ?_⟩, fun t ht => ?_, fun g hg => ?_, fun t ht => ?_, fun t ht hh => ?_, fun t k ht hk _ => ?_, fun t ht hh => ?_, ⟨tl, h10, ?_, ?_, ?_, fun k hk => ?_⟩, ?_, ?_⟩, RD_c hRD (fun o k ho => ?_) (fun k => ?_) ?_⟩
  · simp (disch := first | assumption | omega | decide) only [J_Desk_input, J_Desk_input_32, t1, f1, J_Step_addInput, i5, DO_0, DR_0_0, DR_0_1, DR_0_2, DR_0_3, DR_0_4, DR_0_5, DO_1, DR_1_0, DR_1_1, DR_1_2, DA_2, DB_2, DA_3, DB_3, DA_4, DB_4, DA_5, DO_166, DR_166_0, DR_166_1, DG_166_2, DS_166_2, DR_166_3, DG_166_4, DS_166_4, DA_167, DB_167, DA_168, DB_168, DA_169, DB_169, DO_170, DR_170_0, DR_170_1, DR_170_2, DG_170_3, DS_170_3, DG_170_4, DS_170_4, DA_171, DB_171, DA_172, DB_172, DA_173, DB_173, DO_174, DG_174_0, DS_174_0, DG_174_1, DS_174_1, DG_174_2, DS_174_2, DG_174_3, DS_174_3, DR_174_4, DA_175, DB_175, DO_176, DR_176_0, DG_176_1, DS_176_1, DR_176_2, DA_177, DB_177, DA_178, DB_178, DO_st, DG_st_0, DS_st_0, DG_st_1, DS_st_1, DG_st_2, DS_st_2, DG_st_3, DS_st_3, DR_st_4, DG_st_5, DS_st_5, DR_st_6, DG_st_7, DS_st_7, DG_st_8, DS_st_8, DG_st_9, DS_st_9, DG_st_10, DS_st_10, DG_st_11, DS_st_11, DG_st_12, DS_st_12, DR_st_13, DA_st_1, DB_st_1, DA_st_2, DB_st_2, DA_st_3, DB_st_3, ifp, ifn, Option.bind_some, n_s, n_le, n_lt, n_eq, l8, l40, l64, g40, u40, u6, u3, u0, mul6, mul3, J_bit, cmp0, b2_0, zR_b, zR_0, zR_1, up2_eq, up2_ne, up2J_eq, up2J_ne, mkv_eq, n_m1]
  · simp (disch := first | assumption | omega | decide) only [J_Mod_input, t2, f2, p8, e6, MO_0, MG_0_0, MS_0_0, MR_0_1, MR_0_2, MR_0_3, MR_0_4, MR_0_5, MR_0_6, MR_0_7, MR_0_8, MR_0_9, MR_0_10, MR_0_11, MR_0_12, MR_0_13, MR_0_14, MR_0_15, MR_0_16, MR_0_17, MR_0_18, MR_0_19, MR_0_20, MR_0_21, MR_0_22, MR_0_23, MR_0_24, MR_0_25, MR_0_26, MG_0_27, MS_0_27, MG_0_28, MS_0_28, MG_0_29, MS_0_29, MG_0_30, MS_0_30, MG_0_31, MS_0_31, MR_0_32, MR_0_33, MR_0_34, MR_0_35, MR_0_36, MG_0_37, MS_0_37, MR_0_38, MR_0_39, MA_1, MB_1, MA_2, MB_2, MA_3, MB_3, MA_4, MB_4, MA_5, MB_5, MA_6, MB_6, MA_7, MB_7, MA_8, MB_8, MA_9, MB_9, MA_10, MB_10, MA_11, MB_11, MA_12, MB_12, MA_13, MB_13, MA_14, MB_14, MA_15, MB_15, MA_16, MB_16, MA_17, MB_17, MA_18, MB_18, MA_19, MB_19, MA_20, MB_20, MA_21, MB_21, MA_22, MB_22, MA_23, MB_23, MA_24, MB_24, MA_25, MB_25, MA_26, MB_26, MA_27, MB_27, MA_28, MB_28, MA_29, MB_29, MA_30, MB_30, MA_31, MB_31, MA_32, MB_32, MA_33, MB_33, ifp, ifn, Option.bind_some, n_s, n_le, n_lt, n_eq, l8, l40, l64, g40, u40, u6, u3, u0, mul6, mul3, J_bit, cmp0, b2_0, zR_b, zR_0, zR_1, up2_eq, up2_ne, up2J_eq, up2J_ne, mkv_eq, n_m1]
  · rw [e_oc, e_du]
    have := h1.1 t ht
    by_cases q1 : t = s
    · subst q1; rw [ics]; omega
    · rw [icn t q1]; exact this
  · rcases g0 t k ht hk with ⟨rfl, rfl⟩ | ⟨g1, g2⟩
    · rw [ins]; exact hf
    · rw [inn t k g2]; exact h1.2.1 t k ht g1
  · rw [e_ou, e_mk]; rw [e_oc] at hk; exact h1.2.2.1 t k ht hk
  · rw [e_mk]; exact h1.2.2.2.1 g hg
  · rw [e_mk] at hm ⊢
    rw [e_th, e_oc]; simp only [e_ou]; exact h1.2.2.2.2.1 g hg hm
  · rw [e_du]; rw [e_th] at hh; exact h1.2.2.2.2.2.1 t ht hh
  · rw [e_th] at hh
    have q1 : t ≠ s := by intro q; rw [q, hth] at hh; exact absurd hh (by simp)
    rw [icn t q1, e_oc]; exact h1.2.2.2.2.2.2 t ht hh
  · rw [e_oc, e_du]
    by_cases q1 : t = s
    · subst q1; rw [ics]; simp (disch := first | assumption | omega | decide) only [up2_ne, up2_eq, h2.1 t ht]; simp
    · rw [icn t q1]; simp (disch := first | assumption | omega | decide) only [up2_ne]; exact h2.1 t ht
  · rcases g0 t k ht hk with ⟨rfl, rfl⟩ | ⟨g1, g2⟩
    · rw [ins]; simp (disch := first | assumption | omega | decide) only [up2_ne, up2_eq]
    · rw [inn t k g2]; simp (disch := first | assumption | omega | decide) only [up2_ne]; exact h2.2.1 t k ht g1
  · rw [e_oc] at hk; rw [e_ou]; simp (disch := first | assumption | omega | decide) only [up2_ne]; exact h2.2.2.1 t k ht hk
  · rw [e_mk]; simp (disch := first | assumption | omega | decide) only [up2_ne]; exact h2.2.2.2 g hg
  · rw [e_th] at hh; rw [e_oc]
    by_cases q1 : t = s
    · subst q1; rw [ics]; simp (disch := first | assumption | omega | decide) only [up2_ne, up2_eq, h3.1 t ht hh]; simp
    · rw [icn t q1]; simp (disch := first | assumption | omega | decide) only [up2_ne]; exact h3.1 t ht hh
  · rw [e_th] at hh
    rcases g0 t k ht hk with ⟨rfl, rfl⟩ | ⟨g1, g2⟩
    · rw [ins]; simp (disch := first | assumption | omega | decide) only [up2_ne, up2_eq]
    · rw [inn t k g2]; simp (disch := first | assumption | omega | decide) only [up2_ne]; exact h3.2.1 t k ht hh g1
  · rw [e_th] at hh; rw [e_oc] at hk; rw [e_ou]; simp (disch := first | assumption | omega | decide) only [up2_ne]; exact h3.2.2.1 t k ht hh hk
  · rw [e_mk]; simp (disch := first | assumption | omega | decide) only [up2_ne]; exact h3.2.2.2.1 g hg
  · rw [e_du]; simp (disch := first | assumption | omega | decide) only [up2_ne]; exact h3.2.2.2.2 t ht
  · rw [e_th]; simp (disch := first | assumption | omega | decide) only [up2_ne]; exact h4 t ht
  · simp (disch := first | assumption | omega | decide) only [up2_ne]; exact h5 g hg
  · simp (disch := first | assumption | omega | decide) only [up2_ne]; exact h6 t ht
  · rw [e_th] at hh
    obtain ⟨r1, r2, r3⟩ := h7 t ht hh
    simp (disch := first | assumption | omega | decide) only [up2_ne]
    refine ⟨r1, r2, fun hd => ?_⟩
    obtain ⟨oi, oo, o1, o2, o3, o4, o5, o6⟩ := r3 hd
    refine ⟨oi, oo, ?_, ?_, ?_, by rw [e_oc]; exact o4, fun k hk => ?_, fun k hk => ?_⟩
    · simp (disch := first | assumption | omega | decide) only [up2_ne]; exact o1
    · simp (disch := first | assumption | omega | decide) only [up2_ne]; exact o2
    · by_cases q1 : t = s
      · subst q1; rw [ics]; omega
      · rw [icn t q1]; exact o3
    · have := (h1.1 t ht).1
      rw [inn t k (by by_cases q1 : t = s; subst q1; omega; omega)]; simp (disch := first | assumption | omega | decide) only [up2_ne]; exact o5 k hk
    · rw [e_ou]; simp (disch := first | assumption | omega | decide) only [up2_ne]; exact o6 k hk
  · simp (disch := first | assumption | omega | decide) only [up2_ne]; exact h8 t k ht hk (Or.inl rfl)
  · rw [e_th] at hh; simp (disch := first | assumption | omega | decide) only [up2_ne]; exact h9 t ht hh
  · simp (disch := first | assumption | omega | decide) only [up2_ne]; exact h11.1
  · simp (disch := first | assumption | omega | decide) only [up2_ne]; exact h11.2.1
  · simp (disch := first | assumption | omega | decide) only [up2_ne]; exact h11.2.2.1
  · simp (disch := first | assumption | omega | decide) only [up2_ne]; exact h11.2.2.2 k hk
  · simp (disch := first | assumption | omega | decide) only [up2_ne]; exact h12
  · simp (disch := first | assumption | omega | decide) only [up2_ne]; exact h13
  · simp (disch := first | assumption | omega | decide) only [up2_ne]
  · simp (disch := first | assumption | omega | decide) only [up2_ne]
  · simp (disch := first | assumption | omega | decide) only [up2_ne]
theorem o_output (hS : PS V I P) (hRD : RD I P) (x1 x2 : Int32) : ∃ v V' I' P', J_Desk_output N b x1 x2 (z, dH b I J F) = some (v, (z, dH b I' J F)) ∧ J_Mod_output N c x1 x2 (z2, mH c P F2) = some (v, (z2, mH c P' F2)) ∧ PS V' I' P' ∧ RD I' P' := by
  have u1 : ¬ (1 : Int32) = 0 := by decide
  rcases there_x (N := N) (z := z) (b := b) (z2 := z2) (c := c) (J := J) (F := F) (F2 := F2) hS x1 with ⟨t1, t2⟩ | ⟨s, hs, rfl, hth, t1, t2⟩
  · refine op_no (f := J_Desk_output N b x1 x2) (g := J_Mod_output N c x1 x2) hS hRD (v := 0) ?_ ?_
    · simp (disch := first | assumption | omega | decide) only [J_Desk_output, t1, DO_0, DR_0_0, DR_0_1, DR_0_2, DR_0_3, DR_0_4, DR_0_5, DO_1, DR_1_0, DR_1_1, DR_1_2, DA_2, DB_2, DA_3, DB_3, DA_4, DB_4, DA_5, DO_166, DR_166_0, DR_166_1, DG_166_2, DS_166_2, DR_166_3, DG_166_4, DS_166_4, DA_167, DB_167, DA_168, DB_168, DA_169, DB_169, DO_170, DR_170_0, DR_170_1, DR_170_2, DG_170_3, DS_170_3, DG_170_4, DS_170_4, DA_171, DB_171, DA_172, DB_172, DA_173, DB_173, DO_174, DG_174_0, DS_174_0, DG_174_1, DS_174_1, DG_174_2, DS_174_2, DG_174_3, DS_174_3, DR_174_4, DA_175, DB_175, DO_176, DR_176_0, DG_176_1, DS_176_1, DR_176_2, DA_177, DB_177, DA_178, DB_178, DO_st, DG_st_0, DS_st_0, DG_st_1, DS_st_1, DG_st_2, DS_st_2, DG_st_3, DS_st_3, DR_st_4, DG_st_5, DS_st_5, DR_st_6, DG_st_7, DS_st_7, DG_st_8, DS_st_8, DG_st_9, DS_st_9, DG_st_10, DS_st_10, DG_st_11, DS_st_11, DG_st_12, DS_st_12, DR_st_13, DA_st_1, DB_st_1, DA_st_2, DB_st_2, DA_st_3, DB_st_3, ifp, ifn, Option.bind_some, n_s, n_le, n_lt, n_eq, l8, l40, l64, g40, u40, u6, u3, u0, mul6, mul3, J_bit, cmp0, b2_0, zR_b, zR_0, zR_1, up2_eq, up2_ne, up2J_eq, up2J_ne, mkv_eq, n_m1]
    · simp (disch := first | assumption | omega | decide) only [J_Mod_output, t2, MO_0, MG_0_0, MS_0_0, MR_0_1, MR_0_2, MR_0_3, MR_0_4, MR_0_5, MR_0_6, MR_0_7, MR_0_8, MR_0_9, MR_0_10, MR_0_11, MR_0_12, MR_0_13, MR_0_14, MR_0_15, MR_0_16, MR_0_17, MR_0_18, MR_0_19, MR_0_20, MR_0_21, MR_0_22, MR_0_23, MR_0_24, MR_0_25, MR_0_26, MG_0_27, MS_0_27, MG_0_28, MS_0_28, MG_0_29, MS_0_29, MG_0_30, MS_0_30, MG_0_31, MS_0_31, MR_0_32, MR_0_33, MR_0_34, MR_0_35, MR_0_36, MG_0_37, MS_0_37, MR_0_38, MR_0_39, MA_1, MB_1, MA_2, MB_2, MA_3, MB_3, MA_4, MB_4, MA_5, MB_5, MA_6, MB_6, MA_7, MB_7, MA_8, MB_8, MA_9, MB_9, MA_10, MB_10, MA_11, MB_11, MA_12, MB_12, MA_13, MB_13, MA_14, MB_14, MA_15, MB_15, MA_16, MB_16, MA_17, MB_17, MA_18, MB_18, MA_19, MB_19, MA_20, MB_20, MA_21, MB_21, MA_22, MB_22, MA_23, MB_23, MA_24, MB_24, MA_25, MB_25, MA_26, MB_26, MA_27, MB_27, MA_28, MB_28, MA_29, MB_29, MA_30, MB_30, MA_31, MB_31, MA_32, MB_32, MA_33, MB_33, ifp, ifn, Option.bind_some, n_s, n_le, n_lt, n_eq, l8, l40, l64, g40, u40, u6, u3, u0, mul6, mul3, J_bit, cmp0, b2_0, zR_b, zR_0, zR_1, up2_eq, up2_ne, up2J_eq, up2J_ne, mkv_eq, n_m1]
  rcases file_x (N := N) x2 with ⟨f1, f2⟩ | ⟨f, hf, rfl, f1, f2⟩
  · refine op_no (f := J_Desk_output N b (nI s) x2) (g := J_Mod_output N c (nI s) x2) hS hRD (v := 0) ?_ ?_
    · simp (disch := first | assumption | omega | decide) only [J_Desk_output, J_Desk_isSource, J_Desk_isSource_23, t1, f1, DO_0, DR_0_0, DR_0_1, DR_0_2, DR_0_3, DR_0_4, DR_0_5, DO_1, DR_1_0, DR_1_1, DR_1_2, DA_2, DB_2, DA_3, DB_3, DA_4, DB_4, DA_5, DO_166, DR_166_0, DR_166_1, DG_166_2, DS_166_2, DR_166_3, DG_166_4, DS_166_4, DA_167, DB_167, DA_168, DB_168, DA_169, DB_169, DO_170, DR_170_0, DR_170_1, DR_170_2, DG_170_3, DS_170_3, DG_170_4, DS_170_4, DA_171, DB_171, DA_172, DB_172, DA_173, DB_173, DO_174, DG_174_0, DS_174_0, DG_174_1, DS_174_1, DG_174_2, DS_174_2, DG_174_3, DS_174_3, DR_174_4, DA_175, DB_175, DO_176, DR_176_0, DG_176_1, DS_176_1, DR_176_2, DA_177, DB_177, DA_178, DB_178, DO_st, DG_st_0, DS_st_0, DG_st_1, DS_st_1, DG_st_2, DS_st_2, DG_st_3, DS_st_3, DR_st_4, DG_st_5, DS_st_5, DR_st_6, DG_st_7, DS_st_7, DG_st_8, DS_st_8, DG_st_9, DS_st_9, DG_st_10, DS_st_10, DG_st_11, DS_st_11, DG_st_12, DS_st_12, DR_st_13, DA_st_1, DB_st_1, DA_st_2, DB_st_2, DA_st_3, DB_st_3, ifp, ifn, Option.bind_some, n_s, n_le, n_lt, n_eq, l8, l40, l64, g40, u40, u6, u3, u0, mul6, mul3, J_bit, cmp0, b2_0, zR_b, zR_0, zR_1, up2_eq, up2_ne, up2J_eq, up2J_ne, mkv_eq, n_m1]
    · simp (disch := first | assumption | omega | decide) only [J_Mod_output, t2, f2, MO_0, MG_0_0, MS_0_0, MR_0_1, MR_0_2, MR_0_3, MR_0_4, MR_0_5, MR_0_6, MR_0_7, MR_0_8, MR_0_9, MR_0_10, MR_0_11, MR_0_12, MR_0_13, MR_0_14, MR_0_15, MR_0_16, MR_0_17, MR_0_18, MR_0_19, MR_0_20, MR_0_21, MR_0_22, MR_0_23, MR_0_24, MR_0_25, MR_0_26, MG_0_27, MS_0_27, MG_0_28, MS_0_28, MG_0_29, MS_0_29, MG_0_30, MS_0_30, MG_0_31, MS_0_31, MR_0_32, MR_0_33, MR_0_34, MR_0_35, MR_0_36, MG_0_37, MS_0_37, MR_0_38, MR_0_39, MA_1, MB_1, MA_2, MB_2, MA_3, MB_3, MA_4, MB_4, MA_5, MB_5, MA_6, MB_6, MA_7, MB_7, MA_8, MB_8, MA_9, MB_9, MA_10, MB_10, MA_11, MB_11, MA_12, MB_12, MA_13, MB_13, MA_14, MB_14, MA_15, MB_15, MA_16, MB_16, MA_17, MB_17, MA_18, MB_18, MA_19, MB_19, MA_20, MB_20, MA_21, MB_21, MA_22, MB_22, MA_23, MB_23, MA_24, MB_24, MA_25, MB_25, MA_26, MB_26, MA_27, MB_27, MA_28, MB_28, MA_29, MB_29, MA_30, MB_30, MA_31, MB_31, MA_32, MB_32, MA_33, MB_33, ifp, ifn, Option.bind_some, n_s, n_le, n_lt, n_eq, l8, l40, l64, g40, u40, u6, u3, u0, mul6, mul3, J_bit, cmp0, b2_0, zR_b, zR_0, zR_1, up2_eq, up2_ne, up2J_eq, up2J_ne, mkv_eq, n_m1]
  have i4 := hS.2.1.2.2.2 f hf
  have p3 := hS.2.2.1.2.2.2.1 f hf
  have i7 := (hS.2.1.1 s hs).2.1
  have p9 := (hS.2.2.1.1 s hs hth).2
  have a2 := hS.1.1 s hs
  have a4 := hS.1.2.2.2.1 f hf
  by_cases q0 : 40 ≤ vmk V f
  rotate_left
  · refine op_no (f := J_Desk_output N b (nI s) (nI f)) (g := J_Mod_output N c (nI s) (nI f)) hS hRD (v := 0) ?_ ?_
    · simp (disch := first | assumption | omega | decide) only [J_Desk_output, J_Desk_isSource, J_Desk_isSource_23, t1, f1, J_File_makerOf, i4, DO_0, DR_0_0, DR_0_1, DR_0_2, DR_0_3, DR_0_4, DR_0_5, DO_1, DR_1_0, DR_1_1, DR_1_2, DA_2, DB_2, DA_3, DB_3, DA_4, DB_4, DA_5, DO_166, DR_166_0, DR_166_1, DG_166_2, DS_166_2, DR_166_3, DG_166_4, DS_166_4, DA_167, DB_167, DA_168, DB_168, DA_169, DB_169, DO_170, DR_170_0, DR_170_1, DR_170_2, DG_170_3, DS_170_3, DG_170_4, DS_170_4, DA_171, DB_171, DA_172, DB_172, DA_173, DB_173, DO_174, DG_174_0, DS_174_0, DG_174_1, DS_174_1, DG_174_2, DS_174_2, DG_174_3, DS_174_3, DR_174_4, DA_175, DB_175, DO_176, DR_176_0, DG_176_1, DS_176_1, DR_176_2, DA_177, DB_177, DA_178, DB_178, DO_st, DG_st_0, DS_st_0, DG_st_1, DS_st_1, DG_st_2, DS_st_2, DG_st_3, DS_st_3, DR_st_4, DG_st_5, DS_st_5, DR_st_6, DG_st_7, DS_st_7, DG_st_8, DS_st_8, DG_st_9, DS_st_9, DG_st_10, DS_st_10, DG_st_11, DS_st_11, DG_st_12, DS_st_12, DR_st_13, DA_st_1, DB_st_1, DA_st_2, DB_st_2, DA_st_3, DB_st_3, ifp, ifn, Option.bind_some, n_s, n_le, n_lt, n_eq, l8, l40, l64, g40, u40, u6, u3, u0, mul6, mul3, J_bit, cmp0, b2_0, zR_b, zR_0, zR_1, up2_eq, up2_ne, up2J_eq, up2J_ne, mkv_eq, n_m1]
    · simp (disch := first | assumption | omega | decide) only [J_Mod_output, t2, f2, p3, MO_0, MG_0_0, MS_0_0, MR_0_1, MR_0_2, MR_0_3, MR_0_4, MR_0_5, MR_0_6, MR_0_7, MR_0_8, MR_0_9, MR_0_10, MR_0_11, MR_0_12, MR_0_13, MR_0_14, MR_0_15, MR_0_16, MR_0_17, MR_0_18, MR_0_19, MR_0_20, MR_0_21, MR_0_22, MR_0_23, MR_0_24, MR_0_25, MR_0_26, MG_0_27, MS_0_27, MG_0_28, MS_0_28, MG_0_29, MS_0_29, MG_0_30, MS_0_30, MG_0_31, MS_0_31, MR_0_32, MR_0_33, MR_0_34, MR_0_35, MR_0_36, MG_0_37, MS_0_37, MR_0_38, MR_0_39, MA_1, MB_1, MA_2, MB_2, MA_3, MB_3, MA_4, MB_4, MA_5, MB_5, MA_6, MB_6, MA_7, MB_7, MA_8, MB_8, MA_9, MB_9, MA_10, MB_10, MA_11, MB_11, MA_12, MB_12, MA_13, MB_13, MA_14, MB_14, MA_15, MB_15, MA_16, MB_16, MA_17, MB_17, MA_18, MB_18, MA_19, MB_19, MA_20, MB_20, MA_21, MB_21, MA_22, MB_22, MA_23, MB_23, MA_24, MB_24, MA_25, MB_25, MA_26, MB_26, MA_27, MB_27, MA_28, MB_28, MA_29, MB_29, MA_30, MB_30, MA_31, MB_31, MA_32, MB_32, MA_33, MB_33, ifp, ifn, Option.bind_some, n_s, n_le, n_lt, n_eq, l8, l40, l64, g40, u40, u6, u3, u0, mul6, mul3, J_bit, cmp0, b2_0, zR_b, zR_0, zR_1, up2_eq, up2_ne, up2J_eq, up2J_ne, mkv_eq, n_m1]
  by_cases q : voc V s = 3
  · refine op_no (f := J_Desk_output N b (nI s) (nI f)) (g := J_Mod_output N c (nI s) (nI f)) hS hRD (v := 0) ?_ ?_
    · simp (disch := first | assumption | omega | decide) only [J_Desk_output, J_Desk_isSource, J_Desk_isSource_23, t1, f1, J_File_makerOf, i4, J_Step_addOutput, i7, DO_0, DR_0_0, DR_0_1, DR_0_2, DR_0_3, DR_0_4, DR_0_5, DO_1, DR_1_0, DR_1_1, DR_1_2, DA_2, DB_2, DA_3, DB_3, DA_4, DB_4, DA_5, DO_166, DR_166_0, DR_166_1, DG_166_2, DS_166_2, DR_166_3, DG_166_4, DS_166_4, DA_167, DB_167, DA_168, DB_168, DA_169, DB_169, DO_170, DR_170_0, DR_170_1, DR_170_2, DG_170_3, DS_170_3, DG_170_4, DS_170_4, DA_171, DB_171, DA_172, DB_172, DA_173, DB_173, DO_174, DG_174_0, DS_174_0, DG_174_1, DS_174_1, DG_174_2, DS_174_2, DG_174_3, DS_174_3, DR_174_4, DA_175, DB_175, DO_176, DR_176_0, DG_176_1, DS_176_1, DR_176_2, DA_177, DB_177, DA_178, DB_178, DO_st, DG_st_0, DS_st_0, DG_st_1, DS_st_1, DG_st_2, DS_st_2, DG_st_3, DS_st_3, DR_st_4, DG_st_5, DS_st_5, DR_st_6, DG_st_7, DS_st_7, DG_st_8, DS_st_8, DG_st_9, DS_st_9, DG_st_10, DS_st_10, DG_st_11, DS_st_11, DG_st_12, DS_st_12, DR_st_13, DA_st_1, DB_st_1, DA_st_2, DB_st_2, DA_st_3, DB_st_3, ifp, ifn, Option.bind_some, n_s, n_le, n_lt, n_eq, l8, l40, l64, g40, u40, u6, u3, u0, mul6, mul3, J_bit, cmp0, b2_0, zR_b, zR_0, zR_1, up2_eq, up2_ne, up2J_eq, up2J_ne, mkv_eq, n_m1]
    · simp (disch := first | assumption | omega | decide) only [J_Mod_output, t2, f2, p3, p9, e3, MO_0, MG_0_0, MS_0_0, MR_0_1, MR_0_2, MR_0_3, MR_0_4, MR_0_5, MR_0_6, MR_0_7, MR_0_8, MR_0_9, MR_0_10, MR_0_11, MR_0_12, MR_0_13, MR_0_14, MR_0_15, MR_0_16, MR_0_17, MR_0_18, MR_0_19, MR_0_20, MR_0_21, MR_0_22, MR_0_23, MR_0_24, MR_0_25, MR_0_26, MG_0_27, MS_0_27, MG_0_28, MS_0_28, MG_0_29, MS_0_29, MG_0_30, MS_0_30, MG_0_31, MS_0_31, MR_0_32, MR_0_33, MR_0_34, MR_0_35, MR_0_36, MG_0_37, MS_0_37, MR_0_38, MR_0_39, MA_1, MB_1, MA_2, MB_2, MA_3, MB_3, MA_4, MB_4, MA_5, MB_5, MA_6, MB_6, MA_7, MB_7, MA_8, MB_8, MA_9, MB_9, MA_10, MB_10, MA_11, MB_11, MA_12, MB_12, MA_13, MB_13, MA_14, MB_14, MA_15, MB_15, MA_16, MB_16, MA_17, MB_17, MA_18, MB_18, MA_19, MB_19, MA_20, MB_20, MA_21, MB_21, MA_22, MB_22, MA_23, MB_23, MA_24, MB_24, MA_25, MB_25, MA_26, MB_26, MA_27, MB_27, MA_28, MB_28, MA_29, MB_29, MA_30, MB_30, MA_31, MB_31, MA_32, MB_32, MA_33, MB_33, ifp, ifn, Option.bind_some, n_s, n_le, n_lt, n_eq, l8, l40, l64, g40, u40, u6, u3, u0, mul6, mul3, J_bit, cmp0, b2_0, zR_b, zR_0, zR_1, up2_eq, up2_ne, up2J_eq, up2J_ne, mkv_eq, n_m1]
  obtain ⟨h1, h2, h3, h4, h5, h6, h7, h8, h9, ⟨tl, h10, h11⟩, h12, h13⟩ := hS
  have ocs : voc (vup (vup (vup V 5 (3 * s + voc V s) f) 1 s (voc V s + 1)) 3 f s) s = voc V s + 1 := by simp (disch := first | assumption | omega | decide) only [voc, vup_ne, vup_eq]
  have ocn : ∀ t, t ≠ s → voc (vup (vup (vup V 5 (3 * s + voc V s) f) 1 s (voc V s + 1)) 3 f s) t = voc V t := fun t ht => by simp (disch := first | assumption | omega | decide) only [voc, vup_ne]
  have e_ic : ∀ t, vic (vup (vup (vup V 5 (3 * s + voc V s) f) 1 s (voc V s + 1)) 3 f s) t = vic V t := fun t => by simp (disch := first | assumption | omega | decide) only [vic, vup_ne]
  have e_du : ∀ t, vdu (vup (vup (vup V 5 (3 * s + voc V s) f) 1 s (voc V s + 1)) 3 f s) t = vdu V t := fun t => by simp (disch := first | assumption | omega | decide) only [vdu, vup_ne]
  have mks : vmk (vup (vup (vup V 5 (3 * s + voc V s) f) 1 s (voc V s + 1)) 3 f s) f = s := by simp (disch := first | assumption | omega | decide) only [vmk, vup_eq]
  have mkn : ∀ g, g ≠ f → vmk (vup (vup (vup V 5 (3 * s + voc V s) f) 1 s (voc V s + 1)) 3 f s) g = vmk V g := fun g hg => by simp (disch := first | assumption | omega | decide) only [vmk, vup_ne]
  have e_in : ∀ t k, vin (vup (vup (vup V 5 (3 * s + voc V s) f) 1 s (voc V s + 1)) 3 f s) t k = vin V t k := fun t k => by simp (disch := first | assumption | omega | decide) only [vin, vup_ne]
  have e_th : ∀ t, vth (vup (vup (vup V 5 (3 * s + voc V s) f) 1 s (voc V s + 1)) 3 f s) t = vth V t := fun t => by simp (disch := first | assumption | omega | decide) only [vth, vup_ne]
  have ous : vou (vup (vup (vup V 5 (3 * s + voc V s) f) 1 s (voc V s + 1)) 3 f s) s (voc V s) = f := by simp (disch := first | assumption | omega | decide) only [vou, vup_ne, vup_eq]
  have oun : ∀ t k, 3 * t + k ≠ 3 * s + voc V s → vou (vup (vup (vup V 5 (3 * s + voc V s) f) 1 s (voc V s + 1)) 3 f s) t k = vou V t k := fun t k ht => by simp (disch := first | assumption | omega | decide) only [vou, vup_ne]
  have g0 : ∀ t k, t < 40 → k < voc (vup (vup (vup V 5 (3 * s + voc V s) f) 1 s (voc V s + 1)) 3 f s) t → (t = s ∧ k = voc V s) ∨ (k < voc V t ∧ 3 * t + k ≠ 3 * s + voc V s) := by
    intro t k ht hk
    by_cases q1 : t = s
    · subst q1; rw [ocs] at hk
      by_cases q2 : k = voc V t
      · exact Or.inl ⟨rfl, q2⟩
      · right; omega
    · rw [ocn t q1] at hk
      have := (h1.1 t ht).2.1
      right; omega
  have mks' : mkv s = nI s := mkv_n hs
  refine ⟨1, vup (vup (vup V 5 (3 * s + voc V s) f) 1 s (voc V s + 1)) 3 f s, up2 (up2 (up2 I (6 + 4 * s + 2) (voc V s) (nI f)) (6 + 4 * s) 7 (nI (voc V s + 1))) 4 f (nI s), up2 (up2 (up2 (up2 P 0 0 0) 11 (3 * s + voc V s) (nI f)) 9 s (nI (voc V s + 1))) 3 f (nI s), ?_, ?_, ⟨⟨fun t ht => ?_, fun t k ht hk => ?_, fun t k ht hk => ?_, fun g hg => ?_, fun g hg hm => ?_, fun t ht hh => ?_, fun t ht hh => ?_⟩, ⟨fun t ht => ?_, fun t k ht hk => ?_, fun t k ht hk => ?_, fun g hg => ?_⟩, ⟨fun t ht hh => ?_, fun t k ht hh hk => ?_, fun t k ht hh hk => ?_, fun g hg => ?_, fun t ht => ?_⟩, fun t ht => ?_, fun g hg => ?_, fun t ht => ?_, fun t ht hh => ?_, fun t k ht hk _ => ?_, fun t ht hh => ?_, ⟨tl, h10, ?_, ?_, ?_, fun k hk => ?_⟩, ?_, ?_⟩, RD_c hRD (fun o k ho => ?_) (fun k => ?_) ?_⟩
  · simp (disch := first | assumption | omega | decide) only [J_Desk_output, J_Desk_isSource, J_Desk_isSource_23, t1, f1, J_File_makerOf, i4, J_Step_addOutput, i7, J_File_setMaker, DO_0, DR_0_0, DR_0_1, DR_0_2, DR_0_3, DR_0_4, DR_0_5, DO_1, DR_1_0, DR_1_1, DR_1_2, DA_2, DB_2, DA_3, DB_3, DA_4, DB_4, DA_5, DO_166, DR_166_0, DR_166_1, DG_166_2, DS_166_2, DR_166_3, DG_166_4, DS_166_4, DA_167, DB_167, DA_168, DB_168, DA_169, DB_169, DO_170, DR_170_0, DR_170_1, DR_170_2, DG_170_3, DS_170_3, DG_170_4, DS_170_4, DA_171, DB_171, DA_172, DB_172, DA_173, DB_173, DO_174, DG_174_0, DS_174_0, DG_174_1, DS_174_1, DG_174_2, DS_174_2, DG_174_3, DS_174_3, DR_174_4, DA_175, DB_175, DO_176, DR_176_0, DG_176_1, DS_176_1, DR_176_2, DA_177, DB_177, DA_178, DB_178, DO_st, DG_st_0, DS_st_0, DG_st_1, DS_st_1, DG_st_2, DS_st_2, DG_st_3, DS_st_3, DR_st_4, DG_st_5, DS_st_5, DR_st_6, DG_st_7, DS_st_7, DG_st_8, DS_st_8, DG_st_9, DS_st_9, DG_st_10, DS_st_10, DG_st_11, DS_st_11, DG_st_12, DS_st_12, DR_st_13, DA_st_1, DB_st_1, DA_st_2, DB_st_2, DA_st_3, DB_st_3, ifp, ifn, Option.bind_some, n_s, n_le, n_lt, n_eq, l8, l40, l64, g40, u40, u6, u3, u0, mul6, mul3, J_bit, cmp0, b2_0, zR_b, zR_0, zR_1, up2_eq, up2_ne, up2J_eq, up2J_ne, mkv_eq, n_m1]
  · simp (disch := first | assumption | omega | decide) only [J_Mod_output, t2, f2, p3, p9, e3, MO_0, MG_0_0, MS_0_0, MR_0_1, MR_0_2, MR_0_3, MR_0_4, MR_0_5, MR_0_6, MR_0_7, MR_0_8, MR_0_9, MR_0_10, MR_0_11, MR_0_12, MR_0_13, MR_0_14, MR_0_15, MR_0_16, MR_0_17, MR_0_18, MR_0_19, MR_0_20, MR_0_21, MR_0_22, MR_0_23, MR_0_24, MR_0_25, MR_0_26, MG_0_27, MS_0_27, MG_0_28, MS_0_28, MG_0_29, MS_0_29, MG_0_30, MS_0_30, MG_0_31, MS_0_31, MR_0_32, MR_0_33, MR_0_34, MR_0_35, MR_0_36, MG_0_37, MS_0_37, MR_0_38, MR_0_39, MA_1, MB_1, MA_2, MB_2, MA_3, MB_3, MA_4, MB_4, MA_5, MB_5, MA_6, MB_6, MA_7, MB_7, MA_8, MB_8, MA_9, MB_9, MA_10, MB_10, MA_11, MB_11, MA_12, MB_12, MA_13, MB_13, MA_14, MB_14, MA_15, MB_15, MA_16, MB_16, MA_17, MB_17, MA_18, MB_18, MA_19, MB_19, MA_20, MB_20, MA_21, MB_21, MA_22, MB_22, MA_23, MB_23, MA_24, MB_24, MA_25, MB_25, MA_26, MB_26, MA_27, MB_27, MA_28, MB_28, MA_29, MB_29, MA_30, MB_30, MA_31, MB_31, MA_32, MB_32, MA_33, MB_33, ifp, ifn, Option.bind_some, n_s, n_le, n_lt, n_eq, l8, l40, l64, g40, u40, u6, u3, u0, mul6, mul3, J_bit, cmp0, b2_0, zR_b, zR_0, zR_1, up2_eq, up2_ne, up2J_eq, up2J_ne, mkv_eq, n_m1]
  · rw [e_ic, e_du]
    have := h1.1 t ht
    by_cases q1 : t = s
    · subst q1; rw [ocs]; omega
    · rw [ocn t q1]; exact this
  · rw [e_in]; rw [e_ic] at hk; exact h1.2.1 t k ht hk
  · rcases g0 t k ht hk with ⟨rfl, rfl⟩ | ⟨g1, g2⟩
    · rw [ous, mks]; exact ⟨hf, rfl⟩
    · rw [oun t k g2]
      have r := h1.2.2.1 t k ht g1
      have q2 : vou V t k ≠ f := by intro q2; rw [q2] at r; omega
      rw [mkn _ q2]; exact r
  · by_cases q1 : g = f
    · rw [q1, mks]; omega
    · rw [mkn g q1]; exact h1.2.2.2.1 g hg
  · by_cases q1 : g = f
    · rw [q1, mks, e_th, ocs]; exact ⟨hth, voc V s, by omega, ous⟩
    · rw [mkn g q1] at hm ⊢
      rw [e_th]
      obtain ⟨r1, k, r2, r3⟩ := h1.2.2.2.2.1 g hg hm
      have := (h1.1 _ hm).2.1
      refine ⟨r1, k, ?_, ?_⟩
      · by_cases q2 : vmk V g = s
        · rw [q2, ocs]; rw [q2] at r2; omega
        · rw [ocn _ q2]; exact r2
      · rw [oun _ _ (by by_cases q2 : vmk V g = s; rw [q2] at r2 ⊢; omega; omega)]; exact r3
  · rw [e_du]; rw [e_th] at hh; exact h1.2.2.2.2.2.1 t ht hh
  · rw [e_th] at hh
    have q1 : t ≠ s := by intro q; rw [q, hth] at hh; exact absurd hh (by simp)
    rw [ocn t q1, e_ic]; exact h1.2.2.2.2.2.2 t ht hh
  · rw [e_ic, e_du]
    by_cases q1 : t = s
    · subst q1; rw [ocs]; simp (disch := first | assumption | omega | decide) only [up2_ne, up2_eq, h2.1 t ht]; simp
    · rw [ocn t q1]; simp (disch := first | assumption | omega | decide) only [up2_ne]; exact h2.1 t ht
  · rw [e_ic] at hk; rw [e_in]; simp (disch := first | assumption | omega | decide) only [up2_ne]; exact h2.2.1 t k ht hk
  · rcases g0 t k ht hk with ⟨rfl, rfl⟩ | ⟨g1, g2⟩
    · rw [ous]; simp (disch := first | assumption | omega | decide) only [up2_ne, up2_eq]
    · rw [oun t k g2]; simp (disch := first | assumption | omega | decide) only [up2_ne]; exact h2.2.2.1 t k ht g1
  · by_cases q1 : g = f
    · rw [q1, mks, up2_eq, mks']
    · rw [mkn g q1]; simp (disch := first | assumption | omega | decide) only [up2_ne]; exact h2.2.2.2 g hg
  · rw [e_th] at hh; rw [e_ic]
    by_cases q1 : t = s
    · subst q1; rw [ocs]; simp (disch := first | assumption | omega | decide) only [up2_ne, up2_eq, h3.1 t ht hh]; simp
    · rw [ocn t q1]; simp (disch := first | assumption | omega | decide) only [up2_ne]; exact h3.1 t ht hh
  · rw [e_th] at hh; rw [e_ic] at hk; rw [e_in]; simp (disch := first | assumption | omega | decide) only [up2_ne]; exact h3.2.1 t k ht hh hk
  · rw [e_th] at hh
    rcases g0 t k ht hk with ⟨rfl, rfl⟩ | ⟨g1, g2⟩
    · rw [ous]; simp (disch := first | assumption | omega | decide) only [up2_ne, up2_eq]
    · rw [oun t k g2]; simp (disch := first | assumption | omega | decide) only [up2_ne]; exact h3.2.2.1 t k ht hh g1
  · by_cases q1 : g = f
    · rw [q1, mks, up2_eq, mks']
    · rw [mkn g q1]; simp (disch := first | assumption | omega | decide) only [up2_ne]; exact h3.2.2.2.1 g hg
  · rw [e_du]; simp (disch := first | assumption | omega | decide) only [up2_ne]; exact h3.2.2.2.2 t ht
  · rw [e_th]; simp (disch := first | assumption | omega | decide) only [up2_ne]; exact h4 t ht
  · simp (disch := first | assumption | omega | decide) only [up2_ne]; exact h5 g hg
  · simp (disch := first | assumption | omega | decide) only [up2_ne]; exact h6 t ht
  · rw [e_th] at hh
    obtain ⟨r1, r2, r3⟩ := h7 t ht hh
    simp (disch := first | assumption | omega | decide) only [up2_ne]
    refine ⟨r1, r2, fun hd => ?_⟩
    obtain ⟨oi, oo, o1, o2, o3, o4, o5, o6⟩ := r3 hd
    refine ⟨oi, oo, ?_, ?_, by rw [e_ic]; exact o3, ?_, fun k hk => ?_, fun k hk => ?_⟩
    · simp (disch := first | assumption | omega | decide) only [up2_ne]; exact o1
    · simp (disch := first | assumption | omega | decide) only [up2_ne]; exact o2
    · by_cases q1 : t = s
      · subst q1; rw [ocs]; omega
      · rw [ocn t q1]; exact o4
    · rw [e_in]; simp (disch := first | assumption | omega | decide) only [up2_ne]; exact o5 k hk
    · have := (h1.1 t ht).2.1
      rw [oun t k (by by_cases q1 : t = s; subst q1; omega; omega)]; simp (disch := first | assumption | omega | decide) only [up2_ne]; exact o6 k hk
  · simp (disch := first | assumption | omega | decide) only [up2_ne]; exact h8 t k ht hk (Or.inl rfl)
  · rw [e_th] at hh; simp (disch := first | assumption | omega | decide) only [up2_ne]; exact h9 t ht hh
  · simp (disch := first | assumption | omega | decide) only [up2_ne]; exact h11.1
  · simp (disch := first | assumption | omega | decide) only [up2_ne]; exact h11.2.1
  · simp (disch := first | assumption | omega | decide) only [up2_ne]; exact h11.2.2.1
  · simp (disch := first | assumption | omega | decide) only [up2_ne]; exact h11.2.2.2 k hk
  · simp (disch := first | assumption | omega | decide) only [up2_ne]; exact h12
  · simp (disch := first | assumption | omega | decide) only [up2_ne]; exact h13
  · simp (disch := first | assumption | omega | decide) only [up2_ne]
  · simp (disch := first | assumption | omega | decide) only [up2_ne]
  · simp (disch := first | assumption | omega | decide) only [up2_ne]
end O2
