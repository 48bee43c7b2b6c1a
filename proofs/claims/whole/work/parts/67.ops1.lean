def vup (V : Vw) (o k v : Nat) : Vw := fun o' k' => if o' = o ∧ k' = k then v else V o' k'
theorem vup_eq {V : Vw} {o k v : Nat} : vup V o k v o k = v := by simp [vup]
theorem vup_ne {V : Vw} {o k v o' k' : Nat} (h : o' ≠ o ∨ k' ≠ k) : vup V o k v o' k' = V o' k' := by
  simp only [vup]
  rw [if_neg]
  omega
theorem rng40 {x : Int32} (h : ¬ x < 0) (h2 : ¬ (40 : Int32) ≤ x) : ∃ j, j < 40 ∧ x = nI j := by
  rcases pk_ix x (n := 40) (by decide) with q | q | q
  · exact absurd q h
  · exact absurd q h2
  · exact q
theorem rng64 {x : Int32} (h : ¬ x < 0) (h2 : ¬ (64 : Int32) ≤ x) : ∃ j, j < 64 ∧ x = nI j := by
  rcases pk_ix x (n := 64) (by decide) with q | q | q
  · exact absurd q h
  · exact absurd q h2
  · exact q
theorem lt01 {x : Int32} (h : x < 0) : x < 1 := by
  rw [Int32.lt_iff_toInt_lt] at h ⊢
  have e0 : (0 : Int32).toInt = 0 := by decide
  have e1 : (1 : Int32).toInt = 1 := by decide
  rw [e0] at h
  rw [e1]
  omega
theorem rngd {x : Int32} (h : ¬ x < 1) (h2 : x ≤ 100) : ∃ j, 1 ≤ j ∧ j ≤ 100 ∧ x = nI j := by
  obtain ⟨j, hj, rfl⟩ := nI_of (x := x) (fun q => h (lt01 q))
  have a : ¬ j < 1 := fun q => h ((n_lt (k := 1) hj (by decide)).mpr q)
  have c : j ≤ 100 := (n_le (k := 100) hj (by decide)).mp h2
  exact ⟨j, by omega, c, rfl⟩
section O1
variable {V : Vw} {z b z2 c N : Nat} {I P : Nat → Nat → Int32} {J : Nat → Nat → Int64} {F F2 : Nat → Option HE}
theorem PS_0 {v : Int32} (h : PS V I P) : PS V I (up2 P 0 0 v) := PS_c h (fun _ _ _ => rfl) (fun o k ho => up2_ne (by omega)) (fun k k1 k2 => up2_ne (by omega))
theorem RD_0 {v : Int32} (h : RD I P) : RD I (up2 P 0 0 v) := RD_c h (fun _ _ _ => rfl) (fun k => up2_ne (by omega)) (up2_ne (by omega))
/-- both sides say no, and nothing changes -/
theorem op_no {f : Hp → Option (Int32 × Hp)} {g : Hp → Option (Int32 × Hp)} (hS : PS V I P) (hRD : RD I P) {v : Int32} (h1 : f (z, dH b I J F) = some (v, (z, dH b I J F))) (h2 : g (z2, mH c P F2) = some (v, (z2, mH c (up2 P 0 0 0) F2))) : ∃ v V' I' P', f (z, dH b I J F) = some (v, (z, dH b I' J F)) ∧ g (z2, mH c P F2) = some (v, (z2, mH c P' F2)) ∧ PS V' I' P' ∧ RD I' P' := ⟨v, V, I, _, h1, h2, PS_0 hS, RD_0 hRD⟩
theorem o_step (hS : PS V I P) (hRD : RD I P) (x1 x2 x3 x4 : Int32) : ∃ v V' I' P', J_Desk_step N b x1 x2 x3 x4 (z, dH b I J F) = some (v, (z, dH b I' J F)) ∧ J_Mod_step N c x1 x2 x3 x4 (z2, mH c P F2) = some (v, (z2, mH c P' F2)) ∧ PS V' I' P' ∧ RD I' P' := by
  by_cases q1 : x1 < 0
  · refine op_no (f := J_Desk_step N b x1 x2 x3 x4) (g := J_Mod_step N c x1 x2 x3 x4) hS hRD (v := 0) ?_ ?_
    · simp (disch := first | assumption | omega | decide) only [J_Desk_step, J_Desk_isStepNumber, J_Desk_isStepNumber_14, DO_0, DR_0_0, DR_0_1, DR_0_2, DR_0_3, DR_0_4, DR_0_5, DO_1, DR_1_0, DR_1_1, DR_1_2, DA_2, DB_2, DA_3, DB_3, DA_4, DB_4, DA_5, DO_166, DR_166_0, DR_166_1, DG_166_2, DS_166_2, DR_166_3, DG_166_4, DS_166_4, DA_167, DB_167, DA_168, DB_168, DA_169, DB_169, DO_170, DR_170_0, DR_170_1, DR_170_2, DG_170_3, DS_170_3, DG_170_4, DS_170_4, DA_171, DB_171, DA_172, DB_172, DA_173, DB_173, DO_174, DG_174_0, DS_174_0, DG_174_1, DS_174_1, DG_174_2, DS_174_2, DG_174_3, DS_174_3, DR_174_4, DA_175, DB_175, DO_176, DR_176_0, DG_176_1, DS_176_1, DR_176_2, DA_177, DB_177, DA_178, DB_178, DO_st, DG_st_0, DS_st_0, DG_st_1, DS_st_1, DG_st_2, DS_st_2, DG_st_3, DS_st_3, DR_st_4, DG_st_5, DS_st_5, DR_st_6, DG_st_7, DS_st_7, DG_st_8, DS_st_8, DG_st_9, DS_st_9, DG_st_10, DS_st_10, DG_st_11, DS_st_11, DG_st_12, DS_st_12, DR_st_13, DA_st_1, DB_st_1, DA_st_2, DB_st_2, DA_st_3, DB_st_3, ifp, ifn, Option.bind_some, n_s, n_le, n_lt, n_eq, l8, l40, l64, g40, u40, u6, u3, u0, mul6, mul3, J_bit, cmp0, b2_0, zR_b, zR_0, zR_1, up2_eq, up2_ne, up2J_eq, up2J_ne, mkv_eq, n_m1]
    · simp (disch := first | assumption | omega | decide) only [J_Mod_step, MO_0, MG_0_0, MS_0_0, MR_0_1, MR_0_2, MR_0_3, MR_0_4, MR_0_5, MR_0_6, MR_0_7, MR_0_8, MR_0_9, MR_0_10, MR_0_11, MR_0_12, MR_0_13, MR_0_14, MR_0_15, MR_0_16, MR_0_17, MR_0_18, MR_0_19, MR_0_20, MR_0_21, MR_0_22, MR_0_23, MR_0_24, MR_0_25, MR_0_26, MG_0_27, MS_0_27, MG_0_28, MS_0_28, MG_0_29, MS_0_29, MG_0_30, MS_0_30, MG_0_31, MS_0_31, MR_0_32, MR_0_33, MR_0_34, MR_0_35, MR_0_36, MG_0_37, MS_0_37, MR_0_38, MR_0_39, MA_1, MB_1, MA_2, MB_2, MA_3, MB_3, MA_4, MB_4, MA_5, MB_5, MA_6, MB_6, MA_7, MB_7, MA_8, MB_8, MA_9, MB_9, MA_10, MB_10, MA_11, MB_11, MA_12, MB_12, MA_13, MB_13, MA_14, MB_14, MA_15, MB_15, MA_16, MB_16, MA_17, MB_17, MA_18, MB_18, MA_19, MB_19, MA_20, MB_20, MA_21, MB_21, MA_22, MB_22, MA_23, MB_23, MA_24, MB_24, MA_25, MB_25, MA_26, MB_26, MA_27, MB_27, MA_28, MB_28, MA_29, MB_29, MA_30, MB_30, MA_31, MB_31, MA_32, MB_32, MA_33, MB_33, ifp, ifn, Option.bind_some, n_s, n_le, n_lt, n_eq, l8, l40, l64, g40, u40, u6, u3, u0, mul6, mul3, J_bit, cmp0, b2_0, zR_b, zR_0, zR_1, up2_eq, up2_ne, up2J_eq, up2J_ne, mkv_eq, n_m1]
  by_cases q2 : (40 : Int32) ≤ x1
  · refine op_no (f := J_Desk_step N b x1 x2 x3 x4) (g := J_Mod_step N c x1 x2 x3 x4) hS hRD (v := 0) ?_ ?_
    · simp (disch := first | assumption | omega | decide) only [J_Desk_step, J_Desk_isStepNumber, J_Desk_isStepNumber_14, DO_0, DR_0_0, DR_0_1, DR_0_2, DR_0_3, DR_0_4, DR_0_5, DO_1, DR_1_0, DR_1_1, DR_1_2, DA_2, DB_2, DA_3, DB_3, DA_4, DB_4, DA_5, DO_166, DR_166_0, DR_166_1, DG_166_2, DS_166_2, DR_166_3, DG_166_4, DS_166_4, DA_167, DB_167, DA_168, DB_168, DA_169, DB_169, DO_170, DR_170_0, DR_170_1, DR_170_2, DG_170_3, DS_170_3, DG_170_4, DS_170_4, DA_171, DB_171, DA_172, DB_172, DA_173, DB_173, DO_174, DG_174_0, DS_174_0, DG_174_1, DS_174_1, DG_174_2, DS_174_2, DG_174_3, DS_174_3, DR_174_4, DA_175, DB_175, DO_176, DR_176_0, DG_176_1, DS_176_1, DR_176_2, DA_177, DB_177, DA_178, DB_178, DO_st, DG_st_0, DS_st_0, DG_st_1, DS_st_1, DG_st_2, DS_st_2, DG_st_3, DS_st_3, DR_st_4, DG_st_5, DS_st_5, DR_st_6, DG_st_7, DS_st_7, DG_st_8, DS_st_8, DG_st_9, DS_st_9, DG_st_10, DS_st_10, DG_st_11, DS_st_11, DG_st_12, DS_st_12, DR_st_13, DA_st_1, DB_st_1, DA_st_2, DB_st_2, DA_st_3, DB_st_3, ifp, ifn, Option.bind_some, n_s, n_le, n_lt, n_eq, l8, l40, l64, g40, u40, u6, u3, u0, mul6, mul3, J_bit, cmp0, b2_0, zR_b, zR_0, zR_1, up2_eq, up2_ne, up2J_eq, up2J_ne, mkv_eq, n_m1]
    · simp (disch := first | assumption | omega | decide) only [J_Mod_step, MO_0, MG_0_0, MS_0_0, MR_0_1, MR_0_2, MR_0_3, MR_0_4, MR_0_5, MR_0_6, MR_0_7, MR_0_8, MR_0_9, MR_0_10, MR_0_11, MR_0_12, MR_0_13, MR_0_14, MR_0_15, MR_0_16, MR_0_17, MR_0_18, MR_0_19, MR_0_20, MR_0_21, MR_0_22, MR_0_23, MR_0_24, MR_0_25, MR_0_26, MG_0_27, MS_0_27, MG_0_28, MS_0_28, MG_0_29, MS_0_29, MG_0_30, MS_0_30, MG_0_31, MS_0_31, MR_0_32, MR_0_33, MR_0_34, MR_0_35, MR_0_36, MG_0_37, MS_0_37, MR_0_38, MR_0_39, MA_1, MB_1, MA_2, MB_2, MA_3, MB_3, MA_4, MB_4, MA_5, MB_5, MA_6, MB_6, MA_7, MB_7, MA_8, MB_8, MA_9, MB_9, MA_10, MB_10, MA_11, MB_11, MA_12, MB_12, MA_13, MB_13, MA_14, MB_14, MA_15, MB_15, MA_16, MB_16, MA_17, MB_17, MA_18, MB_18, MA_19, MB_19, MA_20, MB_20, MA_21, MB_21, MA_22, MB_22, MA_23, MB_23, MA_24, MB_24, MA_25, MB_25, MA_26, MB_26, MA_27, MB_27, MA_28, MB_28, MA_29, MB_29, MA_30, MB_30, MA_31, MB_31, MA_32, MB_32, MA_33, MB_33, ifp, ifn, Option.bind_some, n_s, n_le, n_lt, n_eq, l8, l40, l64, g40, u40, u6, u3, u0, mul6, mul3, J_bit, cmp0, b2_0, zR_b, zR_0, zR_1, up2_eq, up2_ne, up2J_eq, up2J_ne, mkv_eq, n_m1]
  obtain ⟨s, hs, rfl⟩ := rng40 q1 q2
  have u1 : ¬ (1 : Int32) = 0 := by decide
  by_cases q3 : x4 < 1
  · refine op_no (f := J_Desk_step N b (nI s) x2 x3 x4) (g := J_Mod_step N c (nI s) x2 x3 x4) hS hRD (v := 0) ?_ ?_
    · simp (disch := first | assumption | omega | decide) only [J_Desk_step, J_Desk_isStepNumber, J_Desk_isStepNumber_14, DO_0, DR_0_0, DR_0_1, DR_0_2, DR_0_3, DR_0_4, DR_0_5, DO_1, DR_1_0, DR_1_1, DR_1_2, DA_2, DB_2, DA_3, DB_3, DA_4, DB_4, DA_5, DO_166, DR_166_0, DR_166_1, DG_166_2, DS_166_2, DR_166_3, DG_166_4, DS_166_4, DA_167, DB_167, DA_168, DB_168, DA_169, DB_169, DO_170, DR_170_0, DR_170_1, DR_170_2, DG_170_3, DS_170_3, DG_170_4, DS_170_4, DA_171, DB_171, DA_172, DB_172, DA_173, DB_173, DO_174, DG_174_0, DS_174_0, DG_174_1, DS_174_1, DG_174_2, DS_174_2, DG_174_3, DS_174_3, DR_174_4, DA_175, DB_175, DO_176, DR_176_0, DG_176_1, DS_176_1, DR_176_2, DA_177, DB_177, DA_178, DB_178, DO_st, DG_st_0, DS_st_0, DG_st_1, DS_st_1, DG_st_2, DS_st_2, DG_st_3, DS_st_3, DR_st_4, DG_st_5, DS_st_5, DR_st_6, DG_st_7, DS_st_7, DG_st_8, DS_st_8, DG_st_9, DS_st_9, DG_st_10, DS_st_10, DG_st_11, DS_st_11, DG_st_12, DS_st_12, DR_st_13, DA_st_1, DB_st_1, DA_st_2, DB_st_2, DA_st_3, DB_st_3, ifp, ifn, Option.bind_some, n_s, n_le, n_lt, n_eq, l8, l40, l64, g40, u40, u6, u3, u0, mul6, mul3, J_bit, cmp0, b2_0, zR_b, zR_0, zR_1, up2_eq, up2_ne, up2J_eq, up2J_ne, mkv_eq, n_m1]
    · simp (disch := first | assumption | omega | decide) only [J_Mod_step, MO_0, MG_0_0, MS_0_0, MR_0_1, MR_0_2, MR_0_3, MR_0_4, MR_0_5, MR_0_6, MR_0_7, MR_0_8, MR_0_9, MR_0_10, MR_0_11, MR_0_12, MR_0_13, MR_0_14, MR_0_15, MR_0_16, MR_0_17, MR_0_18, MR_0_19, MR_0_20, MR_0_21, MR_0_22, MR_0_23, MR_0_24, MR_0_25, MR_0_26, MG_0_27, MS_0_27, MG_0_28, MS_0_28, MG_0_29, MS_0_29, MG_0_30, MS_0_30, MG_0_31, MS_0_31, MR_0_32, MR_0_33, MR_0_34, MR_0_35, MR_0_36, MG_0_37, MS_0_37, MR_0_38, MR_0_39, MA_1, MB_1, MA_2, MB_2, MA_3, MB_3, MA_4, MB_4, MA_5, MB_5, MA_6, MB_6, MA_7, MB_7, MA_8, MB_8, MA_9, MB_9, MA_10, MB_10, MA_11, MB_11, MA_12, MB_12, MA_13, MB_13, MA_14, MB_14, MA_15, MB_15, MA_16, MB_16, MA_17, MB_17, MA_18, MB_18, MA_19, MB_19, MA_20, MB_20, MA_21, MB_21, MA_22, MB_22, MA_23, MB_23, MA_24, MB_24, MA_25, MB_25, MA_26, MB_26, MA_27, MB_27, MA_28, MB_28, MA_29, MB_29, MA_30, MB_30, MA_31, MB_31, MA_32, MB_32, MA_33, MB_33, ifp, ifn, Option.bind_some, n_s, n_le, n_lt, n_eq, l8, l40, l64, g40, u40, u6, u3, u0, mul6, mul3, J_bit, cmp0, b2_0, zR_b, zR_0, zR_1, up2_eq, up2_ne, up2J_eq, up2J_ne, mkv_eq, n_m1]
  by_cases q4 : x4 ≤ 100
  · obtain ⟨d, hd1, hd2, rfl⟩ := rngd q3 q4
    obtain ⟨h1, h2, h3, h4, h5, h6, h7, h8, h9, ⟨tl, h10, h11⟩, h12, h13⟩ := hS
    have e_ic : ∀ t, vic (vup (vup V 2 s d) 6 s 1) t = vic V t := fun t => by simp (disch := first | assumption | omega | decide) only [vic, vup_ne]
    have e_oc : ∀ t, voc (vup (vup V 2 s d) 6 s 1) t = voc V t := fun t => by simp (disch := first | assumption | omega | decide) only [voc, vup_ne]
    have e_mk : ∀ t, vmk (vup (vup V 2 s d) 6 s 1) t = vmk V t := fun t => by simp (disch := first | assumption | omega | decide) only [vmk, vup_ne]
    have e_in : ∀ t k, vin (vup (vup V 2 s d) 6 s 1) t k = vin V t k := fun t k => by simp (disch := first | assumption | omega | decide) only [vin, vup_ne]
    have e_ou : ∀ t k, vou (vup (vup V 2 s d) 6 s 1) t k = vou V t k := fun t k => by simp (disch := first | assumption | omega | decide) only [vou, vup_ne]
    have e_dus : vdu (vup (vup V 2 s d) 6 s 1) s = d := by simp (disch := first | assumption | omega | decide) only [vdu, vup_ne, vup_eq]
    have e_dun : ∀ t, t ≠ s → vdu (vup (vup V 2 s d) 6 s 1) t = vdu V t := fun t ht => by simp (disch := first | assumption | omega | decide) only [vdu, vup_ne]
    have e_ths : vth (vup (vup V 2 s d) 6 s 1) s = true := by simp (disch := first | assumption | omega | decide) only [vth, vup_eq]; rfl
    have e_thn : ∀ t, t ≠ s → vth (vup (vup V 2 s d) 6 s 1) t = vth V t := fun t ht => by simp (disch := first | assumption | omega | decide) only [vth, vup_ne]
    have hW : VW (vup (vup V 2 s d) 6 s 1) := by
      refine ⟨fun t ht => ?_, fun t k ht hk => ?_, fun t k ht hk => ?_, fun f hf => ?_, fun f hf hm => ?_, fun t ht hth => ?_, fun t ht hth => ?_⟩
      · rw [e_ic, e_oc]
        have := h1.1 t ht
        by_cases q : t = s
        · subst q; rw [e_dus]; omega
        · rw [e_dun t q]; exact this
      · rw [e_in]; rw [e_ic] at hk; exact h1.2.1 t k ht hk
      · rw [e_ou, e_mk]; rw [e_oc] at hk; exact h1.2.2.1 t k ht hk
      · rw [e_mk]; exact h1.2.2.2.1 f hf
      · rw [e_mk] at hm ⊢
        rw [e_oc]
        obtain ⟨g1, k, g2, g3⟩ := h1.2.2.2.2.1 f hf hm
        refine ⟨?_, k, g2, by rw [e_ou]; exact g3⟩
        by_cases q : vmk V f = s
        · rw [q]; exact e_ths
        · rw [e_thn _ q]; exact g1
      · by_cases q : t = s
        · subst q; rw [e_dus]; exact hd1
        · rw [e_dun t q]; rw [e_thn t q] at hth; exact h1.2.2.2.2.2.1 t ht hth
      · by_cases q : t = s
        · subst q; rw [e_ths] at hth; exact absurd hth (by simp)
        · rw [e_ic, e_oc]; rw [e_thn t q] at hth; exact h1.2.2.2.2.2.2 t ht hth
    have hC : CV (vup (vup V 2 s d) 6 s 1) (up2 (up2 (up2 (up2 I (6 + 4 * s) 0 1) (6 + 4 * s) 1 x2) (6 + 4 * s) 2 x3) (6 + 4 * s) 3 (nI d)) := by
      refine ⟨fun t ht => ?_, fun t k ht hk => ?_, fun t k ht hk => ?_, fun f hf => ?_⟩
      · by_cases q : t = s
        · subst q; rw [e_ic, e_oc, e_dus]; simp (disch := first | assumption | omega | decide) only [up2_ne, up2_eq, h2.1 t ht]; simp
        · rw [e_ic, e_oc, e_dun t q]; simp (disch := first | assumption | omega | decide) only [up2_ne]; exact h2.1 t ht
      · rw [e_ic] at hk; rw [e_in]; simp (disch := first | assumption | omega | decide) only [up2_ne]; exact h2.2.1 t k ht hk
      · rw [e_oc] at hk; rw [e_ou]; simp (disch := first | assumption | omega | decide) only [up2_ne]; exact h2.2.2.1 t k ht hk
      · rw [e_mk]; simp (disch := first | assumption | omega | decide) only [up2_ne]; exact h2.2.2.2 f hf
    cases e : vth V s
    · obtain ⟨z1, z3⟩ := h1.2.2.2.2.2.2 s hs e
      have p4 : P 4 s = 0 := by rw [(h4 s hs).2, e]; rfl
      refine ⟨1, _, up2 (up2 (up2 (up2 I (6 + 4 * s) 0 1) (6 + 4 * s) 1 x2) (6 + 4 * s) 2 x3) (6 + 4 * s) 3 (nI d), up2 (up2 (up2 (up2 (up2 (up2 (up2 (up2 P 0 0 0) 4 s 1) 8 s 0) 9 s 0) 12 s 0) 5 s x2) 6 s x3) 7 s (nI d), ?_, ?_, ⟨hW, hC, ⟨fun t ht hth => ?_, fun t k ht hth hk => ?_, fun t k ht hth hk => ?_, fun f hf => ?_, fun t ht => ?_⟩, fun t ht => ?_, fun f hf => ?_, fun t ht => ?_, fun t ht hth => ?_, fun t k ht hk _ => ?_, fun t ht hth => ?_, ⟨tl, h10, ?_, ?_, ?_, fun k hk => ?_⟩, ?_, ?_⟩, RD_c hRD (fun o k ho => ?_) (fun k => ?_) ?_⟩
      · simp (disch := first | assumption | omega | decide) only [J_Desk_step, J_Desk_isStepNumber, J_Desk_isStepNumber_14, J_Step_tell, DO_0, DR_0_0, DR_0_1, DR_0_2, DR_0_3, DR_0_4, DR_0_5, DO_1, DR_1_0, DR_1_1, DR_1_2, DA_2, DB_2, DA_3, DB_3, DA_4, DB_4, DA_5, DO_166, DR_166_0, DR_166_1, DG_166_2, DS_166_2, DR_166_3, DG_166_4, DS_166_4, DA_167, DB_167, DA_168, DB_168, DA_169, DB_169, DO_170, DR_170_0, DR_170_1, DR_170_2, DG_170_3, DS_170_3, DG_170_4, DS_170_4, DA_171, DB_171, DA_172, DB_172, DA_173, DB_173, DO_174, DG_174_0, DS_174_0, DG_174_1, DS_174_1, DG_174_2, DS_174_2, DG_174_3, DS_174_3, DR_174_4, DA_175, DB_175, DO_176, DR_176_0, DG_176_1, DS_176_1, DR_176_2, DA_177, DB_177, DA_178, DB_178, DO_st, DG_st_0, DS_st_0, DG_st_1, DS_st_1, DG_st_2, DS_st_2, DG_st_3, DS_st_3, DR_st_4, DG_st_5, DS_st_5, DR_st_6, DG_st_7, DS_st_7, DG_st_8, DS_st_8, DG_st_9, DS_st_9, DG_st_10, DS_st_10, DG_st_11, DS_st_11, DG_st_12, DS_st_12, DR_st_13, DA_st_1, DB_st_1, DA_st_2, DB_st_2, DA_st_3, DB_st_3, ifp, ifn, Option.bind_some, n_s, n_le, n_lt, n_eq, l8, l40, l64, g40, u40, u6, u3, u0, mul6, mul3, J_bit, cmp0, b2_0, zR_b, zR_0, zR_1, up2_eq, up2_ne, up2J_eq, up2J_ne, mkv_eq, n_m1]
      · simp (disch := first | assumption | omega | decide) only [J_Mod_step, J_Mod_step_67, p4, MO_0, MG_0_0, MS_0_0, MR_0_1, MR_0_2, MR_0_3, MR_0_4, MR_0_5, MR_0_6, MR_0_7, MR_0_8, MR_0_9, MR_0_10, MR_0_11, MR_0_12, MR_0_13, MR_0_14, MR_0_15, MR_0_16, MR_0_17, MR_0_18, MR_0_19, MR_0_20, MR_0_21, MR_0_22, MR_0_23, MR_0_24, MR_0_25, MR_0_26, MG_0_27, MS_0_27, MG_0_28, MS_0_28, MG_0_29, MS_0_29, MG_0_30, MS_0_30, MG_0_31, MS_0_31, MR_0_32, MR_0_33, MR_0_34, MR_0_35, MR_0_36, MG_0_37, MS_0_37, MR_0_38, MR_0_39, MA_1, MB_1, MA_2, MB_2, MA_3, MB_3, MA_4, MB_4, MA_5, MB_5, MA_6, MB_6, MA_7, MB_7, MA_8, MB_8, MA_9, MB_9, MA_10, MB_10, MA_11, MB_11, MA_12, MB_12, MA_13, MB_13, MA_14, MB_14, MA_15, MB_15, MA_16, MB_16, MA_17, MB_17, MA_18, MB_18, MA_19, MB_19, MA_20, MB_20, MA_21, MB_21, MA_22, MB_22, MA_23, MB_23, MA_24, MB_24, MA_25, MB_25, MA_26, MB_26, MA_27, MB_27, MA_28, MB_28, MA_29, MB_29, MA_30, MB_30, MA_31, MB_31, MA_32, MB_32, MA_33, MB_33, ifp, ifn, Option.bind_some, n_s, n_le, n_lt, n_eq, l8, l40, l64, g40, u40, u6, u3, u0, mul6, mul3, J_bit, cmp0, b2_0, zR_b, zR_0, zR_1, up2_eq, up2_ne, up2J_eq, up2J_ne, mkv_eq, n_m1]
      · rw [e_ic, e_oc]
        by_cases q : t = s
        · subst q; simp (disch := first | assumption | omega | decide) only [up2_ne, up2_eq, z1, z3]; exact ⟨rfl, rfl⟩
        · simp (disch := first | assumption | omega | decide) only [up2_ne]; rw [e_thn t q] at hth; exact h3.1 t ht hth
      · rw [e_ic] at hk; rw [e_in]
        by_cases q : t = s
        · subst q; omega
        · simp (disch := first | assumption | omega | decide) only [up2_ne]; rw [e_thn t q] at hth; exact h3.2.1 t k ht hth hk
      · rw [e_oc] at hk; rw [e_ou]
        by_cases q : t = s
        · subst q; omega
        · simp (disch := first | assumption | omega | decide) only [up2_ne]; rw [e_thn t q] at hth; exact h3.2.2.1 t k ht hth hk
      · rw [e_mk]; simp (disch := first | assumption | omega | decide) only [up2_ne]; exact h3.2.2.2.1 f hf
      · by_cases q : t = s
        · subst q; rw [e_dus]; simp (disch := first | assumption | omega | decide) only [up2_eq]
        · rw [e_dun t q]; simp (disch := first | assumption | omega | decide) only [up2_ne]; exact h3.2.2.2.2 t ht
      · by_cases q : t = s
        · subst q; rw [e_ths]; simp (disch := first | assumption | omega | decide) only [up2_ne, up2_eq]; exact ⟨rfl, rfl⟩
        · rw [e_thn t q]; simp (disch := first | assumption | omega | decide) only [up2_ne]; exact h4 t ht
      · simp (disch := first | assumption | omega | decide) only [up2_ne]; exact h5 f hf
      · by_cases q : t = s
        · subst q; simp (disch := first | assumption | omega | decide) only [up2_ne, up2_eq, h6 t ht]; simp
        · simp (disch := first | assumption | omega | decide) only [up2_ne]; exact h6 t ht
      · by_cases q : t = s
        · subst q
          simp (disch := first | assumption | omega | decide) only [up2_ne, up2_eq]
          refine ⟨h9 t ht e, Or.inl trivial, fun h => absurd h (by decide)⟩
        · rw [e_thn t q] at hth
          have := h7 t ht hth
          simp (disch := first | assumption | omega | decide) only [OR1, e_ic, e_oc, e_in, e_ou, up2_ne] at this ⊢; exact this
      · simp (disch := first | assumption | omega | decide) only [up2_ne]; exact h8 t k ht hk (Or.inl rfl)
      · have q : t ≠ s := by intro q; rw [q, e_ths] at hth; exact absurd hth (by simp)
        rw [e_thn t q] at hth
        simp (disch := first | assumption | omega | decide) only [up2_ne]; exact h9 t ht hth
      · simp (disch := first | assumption | omega | decide) only [up2_ne]; exact h11.1
      · simp (disch := first | assumption | omega | decide) only [up2_ne]; exact h11.2.1
      · simp (disch := first | assumption | omega | decide) only [up2_ne]; exact h11.2.2.1
      · simp (disch := first | assumption | omega | decide) only [up2_ne]; exact h11.2.2.2 k hk
      · simp (disch := first | assumption | omega | decide) only [up2_ne]; exact h12
      · simp (disch := first | assumption | omega | decide) only [up2_ne]; exact h13
      · simp (disch := first | assumption | omega | decide) only [up2_ne]
      · simp (disch := first | assumption | omega | decide) only [up2_ne]
      · simp (disch := first | assumption | omega | decide) only [up2_ne]
    · have p4 : P 4 s = 1 := by rw [(h4 s hs).2, e]; rfl
      refine ⟨1, _, up2 (up2 (up2 (up2 I (6 + 4 * s) 0 1) (6 + 4 * s) 1 x2) (6 + 4 * s) 2 x3) (6 + 4 * s) 3 (nI d), up2 (up2 (up2 (up2 P 0 0 0) 5 s x2) 6 s x3) 7 s (nI d), ?_, ?_, ⟨hW, hC, ⟨fun t ht hth => ?_, fun t k ht hth hk => ?_, fun t k ht hth hk => ?_, fun f hf => ?_, fun t ht => ?_⟩, fun t ht => ?_, fun f hf => ?_, fun t ht => ?_, fun t ht hth => ?_, fun t k ht hk _ => ?_, fun t ht hth => ?_, ⟨tl, h10, ?_, ?_, ?_, fun k hk => ?_⟩, ?_, ?_⟩, RD_c hRD (fun o k ho => ?_) (fun k => ?_) ?_⟩
      · simp (disch := first | assumption | omega | decide) only [J_Desk_step, J_Desk_isStepNumber, J_Desk_isStepNumber_14, J_Step_tell, DO_0, DR_0_0, DR_0_1, DR_0_2, DR_0_3, DR_0_4, DR_0_5, DO_1, DR_1_0, DR_1_1, DR_1_2, DA_2, DB_2, DA_3, DB_3, DA_4, DB_4, DA_5, DO_166, DR_166_0, DR_166_1, DG_166_2, DS_166_2, DR_166_3, DG_166_4, DS_166_4, DA_167, DB_167, DA_168, DB_168, DA_169, DB_169, DO_170, DR_170_0, DR_170_1, DR_170_2, DG_170_3, DS_170_3, DG_170_4, DS_170_4, DA_171, DB_171, DA_172, DB_172, DA_173, DB_173, DO_174, DG_174_0, DS_174_0, DG_174_1, DS_174_1, DG_174_2, DS_174_2, DG_174_3, DS_174_3, DR_174_4, DA_175, DB_175, DO_176, DR_176_0, DG_176_1, DS_176_1, DR_176_2, DA_177, DB_177, DA_178, DB_178, DO_st, DG_st_0, DS_st_0, DG_st_1, DS_st_1, DG_st_2, DS_st_2, DG_st_3, DS_st_3, DR_st_4, DG_st_5, DS_st_5, DR_st_6, DG_st_7, DS_st_7, DG_st_8, DS_st_8, DG_st_9, DS_st_9, DG_st_10, DS_st_10, DG_st_11, DS_st_11, DG_st_12, DS_st_12, DR_st_13, DA_st_1, DB_st_1, DA_st_2, DB_st_2, DA_st_3, DB_st_3, ifp, ifn, Option.bind_some, n_s, n_le, n_lt, n_eq, l8, l40, l64, g40, u40, u6, u3, u0, mul6, mul3, J_bit, cmp0, b2_0, zR_b, zR_0, zR_1, up2_eq, up2_ne, up2J_eq, up2J_ne, mkv_eq, n_m1]
      · simp (disch := first | assumption | omega | decide) only [J_Mod_step, J_Mod_step_67, p4, MO_0, MG_0_0, MS_0_0, MR_0_1, MR_0_2, MR_0_3, MR_0_4, MR_0_5, MR_0_6, MR_0_7, MR_0_8, MR_0_9, MR_0_10, MR_0_11, MR_0_12, MR_0_13, MR_0_14, MR_0_15, MR_0_16, MR_0_17, MR_0_18, MR_0_19, MR_0_20, MR_0_21, MR_0_22, MR_0_23, MR_0_24, MR_0_25, MR_0_26, MG_0_27, MS_0_27, MG_0_28, MS_0_28, MG_0_29, MS_0_29, MG_0_30, MS_0_30, MG_0_31, MS_0_31, MR_0_32, MR_0_33, MR_0_34, MR_0_35, MR_0_36, MG_0_37, MS_0_37, MR_0_38, MR_0_39, MA_1, MB_1, MA_2, MB_2, MA_3, MB_3, MA_4, MB_4, MA_5, MB_5, MA_6, MB_6, MA_7, MB_7, MA_8, MB_8, MA_9, MB_9, MA_10, MB_10, MA_11, MB_11, MA_12, MB_12, MA_13, MB_13, MA_14, MB_14, MA_15, MB_15, MA_16, MB_16, MA_17, MB_17, MA_18, MB_18, MA_19, MB_19, MA_20, MB_20, MA_21, MB_21, MA_22, MB_22, MA_23, MB_23, MA_24, MB_24, MA_25, MB_25, MA_26, MB_26, MA_27, MB_27, MA_28, MB_28, MA_29, MB_29, MA_30, MB_30, MA_31, MB_31, MA_32, MB_32, MA_33, MB_33, ifp, ifn, Option.bind_some, n_s, n_le, n_lt, n_eq, l8, l40, l64, g40, u40, u6, u3, u0, mul6, mul3, J_bit, cmp0, b2_0, zR_b, zR_0, zR_1, up2_eq, up2_ne, up2J_eq, up2J_ne, mkv_eq, n_m1]
      · have hth' : vth V t = true := by
          by_cases q : t = s
          · rw [q]; exact e
          · rw [e_thn t q] at hth; exact hth
        rw [e_ic, e_oc]; simp (disch := first | assumption | omega | decide) only [up2_ne]; exact h3.1 t ht hth'
      · have hth' : vth V t = true := by
          by_cases q : t = s
          · rw [q]; exact e
          · rw [e_thn t q] at hth; exact hth
        rw [e_ic] at hk; rw [e_in]; simp (disch := first | assumption | omega | decide) only [up2_ne]; exact h3.2.1 t k ht hth' hk
      · have hth' : vth V t = true := by
          by_cases q : t = s
          · rw [q]; exact e
          · rw [e_thn t q] at hth; exact hth
        rw [e_oc] at hk; rw [e_ou]; simp (disch := first | assumption | omega | decide) only [up2_ne]; exact h3.2.2.1 t k ht hth' hk
      · rw [e_mk]; simp (disch := first | assumption | omega | decide) only [up2_ne]; exact h3.2.2.2.1 f hf
      · by_cases q : t = s
        · subst q; rw [e_dus]; simp (disch := first | assumption | omega | decide) only [up2_eq]
        · rw [e_dun t q]; simp (disch := first | assumption | omega | decide) only [up2_ne]; exact h3.2.2.2.2 t ht
      · by_cases q : t = s
        · subst q; rw [e_ths]; simp (disch := first | assumption | omega | decide) only [up2_ne, up2_eq]; exact ⟨rfl, p4⟩
        · rw [e_thn t q]; simp (disch := first | assumption | omega | decide) only [up2_ne]; exact h4 t ht
      · simp (disch := first | assumption | omega | decide) only [up2_ne]; exact h5 f hf
      · by_cases q : t = s
        · subst q; simp (disch := first | assumption | omega | decide) only [up2_ne, up2_eq, h6 t ht]; simp
        · simp (disch := first | assumption | omega | decide) only [up2_ne]; exact h6 t ht
      · have hth' : vth V t = true := by
          by_cases q : t = s
          · rw [q]; exact e
          · rw [e_thn t q] at hth; exact hth
        have := h7 t ht hth'
        simp (disch := first | assumption | omega | decide) only [OR1, e_ic, e_oc, e_in, e_ou, up2_ne] at this ⊢; exact this
      · simp (disch := first | assumption | omega | decide) only [up2_ne]; exact h8 t k ht hk (Or.inl rfl)
      · have q : t ≠ s := by intro q; rw [q, e_ths] at hth; exact absurd hth (by simp)
        rw [e_thn t q] at hth
        simp (disch := first | assumption | omega | decide) only [up2_ne]; exact h9 t ht hth
      · simp (disch := first | assumption | omega | decide) only [up2_ne]; exact h11.1
      · simp (disch := first | assumption | omega | decide) only [up2_ne]; exact h11.2.1
      · simp (disch := first | assumption | omega | decide) only [up2_ne]; exact h11.2.2.1
      · simp (disch := first | assumption | omega | decide) only [up2_ne]; exact h11.2.2.2 k hk
      · simp (disch := first | assumption | omega | decide) only [up2_ne]; exact h12
      · simp (disch := first | assumption | omega | decide) only [up2_ne]; exact h13
      · simp (disch := first | assumption | omega | decide) only [up2_ne]
      · simp (disch := first | assumption | omega | decide) only [up2_ne]
      · simp (disch := first | assumption | omega | decide) only [up2_ne]
  · refine op_no (f := J_Desk_step N b (nI s) x2 x3 x4) (g := J_Mod_step N c (nI s) x2 x3 x4) hS hRD (v := 0) ?_ ?_
    · simp (disch := first | assumption | omega | decide) only [J_Desk_step, J_Desk_isStepNumber, J_Desk_isStepNumber_14, DO_0, DR_0_0, DR_0_1, DR_0_2, DR_0_3, DR_0_4, DR_0_5, DO_1, DR_1_0, DR_1_1, DR_1_2, DA_2, DB_2, DA_3, DB_3, DA_4, DB_4, DA_5, DO_166, DR_166_0, DR_166_1, DG_166_2, DS_166_2, DR_166_3, DG_166_4, DS_166_4, DA_167, DB_167, DA_168, DB_168, DA_169, DB_169, DO_170, DR_170_0, DR_170_1, DR_170_2, DG_170_3, DS_170_3, DG_170_4, DS_170_4, DA_171, DB_171, DA_172, DB_172, DA_173, DB_173, DO_174, DG_174_0, DS_174_0, DG_174_1, DS_174_1, DG_174_2, DS_174_2, DG_174_3, DS_174_3, DR_174_4, DA_175, DB_175, DO_176, DR_176_0, DG_176_1, DS_176_1, DR_176_2, DA_177, DB_177, DA_178, DB_178, DO_st, DG_st_0, DS_st_0, DG_st_1, DS_st_1, DG_st_2, DS_st_2, DG_st_3, DS_st_3, DR_st_4, DG_st_5, DS_st_5, DR_st_6, DG_st_7, DS_st_7, DG_st_8, DS_st_8, DG_st_9, DS_st_9, DG_st_10, DS_st_10, DG_st_11, DS_st_11, DG_st_12, DS_st_12, DR_st_13, DA_st_1, DB_st_1, DA_st_2, DB_st_2, DA_st_3, DB_st_3, ifp, ifn, Option.bind_some, n_s, n_le, n_lt, n_eq, l8, l40, l64, g40, u40, u6, u3, u0, mul6, mul3, J_bit, cmp0, b2_0, zR_b, zR_0, zR_1, up2_eq, up2_ne, up2J_eq, up2J_ne, mkv_eq, n_m1]
    · simp (disch := first | assumption | omega | decide) only [J_Mod_step, MO_0, MG_0_0, MS_0_0, MR_0_1, MR_0_2, MR_0_3, MR_0_4, MR_0_5, MR_0_6, MR_0_7, MR_0_8, MR_0_9, MR_0_10, MR_0_11, MR_0_12, MR_0_13, MR_0_14, MR_0_15, MR_0_16, MR_0_17, MR_0_18, MR_0_19, MR_0_20, MR_0_21, MR_0_22, MR_0_23, MR_0_24, MR_0_25, MR_0_26, MG_0_27, MS_0_27, MG_0_28, MS_0_28, MG_0_29, MS_0_29, MG_0_30, MS_0_30, MG_0_31, MS_0_31, MR_0_32, MR_0_33, MR_0_34, MR_0_35, MR_0_36, MG_0_37, MS_0_37, MR_0_38, MR_0_39, MA_1, MB_1, MA_2, MB_2, MA_3, MB_3, MA_4, MB_4, MA_5, MB_5, MA_6, MB_6, MA_7, MB_7, MA_8, MB_8, MA_9, MB_9, MA_10, MB_10, MA_11, MB_11, MA_12, MB_12, MA_13, MB_13, MA_14, MB_14, MA_15, MB_15, MA_16, MB_16, MA_17, MB_17, MA_18, MB_18, MA_19, MB_19, MA_20, MB_20, MA_21, MB_21, MA_22, MB_22, MA_23, MB_23, MA_24, MB_24, MA_25, MB_25, MA_26, MB_26, MA_27, MB_27, MA_28, MB_28, MA_29, MB_29, MA_30, MB_30, MA_31, MB_31, MA_32, MB_32, MA_33, MB_33, ifp, ifn, Option.bind_some, n_s, n_le, n_lt, n_eq, l8, l40, l64, g40, u40, u6, u3, u0, mul6, mul3, J_bit, cmp0, b2_0, zR_b, zR_0, zR_1, up2_eq, up2_ne, up2J_eq, up2J_ne, mkv_eq, n_m1]
end O1
