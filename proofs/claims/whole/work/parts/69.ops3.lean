def drV (V : Vw) (s : Nat) : Vw := fun o k => if o = 3 then (if V 3 k = s then 40 else V 3 k) else if (o = 0 ∨ o = 1 ∨ o = 6) ∧ k = s then 0 else V o k
section O3
variable {V : Vw} {z b z2 c N : Nat} {I P : Nat → Nat → Int32} {J : Nat → Nat → Int64} {F F2 : Nat → Option HE}
theorem lvI_4 {s f : Nat} : ∀ {n : Nat}, lvI V s I n 4 f = if anyB n (fun k => decide (vou V s k = f)) = true then -1 else I 4 f
  | 0 => by simp [lvI, anyB]
  | n + 1 => by
    rw [lvI, anyB]
    by_cases q : f = vou V s n
    · subst q; rw [up2_eq]; simp
    · rw [up2_ne (by omega), lvI_4 (n := n)]
      have : ¬ vou V s n = f := fun h => q h.symm
      simp [this]
theorem p_drop24 {s : Nat} (hm : ∀ f, f < 64 → P 3 f = mkv (vmk V f)) (hs : s < 40) (hN : 100 < N) : ∃ P', J_Mod_drop_24 N N c (nI s) (nI 0) (z2, mH c P F2) = some (1, (z2, mH c P' F2)) ∧ (∀ f, f < 64 → P' 3 f = mkv (if vmk V f = s then 40 else vmk V f)) ∧ ∀ o, o ≠ 3 → P' o = P o := by
  refine lpx 64 (fun n (st : Int32 × Hp) => J_Mod_drop_24 N n c (nI s) st.1 st.2) (fun k st => ∃ P', st = (nI k, (z2, mH c P' F2)) ∧ (∀ f, f < 64 → P' 3 f = mkv (if f < k ∧ vmk V f = s then 40 else vmk V f)) ∧ ∀ o, o ≠ 3 → P' o = P o) (fun r => ∃ P', r = some (1, (z2, mH c P' F2)) ∧ (∀ f, f < 64 → P' 3 f = mkv (if vmk V f = s then 40 else vmk V f)) ∧ ∀ o, o ≠ 3 → P' o = P o) ?_ ?_ N (nI 0, (z2, mH c P F2)) (by omega) ⟨P, rfl, fun f hf => by rw [hm f hf]; simp, fun _ _ => rfl⟩
  · rintro n k st hk ⟨P', rfl, h1, h2⟩
    have a1 : P' 3 k = mkv (vmk V k) := by rw [h1 k hk]; simp
    refine Or.inr ?_
    by_cases q : vmk V k = s
    · refine ⟨(nI (k + 1), (z2, mH c (up2 P' 3 k (-1)) F2)), ?_, _, rfl, fun f hf => ?_, fun o ho => by rw [up2_row ho]; exact h2 o ho⟩
      · simp (disch := first | assumption | omega | decide) only [J_Mod_drop_24, a1, mkv_nI, MO_0, MG_0_0, MS_0_0, MR_0_1, MR_0_2, MR_0_3, MR_0_4, MR_0_5, MR_0_6, MR_0_7, MR_0_8, MR_0_9, MR_0_10, MR_0_11, MR_0_12, MR_0_13, MR_0_14, MR_0_15, MR_0_16, MR_0_17, MR_0_18, MR_0_19, MR_0_20, MR_0_21, MR_0_22, MR_0_23, MR_0_24, MR_0_25, MR_0_26, MG_0_27, MS_0_27, MG_0_28, MS_0_28, MG_0_29, MS_0_29, MG_0_30, MS_0_30, MG_0_31, MS_0_31, MR_0_32, MR_0_33, MR_0_34, MR_0_35, MR_0_36, MG_0_37, MS_0_37, MR_0_38, MR_0_39, MA_1, MB_1, MA_2, MB_2, MA_3, MB_3, MA_4, MB_4, MA_5, MB_5, MA_6, MB_6, MA_7, MB_7, MA_8, MB_8, MA_9, MB_9, MA_10, MB_10, MA_11, MB_11, MA_12, MB_12, MA_13, MB_13, MA_14, MB_14, MA_15, MB_15, MA_16, MB_16, MA_17, MB_17, MA_18, MB_18, MA_19, MB_19, MA_20, MB_20, MA_21, MB_21, MA_22, MB_22, MA_23, MB_23, MA_24, MB_24, MA_25, MB_25, MA_26, MB_26, MA_27, MB_27, MA_28, MB_28, MA_29, MB_29, MA_30, MB_30, MA_31, MB_31, MA_32, MB_32, MA_33, MB_33, ifp, ifn, Option.bind_some, n_s, n_le, n_lt, n_eq, l8, l40, l64, g40, u40, u6, u3, u0, mul6, mul3, J_bit, cmp0, b2_0, zR_b, zR_0, zR_1, up2_eq, up2_ne, up2J_eq, up2J_ne, mkv_eq, n_m1]
      · by_cases q1 : f = k
        · subst q1; rw [up2_eq, if_pos ⟨by omega, q⟩]; rfl
        · rw [up2_ne (by omega), h1 f hf]
          by_cases q2 : f < k ∧ vmk V f = s
          · rw [if_pos q2, if_pos ⟨by omega, q2.2⟩]
          · rw [if_neg q2, if_neg (by omega)]
    · refine ⟨(nI (k + 1), (z2, mH c P' F2)), ?_, P', rfl, fun f hf => ?_, h2⟩
      · simp (disch := first | assumption | omega | decide) only [J_Mod_drop_24, a1, mkv_nI, MO_0, MG_0_0, MS_0_0, MR_0_1, MR_0_2, MR_0_3, MR_0_4, MR_0_5, MR_0_6, MR_0_7, MR_0_8, MR_0_9, MR_0_10, MR_0_11, MR_0_12, MR_0_13, MR_0_14, MR_0_15, MR_0_16, MR_0_17, MR_0_18, MR_0_19, MR_0_20, MR_0_21, MR_0_22, MR_0_23, MR_0_24, MR_0_25, MR_0_26, MG_0_27, MS_0_27, MG_0_28, MS_0_28, MG_0_29, MS_0_29, MG_0_30, MS_0_30, MG_0_31, MS_0_31, MR_0_32, MR_0_33, MR_0_34, MR_0_35, MR_0_36, MG_0_37, MS_0_37, MR_0_38, MR_0_39, MA_1, MB_1, MA_2, MB_2, MA_3, MB_3, MA_4, MB_4, MA_5, MB_5, MA_6, MB_6, MA_7, MB_7, MA_8, MB_8, MA_9, MB_9, MA_10, MB_10, MA_11, MB_11, MA_12, MB_12, MA_13, MB_13, MA_14, MB_14, MA_15, MB_15, MA_16, MB_16, MA_17, MB_17, MA_18, MB_18, MA_19, MB_19, MA_20, MB_20, MA_21, MB_21, MA_22, MB_22, MA_23, MB_23, MA_24, MB_24, MA_25, MB_25, MA_26, MB_26, MA_27, MB_27, MA_28, MB_28, MA_29, MB_29, MA_30, MB_30, MA_31, MB_31, MA_32, MB_32, MA_33, MB_33, ifp, ifn, Option.bind_some, n_s, n_le, n_lt, n_eq, l8, l40, l64, g40, u40, u6, u3, u0, mul6, mul3, J_bit, cmp0, b2_0, zR_b, zR_0, zR_1, up2_eq, up2_ne, up2J_eq, up2J_ne, mkv_eq, n_m1]
      · rw [h1 f hf]
        by_cases q1 : f = k
        · subst q1; simp [q]
        · by_cases q2 : f < k ∧ vmk V f = s
          · rw [if_pos q2, if_pos ⟨by omega, q2.2⟩]
          · rw [if_neg q2, if_neg (by omega)]
  · rintro n st ⟨P', rfl, h1, h2⟩
    refine ⟨P', ?_, fun f hf => by rw [h1 f hf]; simp [hf], h2⟩
    simp (disch := first | assumption | omega | decide) only [J_Mod_drop_24, MO_0, MG_0_0, MS_0_0, MR_0_1, MR_0_2, MR_0_3, MR_0_4, MR_0_5, MR_0_6, MR_0_7, MR_0_8, MR_0_9, MR_0_10, MR_0_11, MR_0_12, MR_0_13, MR_0_14, MR_0_15, MR_0_16, MR_0_17, MR_0_18, MR_0_19, MR_0_20, MR_0_21, MR_0_22, MR_0_23, MR_0_24, MR_0_25, MR_0_26, MG_0_27, MS_0_27, MG_0_28, MS_0_28, MG_0_29, MS_0_29, MG_0_30, MS_0_30, MG_0_31, MS_0_31, MR_0_32, MR_0_33, MR_0_34, MR_0_35, MR_0_36, MG_0_37, MS_0_37, MR_0_38, MR_0_39, MA_1, MB_1, MA_2, MB_2, MA_3, MB_3, MA_4, MB_4, MA_5, MB_5, MA_6, MB_6, MA_7, MB_7, MA_8, MB_8, MA_9, MB_9, MA_10, MB_10, MA_11, MB_11, MA_12, MB_12, MA_13, MB_13, MA_14, MB_14, MA_15, MB_15, MA_16, MB_16, MA_17, MB_17, MA_18, MB_18, MA_19, MB_19, MA_20, MB_20, MA_21, MB_21, MA_22, MB_22, MA_23, MB_23, MA_24, MB_24, MA_25, MB_25, MA_26, MB_26, MA_27, MB_27, MA_28, MB_28, MA_29, MB_29, MA_30, MB_30, MA_31, MB_31, MA_32, MB_32, MA_33, MB_33, ifp, ifn, Option.bind_some, n_s, n_le, n_lt, n_eq, l8, l40, l64, g40, u40, u6, u3, u0, mul6, mul3, J_bit, cmp0, b2_0, zR_b, zR_0, zR_1, up2_eq, up2_ne, up2J_eq, up2J_ne, mkv_eq, n_m1]
theorem o_drop (hS : PS V I P) (hRD : RD I P) (x1 : Int32) (hN : 100 < N) : ∃ v V' I' P', J_Desk_drop N b x1 (z, dH b I J F) = some (v, (z, dH b I' J F)) ∧ J_Mod_drop N c x1 (z2, mH c P F2) = some (v, (z2, mH c P' F2)) ∧ PS V' I' P' ∧ RD I' P' := by
  have u1 : ¬ (1 : Int32) = 0 := by decide
  rcases there_x (N := N) (z := z) (b := b) (z2 := z2) (c := c) (J := J) (F := F) (F2 := F2) hS x1 with ⟨t1, t2⟩ | ⟨s, hs, rfl, hth, t1, t2⟩
  · refine op_no (f := J_Desk_drop N b x1) (g := J_Mod_drop N c x1) hS hRD (v := 0) ?_ ?_
    · simp (disch := first | assumption | omega | decide) only [J_Desk_drop, t1, DO_0, DR_0_0, DR_0_1, DR_0_2, DR_0_3, DR_0_4, DR_0_5, DO_1, DR_1_0, DR_1_1, DR_1_2, DA_2, DB_2, DA_3, DB_3, DA_4, DB_4, DA_5, DO_166, DR_166_0, DR_166_1, DG_166_2, DS_166_2, DR_166_3, DG_166_4, DS_166_4, DA_167, DB_167, DA_168, DB_168, DA_169, DB_169, DO_170, DR_170_0, DR_170_1, DR_170_2, DG_170_3, DS_170_3, DG_170_4, DS_170_4, DA_171, DB_171, DA_172, DB_172, DA_173, DB_173, DO_174, DG_174_0, DS_174_0, DG_174_1, DS_174_1, DG_174_2, DS_174_2, DG_174_3, DS_174_3, DR_174_4, DA_175, DB_175, DO_176, DR_176_0, DG_176_1, DS_176_1, DR_176_2, DA_177, DB_177, DA_178, DB_178, DO_st, DG_st_0, DS_st_0, DG_st_1, DS_st_1, DG_st_2, DS_st_2, DG_st_3, DS_st_3, DR_st_4, DG_st_5, DS_st_5, DR_st_6, DG_st_7, DS_st_7, DG_st_8, DS_st_8, DG_st_9, DS_st_9, DG_st_10, DS_st_10, DG_st_11, DS_st_11, DG_st_12, DS_st_12, DR_st_13, DA_st_1, DB_st_1, DA_st_2, DB_st_2, DA_st_3, DB_st_3, ifp, ifn, Option.bind_some, n_s, n_le, n_lt, n_eq, l8, l40, l64, g40, u40, u6, u3, u0, mul6, mul3, J_bit, cmp0, b2_0, zR_b, zR_0, zR_1, up2_eq, up2_ne, up2J_eq, up2J_ne, mkv_eq, n_m1]
    · simp (disch := first | assumption | omega | decide) only [J_Mod_drop, t2, MO_0, MG_0_0, MS_0_0, MR_0_1, MR_0_2, MR_0_3, MR_0_4, MR_0_5, MR_0_6, MR_0_7, MR_0_8, MR_0_9, MR_0_10, MR_0_11, MR_0_12, MR_0_13, MR_0_14, MR_0_15, MR_0_16, MR_0_17, MR_0_18, MR_0_19, MR_0_20, MR_0_21, MR_0_22, MR_0_23, MR_0_24, MR_0_25, MR_0_26, MG_0_27, MS_0_27, MG_0_28, MS_0_28, MG_0_29, MS_0_29, MG_0_30, MS_0_30, MG_0_31, MS_0_31, MR_0_32, MR_0_33, MR_0_34, MR_0_35, MR_0_36, MG_0_37, MS_0_37, MR_0_38, MR_0_39, MA_1, MB_1, MA_2, MB_2, MA_3, MB_3, MA_4, MB_4, MA_5, MB_5, MA_6, MB_6, MA_7, MB_7, MA_8, MB_8, MA_9, MB_9, MA_10, MB_10, MA_11, MB_11, MA_12, MB_12, MA_13, MB_13, MA_14, MB_14, MA_15, MB_15, MA_16, MB_16, MA_17, MB_17, MA_18, MB_18, MA_19, MB_19, MA_20, MB_20, MA_21, MB_21, MA_22, MB_22, MA_23, MB_23, MA_24, MB_24, MA_25, MB_25, MA_26, MB_26, MA_27, MB_27, MA_28, MB_28, MA_29, MB_29, MA_30, MB_30, MA_31, MB_31, MA_32, MB_32, MA_33, MB_33, ifp, ifn, Option.bind_some, n_s, n_le, n_lt, n_eq, l8, l40, l64, g40, u40, u6, u3, u0, mul6, mul3, J_bit, cmp0, b2_0, zR_b, zR_0, zR_1, up2_eq, up2_ne, up2J_eq, up2J_ne, mkv_eq, n_m1]
  obtain ⟨h1, h2, h3, h4, h5, h6, h7, h8, h9, ⟨tl, h10, h11⟩, h12, h13⟩ := hS
  have l1 := q_leave (N := N) (z := z) (b := b) (J := J) (F := F) h1 h2 hs (by omega)
  obtain ⟨P', p1, p2, p3⟩ := p_drop24 (V := V) (N := N) (z2 := z2) (c := c) (P := up2 (up2 P 0 0 0) 4 s 0) (F2 := F2) (s := s) (fun f hf => by simp (disch := first | assumption | omega | decide) only [up2_ne]; exact h3.2.2.2.1 f hf) hs hN
  have p1' : J_Mod_drop_24 N N c (nI s) (0 : Int32) (z2, mH c (up2 (up2 P 0 0 0) 4 s 0) F2) = _ := p1
  have pr : ∀ o k, o ≠ 3 → (o ≠ 0 ∨ k ≠ 0) → (o ≠ 4 ∨ k ≠ s) → P' o k = P o k := fun o k o1 o2 o3 => by
    rw [p3 o o1, up2_ne o3, up2_ne o2]
  have e_mk : ∀ f, vmk (drV V s) f = if vmk V f = s then 40 else vmk V f := fun f => by unfold vmk drV; rw [if_pos rfl]
  have e_ics : vic (drV V s) s = 0 := by simp [vic, drV]
  have e_ocs : voc (drV V s) s = 0 := by simp [voc, drV]
  have e_ths : vth (drV V s) s = false := by simp [vth, drV]
  have e_icn : ∀ t, t ≠ s → vic (drV V s) t = vic V t := fun t ht => by simp [vic, drV, ht]
  have e_ocn : ∀ t, t ≠ s → voc (drV V s) t = voc V t := fun t ht => by simp [voc, drV, ht]
  have e_thn : ∀ t, t ≠ s → vth (drV V s) t = vth V t := fun t ht => by simp [vth, drV, ht]
  have e_du : ∀ t, vdu (drV V s) t = vdu V t := fun t => by simp [vdu, drV]
  have e_in : ∀ t k, vin (drV V s) t k = vin V t k := fun t k => by simp [vin, drV]
  have e_ou : ∀ t k, vou (drV V s) t k = vou V t k := fun t k => by simp [vou, drV]
  have mkx : ∀ f, f < 64 → (anyB (voc V s) (fun k => decide (vou V s k = f)) = true ↔ vmk V f = s) := by
    intro f hf
    rw [anyB_iff]
    constructor
    · rintro ⟨k, hk, e⟩
      have : vou V s k = f := by simpa using e
      rw [← this]; exact (h1.2.2.1 s k hs hk).2
    · intro e
      obtain ⟨_, k, k1, k2⟩ := h1.2.2.2.2.1 f hf (by omega)
      rw [e] at k1 k2
      exact ⟨k, k1, by simp [k2]⟩
  have nth : ∀ t, vth (drV V s) t = true → t ≠ s ∧ vth V t = true := by
    intro t ht
    have : t ≠ s := by intro q; rw [q, e_ths] at ht; exact absurd ht (by simp)
    exact ⟨this, by rw [e_thn t this] at ht; exact ht⟩
  refine ⟨1, drV V s, up2 (up2 (up2 (up2 (lvI V s I (voc V s)) (6 + 4 * s) 0 0) (6 + 4 * s) 8 0) (6 + 4 * s) 5 0) (6 + 4 * s) 7 0, P', ?_, ?_, ⟨⟨fun t ht => ?_, fun t k ht hk => ?_, fun t k ht hk => ?_, fun g hg => ?_, fun g hg hm => ?_, fun t ht hh => ?_, fun t ht hh => ?_⟩, ⟨fun t ht => ?_, fun t k ht hk => ?_, fun t k ht hk => ?_, fun g hg => ?_⟩, ⟨fun t ht hh => ?_, fun t k ht hh hk => ?_, fun t k ht hh hk => ?_, fun g hg => ?_, fun t ht => ?_⟩, fun t ht => ?_, fun g hg => ?_, fun t ht => ?_, fun t ht hh => ?_, fun t k ht hk _ => ?_, fun t ht hh => ?_, ⟨tl, h10, ?_, ?_, ?_, fun k hk => ?_⟩, ?_, ?_⟩, RD_c hRD (fun o k ho => ?_) (fun k => ?_) ?_⟩
  · simp (disch := first | assumption | omega | decide) only [J_Desk_drop, t1, l1, DO_0, DR_0_0, DR_0_1, DR_0_2, DR_0_3, DR_0_4, DR_0_5, DO_1, DR_1_0, DR_1_1, DR_1_2, DA_2, DB_2, DA_3, DB_3, DA_4, DB_4, DA_5, DO_166, DR_166_0, DR_166_1, DG_166_2, DS_166_2, DR_166_3, DG_166_4, DS_166_4, DA_167, DB_167, DA_168, DB_168, DA_169, DB_169, DO_170, DR_170_0, DR_170_1, DR_170_2, DG_170_3, DS_170_3, DG_170_4, DS_170_4, DA_171, DB_171, DA_172, DB_172, DA_173, DB_173, DO_174, DG_174_0, DS_174_0, DG_174_1, DS_174_1, DG_174_2, DS_174_2, DG_174_3, DS_174_3, DR_174_4, DA_175, DB_175, DO_176, DR_176_0, DG_176_1, DS_176_1, DR_176_2, DA_177, DB_177, DA_178, DB_178, DO_st, DG_st_0, DS_st_0, DG_st_1, DS_st_1, DG_st_2, DS_st_2, DG_st_3, DS_st_3, DR_st_4, DG_st_5, DS_st_5, DR_st_6, DG_st_7, DS_st_7, DG_st_8, DS_st_8, DG_st_9, DS_st_9, DG_st_10, DS_st_10, DG_st_11, DS_st_11, DG_st_12, DS_st_12, DR_st_13, DA_st_1, DB_st_1, DA_st_2, DB_st_2, DA_st_3, DB_st_3, ifp, ifn, Option.bind_some, n_s, n_le, n_lt, n_eq, l8, l40, l64, g40, u40, u6, u3, u0, mul6, mul3, J_bit, cmp0, b2_0, zR_b, zR_0, zR_1, up2_eq, up2_ne, up2J_eq, up2J_ne, mkv_eq, n_m1]
  · simp (disch := first | assumption | omega | decide) only [J_Mod_drop, t2, p1', MO_0, MG_0_0, MS_0_0, MR_0_1, MR_0_2, MR_0_3, MR_0_4, MR_0_5, MR_0_6, MR_0_7, MR_0_8, MR_0_9, MR_0_10, MR_0_11, MR_0_12, MR_0_13, MR_0_14, MR_0_15, MR_0_16, MR_0_17, MR_0_18, MR_0_19, MR_0_20, MR_0_21, MR_0_22, MR_0_23, MR_0_24, MR_0_25, MR_0_26, MG_0_27, MS_0_27, MG_0_28, MS_0_28, MG_0_29, MS_0_29, MG_0_30, MS_0_30, MG_0_31, MS_0_31, MR_0_32, MR_0_33, MR_0_34, MR_0_35, MR_0_36, MG_0_37, MS_0_37, MR_0_38, MR_0_39, MA_1, MB_1, MA_2, MB_2, MA_3, MB_3, MA_4, MB_4, MA_5, MB_5, MA_6, MB_6, MA_7, MB_7, MA_8, MB_8, MA_9, MB_9, MA_10, MB_10, MA_11, MB_11, MA_12, MB_12, MA_13, MB_13, MA_14, MB_14, MA_15, MB_15, MA_16, MB_16, MA_17, MB_17, MA_18, MB_18, MA_19, MB_19, MA_20, MB_20, MA_21, MB_21, MA_22, MB_22, MA_23, MB_23, MA_24, MB_24, MA_25, MB_25, MA_26, MB_26, MA_27, MB_27, MA_28, MB_28, MA_29, MB_29, MA_30, MB_30, MA_31, MB_31, MA_32, MB_32, MA_33, MB_33, ifp, ifn, Option.bind_some, n_s, n_le, n_lt, n_eq, l8, l40, l64, g40, u40, u6, u3, u0, mul6, mul3, J_bit, cmp0, b2_0, zR_b, zR_0, zR_1, up2_eq, up2_ne, up2J_eq, up2J_ne, mkv_eq, n_m1]
  · have := h1.1 t ht
    rw [e_du]
    by_cases q : t = s
    · subst q; rw [e_ics, e_ocs]; omega
    · rw [e_icn t q, e_ocn t q]; exact this
  · rw [e_in]
    have q : t ≠ s := by intro q; rw [q, e_ics] at hk; omega
    rw [e_icn t q] at hk; exact h1.2.1 t k ht hk
  · have q : t ≠ s := by intro q; rw [q, e_ocs] at hk; omega
    rw [e_ocn t q] at hk
    have := h1.2.2.1 t k ht hk
    rw [e_ou, e_mk, this.2, if_neg q]; exact ⟨this.1, rfl⟩
  · rw [e_mk]
    have := h1.2.2.2.1 g hg
    split <;> omega
  · rw [e_mk] at hm ⊢
    by_cases q : vmk V g = s
    · rw [if_pos q] at hm; omega
    · rw [if_neg q] at hm ⊢
      rw [e_thn _ q, e_ocn _ q]; simp only [e_ou]
      exact h1.2.2.2.2.1 g hg hm
  · rw [e_du]; exact h1.2.2.2.2.2.1 t ht (nth t hh).2
  · by_cases q : t = s
    · subst q; exact ⟨e_ics, e_ocs⟩
    · rw [e_icn t q, e_ocn t q]; rw [e_thn t q] at hh; exact h1.2.2.2.2.2.2 t ht hh
  · rw [e_du]
    by_cases q : t = s
    · subst q; rw [e_ics, e_ocs]; simp (disch := first | assumption | omega | decide) only [up2_ne, up2_eq, lvI_ne, h2.1 t ht]; exact ⟨rfl, rfl, trivial⟩
    · rw [e_icn t q, e_ocn t q]; simp (disch := first | assumption | omega | decide) only [up2_ne, lvI_ne]; exact h2.1 t ht
  · have q : t ≠ s := by intro q; rw [q, e_ics] at hk; omega
    rw [e_icn t q] at hk; rw [e_in]; simp (disch := first | assumption | omega | decide) only [up2_ne, lvI_ne]; exact h2.2.1 t k ht hk
  · have q : t ≠ s := by intro q; rw [q, e_ocs] at hk; omega
    rw [e_ocn t q] at hk; rw [e_ou]; simp (disch := first | assumption | omega | decide) only [up2_ne, lvI_ne]; exact h2.2.2.1 t k ht hk
  · simp (disch := first | assumption | omega | decide) only [up2_ne]
    rw [lvI_4, e_mk]
    by_cases q : vmk V g = s
    · rw [if_pos q, if_pos ((mkx g hg).mpr q)]; rfl
    · rw [if_neg q, if_neg (fun h => q ((mkx g hg).mp h))]; exact h2.2.2.2 g hg
  · obtain ⟨q, hh'⟩ := nth t hh
    rw [e_icn t q, e_ocn t q, pr _ _ (by omega) (by omega) (by omega), pr _ _ (by omega) (by omega) (by omega)]; exact h3.1 t ht hh'
  · obtain ⟨q, hh'⟩ := nth t hh
    rw [e_icn t q] at hk
    rw [e_in, pr _ _ (by omega) (by omega) (by omega)]; exact h3.2.1 t k ht hh' hk
  · obtain ⟨q, hh'⟩ := nth t hh
    rw [e_ocn t q] at hk
    rw [e_ou, pr _ _ (by omega) (by omega) (by omega)]; exact h3.2.2.1 t k ht hh' hk
  · rw [p2 g hg, e_mk]
  · rw [e_du, pr _ _ (by omega) (by omega) (by omega)]; exact h3.2.2.2.2 t ht
  · by_cases q : t = s
    · subst q; rw [e_ths, p3 4 (by omega)]; simp (disch := first | assumption | omega | decide) only [up2_ne, up2_eq]; exact ⟨rfl, rfl⟩
    · rw [e_thn t q, pr _ _ (by omega) (by omega) (by omega)]; simp (disch := first | assumption | omega | decide) only [up2_ne, lvI_ne]; exact h4 t ht
  · rw [pr _ _ (by omega) (by omega) (by omega), pr _ _ (by omega) (by omega) (by omega)]; simp (disch := first | assumption | omega | decide) only [up2_ne, lvI_ne]; exact h5 g hg
  · simp (disch := first | assumption | omega | decide) only [pr, up2_ne, lvI_ne]; exact h6 t ht
  · obtain ⟨q, hh'⟩ := nth t hh
    have := h7 t ht hh'
    simp (disch := first | assumption | omega | decide) only [OR1, e_icn t q, e_ocn t q, e_in, e_ou, pr, up2_ne, lvI_ne] at this ⊢; exact this
  · simp (disch := first | assumption | omega | decide) only [pr, up2_ne, lvI_ne]; exact h8 t k ht hk (Or.inl rfl)
  · by_cases q : t = s
    · subst q; simp (disch := first | assumption | omega | decide) only [up2_ne, up2_eq]
    · rw [e_thn t q] at hh; simp (disch := first | assumption | omega | decide) only [up2_ne, lvI_ne]; exact h9 t ht hh
  · simp (disch := first | assumption | omega | decide) only [up2_ne, lvI_ne]; exact h11.1
  · simp (disch := first | assumption | omega | decide) only [pr]; exact h11.2.1
  · simp (disch := first | assumption | omega | decide) only [pr, up2_ne, lvI_ne]; exact h11.2.2.1
  · simp (disch := first | assumption | omega | decide) only [pr, up2_ne, lvI_ne]; exact h11.2.2.2 k hk
  · simp (disch := first | assumption | omega | decide) only [pr, up2_ne, lvI_ne]; exact h12
  · simp (disch := first | assumption | omega | decide) only [pr, up2_ne, lvI_ne]; exact h13
  · simp (disch := first | assumption | omega | decide) only [up2_ne, lvI_ne]
  · simp (disch := first | assumption | omega | decide) only [pr]
  · simp (disch := first | assumption | omega | decide) only [pr]
theorem o_source (hS : PS V I P) (hRD : RD I P) (x1 x2 : Int32) : ∃ v V' I' P', J_Desk_source N b x1 x2 (z, dH b I J F) = some (v, (z, dH b I' J F)) ∧ J_Mod_source N c x1 x2 (z2, mH c P F2) = some (v, (z2, mH c P' F2)) ∧ PS V' I' P' ∧ RD I' P' := by
  have u1 : ¬ (1 : Int32) = 0 := by decide
  rcases file_x (N := N) x1 with ⟨f1, f2⟩ | ⟨f, hf, rfl, f1, f2⟩
  · refine op_no (f := J_Desk_source N b x1 x2) (g := J_Mod_source N c x1 x2) hS hRD (v := 0) ?_ ?_
    · simp (disch := first | assumption | omega | decide) only [J_Desk_source, J_Desk_isSource, J_Desk_isSource_23, f1, DO_0, DR_0_0, DR_0_1, DR_0_2, DR_0_3, DR_0_4, DR_0_5, DO_1, DR_1_0, DR_1_1, DR_1_2, DA_2, DB_2, DA_3, DB_3, DA_4, DB_4, DA_5, DO_166, DR_166_0, DR_166_1, DG_166_2, DS_166_2, DR_166_3, DG_166_4, DS_166_4, DA_167, DB_167, DA_168, DB_168, DA_169, DB_169, DO_170, DR_170_0, DR_170_1, DR_170_2, DG_170_3, DS_170_3, DG_170_4, DS_170_4, DA_171, DB_171, DA_172, DB_172, DA_173, DB_173, DO_174, DG_174_0, DS_174_0, DG_174_1, DS_174_1, DG_174_2, DS_174_2, DG_174_3, DS_174_3, DR_174_4, DA_175, DB_175, DO_176, DR_176_0, DG_176_1, DS_176_1, DR_176_2, DA_177, DB_177, DA_178, DB_178, DO_st, DG_st_0, DS_st_0, DG_st_1, DS_st_1, DG_st_2, DS_st_2, DG_st_3, DS_st_3, DR_st_4, DG_st_5, DS_st_5, DR_st_6, DG_st_7, DS_st_7, DG_st_8, DS_st_8, DG_st_9, DS_st_9, DG_st_10, DS_st_10, DG_st_11, DS_st_11, DG_st_12, DS_st_12, DR_st_13, DA_st_1, DB_st_1, DA_st_2, DB_st_2, DA_st_3, DB_st_3, ifp, ifn, Option.bind_some, n_s, n_le, n_lt, n_eq, l8, l40, l64, g40, u40, u6, u3, u0, mul6, mul3, J_bit, cmp0, b2_0, zR_b, zR_0, zR_1, up2_eq, up2_ne, up2J_eq, up2J_ne, mkv_eq, n_m1]
    · simp (disch := first | assumption | omega | decide) only [J_Mod_source, f2, MO_0, MG_0_0, MS_0_0, MR_0_1, MR_0_2, MR_0_3, MR_0_4, MR_0_5, MR_0_6, MR_0_7, MR_0_8, MR_0_9, MR_0_10, MR_0_11, MR_0_12, MR_0_13, MR_0_14, MR_0_15, MR_0_16, MR_0_17, MR_0_18, MR_0_19, MR_0_20, MR_0_21, MR_0_22, MR_0_23, MR_0_24, MR_0_25, MR_0_26, MG_0_27, MS_0_27, MG_0_28, MS_0_28, MG_0_29, MS_0_29, MG_0_30, MS_0_30, MG_0_31, MS_0_31, MR_0_32, MR_0_33, MR_0_34, MR_0_35, MR_0_36, MG_0_37, MS_0_37, MR_0_38, MR_0_39, MA_1, MB_1, MA_2, MB_2, MA_3, MB_3, MA_4, MB_4, MA_5, MB_5, MA_6, MB_6, MA_7, MB_7, MA_8, MB_8, MA_9, MB_9, MA_10, MB_10, MA_11, MB_11, MA_12, MB_12, MA_13, MB_13, MA_14, MB_14, MA_15, MB_15, MA_16, MB_16, MA_17, MB_17, MA_18, MB_18, MA_19, MB_19, MA_20, MB_20, MA_21, MB_21, MA_22, MB_22, MA_23, MB_23, MA_24, MB_24, MA_25, MB_25, MA_26, MB_26, MA_27, MB_27, MA_28, MB_28, MA_29, MB_29, MA_30, MB_30, MA_31, MB_31, MA_32, MB_32, MA_33, MB_33, ifp, ifn, Option.bind_some, n_s, n_le, n_lt, n_eq, l8, l40, l64, g40, u40, u6, u3, u0, mul6, mul3, J_bit, cmp0, b2_0, zR_b, zR_0, zR_1, up2_eq, up2_ne, up2J_eq, up2J_ne, mkv_eq, n_m1]
  have i4 := hS.2.1.2.2.2 f hf
  have p3 := hS.2.2.1.2.2.2.1 f hf
  by_cases q0 : 40 ≤ vmk V f
  rotate_left
  · refine op_no (f := J_Desk_source N b (nI f) x2) (g := J_Mod_source N c (nI f) x2) hS hRD (v := 0) ?_ ?_
    · simp (disch := first | assumption | omega | decide) only [J_Desk_source, J_Desk_isSource, J_Desk_isSource_23, f1, J_File_makerOf, i4, DO_0, DR_0_0, DR_0_1, DR_0_2, DR_0_3, DR_0_4, DR_0_5, DO_1, DR_1_0, DR_1_1, DR_1_2, DA_2, DB_2, DA_3, DB_3, DA_4, DB_4, DA_5, DO_166, DR_166_0, DR_166_1, DG_166_2, DS_166_2, DR_166_3, DG_166_4, DS_166_4, DA_167, DB_167, DA_168, DB_168, DA_169, DB_169, DO_170, DR_170_0, DR_170_1, DR_170_2, DG_170_3, DS_170_3, DG_170_4, DS_170_4, DA_171, DB_171, DA_172, DB_172, DA_173, DB_173, DO_174, DG_174_0, DS_174_0, DG_174_1, DS_174_1, DG_174_2, DS_174_2, DG_174_3, DS_174_3, DR_174_4, DA_175, DB_175, DO_176, DR_176_0, DG_176_1, DS_176_1, DR_176_2, DA_177, DB_177, DA_178, DB_178, DO_st, DG_st_0, DS_st_0, DG_st_1, DS_st_1, DG_st_2, DS_st_2, DG_st_3, DS_st_3, DR_st_4, DG_st_5, DS_st_5, DR_st_6, DG_st_7, DS_st_7, DG_st_8, DS_st_8, DG_st_9, DS_st_9, DG_st_10, DS_st_10, DG_st_11, DS_st_11, DG_st_12, DS_st_12, DR_st_13, DA_st_1, DB_st_1, DA_st_2, DB_st_2, DA_st_3, DB_st_3, ifp, ifn, Option.bind_some, n_s, n_le, n_lt, n_eq, l8, l40, l64, g40, u40, u6, u3, u0, mul6, mul3, J_bit, cmp0, b2_0, zR_b, zR_0, zR_1, up2_eq, up2_ne, up2J_eq, up2J_ne, mkv_eq, n_m1]
    · simp (disch := first | assumption | omega | decide) only [J_Mod_source, f2, p3, MO_0, MG_0_0, MS_0_0, MR_0_1, MR_0_2, MR_0_3, MR_0_4, MR_0_5, MR_0_6, MR_0_7, MR_0_8, MR_0_9, MR_0_10, MR_0_11, MR_0_12, MR_0_13, MR_0_14, MR_0_15, MR_0_16, MR_0_17, MR_0_18, MR_0_19, MR_0_20, MR_0_21, MR_0_22, MR_0_23, MR_0_24, MR_0_25, MR_0_26, MG_0_27, MS_0_27, MG_0_28, MS_0_28, MG_0_29, MS_0_29, MG_0_30, MS_0_30, MG_0_31, MS_0_31, MR_0_32, MR_0_33, MR_0_34, MR_0_35, MR_0_36, MG_0_37, MS_0_37, MR_0_38, MR_0_39, MA_1, MB_1, MA_2, MB_2, MA_3, MB_3, MA_4, MB_4, MA_5, MB_5, MA_6, MB_6, MA_7, MB_7, MA_8, MB_8, MA_9, MB_9, MA_10, MB_10, MA_11, MB_11, MA_12, MB_12, MA_13, MB_13, MA_14, MB_14, MA_15, MB_15, MA_16, MB_16, MA_17, MB_17, MA_18, MB_18, MA_19, MB_19, MA_20, MB_20, MA_21, MB_21, MA_22, MB_22, MA_23, MB_23, MA_24, MB_24, MA_25, MB_25, MA_26, MB_26, MA_27, MB_27, MA_28, MB_28, MA_29, MB_29, MA_30, MB_30, MA_31, MB_31, MA_32, MB_32, MA_33, MB_33, ifp, ifn, Option.bind_some, n_s, n_le, n_lt, n_eq, l8, l40, l64, g40, u40, u6, u3, u0, mul6, mul3, J_bit, cmp0, b2_0, zR_b, zR_0, zR_1, up2_eq, up2_ne, up2J_eq, up2J_ne, mkv_eq, n_m1]
  obtain ⟨h1, h2, h3, h4, h5, h6, h7, h8, h9, ⟨tl, h10, h11⟩, h12, h13⟩ := hS
  refine ⟨1, V, up2 (up2 I 2 f x2) 3 f 1, up2 (up2 (up2 P 0 0 0) 1 f 1) 2 f x2, ?_, ?_, ⟨h1, CV_c h2 (fun o k ho => ?_), MV_c h3 (fun o ho => ?_), fun t ht => ?_, fun g hg => ?_, fun t ht => ?_, fun t ht hh => ?_, fun t k ht hk _ => ?_, fun t ht hh => ?_, ⟨tl, h10, ?_, ?_, ?_, fun k hk => ?_⟩, ?_, ?_⟩, RD_c hRD (fun o k ho => ?_) (fun k => ?_) ?_⟩
  · simp (disch := first | assumption | omega | decide) only [J_Desk_source, J_Desk_isSource, J_Desk_isSource_23, f1, J_File_makerOf, i4, J_File_fill, DO_0, DR_0_0, DR_0_1, DR_0_2, DR_0_3, DR_0_4, DR_0_5, DO_1, DR_1_0, DR_1_1, DR_1_2, DA_2, DB_2, DA_3, DB_3, DA_4, DB_4, DA_5, DO_166, DR_166_0, DR_166_1, DG_166_2, DS_166_2, DR_166_3, DG_166_4, DS_166_4, DA_167, DB_167, DA_168, DB_168, DA_169, DB_169, DO_170, DR_170_0, DR_170_1, DR_170_2, DG_170_3, DS_170_3, DG_170_4, DS_170_4, DA_171, DB_171, DA_172, DB_172, DA_173, DB_173, DO_174, DG_174_0, DS_174_0, DG_174_1, DS_174_1, DG_174_2, DS_174_2, DG_174_3, DS_174_3, DR_174_4, DA_175, DB_175, DO_176, DR_176_0, DG_176_1, DS_176_1, DR_176_2, DA_177, DB_177, DA_178, DB_178, DO_st, DG_st_0, DS_st_0, DG_st_1, DS_st_1, DG_st_2, DS_st_2, DG_st_3, DS_st_3, DR_st_4, DG_st_5, DS_st_5, DR_st_6, DG_st_7, DS_st_7, DG_st_8, DS_st_8, DG_st_9, DS_st_9, DG_st_10, DS_st_10, DG_st_11, DS_st_11, DG_st_12, DS_st_12, DR_st_13, DA_st_1, DB_st_1, DA_st_2, DB_st_2, DA_st_3, DB_st_3, ifp, ifn, Option.bind_some, n_s, n_le, n_lt, n_eq, l8, l40, l64, g40, u40, u6, u3, u0, mul6, mul3, J_bit, cmp0, b2_0, zR_b, zR_0, zR_1, up2_eq, up2_ne, up2J_eq, up2J_ne, mkv_eq, n_m1]
  · simp (disch := first | assumption | omega | decide) only [J_Mod_source, f2, p3, MO_0, MG_0_0, MS_0_0, MR_0_1, MR_0_2, MR_0_3, MR_0_4, MR_0_5, MR_0_6, MR_0_7, MR_0_8, MR_0_9, MR_0_10, MR_0_11, MR_0_12, MR_0_13, MR_0_14, MR_0_15, MR_0_16, MR_0_17, MR_0_18, MR_0_19, MR_0_20, MR_0_21, MR_0_22, MR_0_23, MR_0_24, MR_0_25, MR_0_26, MG_0_27, MS_0_27, MG_0_28, MS_0_28, MG_0_29, MS_0_29, MG_0_30, MS_0_30, MG_0_31, MS_0_31, MR_0_32, MR_0_33, MR_0_34, MR_0_35, MR_0_36, MG_0_37, MS_0_37, MR_0_38, MR_0_39, MA_1, MB_1, MA_2, MB_2, MA_3, MB_3, MA_4, MB_4, MA_5, MB_5, MA_6, MB_6, MA_7, MB_7, MA_8, MB_8, MA_9, MB_9, MA_10, MB_10, MA_11, MB_11, MA_12, MB_12, MA_13, MB_13, MA_14, MB_14, MA_15, MB_15, MA_16, MB_16, MA_17, MB_17, MA_18, MB_18, MA_19, MB_19, MA_20, MB_20, MA_21, MB_21, MA_22, MB_22, MA_23, MB_23, MA_24, MB_24, MA_25, MB_25, MA_26, MB_26, MA_27, MB_27, MA_28, MB_28, MA_29, MB_29, MA_30, MB_30, MA_31, MB_31, MA_32, MB_32, MA_33, MB_33, ifp, ifn, Option.bind_some, n_s, n_le, n_lt, n_eq, l8, l40, l64, g40, u40, u6, u3, u0, mul6, mul3, J_bit, cmp0, b2_0, zR_b, zR_0, zR_1, up2_eq, up2_ne, up2J_eq, up2J_ne, mkv_eq, n_m1]
  · rcases ho with h | h <;> simp (disch := first | assumption | omega | decide) only [up2_ne]
  · rcases ho with h | h | h | h | h | h <;> simp (disch := first | assumption | omega | decide) only [up2_row]
  · simp (disch := first | assumption | omega | decide) only [up2_ne]; exact h4 t ht
  · by_cases q : g = f
    · subst q; simp (disch := first | assumption | omega | decide) only [up2_ne, up2_eq]; exact ⟨trivial, trivial, Or.inr trivial⟩
    · simp (disch := first | assumption | omega | decide) only [up2_ne]; exact h5 g hg
  · simp (disch := first | assumption | omega | decide) only [up2_ne]; exact h6 t ht
  · have := h7 t ht hh
    simp (disch := first | assumption | omega | decide) only [OR1, up2_ne] at this ⊢; exact this
  · simp (disch := first | assumption | omega | decide) only [up2_ne]; exact h8 t k ht hk (Or.inl rfl)
  · simp (disch := first | assumption | omega | decide) only [up2_ne]; exact h9 t ht hh
  · simp (disch := first | assumption | omega | decide) only [up2_ne]; exact h11.1
  · simp (disch := first | assumption | omega | decide) only [up2_ne]; exact h11.2.1
  · simp (disch := first | assumption | omega | decide) only [up2_ne]; exact h11.2.2.1
  · simp (disch := first | assumption | omega | decide) only [up2_ne]; exact h11.2.2.2 k hk
  · simp (disch := first | assumption | omega | decide) only [up2_ne]; exact h12
  · simp (disch := first | assumption | omega | decide) only [up2_ne]; exact h13
  · simp (disch := first | assumption | omega | decide) only [up2_ne]
  · simp (disch := first | assumption | omega | decide) only [up2_ne]
  · simp (disch := first | assumption | omega | decide) only [up2_ne]
theorem up2_same {o k : Nat} {v : Int32} (h : I o k = v) : up2 I o k v = I := by
  funext o' k'
  simp only [up2]
  by_cases q : o' = o ∧ k' = k
  · rw [if_pos q, q.1, q.2, h]
  · rw [if_neg q]
theorem o_spoil (hS : PS V I P) (hRD : RD I P) (x1 : Int32) : ∃ v V' I' P', J_Desk_spoil N b x1 (z, dH b I J F) = some (v, (z, dH b I' J F)) ∧ J_Mod_spoil N c x1 (z2, mH c P F2) = some (v, (z2, mH c P' F2)) ∧ PS V' I' P' ∧ RD I' P' := by
  have u1 : ¬ (1 : Int32) = 0 := by decide
  rcases file_x (N := N) x1 with ⟨f1, f2⟩ | ⟨f, hf, rfl, f1, f2⟩
  · refine op_no (f := J_Desk_spoil N b x1) (g := J_Mod_spoil N c x1) hS hRD (v := 0) ?_ ?_
    · simp (disch := first | assumption | omega | decide) only [J_Desk_spoil, J_Desk_spoil_22, f1, DO_0, DR_0_0, DR_0_1, DR_0_2, DR_0_3, DR_0_4, DR_0_5, DO_1, DR_1_0, DR_1_1, DR_1_2, DA_2, DB_2, DA_3, DB_3, DA_4, DB_4, DA_5, DO_166, DR_166_0, DR_166_1, DG_166_2, DS_166_2, DR_166_3, DG_166_4, DS_166_4, DA_167, DB_167, DA_168, DB_168, DA_169, DB_169, DO_170, DR_170_0, DR_170_1, DR_170_2, DG_170_3, DS_170_3, DG_170_4, DS_170_4, DA_171, DB_171, DA_172, DB_172, DA_173, DB_173, DO_174, DG_174_0, DS_174_0, DG_174_1, DS_174_1, DG_174_2, DS_174_2, DG_174_3, DS_174_3, DR_174_4, DA_175, DB_175, DO_176, DR_176_0, DG_176_1, DS_176_1, DR_176_2, DA_177, DB_177, DA_178, DB_178, DO_st, DG_st_0, DS_st_0, DG_st_1, DS_st_1, DG_st_2, DS_st_2, DG_st_3, DS_st_3, DR_st_4, DG_st_5, DS_st_5, DR_st_6, DG_st_7, DS_st_7, DG_st_8, DS_st_8, DG_st_9, DS_st_9, DG_st_10, DS_st_10, DG_st_11, DS_st_11, DG_st_12, DS_st_12, DR_st_13, DA_st_1, DB_st_1, DA_st_2, DB_st_2, DA_st_3, DB_st_3, ifp, ifn, Option.bind_some, n_s, n_le, n_lt, n_eq, l8, l40, l64, g40, u40, u6, u3, u0, mul6, mul3, J_bit, cmp0, b2_0, zR_b, zR_0, zR_1, up2_eq, up2_ne, up2J_eq, up2J_ne, mkv_eq, n_m1]
    · simp (disch := first | assumption | omega | decide) only [J_Mod_spoil, f2, MO_0, MG_0_0, MS_0_0, MR_0_1, MR_0_2, MR_0_3, MR_0_4, MR_0_5, MR_0_6, MR_0_7, MR_0_8, MR_0_9, MR_0_10, MR_0_11, MR_0_12, MR_0_13, MR_0_14, MR_0_15, MR_0_16, MR_0_17, MR_0_18, MR_0_19, MR_0_20, MR_0_21, MR_0_22, MR_0_23, MR_0_24, MR_0_25, MR_0_26, MG_0_27, MS_0_27, MG_0_28, MS_0_28, MG_0_29, MS_0_29, MG_0_30, MS_0_30, MG_0_31, MS_0_31, MR_0_32, MR_0_33, MR_0_34, MR_0_35, MR_0_36, MG_0_37, MS_0_37, MR_0_38, MR_0_39, MA_1, MB_1, MA_2, MB_2, MA_3, MB_3, MA_4, MB_4, MA_5, MB_5, MA_6, MB_6, MA_7, MB_7, MA_8, MB_8, MA_9, MB_9, MA_10, MB_10, MA_11, MB_11, MA_12, MB_12, MA_13, MB_13, MA_14, MB_14, MA_15, MB_15, MA_16, MB_16, MA_17, MB_17, MA_18, MB_18, MA_19, MB_19, MA_20, MB_20, MA_21, MB_21, MA_22, MB_22, MA_23, MB_23, MA_24, MB_24, MA_25, MB_25, MA_26, MB_26, MA_27, MB_27, MA_28, MB_28, MA_29, MB_29, MA_30, MB_30, MA_31, MB_31, MA_32, MB_32, MA_33, MB_33, ifp, ifn, Option.bind_some, n_s, n_le, n_lt, n_eq, l8, l40, l64, g40, u40, u6, u3, u0, mul6, mul3, J_bit, cmp0, b2_0, zR_b, zR_0, zR_1, up2_eq, up2_ne, up2J_eq, up2J_ne, mkv_eq, n_m1]
  have hS' := hS
  obtain ⟨h1, h2, h3, h4, h5, h6, h7, h8, h9, ⟨tl, h10, h11⟩, h12, h13⟩ := hS'
  obtain ⟨g1, g2, g3⟩ := h5 f hf
  rcases g3 with g3 | g3
  · have i3 : I 3 f = 0 := by rw [g2]; exact g3
    refine op_no (f := J_Desk_spoil N b (nI f)) (g := J_Mod_spoil N c (nI f)) hS hRD (v := 0) ?_ ?_
    · simp (disch := first | assumption | omega | decide) only [J_Desk_spoil, J_Desk_spoil_22, f1, J_File_empty, i3, up2_same i3, DO_0, DR_0_0, DR_0_1, DR_0_2, DR_0_3, DR_0_4, DR_0_5, DO_1, DR_1_0, DR_1_1, DR_1_2, DA_2, DB_2, DA_3, DB_3, DA_4, DB_4, DA_5, DO_166, DR_166_0, DR_166_1, DG_166_2, DS_166_2, DR_166_3, DG_166_4, DS_166_4, DA_167, DB_167, DA_168, DB_168, DA_169, DB_169, DO_170, DR_170_0, DR_170_1, DR_170_2, DG_170_3, DS_170_3, DG_170_4, DS_170_4, DA_171, DB_171, DA_172, DB_172, DA_173, DB_173, DO_174, DG_174_0, DS_174_0, DG_174_1, DS_174_1, DG_174_2, DS_174_2, DG_174_3, DS_174_3, DR_174_4, DA_175, DB_175, DO_176, DR_176_0, DG_176_1, DS_176_1, DR_176_2, DA_177, DB_177, DA_178, DB_178, DO_st, DG_st_0, DS_st_0, DG_st_1, DS_st_1, DG_st_2, DS_st_2, DG_st_3, DS_st_3, DR_st_4, DG_st_5, DS_st_5, DR_st_6, DG_st_7, DS_st_7, DG_st_8, DS_st_8, DG_st_9, DS_st_9, DG_st_10, DS_st_10, DG_st_11, DS_st_11, DG_st_12, DS_st_12, DR_st_13, DA_st_1, DB_st_1, DA_st_2, DB_st_2, DA_st_3, DB_st_3, ifp, ifn, Option.bind_some, n_s, n_le, n_lt, n_eq, l8, l40, l64, g40, u40, u6, u3, u0, mul6, mul3, J_bit, cmp0, b2_0, zR_b, zR_0, zR_1, up2_eq, up2_ne, up2J_eq, up2J_ne, mkv_eq, n_m1]
    · simp (disch := first | assumption | omega | decide) only [J_Mod_spoil, f2, g3, MO_0, MG_0_0, MS_0_0, MR_0_1, MR_0_2, MR_0_3, MR_0_4, MR_0_5, MR_0_6, MR_0_7, MR_0_8, MR_0_9, MR_0_10, MR_0_11, MR_0_12, MR_0_13, MR_0_14, MR_0_15, MR_0_16, MR_0_17, MR_0_18, MR_0_19, MR_0_20, MR_0_21, MR_0_22, MR_0_23, MR_0_24, MR_0_25, MR_0_26, MG_0_27, MS_0_27, MG_0_28, MS_0_28, MG_0_29, MS_0_29, MG_0_30, MS_0_30, MG_0_31, MS_0_31, MR_0_32, MR_0_33, MR_0_34, MR_0_35, MR_0_36, MG_0_37, MS_0_37, MR_0_38, MR_0_39, MA_1, MB_1, MA_2, MB_2, MA_3, MB_3, MA_4, MB_4, MA_5, MB_5, MA_6, MB_6, MA_7, MB_7, MA_8, MB_8, MA_9, MB_9, MA_10, MB_10, MA_11, MB_11, MA_12, MB_12, MA_13, MB_13, MA_14, MB_14, MA_15, MB_15, MA_16, MB_16, MA_17, MB_17, MA_18, MB_18, MA_19, MB_19, MA_20, MB_20, MA_21, MB_21, MA_22, MB_22, MA_23, MB_23, MA_24, MB_24, MA_25, MB_25, MA_26, MB_26, MA_27, MB_27, MA_28, MB_28, MA_29, MB_29, MA_30, MB_30, MA_31, MB_31, MA_32, MB_32, MA_33, MB_33, ifp, ifn, Option.bind_some, n_s, n_le, n_lt, n_eq, l8, l40, l64, g40, u40, u6, u3, u0, mul6, mul3, J_bit, cmp0, b2_0, zR_b, zR_0, zR_1, up2_eq, up2_ne, up2J_eq, up2J_ne, mkv_eq, n_m1]
  · have i3 : I 3 f = 1 := by rw [g2]; exact g3
    refine ⟨1, V, up2 I 3 f 0, up2 (up2 P 0 0 0) 1 f 0, ?_, ?_, ⟨h1, CV_c h2 (fun o k ho => ?_), MV_c h3 (fun o ho => ?_), fun t ht => ?_, fun g hg => ?_, fun t ht => ?_, fun t ht hh => ?_, fun t k ht hk _ => ?_, fun t ht hh => ?_, ⟨tl, h10, ?_, ?_, ?_, fun k hk => ?_⟩, ?_, ?_⟩, RD_c hRD (fun o k ho => ?_) (fun k => ?_) ?_⟩
    · simp (disch := first | assumption | omega | decide) only [J_Desk_spoil, J_Desk_spoil_22, f1, J_File_empty, i3, DO_0, DR_0_0, DR_0_1, DR_0_2, DR_0_3, DR_0_4, DR_0_5, DO_1, DR_1_0, DR_1_1, DR_1_2, DA_2, DB_2, DA_3, DB_3, DA_4, DB_4, DA_5, DO_166, DR_166_0, DR_166_1, DG_166_2, DS_166_2, DR_166_3, DG_166_4, DS_166_4, DA_167, DB_167, DA_168, DB_168, DA_169, DB_169, DO_170, DR_170_0, DR_170_1, DR_170_2, DG_170_3, DS_170_3, DG_170_4, DS_170_4, DA_171, DB_171, DA_172, DB_172, DA_173, DB_173, DO_174, DG_174_0, DS_174_0, DG_174_1, DS_174_1, DG_174_2, DS_174_2, DG_174_3, DS_174_3, DR_174_4, DA_175, DB_175, DO_176, DR_176_0, DG_176_1, DS_176_1, DR_176_2, DA_177, DB_177, DA_178, DB_178, DO_st, DG_st_0, DS_st_0, DG_st_1, DS_st_1, DG_st_2, DS_st_2, DG_st_3, DS_st_3, DR_st_4, DG_st_5, DS_st_5, DR_st_6, DG_st_7, DS_st_7, DG_st_8, DS_st_8, DG_st_9, DS_st_9, DG_st_10, DS_st_10, DG_st_11, DS_st_11, DG_st_12, DS_st_12, DR_st_13, DA_st_1, DB_st_1, DA_st_2, DB_st_2, DA_st_3, DB_st_3, ifp, ifn, Option.bind_some, n_s, n_le, n_lt, n_eq, l8, l40, l64, g40, u40, u6, u3, u0, mul6, mul3, J_bit, cmp0, b2_0, zR_b, zR_0, zR_1, up2_eq, up2_ne, up2J_eq, up2J_ne, mkv_eq, n_m1]
    · simp (disch := first | assumption | omega | decide) only [J_Mod_spoil, f2, g3, MO_0, MG_0_0, MS_0_0, MR_0_1, MR_0_2, MR_0_3, MR_0_4, MR_0_5, MR_0_6, MR_0_7, MR_0_8, MR_0_9, MR_0_10, MR_0_11, MR_0_12, MR_0_13, MR_0_14, MR_0_15, MR_0_16, MR_0_17, MR_0_18, MR_0_19, MR_0_20, MR_0_21, MR_0_22, MR_0_23, MR_0_24, MR_0_25, MR_0_26, MG_0_27, MS_0_27, MG_0_28, MS_0_28, MG_0_29, MS_0_29, MG_0_30, MS_0_30, MG_0_31, MS_0_31, MR_0_32, MR_0_33, MR_0_34, MR_0_35, MR_0_36, MG_0_37, MS_0_37, MR_0_38, MR_0_39, MA_1, MB_1, MA_2, MB_2, MA_3, MB_3, MA_4, MB_4, MA_5, MB_5, MA_6, MB_6, MA_7, MB_7, MA_8, MB_8, MA_9, MB_9, MA_10, MB_10, MA_11, MB_11, MA_12, MB_12, MA_13, MB_13, MA_14, MB_14, MA_15, MB_15, MA_16, MB_16, MA_17, MB_17, MA_18, MB_18, MA_19, MB_19, MA_20, MB_20, MA_21, MB_21, MA_22, MB_22, MA_23, MB_23, MA_24, MB_24, MA_25, MB_25, MA_26, MB_26, MA_27, MB_27, MA_28, MB_28, MA_29, MB_29, MA_30, MB_30, MA_31, MB_31, MA_32, MB_32, MA_33, MB_33, ifp, ifn, Option.bind_some, n_s, n_le, n_lt, n_eq, l8, l40, l64, g40, u40, u6, u3, u0, mul6, mul3, J_bit, cmp0, b2_0, zR_b, zR_0, zR_1, up2_eq, up2_ne, up2J_eq, up2J_ne, mkv_eq, n_m1]
    · rcases ho with h | h <;> simp (disch := first | assumption | omega | decide) only [up2_ne]
    · rcases ho with h | h | h | h | h | h <;> simp (disch := first | assumption | omega | decide) only [up2_row]
    · simp (disch := first | assumption | omega | decide) only [up2_ne]; exact h4 t ht
    · by_cases q : g = f
      · subst q; simp (disch := first | assumption | omega | decide) only [up2_ne, up2_eq]; exact ⟨g1, trivial, Or.inl trivial⟩
      · simp (disch := first | assumption | omega | decide) only [up2_ne]; exact h5 g hg
    · simp (disch := first | assumption | omega | decide) only [up2_ne]; exact h6 t ht
    · have := h7 t ht hh
      simp (disch := first | assumption | omega | decide) only [OR1, up2_ne] at this ⊢; exact this
    · simp (disch := first | assumption | omega | decide) only [up2_ne]; exact h8 t k ht hk (Or.inl rfl)
    · simp (disch := first | assumption | omega | decide) only [up2_ne]; exact h9 t ht hh
    · simp (disch := first | assumption | omega | decide) only [up2_ne]; exact h11.1
    · simp (disch := first | assumption | omega | decide) only [up2_ne]; exact h11.2.1
    · simp (disch := first | assumption | omega | decide) only [up2_ne]; exact h11.2.2.1
    · simp (disch := first | assumption | omega | decide) only [up2_ne]; exact h11.2.2.2 k hk
    · simp (disch := first | assumption | omega | decide) only [up2_ne]; exact h12
    · simp (disch := first | assumption | omega | decide) only [up2_ne]; exact h13
    · simp (disch := first | assumption | omega | decide) only [up2_ne]
    · simp (disch := first | assumption | omega | decide) only [up2_ne]
    · simp (disch := first | assumption | omega | decide) only [up2_ne]
theorem o_reason (hS : PS V I P) (hRD : RD I P) (x1 : Int32) (hN : 100 < N) : ∃ v V' I' P', J_Desk_reason N b x1 (z, dH b I J F) = some (v, (z, dH b I' J F)) ∧ J_Mod_reason N c x1 (z2, mH c P F2) = some (v, (z2, mH c P' F2)) ∧ PS V' I' P' ∧ RD I' P' := by
  have u1 : ¬ (1 : Int32) = 0 := by decide
  rcases there_x (N := N) (z := z) (b := b) (z2 := z2) (c := c) (J := J) (F := F) (F2 := F2) hS x1 with ⟨t1, t2⟩ | ⟨s, hs, rfl, hth, t1, t2⟩
  · refine op_no (f := J_Desk_reason N b x1) (g := J_Mod_reason N c x1) hS hRD (v := -1) ?_ ?_
    · simp (disch := first | assumption | omega | decide) only [J_Desk_reason, t1, DO_0, DR_0_0, DR_0_1, DR_0_2, DR_0_3, DR_0_4, DR_0_5, DO_1, DR_1_0, DR_1_1, DR_1_2, DA_2, DB_2, DA_3, DB_3, DA_4, DB_4, DA_5, DO_166, DR_166_0, DR_166_1, DG_166_2, DS_166_2, DR_166_3, DG_166_4, DS_166_4, DA_167, DB_167, DA_168, DB_168, DA_169, DB_169, DO_170, DR_170_0, DR_170_1, DR_170_2, DG_170_3, DS_170_3, DG_170_4, DS_170_4, DA_171, DB_171, DA_172, DB_172, DA_173, DB_173, DO_174, DG_174_0, DS_174_0, DG_174_1, DS_174_1, DG_174_2, DS_174_2, DG_174_3, DS_174_3, DR_174_4, DA_175, DB_175, DO_176, DR_176_0, DG_176_1, DS_176_1, DR_176_2, DA_177, DB_177, DA_178, DB_178, DO_st, DG_st_0, DS_st_0, DG_st_1, DS_st_1, DG_st_2, DS_st_2, DG_st_3, DS_st_3, DR_st_4, DG_st_5, DS_st_5, DR_st_6, DG_st_7, DS_st_7, DG_st_8, DS_st_8, DG_st_9, DS_st_9, DG_st_10, DS_st_10, DG_st_11, DS_st_11, DG_st_12, DS_st_12, DR_st_13, DA_st_1, DB_st_1, DA_st_2, DB_st_2, DA_st_3, DB_st_3, ifp, ifn, Option.bind_some, n_s, n_le, n_lt, n_eq, l8, l40, l64, g40, u40, u6, u3, u0, mul6, mul3, J_bit, cmp0, b2_0, zR_b, zR_0, zR_1, up2_eq, up2_ne, up2J_eq, up2J_ne, mkv_eq, n_m1]
    · simp (disch := first | assumption | omega | decide) only [J_Mod_reason, t2, MO_0, MG_0_0, MS_0_0, MR_0_1, MR_0_2, MR_0_3, MR_0_4, MR_0_5, MR_0_6, MR_0_7, MR_0_8, MR_0_9, MR_0_10, MR_0_11, MR_0_12, MR_0_13, MR_0_14, MR_0_15, MR_0_16, MR_0_17, MR_0_18, MR_0_19, MR_0_20, MR_0_21, MR_0_22, MR_0_23, MR_0_24, MR_0_25, MR_0_26, MG_0_27, MS_0_27, MG_0_28, MS_0_28, MG_0_29, MS_0_29, MG_0_30, MS_0_30, MG_0_31, MS_0_31, MR_0_32, MR_0_33, MR_0_34, MR_0_35, MR_0_36, MG_0_37, MS_0_37, MR_0_38, MR_0_39, MA_1, MB_1, MA_2, MB_2, MA_3, MB_3, MA_4, MB_4, MA_5, MB_5, MA_6, MB_6, MA_7, MB_7, MA_8, MB_8, MA_9, MB_9, MA_10, MB_10, MA_11, MB_11, MA_12, MB_12, MA_13, MB_13, MA_14, MB_14, MA_15, MB_15, MA_16, MB_16, MA_17, MB_17, MA_18, MB_18, MA_19, MB_19, MA_20, MB_20, MA_21, MB_21, MA_22, MB_22, MA_23, MB_23, MA_24, MB_24, MA_25, MB_25, MA_26, MB_26, MA_27, MB_27, MA_28, MB_28, MA_29, MB_29, MA_30, MB_30, MA_31, MB_31, MA_32, MB_32, MA_33, MB_33, ifp, ifn, Option.bind_some, n_s, n_le, n_lt, n_eq, l8, l40, l64, g40, u40, u6, u3, u0, mul6, mul3, J_bit, cmp0, b2_0, zR_b, zR_0, zR_1, up2_eq, up2_ne, up2J_eq, up2J_ne, mkv_eq, n_m1]
  have hS' := PS_0 (v := 0) hS
  obtain ⟨h1, h2, h3, h4, h5, h6, h7, h8, h9, ⟨tl, h10, h11⟩, h12, h13⟩ := hS'
  obtain ⟨g1, g2, g3⟩ := h7 s hs hth
  have w1 := q_why (V := V) (N := N) (z := z) (b := b) (J := J) (F := F) (Fi := fun f => decide (up2 P 0 0 0 1 f = 1)) (md := decide (up2 P 0 0 0 12 s = 1)) h1 h2 (fun f hf => by rw [(h5 f hf).2.1]; exact b2_d (h5 f hf).2.2) hs (by omega) (by rw [g1]; exact b2_d g2)
  have w2 := p_why (V := V) (N := N) (z := z2) (b := c) (F := F2) (P := up2 P 0 0 0) (Fi := fun f => decide (up2 P 0 0 0 1 f = 1)) (md := decide (up2 P 0 0 0 12 s = 1)) h1 h3 (fun f hf => b2_d (h5 f hf).2.2) hs hth (b2_d g2) (fun hd => g3 (by simpa using hd)) hN
  have e1 : otC I s = otM (up2 P 0 0 0) s := by
    have := h6 s hs
    simp only [otC, otM, this, (h2.1 s hs).1, (h2.1 s hs).2.1, (h3.1 s hs hth).1, (h3.1 s hs hth).2]
  have e2 : idS V (fun f => decide (up2 P 0 0 0 1 f = 1)) (I 2) (I (6 + 4 * s + 3)) s = idS V (fun f => decide (up2 P 0 0 0 1 f = 1)) (up2 P 0 0 0 2) (fun k => up2 P 0 0 0 19 (6 * s + k)) s := by
    refine anyB_congr (fun k hk => ?_)
    have := (h1.1 s hs).1
    simp only [idF, (h5 _ (h1.2.1 s k hs hk)).1, h8 s k hs (by omega) (Or.inl rfl)]
  have e3' : whyV V (fun f => decide (up2 P 0 0 0 1 f = 1)) (I 2) (I (6 + 4 * s + 3)) (decide (up2 P 0 0 0 12 s = 1)) (otC I s) s = whyV V (fun f => decide (up2 P 0 0 0 1 f = 1)) (up2 P 0 0 0 2) (fun k => up2 P 0 0 0 19 (6 * s + k)) (decide (up2 P 0 0 0 12 s = 1)) (otM (up2 P 0 0 0) s) s := by
    simp only [whyV, e1, e2]
  rw [e3'] at w1
  obtain ⟨v, w1, w2⟩ : ∃ v, J_Step_whyDue N (b + (6 + 4 * s)) (b + 1) (z, dH b I J F) = some (v, (z, dH b I J F)) ∧ J_Mod_why N c (nI s) (z2, mH c (up2 P 0 0 0) F2) = some (v, (z2, mH c (up2 P 0 0 0) F2)) := ⟨_, w1, w2⟩
  refine ⟨v, V, I, up2 P 0 0 0, ?_, ?_, PS_0 hS, RD_0 hRD⟩
  · simp (disch := first | assumption | omega | decide) only [J_Desk_reason, t1, w1, DO_0, DR_0_0, DR_0_1, DR_0_2, DR_0_3, DR_0_4, DR_0_5, DO_1, DR_1_0, DR_1_1, DR_1_2, DA_2, DB_2, DA_3, DB_3, DA_4, DB_4, DA_5, DO_166, DR_166_0, DR_166_1, DG_166_2, DS_166_2, DR_166_3, DG_166_4, DS_166_4, DA_167, DB_167, DA_168, DB_168, DA_169, DB_169, DO_170, DR_170_0, DR_170_1, DR_170_2, DG_170_3, DS_170_3, DG_170_4, DS_170_4, DA_171, DB_171, DA_172, DB_172, DA_173, DB_173, DO_174, DG_174_0, DS_174_0, DG_174_1, DS_174_1, DG_174_2, DS_174_2, DG_174_3, DS_174_3, DR_174_4, DA_175, DB_175, DO_176, DR_176_0, DG_176_1, DS_176_1, DR_176_2, DA_177, DB_177, DA_178, DB_178, DO_st, DG_st_0, DS_st_0, DG_st_1, DS_st_1, DG_st_2, DS_st_2, DG_st_3, DS_st_3, DR_st_4, DG_st_5, DS_st_5, DR_st_6, DG_st_7, DS_st_7, DG_st_8, DS_st_8, DG_st_9, DS_st_9, DG_st_10, DS_st_10, DG_st_11, DS_st_11, DG_st_12, DS_st_12, DR_st_13, DA_st_1, DB_st_1, DA_st_2, DB_st_2, DA_st_3, DB_st_3, ifp, ifn, Option.bind_some, n_s, n_le, n_lt, n_eq, l8, l40, l64, g40, u40, u6, u3, u0, mul6, mul3, J_bit, cmp0, b2_0, zR_b, zR_0, zR_1, up2_eq, up2_ne, up2J_eq, up2J_ne, mkv_eq, n_m1]
  · simp (disch := first | assumption | omega | decide) only [J_Mod_reason, t2, w2, MO_0, MG_0_0, MS_0_0, MR_0_1, MR_0_2, MR_0_3, MR_0_4, MR_0_5, MR_0_6, MR_0_7, MR_0_8, MR_0_9, MR_0_10, MR_0_11, MR_0_12, MR_0_13, MR_0_14, MR_0_15, MR_0_16, MR_0_17, MR_0_18, MR_0_19, MR_0_20, MR_0_21, MR_0_22, MR_0_23, MR_0_24, MR_0_25, MR_0_26, MG_0_27, MS_0_27, MG_0_28, MS_0_28, MG_0_29, MS_0_29, MG_0_30, MS_0_30, MG_0_31, MS_0_31, MR_0_32, MR_0_33, MR_0_34, MR_0_35, MR_0_36, MG_0_37, MS_0_37, MR_0_38, MR_0_39, MA_1, MB_1, MA_2, MB_2, MA_3, MB_3, MA_4, MB_4, MA_5, MB_5, MA_6, MB_6, MA_7, MB_7, MA_8, MB_8, MA_9, MB_9, MA_10, MB_10, MA_11, MB_11, MA_12, MB_12, MA_13, MB_13, MA_14, MB_14, MA_15, MB_15, MA_16, MB_16, MA_17, MB_17, MA_18, MB_18, MA_19, MB_19, MA_20, MB_20, MA_21, MB_21, MA_22, MB_22, MA_23, MB_23, MA_24, MB_24, MA_25, MB_25, MA_26, MB_26, MA_27, MB_27, MA_28, MB_28, MA_29, MB_29, MA_30, MB_30, MA_31, MB_31, MA_32, MB_32, MA_33, MB_33, ifp, ifn, Option.bind_some, n_s, n_le, n_lt, n_eq, l8, l40, l64, g40, u40, u6, u3, u0, mul6, mul3, J_bit, cmp0, b2_0, zR_b, zR_0, zR_1, up2_eq, up2_ne, up2J_eq, up2J_ne, mkv_eq, n_m1]
end O3
