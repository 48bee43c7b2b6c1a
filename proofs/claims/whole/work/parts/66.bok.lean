section BO
variable {V : Vw} {z b z2 c N : Nat} {I P : Nat → Nat → Int32} {J : Nat → Nat → Int64} {F F2 : Nat → Option HE}
theorem build_ok {f wk : Nat} (hS : PS V I P) (hRD : RD I P) (hf : f < 64) (hw1 : 1 ≤ wk) (hwk : wk ≤ 8) (hN : 1000000 < N) : ∃ I' J' P', PS V I' P' ∧ RD I' P' ∧ ((∃ tm, J_Desk_build N b (nI f) (nI wk) (z, dH b I J F) = some (.inr (nI tm), (z, dH b I' J' F)) ∧ J_Mod_build N c (nI f) (nI wk) (z2, mH c P F2) = some (nI tm, (z2, mH c P' F2)) ∧ P' 0 0 = 0) ∨ (J_Desk_build N b (nI f) (nI wk) (z, dH b I J F) = some (.inl 1, (z + 1, dH b I' J' F)) ∧ J_Mod_build N c (nI f) (nI wk) (z2, mH c P F2) = some (0, (z2, mH c P' F2)) ∧ P' 0 0 = 2)) := by
  have hS' := hS
  obtain ⟨h1, h2, h3, h4, h5, h6, h7, h8, h9, h10, h11, h12⟩ := hS'
  have i4 := h2.2.2.2 f hf
  have w1 := b_isFile (N := N) (z := z) (M := dH b I J F) hf
  have w2 := p_isFile (N := N) (z := z2) (M := mH c P F2) hf
  have u1 : ¬ (1 : Int32) = 0 := by decide
  obtain ⟨J1, A, a1, a2, a3, a4⟩ := q_findNeeded (V := V) (N := N) (z := z) (b := b) (I := I) (J := J) (F := F) h1 h2 hf (by omega)
  obtain ⟨P1, A', b1, b2', b3, b4, b5⟩ := p_spread (V := V) (N := N) (z := z2) (b := c) (P := P) (F := F2) h1 h3 hf (by omega)
  have eA := Lst_u a4 b5
  have hP20 : ∀ s, s < 40 → P1 20 s = b2 (A s) := fun s hs => by rw [eA s hs]; exact b2' s hs
  have hAt : ∀ s, s < 40 → A s = true → vth V s = true := fun s hs h => b4 s hs (by rw [← eA s hs]; exact h)
  have hm1 : MV V P1 := MV_c h3 (fun o ho => b3 o (by omega))
  obtain ⟨cL, I1, c1, c2, c3, c4⟩ := q_lineUp (V := V) (A := A) (N := N) (z := z) (b := b) (I := I) (J := J1) (F := F) a2 a3 (by omega)
  obtain ⟨cR, P2, d1, d2, d3, d4⟩ := p_isRound (V := V) (A := A) (N := N) (z := z2) (b := c) (P := P1) (F := F2) h1 hm1 hP20 hAt hN
  have hI1 : ∀ o k, o < 166 ∨ o = 174 ∨ o = 175 ∨ o = 176 ∨ o = 177 → I1 o k = I o k := fun o k ho => c2 o k (by omega) (by omega)
  have hP2 : ∀ o k, (1 ≤ o ∧ o ≤ 19) ∨ (27 ≤ o ∧ o ≤ 31) → P2 o k = P o k := fun o k ho => by rw [d2 o k (by omega) (by right; omega), b3 o (by omega)]
  have hP20' : ∀ k, k ≠ 37 → P2 0 k = P 0 k := fun k hk => by rw [d2 0 k (by omega) (by right; omega), b3 0 (by omega)]
  cases cL
  · obtain ⟨Pl, e1, e2, e3⟩ := c4 rfl
    have e4 := stk_no a4.2.1 e1 e2 e3
    cases cR
    · exact absurd (d3 rfl) e4
    · obtain ⟨s0, m0, f1, f2, f3⟩ := d4 rfl
      obtain ⟨I2, J2, g1, g2, g3⟩ := q_find (V := V) (A := A) (N := N) (z := z) (b := b) (I := I1) (J := J1) (F := F) a2 a3 (by omega)
      rcases g3 with g3 | ⟨s1, m1, k1, k2, k3, k4, k5, k6, k7, k8, k9⟩
      · exact absurd g3 e4
      · obtain ⟨rfl, rfl⟩ := Rnd_u f1 (⟨k1, k2, k3, k4, k5, k6, k7⟩ : Rnd V A s1 m1)
        refine ⟨I2, J2, up2 P2 0 0 2, PS_c hS (fun o k ho => ?_) (fun o k ho => ?_) (fun k k1 k2 => ?_), ⟨m0, k5, k8, ?_, fun i hi => ?_⟩, Or.inr ⟨?_, ?_, by rw [up2_eq]⟩⟩
        · rw [g2 o k (by omega) (by omega)]; exact hI1 o k (by omega)
        · rw [up2_ne (by omega)]; exact hP2 o k ho
        · rw [up2_ne (by omega)]; exact hP20' k (by omega)
        · rw [up2_ne (by omega)]; exact f2
        · rw [up2_ne (by omega), k9 i hi, f3 i hi]
        · simp (disch := first | assumption | omega | decide) only [J_Desk_build, w1, J_File_makerOf, i4, a1, c1, b2_f, g1, le8, lt1, DO_0, DR_0_0, DR_0_1, DR_0_2, DR_0_3, DR_0_4, DR_0_5, DO_1, DR_1_0, DR_1_1, DR_1_2, DA_2, DB_2, DA_3, DB_3, DA_4, DB_4, DA_5, DO_166, DR_166_0, DR_166_1, DG_166_2, DS_166_2, DR_166_3, DG_166_4, DS_166_4, DA_167, DB_167, DA_168, DB_168, DA_169, DB_169, DO_170, DR_170_0, DR_170_1, DR_170_2, DG_170_3, DS_170_3, DG_170_4, DS_170_4, DA_171, DB_171, DA_172, DB_172, DA_173, DB_173, DO_174, DG_174_0, DS_174_0, DG_174_1, DS_174_1, DG_174_2, DS_174_2, DG_174_3, DS_174_3, DR_174_4, DA_175, DB_175, DO_176, DR_176_0, DG_176_1, DS_176_1, DR_176_2, DA_177, DB_177, DA_178, DB_178, DO_st, DG_st_0, DS_st_0, DG_st_1, DS_st_1, DG_st_2, DS_st_2, DG_st_3, DS_st_3, DR_st_4, DG_st_5, DS_st_5, DR_st_6, DG_st_7, DS_st_7, DG_st_8, DS_st_8, DG_st_9, DS_st_9, DG_st_10, DS_st_10, DG_st_11, DS_st_11, DG_st_12, DS_st_12, DR_st_13, DA_st_1, DB_st_1, DA_st_2, DB_st_2, DA_st_3, DB_st_3, ifp, ifn, Option.bind_some, n_s, n_le, n_lt, n_eq, l8, l40, l64, g40, u40, u6, u3, u0, mul6, mul3, J_bit, cmp0, b2_0, zR_b, zR_0, zR_1, up2_eq, up2_ne, up2J_eq, up2J_ne, mkv_eq, n_m1]
        · simp (disch := first | assumption | omega | decide) only [J_Mod_build, w2, b1, d1, b2_t, J_Mod_build_44, J_Mod_raise, le8, lt1, MO_0, MG_0_0, MS_0_0, MR_0_1, MR_0_2, MR_0_3, MR_0_4, MR_0_5, MR_0_6, MR_0_7, MR_0_8, MR_0_9, MR_0_10, MR_0_11, MR_0_12, MR_0_13, MR_0_14, MR_0_15, MR_0_16, MR_0_17, MR_0_18, MR_0_19, MR_0_20, MR_0_21, MR_0_22, MR_0_23, MR_0_24, MR_0_25, MR_0_26, MG_0_27, MS_0_27, MG_0_28, MS_0_28, MG_0_29, MS_0_29, MG_0_30, MS_0_30, MG_0_31, MS_0_31, MR_0_32, MR_0_33, MR_0_34, MR_0_35, MR_0_36, MG_0_37, MS_0_37, MR_0_38, MR_0_39, MA_1, MB_1, MA_2, MB_2, MA_3, MB_3, MA_4, MB_4, MA_5, MB_5, MA_6, MB_6, MA_7, MB_7, MA_8, MB_8, MA_9, MB_9, MA_10, MB_10, MA_11, MB_11, MA_12, MB_12, MA_13, MB_13, MA_14, MB_14, MA_15, MB_15, MA_16, MB_16, MA_17, MB_17, MA_18, MB_18, MA_19, MB_19, MA_20, MB_20, MA_21, MB_21, MA_22, MB_22, MA_23, MB_23, MA_24, MB_24, MA_25, MB_25, MA_26, MB_26, MA_27, MB_27, MA_28, MB_28, MA_29, MB_29, MA_30, MB_30, MA_31, MB_31, MA_32, MB_32, MA_33, MB_33, ifp, ifn, Option.bind_some, n_s, n_le, n_lt, n_eq, l8, l40, l64, g40, u40, u6, u3, u0, mul6, mul3, J_bit, cmp0, b2_0, zR_b, zR_0, zR_1, up2_eq, up2_ne, up2J_eq, up2J_ne, mkv_eq, n_m1]
  · obtain ⟨ps, e1⟩ := c3 rfl
    have e2 := Lin_ac e1
    cases cR
    · -- no round
      have hRD1 : RD I1 P2 := RD_c hRD (fun o k ho => hI1 o k (by omega)) (fun k => by rw [d2 32 k (by omega) (Or.inl rfl), b3 32 (by omega)]) (by rw [d2 0 37 (by omega) (Or.inl rfl), b3 0 (by omega)])
      have hS1 : PS V I1 P2 := PS_c hS (fun o k ho => hI1 o k (by omega)) hP2 (fun k k1 k2 => hP20' k (by omega))
      have hc1 : CV V I1 := hS1.2.1
      have hm2 : MV V P2 := hS1.2.2.1
      have hF1 : FI I1 (fun f => decide (P 1 f = 1)) := fun f hf => by rw [hI1 _ _ (by omega), (h5 f hf).2.1]; exact b2_d (h5 f hf).2.2
      have hF2 : MFi P2 (fun f => decide (P 1 f = 1)) := fun f hf => by rw [hP2 _ _ (by omega)]; exact b2_d (h5 f hf).2.2
      have hA2 : ∀ s, s < 40 → P2 20 s = b2 (A s) := fun s hs => by rw [d2 20 s (by omega) (Or.inl rfl)]; exact hP20 s hs
      have l1 := q_sourceLacks (V := V) (A := A) (N := N) (z := z) (b := b) (I := I1) (J := J1) (F := F) h1 hc1 hF1 a3 hf (by omega)
      have l2 := p_isLacking (V := V) (A := A) (N := N) (z := z2) (b := c) (P := P2) (F := F2) h1 hm2 hA2 hAt hF2 hf (by omega)
      cases eL : (lkF V (fun f => decide (P 1 f = 1)) f || anyB 40 (fun s => A s && lkS V (fun f => decide (P 1 f = 1)) s))
      · rw [eL] at l1 l2
        have hS3 : PS V I1 (up2 P2 0 0 0) := PS_c hS1 (fun _ _ _ => rfl) (fun o k ho => up2_ne (by omega)) (fun k k1 k2 => up2_ne (by omega))
        have hRD3 : RD I1 (up2 P2 0 0 0) := RD_c hRD1 (fun _ _ _ => rfl) (fun k => up2_ne (by omega)) (up2_ne (by omega))
        obtain ⟨I3, I', J', P3, P', tm, m1, m2, m3, m4, m5, m6, m7⟩ := build_run (V := V) (A := A) (ps := ps) (x := A) (N := N) (z := z) (b := b) (z2 := z2) (c := c) (F := F) (F2 := F2) (wk := wk) hS3 hRD3 a2 a3 (fun s hs => by rw [up2_ne (by omega)]; exact hA2 s hs) hAt e1 (by rw [up2_eq]) hwk hN
        refine ⟨I', J', P', m6, m7, Or.inl ⟨tm, ?_, ?_, m5⟩⟩
        · simp (disch := first | assumption | omega | decide) only [J_Desk_build, w1, J_File_makerOf, i4, a1, c1, b2_t, l1, b2_f, m1, le8, lt1, DO_0, DR_0_0, DR_0_1, DR_0_2, DR_0_3, DR_0_4, DR_0_5, DO_1, DR_1_0, DR_1_1, DR_1_2, DA_2, DB_2, DA_3, DB_3, DA_4, DB_4, DA_5, DO_166, DR_166_0, DR_166_1, DG_166_2, DS_166_2, DR_166_3, DG_166_4, DS_166_4, DA_167, DB_167, DA_168, DB_168, DA_169, DB_169, DO_170, DR_170_0, DR_170_1, DR_170_2, DG_170_3, DS_170_3, DG_170_4, DS_170_4, DA_171, DB_171, DA_172, DB_172, DA_173, DB_173, DO_174, DG_174_0, DS_174_0, DG_174_1, DS_174_1, DG_174_2, DS_174_2, DG_174_3, DS_174_3, DR_174_4, DA_175, DB_175, DO_176, DR_176_0, DG_176_1, DS_176_1, DR_176_2, DA_177, DB_177, DA_178, DB_178, DO_st, DG_st_0, DS_st_0, DG_st_1, DS_st_1, DG_st_2, DS_st_2, DG_st_3, DS_st_3, DR_st_4, DG_st_5, DS_st_5, DR_st_6, DG_st_7, DS_st_7, DG_st_8, DS_st_8, DG_st_9, DS_st_9, DG_st_10, DS_st_10, DG_st_11, DS_st_11, DG_st_12, DS_st_12, DR_st_13, DA_st_1, DB_st_1, DA_st_2, DB_st_2, DA_st_3, DB_st_3, ifp, ifn, Option.bind_some, n_s, n_le, n_lt, n_eq, l8, l40, l64, g40, u40, u6, u3, u0, mul6, mul3, J_bit, cmp0, b2_0, zR_b, zR_0, zR_1, up2_eq, up2_ne, up2J_eq, up2J_ne, mkv_eq, n_m1]
          exact m2
        · simp (disch := first | assumption | omega | decide) only [J_Mod_build, w2, b1, d1, b2_f, l2, m3, le8, lt1, MO_0, MG_0_0, MS_0_0, MR_0_1, MR_0_2, MR_0_3, MR_0_4, MR_0_5, MR_0_6, MR_0_7, MR_0_8, MR_0_9, MR_0_10, MR_0_11, MR_0_12, MR_0_13, MR_0_14, MR_0_15, MR_0_16, MR_0_17, MR_0_18, MR_0_19, MR_0_20, MR_0_21, MR_0_22, MR_0_23, MR_0_24, MR_0_25, MR_0_26, MG_0_27, MS_0_27, MG_0_28, MS_0_28, MG_0_29, MS_0_29, MG_0_30, MS_0_30, MG_0_31, MS_0_31, MR_0_32, MR_0_33, MR_0_34, MR_0_35, MR_0_36, MG_0_37, MS_0_37, MR_0_38, MR_0_39, MA_1, MB_1, MA_2, MB_2, MA_3, MB_3, MA_4, MB_4, MA_5, MB_5, MA_6, MB_6, MA_7, MB_7, MA_8, MB_8, MA_9, MB_9, MA_10, MB_10, MA_11, MB_11, MA_12, MB_12, MA_13, MB_13, MA_14, MB_14, MA_15, MB_15, MA_16, MB_16, MA_17, MB_17, MA_18, MB_18, MA_19, MB_19, MA_20, MB_20, MA_21, MB_21, MA_22, MB_22, MA_23, MB_23, MA_24, MB_24, MA_25, MB_25, MA_26, MB_26, MA_27, MB_27, MA_28, MB_28, MA_29, MB_29, MA_30, MB_30, MA_31, MB_31, MA_32, MB_32, MA_33, MB_33, ifp, ifn, Option.bind_some, n_s, n_le, n_lt, n_eq, l8, l40, l64, g40, u40, u6, u3, u0, mul6, mul3, J_bit, cmp0, b2_0, zR_b, zR_0, zR_1, up2_eq, up2_ne, up2J_eq, up2J_ne, mkv_eq, n_m1]
          exact m4
      · rw [eL] at l1 l2
        refine ⟨I1, J1, up2 P2 0 0 2, PS_c hS1 (fun _ _ _ => rfl) (fun o k ho => up2_ne (by omega)) (fun k k1 k2 => up2_ne (by omega)), RD_c hRD1 (fun _ _ _ => rfl) (fun k => up2_ne (by omega)) (up2_ne (by omega)), Or.inr ⟨?_, ?_, by rw [up2_eq]⟩⟩
        · simp (disch := first | assumption | omega | decide) only [J_Desk_build, w1, J_File_makerOf, i4, a1, c1, b2_t, l1, le8, lt1, DO_0, DR_0_0, DR_0_1, DR_0_2, DR_0_3, DR_0_4, DR_0_5, DO_1, DR_1_0, DR_1_1, DR_1_2, DA_2, DB_2, DA_3, DB_3, DA_4, DB_4, DA_5, DO_166, DR_166_0, DR_166_1, DG_166_2, DS_166_2, DR_166_3, DG_166_4, DS_166_4, DA_167, DB_167, DA_168, DB_168, DA_169, DB_169, DO_170, DR_170_0, DR_170_1, DR_170_2, DG_170_3, DS_170_3, DG_170_4, DS_170_4, DA_171, DB_171, DA_172, DB_172, DA_173, DB_173, DO_174, DG_174_0, DS_174_0, DG_174_1, DS_174_1, DG_174_2, DS_174_2, DG_174_3, DS_174_3, DR_174_4, DA_175, DB_175, DO_176, DR_176_0, DG_176_1, DS_176_1, DR_176_2, DA_177, DB_177, DA_178, DB_178, DO_st, DG_st_0, DS_st_0, DG_st_1, DS_st_1, DG_st_2, DS_st_2, DG_st_3, DS_st_3, DR_st_4, DG_st_5, DS_st_5, DR_st_6, DG_st_7, DS_st_7, DG_st_8, DS_st_8, DG_st_9, DS_st_9, DG_st_10, DS_st_10, DG_st_11, DS_st_11, DG_st_12, DS_st_12, DR_st_13, DA_st_1, DB_st_1, DA_st_2, DB_st_2, DA_st_3, DB_st_3, ifp, ifn, Option.bind_some, n_s, n_le, n_lt, n_eq, l8, l40, l64, g40, u40, u6, u3, u0, mul6, mul3, J_bit, cmp0, b2_0, zR_b, zR_0, zR_1, up2_eq, up2_ne, up2J_eq, up2J_ne, mkv_eq, n_m1]
        · simp (disch := first | assumption | omega | decide) only [J_Mod_build, w2, b1, d1, b2_f, l2, b2_t, J_Mod_build_44, J_Mod_raise, le8, lt1, MO_0, MG_0_0, MS_0_0, MR_0_1, MR_0_2, MR_0_3, MR_0_4, MR_0_5, MR_0_6, MR_0_7, MR_0_8, MR_0_9, MR_0_10, MR_0_11, MR_0_12, MR_0_13, MR_0_14, MR_0_15, MR_0_16, MR_0_17, MR_0_18, MR_0_19, MR_0_20, MR_0_21, MR_0_22, MR_0_23, MR_0_24, MR_0_25, MR_0_26, MG_0_27, MS_0_27, MG_0_28, MS_0_28, MG_0_29, MS_0_29, MG_0_30, MS_0_30, MG_0_31, MS_0_31, MR_0_32, MR_0_33, MR_0_34, MR_0_35, MR_0_36, MG_0_37, MS_0_37, MR_0_38, MR_0_39, MA_1, MB_1, MA_2, MB_2, MA_3, MB_3, MA_4, MB_4, MA_5, MB_5, MA_6, MB_6, MA_7, MB_7, MA_8, MB_8, MA_9, MB_9, MA_10, MB_10, MA_11, MB_11, MA_12, MB_12, MA_13, MB_13, MA_14, MB_14, MA_15, MB_15, MA_16, MB_16, MA_17, MB_17, MA_18, MB_18, MA_19, MB_19, MA_20, MB_20, MA_21, MB_21, MA_22, MB_22, MA_23, MB_23, MA_24, MB_24, MA_25, MB_25, MA_26, MB_26, MA_27, MB_27, MA_28, MB_28, MA_29, MB_29, MA_30, MB_30, MA_31, MB_31, MA_32, MB_32, MA_33, MB_33, ifp, ifn, Option.bind_some, n_s, n_le, n_lt, n_eq, l8, l40, l64, g40, u40, u6, u3, u0, mul6, mul3, J_bit, cmp0, b2_0, zR_b, zR_0, zR_1, up2_eq, up2_ne, up2J_eq, up2J_ne, mkv_eq, n_m1]
    · obtain ⟨s0, m0, f1, f2, f3⟩ := d4 rfl
      have q := f1.2.2.2.2.2.1
      have q2 := e2 s0 f1.1 (m0 - 1)
      have q3 := f1.2.2.2.1
      rw [show m0 - 1 + 1 = m0 by omega, q] at q2
      exact absurd q2 (by simp)
end BO
