theorem lpx3 {σ τ Q S : Type} (K : Nat) (f : Nat → σ → Q) (g : Nat → τ → S) (Inv : Nat → σ → τ → Prop) (Post : Q → S → Prop) (step : ∀ n m k a c, 0 < n → 0 < m → k < K → Inv k a c → Post (f (n + 1) a) (g (m + 1) c) ∨ ∃ a' c', f (n + 1) a = f n a' ∧ g (m + 1) c = g m c' ∧ Inv (k + 1) a' c') (fin : ∀ n m a c, Inv K a c → Post (f (n + 1) a) (g (m + 1) c)) : ∀ n m a c, K + 1 < n → K + 1 < m → Inv 0 a c → Post (f n a) (g m c) := by
  have H : ∀ j n m k a c, k + j = K → j + 1 < n → j + 1 < m → Inv k a c → Post (f n a) (g m c) := by
    intro j
    induction j with
    | zero =>
      intro n m k a c hk hn hm hi
      cases n with
      | zero => omega
      | succ n =>
        cases m with
        | zero => omega
        | succ m =>
          have e : k = K := by omega
          subst e
          exact fin n m a c hi
    | succ j ih =>
      intro n m k a c hk hn hm hi
      cases n with
      | zero => omega
      | succ n =>
        cases m with
        | zero => omega
        | succ m =>
          rcases step n m k a c (by omega) (by omega) (by omega) hi with hp | ⟨a', c', he, he2, hi'⟩
          · exact hp
          · rw [he, he2]; exact ih n m (k + 1) a' c' (by omega) (by omega) (by omega) hi'
  intro n m a c hn hm hi
  exact H K n m 0 a c (by omega) hn hm hi
section MB
variable {V : Vw} {z b z2 c N s t T tl : Nat} {I P : Nat → Nat → Int32} {J : Nat → Nat → Int64} {F F2 : Nat → Option HE} {A R D : Nat → Bool} {Rk : Nat → Nat}
theorem LK_T {T' : Nat} (h : LK V A R D T tl I P) (hT : T ≤ T') : LK V A R D T' tl I P := by
  obtain ⟨h1, h2, h3, h4, h5, h6, h7⟩ := h
  refine ⟨h1, h2, h3, h4, h5, fun s hs hR => ?_, h7⟩
  obtain ⟨w, e, g1, g2, g3, g4, g5, g6⟩ := h6 s hs hR
  exact ⟨w, e, g1, g2, g3, g4, g5, by omega⟩
theorem LK_27 {v : Int32} (h : LK V A R D T tl I P) : LK V A R D T tl I (up2 P 0 27 v) := by
  obtain ⟨h1, h2, h3, h4, h5, h6, h7, h8, h9, h10, h11⟩ := h
  refine ⟨?_, ?_, ?_, ?_, ?_, ?_, ?_, ?_, h9, ?_, h11⟩
  · simp (disch := first | assumption | omega | decide) only [L1, up2_row]; exact h1
  · simp (disch := first | assumption | omega | decide) only [L2, up2_row]; exact h2
  · simp (disch := first | assumption | omega | decide) only [L3, OR1, up2_row]; exact h3
  · simp (disch := first | assumption | omega | decide) only [L4, up2_row]; exact h4
  · simp (disch := first | assumption | omega | decide) only [L5, up2_row]; exact h5
  · simp (disch := first | assumption | omega | decide) only [L6, up2_row]; exact h6
  · simp (disch := first | assumption | omega | decide) only [L7, up2_row]; exact h7
  · simp (disch := first | assumption | omega | decide) only [L8, up2_row, up2_ne]; exact h8
  · simp (disch := first | assumption | omega | decide) only [up2_row]; exact h10
theorem lk_main {wk : Nat} (hE : Env V A Rk I P J) (h : LK V A R D 0 tl I P) (hR : isB (J 170 3) R) (hD : isB (J 170 4) D) (h27 : P 0 27 = nI 0) (hwk : wk ≤ 8) (hN : 100 < N) : ∃ I' J' P' R' D' tl' tm, J_Desk_makeNeeded_11 N N b (nI wk) (nI 0) (nI 0) (z, dH b I J F) = some (nI tm, (z, dH b I' J' F)) ∧ J_Mod_build_181 N N c (nI wk) 1 (z2, mH c P F2) = some (nI tm, (z2, mH c P' F2)) ∧ LK V A R' D' 10000 tl' I' P' ∧ (∀ s, s < 40 → R' s = false) ∧ frC I I' ∧ frM P P' := by
  refine lpx3 41 (fun n (a : Int32 × Int32 × Hp) => J_Desk_makeNeeded_11 N n b (nI wk) a.1 a.2.1 a.2.2) (fun n (a : Int32 × Hp) => J_Mod_build_181 N n c (nI wk) a.1 a.2) (fun p a d => ∃ I' J' P' R' D' tl' tm, a = (nI tm, nI p, (z, dH b I' J' F)) ∧ d = (1, (z2, mH c P' F2)) ∧ LK V A R' D' (100 * p) tl' I' P' ∧ isB (J' 170 3) R' ∧ isB (J' 170 4) D' ∧ frC I I' ∧ frM P P' ∧ (∀ o k, o ≠ 170 → J' o k = J o k) ∧ P' 0 27 = nI tm ∧ tm ≤ 100 * p ∧ (p = 0 ∨ (p ≤ cnt 40 D' + 1 ∧ ∃ s, s < 40 ∧ R' s = true ∧ I' 173 s = nI tm))) (fun f g => ∃ I' J' P' R' D' tl' tm, f = some (nI tm, (z, dH b I' J' F)) ∧ g = some (nI tm, (z2, mH c P' F2)) ∧ LK V A R' D' 10000 tl' I' P' ∧ (∀ s, s < 40 → R' s = false) ∧ frC I I' ∧ frM P P') ?_ ?_ N N (nI 0, nI 0, (z, dH b I J F)) (1, (z2, mH c P F2)) (by omega) (by omega) ⟨I, J, P, R, D, tl, 0, rfl, rfl, h, hR, hD, frC_r, frM_r, fun _ _ _ => rfl, h27, Nat.le_refl _, Or.inl rfl⟩
  · rintro n m p a d hn hm0 hp ⟨I0, J0, P0, R0, D0, tl0, tm, rfl, rfl, k1, k2, k3, k4, k5, k6, k7, k8, k9⟩
    have E0 := Env_f hE k4 k5 k6
    obtain ⟨I1, J1, P1, R1, D1, m1, a1, a2, a3, a4, a5, a6, a7, a8, a9, a10, a11⟩ := lk_ends (V := V) (A := A) (R := R0) (D := D0) (Rk := Rk) (T := 100 * (p + 1)) (tl := tl0) (N := N) (z := z) (b := b) (z2 := z2) (c := c) (F := F) (F2 := F2) (J_Mod_build_181 N m) (x2 := nI wk) E0 (LK_T k1 (by omega)) k2 k3 k7 (by omega) (by omega) hN
    have E1 := Env_f E0 a6 a7 a8
    obtain ⟨w2, P2, D2, b1, b2', b3, b4, b5, b6⟩ := lk_pass (V := V) (A := A) (Rk := Rk) (N := N) (z := z) (b := b) (z2 := z2) (c := c) (F := F) (F2 := F2) E1 a3 a4 a5 hN
    have E2 := Env_f (J' := up2J J1 170 4 w2) E1 frC_r (frM_row b5) (fun o k ho => up2J_ne (Or.inl ho))
    obtain ⟨I3, J3, P3, R3, tl3, c1, c2, c3, c4, c5, c6, c7, c8, c9⟩ := lk_begin (V := V) (A := A) (R := R1) (D := D2) (Rk := Rk) (N := N) (z := z) (b := b) (z2 := z2) (c := c) (F := F) (F2 := F2) (tm := tm) (wk := wk) E2 b3 (by rw [up2J_ne (by omega)]; exact a4) (by rw [up2J_eq]; exact b4) (by rw [b5 0 (by omega)]; exact a9) hwk (by omega) hN
    have fC : frC I I3 := frC_t k4 (frC_t a6 c6)
    have fM : frM P P3 := frM_t k5 (frM_t a7 (frM_t (frM_row b5) c7))
    have fJ : ∀ o k, o ≠ 170 → J3 o k = J o k := fun o k ho => by rw [c8 o k ho, up2J_ne (Or.inl ho), a8 o k ho, k6 o k ho]
    have h6 := c3.2.2.2.2.2.1
    have hS := c3.2.2.2.2.2.2.2.2.2.1
    have d1 := q_nextEnd (N := N) (z := z) (b := b) (I := I3) (J := J3) (F := F) (R := R3) c4 hN
    have d2 := p_next (N := N) (z2 := z2) (c := c) (P := P3) (F2 := F2) (R := R3) (D := D2) (J_Mod_build_181 N m) (x2 := nI wk) hS hN
    have d3 : ne R3 (P3 23) 40 = ne R3 (I3 173) 40 := ne_congr (fun s hs hRs => by
      obtain ⟨w, e, g1, g2, g3, g4, g5, g6⟩ := h6 s hs hRs
      rw [g4, g5])
    rw [d3] at d2
    have d2' : J_Mod_build_247 N (J_Mod_build_181 N m) N c (nI wk) (-1) (0 : Int32) (z2, mH c P3 F2) = _ := d2
    have a2' : J_Mod_build_188 N (J_Mod_build_181 N m) N c (nI wk) (0 : Int32) (z2, mH c P0 F2) = _ := a2
    have u1 : ¬ (1 : Int32) = 0 := by decide
    have prog : p ≤ cnt 40 D2 := by
      have q2 : cnt 40 D1 ≤ cnt 40 D2 := cnt_mono (fun k _ e => b6 k e)
      rcases k9 with k9 | ⟨k9, s0, hs0, k10, k11⟩
      · omega
      · have q1 := cnt_lt (n := 40) (p := D0) (q := D1) s0 (fun k _ e => a10 k e) hs0 (k1.2.2.2.2.2.2.2.2.1.1 s0 k10) (a11 s0 hs0 k10 k11)
        omega
    rcases ne_in (R := R3) (e := I3 173) (fun s hs hRs => by
      obtain ⟨w, e, g1, g2, g3, g4, g5, g6⟩ := h6 s hs hRs
      rw [g4]; exact nI_m1 (by omega)) (n := 40) (by omega) with ⟨n1, n2⟩ | ⟨n1, s1, hs1, n2, n3⟩
    · left
      refine ⟨I3, J3, P3, R3, D2, tl3, tm, ?_, ?_, LK_T c3 (by omega), n2, fC, fM⟩
      · simp (disch := first | assumption | omega | decide) only [J_Desk_makeNeeded_11, a1, b1, c1, d1, n1, DO_0, DR_0_0, DR_0_1, DR_0_2, DR_0_3, DR_0_4, DR_0_5, DO_1, DR_1_0, DR_1_1, DR_1_2, DA_2, DB_2, DA_3, DB_3, DA_4, DB_4, DA_5, DO_166, DR_166_0, DR_166_1, DG_166_2, DS_166_2, DR_166_3, DG_166_4, DS_166_4, DA_167, DB_167, DA_168, DB_168, DA_169, DB_169, DO_170, DR_170_0, DR_170_1, DR_170_2, DG_170_3, DS_170_3, DG_170_4, DS_170_4, DA_171, DB_171, DA_172, DB_172, DA_173, DB_173, DO_174, DG_174_0, DS_174_0, DG_174_1, DS_174_1, DG_174_2, DS_174_2, DG_174_3, DS_174_3, DR_174_4, DA_175, DB_175, DO_176, DR_176_0, DG_176_1, DS_176_1, DR_176_2, DA_177, DB_177, DA_178, DB_178, DO_st, DG_st_0, DS_st_0, DG_st_1, DS_st_1, DG_st_2, DS_st_2, DG_st_3, DS_st_3, DR_st_4, DG_st_5, DS_st_5, DR_st_6, DG_st_7, DS_st_7, DG_st_8, DS_st_8, DG_st_9, DS_st_9, DG_st_10, DS_st_10, DG_st_11, DS_st_11, DG_st_12, DS_st_12, DR_st_13, DA_st_1, DB_st_1, DA_st_2, DB_st_2, DA_st_3, DB_st_3, ifp, ifn, Option.bind_some, n_s, n_le, n_lt, n_eq, l8, l40, l64, g40, u40, u6, u3, u0, mul6, mul3, J_bit, cmp0, b2_0, zR_b, zR_0, zR_1, up2_eq, up2_ne, up2J_eq, up2J_ne, mkv_eq, n_m1]
      · obtain ⟨m', hm'⟩ : ∃ m', m = m' + 1 := ⟨m - 1, by omega⟩
        rw [if_pos n1] at d2'
        have x1 : J_Mod_build_181 N m c (nI wk) 0 (z2, mH c P3 F2) = some (nI tm, (z2, mH c P3 F2)) := by
          rw [hm']
          simp (disch := first | assumption | omega | decide) only [J_Mod_build_181, c9, MO_0, MG_0_0, MS_0_0, MR_0_1, MR_0_2, MR_0_3, MR_0_4, MR_0_5, MR_0_6, MR_0_7, MR_0_8, MR_0_9, MR_0_10, MR_0_11, MR_0_12, MR_0_13, MR_0_14, MR_0_15, MR_0_16, MR_0_17, MR_0_18, MR_0_19, MR_0_20, MR_0_21, MR_0_22, MR_0_23, MR_0_24, MR_0_25, MR_0_26, MG_0_27, MS_0_27, MG_0_28, MS_0_28, MG_0_29, MS_0_29, MG_0_30, MS_0_30, MG_0_31, MS_0_31, MR_0_32, MR_0_33, MR_0_34, MR_0_35, MR_0_36, MG_0_37, MS_0_37, MR_0_38, MR_0_39, MA_1, MB_1, MA_2, MB_2, MA_3, MB_3, MA_4, MB_4, MA_5, MB_5, MA_6, MB_6, MA_7, MB_7, MA_8, MB_8, MA_9, MB_9, MA_10, MB_10, MA_11, MB_11, MA_12, MB_12, MA_13, MB_13, MA_14, MB_14, MA_15, MB_15, MA_16, MB_16, MA_17, MB_17, MA_18, MB_18, MA_19, MB_19, MA_20, MB_20, MA_21, MB_21, MA_22, MB_22, MA_23, MB_23, MA_24, MB_24, MA_25, MB_25, MA_26, MB_26, MA_27, MB_27, MA_28, MB_28, MA_29, MB_29, MA_30, MB_30, MA_31, MB_31, MA_32, MB_32, MA_33, MB_33, ifp, ifn, Option.bind_some, n_s, n_le, n_lt, n_eq, l8, l40, l64, g40, u40, u6, u3, u0, mul6, mul3, J_bit, cmp0, b2_0, zR_b, zR_0, zR_1, up2_eq, up2_ne, up2J_eq, up2J_ne, mkv_eq, n_m1]
        simp (disch := first | assumption | omega | decide) only [J_Mod_build_181, a2', J_Mod_build_188, b2', c2, d2', J_Mod_build_309, x1, MO_0, MG_0_0, MS_0_0, MR_0_1, MR_0_2, MR_0_3, MR_0_4, MR_0_5, MR_0_6, MR_0_7, MR_0_8, MR_0_9, MR_0_10, MR_0_11, MR_0_12, MR_0_13, MR_0_14, MR_0_15, MR_0_16, MR_0_17, MR_0_18, MR_0_19, MR_0_20, MR_0_21, MR_0_22, MR_0_23, MR_0_24, MR_0_25, MR_0_26, MG_0_27, MS_0_27, MG_0_28, MS_0_28, MG_0_29, MS_0_29, MG_0_30, MS_0_30, MG_0_31, MS_0_31, MR_0_32, MR_0_33, MR_0_34, MR_0_35, MR_0_36, MG_0_37, MS_0_37, MR_0_38, MR_0_39, MA_1, MB_1, MA_2, MB_2, MA_3, MB_3, MA_4, MB_4, MA_5, MB_5, MA_6, MB_6, MA_7, MB_7, MA_8, MB_8, MA_9, MB_9, MA_10, MB_10, MA_11, MB_11, MA_12, MB_12, MA_13, MB_13, MA_14, MB_14, MA_15, MB_15, MA_16, MB_16, MA_17, MB_17, MA_18, MB_18, MA_19, MB_19, MA_20, MB_20, MA_21, MB_21, MA_22, MB_22, MA_23, MB_23, MA_24, MB_24, MA_25, MB_25, MA_26, MB_26, MA_27, MB_27, MA_28, MB_28, MA_29, MB_29, MA_30, MB_30, MA_31, MB_31, MA_32, MB_32, MA_33, MB_33, ifp, ifn, Option.bind_some, n_s, n_le, n_lt, n_eq, l8, l40, l64, g40, u40, u6, u3, u0, mul6, mul3, J_bit, cmp0, b2_0, zR_b, zR_0, zR_1, up2_eq, up2_ne, up2J_eq, up2J_ne, mkv_eq, n_m1]
    · obtain ⟨w, e, g1, g2, g3, g4, g5, g6⟩ := h6 s1 hs1 n2
      rw [g4] at n3
      have n4 : ¬ ne R3 (I3 173) 40 = -1 := n1
      right
      refine ⟨(nI e, nI (p + 1), (z, dH b I3 J3 F)), (1, (z2, mH c (up2 P3 0 27 (nI e)) F2)), ?_, ?_, I3, J3, up2 P3 0 27 (nI e), R3, D2, tl3, e, rfl, rfl, LK_27 c3, c4, c5, fC, frM_t fM ⟨fun o k ho => up2_ne (by omega), fun k hk => up2_ne (by omega)⟩, fJ, by rw [up2_eq], by omega, Or.inr ⟨by omega, s1, hs1, n2, g4⟩⟩
      · rw [← n3] at d1 n4
        simp (disch := first | assumption | omega | decide) only [J_Desk_makeNeeded_11, a1, b1, c1, d1, DO_0, DR_0_0, DR_0_1, DR_0_2, DR_0_3, DR_0_4, DR_0_5, DO_1, DR_1_0, DR_1_1, DR_1_2, DA_2, DB_2, DA_3, DB_3, DA_4, DB_4, DA_5, DO_166, DR_166_0, DR_166_1, DG_166_2, DS_166_2, DR_166_3, DG_166_4, DS_166_4, DA_167, DB_167, DA_168, DB_168, DA_169, DB_169, DO_170, DR_170_0, DR_170_1, DR_170_2, DG_170_3, DS_170_3, DG_170_4, DS_170_4, DA_171, DB_171, DA_172, DB_172, DA_173, DB_173, DO_174, DG_174_0, DS_174_0, DG_174_1, DS_174_1, DG_174_2, DS_174_2, DG_174_3, DS_174_3, DR_174_4, DA_175, DB_175, DO_176, DR_176_0, DG_176_1, DS_176_1, DR_176_2, DA_177, DB_177, DA_178, DB_178, DO_st, DG_st_0, DS_st_0, DG_st_1, DS_st_1, DG_st_2, DS_st_2, DG_st_3, DS_st_3, DR_st_4, DG_st_5, DS_st_5, DR_st_6, DG_st_7, DS_st_7, DG_st_8, DS_st_8, DG_st_9, DS_st_9, DG_st_10, DS_st_10, DG_st_11, DS_st_11, DG_st_12, DS_st_12, DR_st_13, DA_st_1, DB_st_1, DA_st_2, DB_st_2, DA_st_3, DB_st_3, ifp, ifn, Option.bind_some, n_s, n_le, n_lt, n_eq, l8, l40, l64, g40, u40, u6, u3, u0, mul6, mul3, J_bit, cmp0, b2_0, zR_b, zR_0, zR_1, up2_eq, up2_ne, up2J_eq, up2J_ne, mkv_eq, n_m1]
      · rw [if_neg n1, ← n3] at d2'
        simp (disch := first | assumption | omega | decide) only [J_Mod_build_181, a2', J_Mod_build_188, b2', c2, d2', J_Mod_build_309, MO_0, MG_0_0, MS_0_0, MR_0_1, MR_0_2, MR_0_3, MR_0_4, MR_0_5, MR_0_6, MR_0_7, MR_0_8, MR_0_9, MR_0_10, MR_0_11, MR_0_12, MR_0_13, MR_0_14, MR_0_15, MR_0_16, MR_0_17, MR_0_18, MR_0_19, MR_0_20, MR_0_21, MR_0_22, MR_0_23, MR_0_24, MR_0_25, MR_0_26, MG_0_27, MS_0_27, MG_0_28, MS_0_28, MG_0_29, MS_0_29, MG_0_30, MS_0_30, MG_0_31, MS_0_31, MR_0_32, MR_0_33, MR_0_34, MR_0_35, MR_0_36, MG_0_37, MS_0_37, MR_0_38, MR_0_39, MA_1, MB_1, MA_2, MB_2, MA_3, MB_3, MA_4, MB_4, MA_5, MB_5, MA_6, MB_6, MA_7, MB_7, MA_8, MB_8, MA_9, MB_9, MA_10, MB_10, MA_11, MB_11, MA_12, MB_12, MA_13, MB_13, MA_14, MB_14, MA_15, MB_15, MA_16, MB_16, MA_17, MB_17, MA_18, MB_18, MA_19, MB_19, MA_20, MB_20, MA_21, MB_21, MA_22, MB_22, MA_23, MB_23, MA_24, MB_24, MA_25, MB_25, MA_26, MB_26, MA_27, MB_27, MA_28, MB_28, MA_29, MB_29, MA_30, MB_30, MA_31, MB_31, MA_32, MB_32, MA_33, MB_33, ifp, ifn, Option.bind_some, n_s, n_le, n_lt, n_eq, l8, l40, l64, g40, u40, u6, u3, u0, mul6, mul3, J_bit, cmp0, b2_0, zR_b, zR_0, zR_1, up2_eq, up2_ne, up2J_eq, up2J_ne, mkv_eq, n_m1]
  · rintro n m a d ⟨I0, J0, P0, R0, D0, tl0, tm, rfl, rfl, k1, k2, k3, k4, k5, k6, k7, k8, k9⟩
    rcases k9 with k9 | ⟨k9, s0, hs0, k10, k11⟩
    · omega
    · have q1 := cnt_full (n := 40) (p := D0) (by omega) s0 hs0
      rw [k1.2.2.2.2.2.2.2.2.1.1 s0 k10] at q1
      exact absurd q1 (by simp)
theorem p_init {x2 : Int32} (hA : ∀ s, s < 40 → P 20 s = b2 (A s)) (hr : ∀ s, s < 40 → P 21 s = nI (if A s = true then Rk s else 0)) (hRk : ∀ s, s < 40 → Rk s ≤ 4100) (h29 : P 0 29 = nI 0) (h31 : P 0 31 = nI 0) (hN : 100 < N) : ∃ P' G, J_Mod_build_86 N N c x2 (nI 0) (z2, mH c P F2) = J_Mod_build_181 N N c x2 1 (z2, mH c P' F2) ∧ (∀ s, s < 40 → P' 22 s = 0) ∧ (∀ w, w < 8 → P' 26 w = 0) ∧ P' 0 29 = nI (cnt 40 A) ∧ P' 0 31 = nI G ∧ G ≤ 4100 ∧ (∀ s, s < 40 → A s = true → Rk s ≤ G) ∧ (G = 0 ∨ ∃ s, s < 40 ∧ A s = true ∧ Rk s = G) ∧ (∀ o k, o ≠ 22 → o ≠ 26 → (o ≠ 0 ∨ (k ≠ 29 ∧ k ≠ 31)) → P' o k = P o k) := by
  refine lpx 40 (fun n (st : Int32 × Hp) => J_Mod_build_86 N n c x2 st.1 st.2) (fun k st => ∃ P' G, st = (nI k, (z2, mH c P' F2)) ∧ (∀ s, s < k → P' 22 s = 0) ∧ P' 0 29 = nI (cnt k A) ∧ P' 0 31 = nI G ∧ G ≤ 4100 ∧ (∀ s, s < k → A s = true → Rk s ≤ G) ∧ (G = 0 ∨ ∃ s, s < 40 ∧ A s = true ∧ Rk s = G) ∧ (∀ o k, o ≠ 22 → (o ≠ 0 ∨ (k ≠ 29 ∧ k ≠ 31)) → P' o k = P o k)) (fun r => ∃ P' G, r = J_Mod_build_181 N N c x2 1 (z2, mH c P' F2) ∧ (∀ s, s < 40 → P' 22 s = 0) ∧ (∀ w, w < 8 → P' 26 w = 0) ∧ P' 0 29 = nI (cnt 40 A) ∧ P' 0 31 = nI G ∧ G ≤ 4100 ∧ (∀ s, s < 40 → A s = true → Rk s ≤ G) ∧ (G = 0 ∨ ∃ s, s < 40 ∧ A s = true ∧ Rk s = G) ∧ (∀ o k, o ≠ 22 → o ≠ 26 → (o ≠ 0 ∨ (k ≠ 29 ∧ k ≠ 31)) → P' o k = P o k)) ?_ ?_ N (nI 0, (z2, mH c P F2)) (by omega) ⟨P, 0, rfl, fun s h => by omega, h29, h31, by omega, fun s h => by omega, Or.inl rfl, fun _ _ _ _ => rfl⟩
  · rintro n k st hk ⟨P', G, rfl, h1, h2, h3, h4, h5, h6, h7⟩
    have a1 : P' 20 k = b2 (A k) := by rw [h7 _ _ (by omega) (by omega)]; exact hA k hk
    have a2 : P' 21 k = nI (if A k = true then Rk k else 0) := by rw [h7 _ _ (by omega) (by omega)]; exact hr k hk
    have a3 := hRk k hk
    have n0 : ∀ x : Int32, x + 0 = x := fun x => by simp
    refine Or.inr ?_
    cases e : A k
    · rw [e] at a1 a2
      have a4 : P' 21 k = nI 0 := by rw [a2]; rfl
      have e1 : cnt (k + 1) A = cnt k A := by rw [cnt, e]; rfl
      refine ⟨(nI (k + 1), (z2, mH c (up2 (up2 (up2 P' 22 k 0) 0 29 (nI (cnt k A))) 0 31 (nI G)) F2)), ?_, _, G, rfl, fun s hs => ?_, ?_, by rw [up2_eq], h4, fun s hs hAs => ?_, h6, fun o j o1 o2 => ?_⟩
      · simp (disch := first | assumption | omega | decide) only [J_Mod_build_86, J_Mod_build_118, h2, h3, a1, a4, b2_f, n0, MO_0, MG_0_0, MS_0_0, MR_0_1, MR_0_2, MR_0_3, MR_0_4, MR_0_5, MR_0_6, MR_0_7, MR_0_8, MR_0_9, MR_0_10, MR_0_11, MR_0_12, MR_0_13, MR_0_14, MR_0_15, MR_0_16, MR_0_17, MR_0_18, MR_0_19, MR_0_20, MR_0_21, MR_0_22, MR_0_23, MR_0_24, MR_0_25, MR_0_26, MG_0_27, MS_0_27, MG_0_28, MS_0_28, MG_0_29, MS_0_29, MG_0_30, MS_0_30, MG_0_31, MS_0_31, MR_0_32, MR_0_33, MR_0_34, MR_0_35, MR_0_36, MG_0_37, MS_0_37, MR_0_38, MR_0_39, MA_1, MB_1, MA_2, MB_2, MA_3, MB_3, MA_4, MB_4, MA_5, MB_5, MA_6, MB_6, MA_7, MB_7, MA_8, MB_8, MA_9, MB_9, MA_10, MB_10, MA_11, MB_11, MA_12, MB_12, MA_13, MB_13, MA_14, MB_14, MA_15, MB_15, MA_16, MB_16, MA_17, MB_17, MA_18, MB_18, MA_19, MB_19, MA_20, MB_20, MA_21, MB_21, MA_22, MB_22, MA_23, MB_23, MA_24, MB_24, MA_25, MB_25, MA_26, MB_26, MA_27, MB_27, MA_28, MB_28, MA_29, MB_29, MA_30, MB_30, MA_31, MB_31, MA_32, MB_32, MA_33, MB_33, ifp, ifn, Option.bind_some, n_s, n_le, n_lt, n_eq, l8, l40, l64, g40, u40, u6, u3, u0, mul6, mul3, J_bit, cmp0, b2_0, zR_b, zR_0, zR_1, up2_eq, up2_ne, up2J_eq, up2J_ne, mkv_eq, n_m1]
      · by_cases q : s = k
        · rw [q, up2_ne (by omega), up2_ne (by omega), up2_eq]
        · rw [up2_ne (by omega), up2_ne (by omega), up2_ne (by omega)]; exact h1 s (by omega)
      · rw [up2_ne (by omega), up2_eq, e1]
      · by_cases q : s = k
        · subst q; rw [e] at hAs; exact absurd hAs (by simp)
        · exact h5 s (by omega) hAs
      · rw [up2_ne (by omega), up2_ne (by omega), up2_ne (by omega)]; exact h7 o j o1 o2
    · rw [e] at a1 a2
      have a4 : P' 21 k = nI (Rk k) := by rw [a2]; rfl
      have e1 : cnt (k + 1) A = cnt k A + 1 := by rw [cnt, e]; rfl
      have u1 : ¬ b2 true = 0 := by decide
      by_cases q0 : Rk k ≤ G
      · refine ⟨(nI (k + 1), (z2, mH c (up2 (up2 (up2 P' 22 k 0) 0 29 (nI (cnt k A + 1))) 0 31 (nI G)) F2)), ?_, _, G, rfl, fun s hs => ?_, ?_, by rw [up2_eq], h4, fun s hs hAs => ?_, h6, fun o j o1 o2 => ?_⟩
        · simp (disch := first | assumption | omega | decide) only [J_Mod_build_86, J_Mod_build_118, h2, h3, a1, a4, MO_0, MG_0_0, MS_0_0, MR_0_1, MR_0_2, MR_0_3, MR_0_4, MR_0_5, MR_0_6, MR_0_7, MR_0_8, MR_0_9, MR_0_10, MR_0_11, MR_0_12, MR_0_13, MR_0_14, MR_0_15, MR_0_16, MR_0_17, MR_0_18, MR_0_19, MR_0_20, MR_0_21, MR_0_22, MR_0_23, MR_0_24, MR_0_25, MR_0_26, MG_0_27, MS_0_27, MG_0_28, MS_0_28, MG_0_29, MS_0_29, MG_0_30, MS_0_30, MG_0_31, MS_0_31, MR_0_32, MR_0_33, MR_0_34, MR_0_35, MR_0_36, MG_0_37, MS_0_37, MR_0_38, MR_0_39, MA_1, MB_1, MA_2, MB_2, MA_3, MB_3, MA_4, MB_4, MA_5, MB_5, MA_6, MB_6, MA_7, MB_7, MA_8, MB_8, MA_9, MB_9, MA_10, MB_10, MA_11, MB_11, MA_12, MB_12, MA_13, MB_13, MA_14, MB_14, MA_15, MB_15, MA_16, MB_16, MA_17, MB_17, MA_18, MB_18, MA_19, MB_19, MA_20, MB_20, MA_21, MB_21, MA_22, MB_22, MA_23, MB_23, MA_24, MB_24, MA_25, MB_25, MA_26, MB_26, MA_27, MB_27, MA_28, MB_28, MA_29, MB_29, MA_30, MB_30, MA_31, MB_31, MA_32, MB_32, MA_33, MB_33, ifp, ifn, Option.bind_some, n_s, n_le, n_lt, n_eq, l8, l40, l64, g40, u40, u6, u3, u0, mul6, mul3, J_bit, cmp0, b2_0, zR_b, zR_0, zR_1, up2_eq, up2_ne, up2J_eq, up2J_ne, mkv_eq, n_m1]
        · by_cases q : s = k
          · rw [q, up2_ne (by omega), up2_ne (by omega), up2_eq]
          · rw [up2_ne (by omega), up2_ne (by omega), up2_ne (by omega)]; exact h1 s (by omega)
        · rw [up2_ne (by omega), up2_eq, e1]
        · by_cases q : s = k
          · subst q; exact q0
          · exact h5 s (by omega) hAs
        · rw [up2_ne (by omega), up2_ne (by omega), up2_ne (by omega)]; exact h7 o j o1 o2
      · refine ⟨(nI (k + 1), (z2, mH c (up2 (up2 (up2 P' 22 k 0) 0 29 (nI (cnt k A + 1))) 0 31 (nI (Rk k))) F2)), ?_, _, Rk k, rfl, fun s hs => ?_, ?_, by rw [up2_eq], a3, fun s hs hAs => ?_, Or.inr ⟨k, hk, e, rfl⟩, fun o j o1 o2 => ?_⟩
        · simp (disch := first | assumption | omega | decide) only [J_Mod_build_86, J_Mod_build_118, h2, h3, a1, a4, MO_0, MG_0_0, MS_0_0, MR_0_1, MR_0_2, MR_0_3, MR_0_4, MR_0_5, MR_0_6, MR_0_7, MR_0_8, MR_0_9, MR_0_10, MR_0_11, MR_0_12, MR_0_13, MR_0_14, MR_0_15, MR_0_16, MR_0_17, MR_0_18, MR_0_19, MR_0_20, MR_0_21, MR_0_22, MR_0_23, MR_0_24, MR_0_25, MR_0_26, MG_0_27, MS_0_27, MG_0_28, MS_0_28, MG_0_29, MS_0_29, MG_0_30, MS_0_30, MG_0_31, MS_0_31, MR_0_32, MR_0_33, MR_0_34, MR_0_35, MR_0_36, MG_0_37, MS_0_37, MR_0_38, MR_0_39, MA_1, MB_1, MA_2, MB_2, MA_3, MB_3, MA_4, MB_4, MA_5, MB_5, MA_6, MB_6, MA_7, MB_7, MA_8, MB_8, MA_9, MB_9, MA_10, MB_10, MA_11, MB_11, MA_12, MB_12, MA_13, MB_13, MA_14, MB_14, MA_15, MB_15, MA_16, MB_16, MA_17, MB_17, MA_18, MB_18, MA_19, MB_19, MA_20, MB_20, MA_21, MB_21, MA_22, MB_22, MA_23, MB_23, MA_24, MB_24, MA_25, MB_25, MA_26, MB_26, MA_27, MB_27, MA_28, MB_28, MA_29, MB_29, MA_30, MB_30, MA_31, MB_31, MA_32, MB_32, MA_33, MB_33, ifp, ifn, Option.bind_some, n_s, n_le, n_lt, n_eq, l8, l40, l64, g40, u40, u6, u3, u0, mul6, mul3, J_bit, cmp0, b2_0, zR_b, zR_0, zR_1, up2_eq, up2_ne, up2J_eq, up2J_ne, mkv_eq, n_m1]
        · by_cases q : s = k
          · rw [q, up2_ne (by omega), up2_ne (by omega), up2_eq]
          · rw [up2_ne (by omega), up2_ne (by omega), up2_ne (by omega)]; exact h1 s (by omega)
        · rw [up2_ne (by omega), up2_eq, e1]
        · by_cases q : s = k
          · subst q; exact Nat.le_refl _
          · have := h5 s (by omega) hAs; omega
        · rw [up2_ne (by omega), up2_ne (by omega), up2_ne (by omega)]; exact h7 o j o1 o2
  · rintro n st ⟨P0, G, rfl, h1, h2, h3, h4, h5, h6, h7⟩
    simp (disch := first | assumption | omega | decide) only [J_Mod_build_86, MO_0, MG_0_0, MS_0_0, MR_0_1, MR_0_2, MR_0_3, MR_0_4, MR_0_5, MR_0_6, MR_0_7, MR_0_8, MR_0_9, MR_0_10, MR_0_11, MR_0_12, MR_0_13, MR_0_14, MR_0_15, MR_0_16, MR_0_17, MR_0_18, MR_0_19, MR_0_20, MR_0_21, MR_0_22, MR_0_23, MR_0_24, MR_0_25, MR_0_26, MG_0_27, MS_0_27, MG_0_28, MS_0_28, MG_0_29, MS_0_29, MG_0_30, MS_0_30, MG_0_31, MS_0_31, MR_0_32, MR_0_33, MR_0_34, MR_0_35, MR_0_36, MG_0_37, MS_0_37, MR_0_38, MR_0_39, MA_1, MB_1, MA_2, MB_2, MA_3, MB_3, MA_4, MB_4, MA_5, MB_5, MA_6, MB_6, MA_7, MB_7, MA_8, MB_8, MA_9, MB_9, MA_10, MB_10, MA_11, MB_11, MA_12, MB_12, MA_13, MB_13, MA_14, MB_14, MA_15, MB_15, MA_16, MB_16, MA_17, MB_17, MA_18, MB_18, MA_19, MB_19, MA_20, MB_20, MA_21, MB_21, MA_22, MB_22, MA_23, MB_23, MA_24, MB_24, MA_25, MB_25, MA_26, MB_26, MA_27, MB_27, MA_28, MB_28, MA_29, MB_29, MA_30, MB_30, MA_31, MB_31, MA_32, MB_32, MA_33, MB_33, ifp, ifn, Option.bind_some, n_s, n_le, n_lt, n_eq, l8, l40, l64, g40, u40, u6, u3, u0, mul6, mul3, J_bit, cmp0, b2_0, zR_b, zR_0, zR_1, up2_eq, up2_ne, up2J_eq, up2J_ne, mkv_eq, n_m1]
    refine lpx 8 (fun n (st : Int32 × Hp) => J_Mod_build_160 N n c x2 st.1 st.2) (fun k st => ∃ P', st = (nI k, (z2, mH c P' F2)) ∧ (∀ w, w < k → P' 26 w = 0) ∧ ∀ o, o ≠ 26 → P' o = P0 o) (fun r => ∃ P' G, r = J_Mod_build_181 N N c x2 1 (z2, mH c P' F2) ∧ (∀ s, s < 40 → P' 22 s = 0) ∧ (∀ w, w < 8 → P' 26 w = 0) ∧ P' 0 29 = nI (cnt 40 A) ∧ P' 0 31 = nI G ∧ G ≤ 4100 ∧ (∀ s, s < 40 → A s = true → Rk s ≤ G) ∧ (G = 0 ∨ ∃ s, s < 40 ∧ A s = true ∧ Rk s = G) ∧ (∀ o k, o ≠ 22 → o ≠ 26 → (o ≠ 0 ∨ (k ≠ 29 ∧ k ≠ 31)) → P' o k = P o k)) ?_ ?_ N (nI 0, (z2, mH c P0 F2)) (by omega) ⟨P0, rfl, fun w h => by omega, fun _ _ => rfl⟩
    · rintro n k st hk ⟨P', rfl, g1, g2⟩
      refine Or.inr ⟨(nI (k + 1), (z2, mH c (up2 P' 26 k 0) F2)), ?_, _, rfl, fun w hw => ?_, fun o ho => by rw [up2_row ho]; exact g2 o ho⟩
      · simp (disch := first | assumption | omega | decide) only [J_Mod_build_160, MO_0, MG_0_0, MS_0_0, MR_0_1, MR_0_2, MR_0_3, MR_0_4, MR_0_5, MR_0_6, MR_0_7, MR_0_8, MR_0_9, MR_0_10, MR_0_11, MR_0_12, MR_0_13, MR_0_14, MR_0_15, MR_0_16, MR_0_17, MR_0_18, MR_0_19, MR_0_20, MR_0_21, MR_0_22, MR_0_23, MR_0_24, MR_0_25, MR_0_26, MG_0_27, MS_0_27, MG_0_28, MS_0_28, MG_0_29, MS_0_29, MG_0_30, MS_0_30, MG_0_31, MS_0_31, MR_0_32, MR_0_33, MR_0_34, MR_0_35, MR_0_36, MG_0_37, MS_0_37, MR_0_38, MR_0_39, MA_1, MB_1, MA_2, MB_2, MA_3, MB_3, MA_4, MB_4, MA_5, MB_5, MA_6, MB_6, MA_7, MB_7, MA_8, MB_8, MA_9, MB_9, MA_10, MB_10, MA_11, MB_11, MA_12, MB_12, MA_13, MB_13, MA_14, MB_14, MA_15, MB_15, MA_16, MB_16, MA_17, MB_17, MA_18, MB_18, MA_19, MB_19, MA_20, MB_20, MA_21, MB_21, MA_22, MB_22, MA_23, MB_23, MA_24, MB_24, MA_25, MB_25, MA_26, MB_26, MA_27, MB_27, MA_28, MB_28, MA_29, MB_29, MA_30, MB_30, MA_31, MB_31, MA_32, MB_32, MA_33, MB_33, ifp, ifn, Option.bind_some, n_s, n_le, n_lt, n_eq, l8, l40, l64, g40, u40, u6, u3, u0, mul6, mul3, J_bit, cmp0, b2_0, zR_b, zR_0, zR_1, up2_eq, up2_ne, up2J_eq, up2J_ne, mkv_eq, n_m1]
      · by_cases q : w = k
        · rw [q, up2_eq]
        · rw [up2_ne (by omega)]; exact g1 w (by omega)
    · rintro n st ⟨P', rfl, g1, g2⟩
      refine ⟨P', G, ?_, ?_, g1, ?_, ?_, h4, h5, h6, fun o k o1 o2 o3 => ?_⟩
      · simp (disch := first | assumption | omega | decide) only [J_Mod_build_160, MO_0, MG_0_0, MS_0_0, MR_0_1, MR_0_2, MR_0_3, MR_0_4, MR_0_5, MR_0_6, MR_0_7, MR_0_8, MR_0_9, MR_0_10, MR_0_11, MR_0_12, MR_0_13, MR_0_14, MR_0_15, MR_0_16, MR_0_17, MR_0_18, MR_0_19, MR_0_20, MR_0_21, MR_0_22, MR_0_23, MR_0_24, MR_0_25, MR_0_26, MG_0_27, MS_0_27, MG_0_28, MS_0_28, MG_0_29, MS_0_29, MG_0_30, MS_0_30, MG_0_31, MS_0_31, MR_0_32, MR_0_33, MR_0_34, MR_0_35, MR_0_36, MG_0_37, MS_0_37, MR_0_38, MR_0_39, MA_1, MB_1, MA_2, MB_2, MA_3, MB_3, MA_4, MB_4, MA_5, MB_5, MA_6, MB_6, MA_7, MB_7, MA_8, MB_8, MA_9, MB_9, MA_10, MB_10, MA_11, MB_11, MA_12, MB_12, MA_13, MB_13, MA_14, MB_14, MA_15, MB_15, MA_16, MB_16, MA_17, MB_17, MA_18, MB_18, MA_19, MB_19, MA_20, MB_20, MA_21, MB_21, MA_22, MB_22, MA_23, MB_23, MA_24, MB_24, MA_25, MB_25, MA_26, MB_26, MA_27, MB_27, MA_28, MB_28, MA_29, MB_29, MA_30, MB_30, MA_31, MB_31, MA_32, MB_32, MA_33, MB_33, ifp, ifn, Option.bind_some, n_s, n_le, n_lt, n_eq, l8, l40, l64, g40, u40, u6, u3, u0, mul6, mul3, J_bit, cmp0, b2_0, zR_b, zR_0, zR_1, up2_eq, up2_ne, up2J_eq, up2J_ne, mkv_eq, n_m1]
      · rw [g2 22 (by omega)]; exact h1
      · rw [g2 0 (by omega)]; exact h2
      · rw [g2 0 (by omega)]; exact h3
      · rw [g2 o o2]; exact h7 o k o1 o3
end MB
