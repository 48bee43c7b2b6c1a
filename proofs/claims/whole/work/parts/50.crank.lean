def rkOK (V : Vw) (A : Nat → Bool) (ps : Nat → Nat) (i : Nat) (R : Nat → Nat) : Prop := (∀ s, s < 40 → vdu V s ≤ R s) ∧ (∀ s t, s < 40 → t < 40 → A t = true → i ≤ ps t → tk V t s = true → R t + vdu V s ≤ R s) ∧ (∀ s, s < 40 → R s ≤ vdu V s ∨ ∃ t, t < 40 ∧ A t = true ∧ i ≤ ps t ∧ tk V t s = true ∧ R s ≤ R t + vdu V s)
theorem n_dn (m : Nat) : nI (m + 1) - 1 = nI m := by
  rw [← n_s m]
  simp
theorem n_mn (x : Int32) : x + (-1) = x - 1 := by rw [Int32.sub_eq_add_neg]
section CP
variable {V : Vw} {z b N s : Nat} {I : Nat → Nat → Int32} {J : Nat → Nat → Int64} {F : Nat → Option HE} {A : Nat → Bool} {ps R : Nat → Nat}
theorem rk_s {u : Nat} (hO : ∀ s, s < 40 → A s = true → ∀ t, t < 40 → tk V s t = true → A t = true ∧ ps t < ps s) (hinj : ∀ s t, s < 40 → t < 40 → A s = true → A t = true → ps s = ps t → s = t) (hu : u < 40) (hA : A u = true) (h : rkOK V A ps (ps u + 1) R) : rkOK V A ps (ps u) (fun s => if tk V u s = true then max (R s) (vdu V s + R u) else R s) := by
  obtain ⟨h1, h2, h3⟩ := h
  have huu : tk V u u = false := by
    cases e : tk V u u
    · rfl
    · have := (hO u hu hA u hu e).2; omega
  have hk : ∀ t, t < 40 → ps u ≤ ps t → tk V u t = false := by
    intro t ht h
    cases e : tk V u t
    · rfl
    · have := (hO u hu hA t ht e).2; omega
  refine ⟨fun s hs => ?_, fun s t hs ht hAt hp hT => ?_, fun s hs => ?_⟩
  · have := h1 s hs
    simp only; split <;> omega
  · simp only [hk t ht hp]
    by_cases e : t = u
    · subst e; simp [hT]; omega
    · have := h2 s t hs ht hAt (by
        have : ps t ≠ ps u := fun q => e (hinj t u ht hu hAt hA q)
        omega) hT
      simp; split <;> omega
  · by_cases e : tk V u s = true
    · by_cases e2 : R s < vdu V s + R u
      · right
        refine ⟨u, hu, hA, Nat.le_refl _, e, ?_⟩
        simp only [huu, e, if_true]; simp; omega
      · rcases h3 s hs with h4 | ⟨t, ht, k1, k2, k3, k4⟩
        · left; simp only [e, if_true]; omega
        · right
          refine ⟨t, ht, k1, by omega, k3, ?_⟩
          simp only [e, if_true, hk t ht (by omega)]; simp; omega
    · rcases h3 s hs with h4 | ⟨t, ht, k1, k2, k3, k4⟩
      · left; simp only [e]; simpa using h4
      · right
        refine ⟨t, ht, k1, by omega, k3, ?_⟩
        simp only [e, hk t ht (by omega)]; simpa using k4
theorem q_rs47 (r : Nat → Nat → Int32 → Hp → Option (Unit × Hp)) {x2 : Int32} {u : Nat} (hw : VW V) (hc : CV V I) (hJ : ∀ s, s < 40 → isB (J 167 s) (tk V s)) (hu : u < 40) (huu : tk V u u = false) (hR : ∀ s, s < 40 → I 169 s = nI (R s) ∧ R s ≤ 10000) (hN : 100 < N) : ∃ I', J_Plan_rankSteps_47 N r N (b + 166) (b + 5) x2 (nI u) (nI 0) (z, dH b I J F) = r (b + 166) (b + 5) (x2 + (-1)) (z, dH b I' J F) ∧ (∀ s, s < 40 → I' 169 s = nI (if tk V u s = true then max (R s) (vdu V s + R u) else R s)) ∧ ∀ o j, o ≠ 169 → I' o j = I o j := by
  have a1 := hJ u hu
  refine lpx 40 (fun n (st : Int32 × Hp) => J_Plan_rankSteps_47 N r n (b + 166) (b + 5) x2 (nI u) st.1 st.2) (fun k st => ∃ I', st = (nI k, (z, dH b I' J F)) ∧ (∀ s, s < 40 → I' 169 s = nI (if s < k ∧ tk V u s = true then max (R s) (vdu V s + R u) else R s)) ∧ ∀ o j, o ≠ 169 → I' o j = I o j) (fun q => ∃ I', q = r (b + 166) (b + 5) (x2 + (-1)) (z, dH b I' J F) ∧ (∀ s, s < 40 → I' 169 s = nI (if tk V u s = true then max (R s) (vdu V s + R u) else R s)) ∧ ∀ o j, o ≠ 169 → I' o j = I o j) ?_ ?_ N (nI 0, (z, dH b I J F)) (by omega) ⟨I, rfl, fun s hs => by simp [hR s hs], fun _ _ _ => rfl⟩
  · rintro n k st hk ⟨I', rfl, h1, h2⟩
    have a2 := hR k hk
    have a3 := hR u hu
    have a4 := hw.1 k hk
    have a5 : I' (6 + 4 * k) 3 = nI (vdu V k) := by rw [h2 _ _ (by omega)]; exact (hc.1 k hk).2.2
    have a6 : I' 169 k = nI (R k) := by rw [h1 k hk]; simp
    have a7 : I' 169 u = nI (R u) := by rw [h1 u hu]; simp [huu]
    refine Or.inr ?_
    cases e : tk V u k
    · refine ⟨(nI (k + 1), (z, dH b I' J F)), ?_, I', rfl, fun s hs => ?_, h2⟩
      · simp (disch := first | assumption | omega | decide) only [J_Plan_rankSteps_47, J_isIn a1 hk, e, DO_0, DR_0_0, DR_0_1, DR_0_2, DR_0_3, DR_0_4, DR_0_5, DO_1, DR_1_0, DR_1_1, DR_1_2, DA_2, DB_2, DA_3, DB_3, DA_4, DB_4, DA_5, DO_166, DR_166_0, DR_166_1, DG_166_2, DS_166_2, DR_166_3, DG_166_4, DS_166_4, DA_167, DB_167, DA_168, DB_168, DA_169, DB_169, DO_170, DR_170_0, DR_170_1, DR_170_2, DG_170_3, DS_170_3, DG_170_4, DS_170_4, DA_171, DB_171, DA_172, DB_172, DA_173, DB_173, DO_174, DG_174_0, DS_174_0, DG_174_1, DS_174_1, DG_174_2, DS_174_2, DG_174_3, DS_174_3, DR_174_4, DA_175, DB_175, DO_176, DR_176_0, DG_176_1, DS_176_1, DR_176_2, DA_177, DB_177, DA_178, DB_178, DO_st, DG_st_0, DS_st_0, DG_st_1, DS_st_1, DG_st_2, DS_st_2, DG_st_3, DS_st_3, DR_st_4, DG_st_5, DS_st_5, DR_st_6, DG_st_7, DS_st_7, DG_st_8, DS_st_8, DG_st_9, DS_st_9, DG_st_10, DS_st_10, DG_st_11, DS_st_11, DG_st_12, DS_st_12, DR_st_13, DA_st_1, DB_st_1, DA_st_2, DB_st_2, DA_st_3, DB_st_3, ifp, ifn, Option.bind_some, n_s, n_le, n_lt, n_eq, l8, l40, l64, g40, u40, u6, u3, u0, mul6, mul3, J_bit, cmp0, b2_0, zR_b, zR_0, zR_1, up2_eq, up2_ne, up2J_eq, up2J_ne, mkv_eq, n_m1]
      · rw [h1 s hs]
        by_cases q : s = k
        · subst q; simp [e]
        · by_cases q2 : s < k
          · simp [q2, show s < k + 1 by omega]
          · simp [q2, show ¬ s < k + 1 by omega]
    · have key : ∀ v : Nat, v = max (R k) (vdu V k + R u) → ∀ s, s < 40 → up2 I' 169 k (nI v) 169 s = nI (if s < k + 1 ∧ tk V u s = true then max (R s) (vdu V s + R u) else R s) := by
        intro v hv s hs
        by_cases q : s = k
        · subst q; rw [up2_eq]; simp [e, hv]
        · rw [up2_ne (by omega), h1 s hs]
          by_cases q2 : s < k
          · simp [q2, show s < k + 1 by omega]
          · simp [q2, show ¬ s < k + 1 by omega]
      by_cases hlt : R k < vdu V k + R u
      · refine ⟨(nI (k + 1), (z, dH b (up2 I' 169 k (nI (vdu V k + R u))) J F)), ?_, _, rfl, key _ (by omega), fun o j ho => by rw [up2_ne (by omega)]; exact h2 o j ho⟩
        simp (disch := first | assumption | omega | decide) only [J_Plan_rankSteps_47, J_isIn a1 hk, e, a5, a6, a7, n_add, DO_0, DR_0_0, DR_0_1, DR_0_2, DR_0_3, DR_0_4, DR_0_5, DO_1, DR_1_0, DR_1_1, DR_1_2, DA_2, DB_2, DA_3, DB_3, DA_4, DB_4, DA_5, DO_166, DR_166_0, DR_166_1, DG_166_2, DS_166_2, DR_166_3, DG_166_4, DS_166_4, DA_167, DB_167, DA_168, DB_168, DA_169, DB_169, DO_170, DR_170_0, DR_170_1, DR_170_2, DG_170_3, DS_170_3, DG_170_4, DS_170_4, DA_171, DB_171, DA_172, DB_172, DA_173, DB_173, DO_174, DG_174_0, DS_174_0, DG_174_1, DS_174_1, DG_174_2, DS_174_2, DG_174_3, DS_174_3, DR_174_4, DA_175, DB_175, DO_176, DR_176_0, DG_176_1, DS_176_1, DR_176_2, DA_177, DB_177, DA_178, DB_178, DO_st, DG_st_0, DS_st_0, DG_st_1, DS_st_1, DG_st_2, DS_st_2, DG_st_3, DS_st_3, DR_st_4, DG_st_5, DS_st_5, DR_st_6, DG_st_7, DS_st_7, DG_st_8, DS_st_8, DG_st_9, DS_st_9, DG_st_10, DS_st_10, DG_st_11, DS_st_11, DG_st_12, DS_st_12, DR_st_13, DA_st_1, DB_st_1, DA_st_2, DB_st_2, DA_st_3, DB_st_3, ifp, ifn, Option.bind_some, n_s, n_le, n_lt, n_eq, l8, l40, l64, g40, u40, u6, u3, u0, mul6, mul3, J_bit, cmp0, b2_0, zR_b, zR_0, zR_1, up2_eq, up2_ne, up2J_eq, up2J_ne, mkv_eq, n_m1]
      · refine ⟨(nI (k + 1), (z, dH b (up2 I' 169 k (nI (R k))) J F)), ?_, _, rfl, key _ (by omega), fun o j ho => by rw [up2_ne (by omega)]; exact h2 o j ho⟩
        simp (disch := first | assumption | omega | decide) only [J_Plan_rankSteps_47, J_isIn a1 hk, e, a5, a6, a7, n_add, DO_0, DR_0_0, DR_0_1, DR_0_2, DR_0_3, DR_0_4, DR_0_5, DO_1, DR_1_0, DR_1_1, DR_1_2, DA_2, DB_2, DA_3, DB_3, DA_4, DB_4, DA_5, DO_166, DR_166_0, DR_166_1, DG_166_2, DS_166_2, DR_166_3, DG_166_4, DS_166_4, DA_167, DB_167, DA_168, DB_168, DA_169, DB_169, DO_170, DR_170_0, DR_170_1, DR_170_2, DG_170_3, DS_170_3, DG_170_4, DS_170_4, DA_171, DB_171, DA_172, DB_172, DA_173, DB_173, DO_174, DG_174_0, DS_174_0, DG_174_1, DS_174_1, DG_174_2, DS_174_2, DG_174_3, DS_174_3, DR_174_4, DA_175, DB_175, DO_176, DR_176_0, DG_176_1, DS_176_1, DR_176_2, DA_177, DB_177, DA_178, DB_178, DO_st, DG_st_0, DS_st_0, DG_st_1, DS_st_1, DG_st_2, DS_st_2, DG_st_3, DS_st_3, DR_st_4, DG_st_5, DS_st_5, DR_st_6, DG_st_7, DS_st_7, DG_st_8, DS_st_8, DG_st_9, DS_st_9, DG_st_10, DS_st_10, DG_st_11, DS_st_11, DG_st_12, DS_st_12, DR_st_13, DA_st_1, DB_st_1, DA_st_2, DB_st_2, DA_st_3, DB_st_3, ifp, ifn, Option.bind_some, n_s, n_le, n_lt, n_eq, l8, l40, l64, g40, u40, u6, u3, u0, mul6, mul3, J_bit, cmp0, b2_0, zR_b, zR_0, zR_1, up2_eq, up2_ne, up2J_eq, up2J_ne, mkv_eq, n_m1]
  · rintro n st ⟨I', rfl, h1, h2⟩
    refine ⟨I', ?_, fun s hs => ?_, h2⟩
    · simp (disch := first | assumption | omega | decide) only [J_Plan_rankSteps_47, DO_0, DR_0_0, DR_0_1, DR_0_2, DR_0_3, DR_0_4, DR_0_5, DO_1, DR_1_0, DR_1_1, DR_1_2, DA_2, DB_2, DA_3, DB_3, DA_4, DB_4, DA_5, DO_166, DR_166_0, DR_166_1, DG_166_2, DS_166_2, DR_166_3, DG_166_4, DS_166_4, DA_167, DB_167, DA_168, DB_168, DA_169, DB_169, DO_170, DR_170_0, DR_170_1, DR_170_2, DG_170_3, DS_170_3, DG_170_4, DS_170_4, DA_171, DB_171, DA_172, DB_172, DA_173, DB_173, DO_174, DG_174_0, DS_174_0, DG_174_1, DS_174_1, DG_174_2, DS_174_2, DG_174_3, DS_174_3, DR_174_4, DA_175, DB_175, DO_176, DR_176_0, DG_176_1, DS_176_1, DR_176_2, DA_177, DB_177, DA_178, DB_178, DO_st, DG_st_0, DS_st_0, DG_st_1, DS_st_1, DG_st_2, DS_st_2, DG_st_3, DS_st_3, DR_st_4, DG_st_5, DS_st_5, DR_st_6, DG_st_7, DS_st_7, DG_st_8, DS_st_8, DG_st_9, DS_st_9, DG_st_10, DS_st_10, DG_st_11, DS_st_11, DG_st_12, DS_st_12, DR_st_13, DA_st_1, DB_st_1, DA_st_2, DB_st_2, DA_st_3, DB_st_3, ifp, ifn, Option.bind_some, n_s, n_le, n_lt, n_eq, l8, l40, l64, g40, u40, u6, u3, u0, mul6, mul3, J_bit, cmp0, b2_0, zR_b, zR_0, zR_1, up2_eq, up2_ne, up2J_eq, up2J_ne, mkv_eq, n_m1]
    · rw [h1 s hs]; simp [hs]
theorem q_rankSteps (hw : VW V) (hc : CV V I) (hJ : ∀ s, s < 40 → isB (J 167 s) (tk V s)) (hL : Lin V A A I ps) (hN : 100 < N) : ∃ R I', J_Plan_rankSteps N (b + 166) (b + 5) (z, dH b I J F) = some ((), (z, dH b I' J F)) ∧ rkOK V A ps 0 R ∧ (∀ s, s < 40 → I' 169 s = nI (R s) ∧ R s ≤ 4100) ∧ ∀ o j, o ≠ 169 → I' o j = I o j := by
  obtain ⟨g1, g2, g3, g4⟩ := hL
  have hcl := @cnt_le A 40
  have hinj : ∀ s t, s < 40 → t < 40 → A s = true → A t = true → ps s = ps t → s = t := by
    intro s t hs ht h1 h2 h3
    have k1 := (g4 s hs h1).2.1
    have k2 := (g4 t ht h2).2.1
    rw [h3, k2] at k1
    have := (n_eq (a := t) (k := s) (by omega) (by omega)) ▸ k1
    omega
  rw [J_Plan_rankSteps]
  refine lpx 40 (fun n (st : Int32 × Hp) => J_Plan_rankSteps_2 N n (b + 166) (b + 5) st.1 st.2) (fun k st => ∃ I', st = (nI k, (z, dH b I' J F)) ∧ (∀ s, s < k → I' 169 s = nI (vdu V s)) ∧ ∀ o j, o ≠ 169 → I' o j = I o j) (fun q => ∃ R I', q = some ((), (z, dH b I' J F)) ∧ rkOK V A ps 0 R ∧ (∀ s, s < 40 → I' 169 s = nI (R s) ∧ R s ≤ 4100) ∧ ∀ o j, o ≠ 169 → I' o j = I o j) ?_ ?_ N (nI 0, (z, dH b I J F)) (by omega) ⟨I, rfl, fun s h => by omega, fun _ _ _ => rfl⟩
  · rintro n k st hk ⟨I', rfl, h1, h2⟩
    have a5 : I' (6 + 4 * k) 3 = nI (vdu V k) := by rw [h2 _ _ (by omega)]; exact (hc.1 k hk).2.2
    refine Or.inr ⟨(nI (k + 1), (z, dH b (up2 I' 169 k (nI (vdu V k))) J F)), ?_, _, rfl, fun s hs => ?_, fun o j ho => by rw [up2_ne (by omega)]; exact h2 o j ho⟩
    · simp (disch := first | assumption | omega | decide) only [J_Plan_rankSteps_2, a5, DO_0, DR_0_0, DR_0_1, DR_0_2, DR_0_3, DR_0_4, DR_0_5, DO_1, DR_1_0, DR_1_1, DR_1_2, DA_2, DB_2, DA_3, DB_3, DA_4, DB_4, DA_5, DO_166, DR_166_0, DR_166_1, DG_166_2, DS_166_2, DR_166_3, DG_166_4, DS_166_4, DA_167, DB_167, DA_168, DB_168, DA_169, DB_169, DO_170, DR_170_0, DR_170_1, DR_170_2, DG_170_3, DS_170_3, DG_170_4, DS_170_4, DA_171, DB_171, DA_172, DB_172, DA_173, DB_173, DO_174, DG_174_0, DS_174_0, DG_174_1, DS_174_1, DG_174_2, DS_174_2, DG_174_3, DS_174_3, DR_174_4, DA_175, DB_175, DO_176, DR_176_0, DG_176_1, DS_176_1, DR_176_2, DA_177, DB_177, DA_178, DB_178, DO_st, DG_st_0, DS_st_0, DG_st_1, DS_st_1, DG_st_2, DS_st_2, DG_st_3, DS_st_3, DR_st_4, DG_st_5, DS_st_5, DR_st_6, DG_st_7, DS_st_7, DG_st_8, DS_st_8, DG_st_9, DS_st_9, DG_st_10, DS_st_10, DG_st_11, DS_st_11, DG_st_12, DS_st_12, DR_st_13, DA_st_1, DB_st_1, DA_st_2, DB_st_2, DA_st_3, DB_st_3, ifp, ifn, Option.bind_some, n_s, n_le, n_lt, n_eq, l8, l40, l64, g40, u40, u6, u3, u0, mul6, mul3, J_bit, cmp0, b2_0, zR_b, zR_0, zR_1, up2_eq, up2_ne, up2J_eq, up2J_ne, mkv_eq, n_m1]
    · by_cases q : s = k
      · subst q; rw [up2_eq]
      · rw [up2_ne (by omega)]; exact h1 s (by omega)
  · rintro n st ⟨I0, rfl, h1, h2⟩
    have a1 : I0 166 2 = nI (cnt 40 A) := by rw [h2 _ _ (by omega)]; exact g2
    simp (disch := first | assumption | omega | decide) only [J_Plan_rankSteps_2, a1, DO_0, DR_0_0, DR_0_1, DR_0_2, DR_0_3, DR_0_4, DR_0_5, DO_1, DR_1_0, DR_1_1, DR_1_2, DA_2, DB_2, DA_3, DB_3, DA_4, DB_4, DA_5, DO_166, DR_166_0, DR_166_1, DG_166_2, DS_166_2, DR_166_3, DG_166_4, DS_166_4, DA_167, DB_167, DA_168, DB_168, DA_169, DB_169, DO_170, DR_170_0, DR_170_1, DR_170_2, DG_170_3, DS_170_3, DG_170_4, DS_170_4, DA_171, DB_171, DA_172, DB_172, DA_173, DB_173, DO_174, DG_174_0, DS_174_0, DG_174_1, DS_174_1, DG_174_2, DS_174_2, DG_174_3, DS_174_3, DR_174_4, DA_175, DB_175, DO_176, DR_176_0, DG_176_1, DS_176_1, DR_176_2, DA_177, DB_177, DA_178, DB_178, DO_st, DG_st_0, DS_st_0, DG_st_1, DS_st_1, DG_st_2, DS_st_2, DG_st_3, DS_st_3, DR_st_4, DG_st_5, DS_st_5, DR_st_6, DG_st_7, DS_st_7, DG_st_8, DS_st_8, DG_st_9, DS_st_9, DG_st_10, DS_st_10, DG_st_11, DS_st_11, DG_st_12, DS_st_12, DR_st_13, DA_st_1, DB_st_1, DA_st_2, DB_st_2, DA_st_3, DB_st_3, ifp, ifn, Option.bind_some, n_s, n_le, n_lt, n_eq, l8, l40, l64, g40, u40, u6, u3, u0, mul6, mul3, J_bit, cmp0, b2_0, zR_b, zR_0, zR_1, up2_eq, up2_ne, up2J_eq, up2J_ne, mkv_eq, n_m1]
    refine lpx (cnt 40 A) (fun n (st : Int32 × Hp) => J_Plan_rankSteps_33 N n (b + 166) (b + 5) st.1 st.2) (fun p st => ∃ R I', st = (nI (cnt 40 A - p) - 1, (z, dH b I' J F)) ∧ rkOK V A ps (cnt 40 A - p) R ∧ (∀ s, s < 40 → I' 169 s = nI (R s) ∧ R s ≤ 100 * (p + 1)) ∧ ∀ o j, o ≠ 169 → I' o j = I o j) (fun q => ∃ R I', q = some ((), (z, dH b I' J F)) ∧ rkOK V A ps 0 R ∧ (∀ s, s < 40 → I' 169 s = nI (R s) ∧ R s ≤ 4100) ∧ ∀ o j, o ≠ 169 → I' o j = I o j) ?_ ?_ N (nI (cnt 40 A) - 1, (z, dH b I0 J F)) (by omega) ⟨fun s => vdu V s, I0, rfl, ⟨fun _ _ => Nat.le_refl _, fun s t hs ht hA hp hT => ?_, fun s hs => Or.inl (Nat.le_refl _)⟩, fun s hs => ⟨h1 s hs, by have := hw.1 s hs; show vdu V s ≤ _; omega⟩, h2⟩
    · rintro n p st hp ⟨R, I', rfl, k1, k2, k3⟩
      obtain ⟨u, hu, e1, e2, e3⟩ := g3 (cnt 40 A - (p + 1)) (by omega)
      have e4 : I' 168 (cnt 40 A - (p + 1)) = nI u := by rw [k3 _ _ (by omega)]; exact e1
      have e5 : nI (cnt 40 A - p) - 1 = nI (cnt 40 A - (p + 1)) := by
        rw [show cnt 40 A - p = (cnt 40 A - (p + 1)) + 1 by omega]; exact n_dn _
      have huu : tk V u u = false := by
        cases e : tk V u u
        · rfl
        · have := ((g4 u hu e2).2.2 u hu e).2; omega
      have hc' : CV V I' := CV_c hc (fun o k ho => k3 o k (by rcases ho with h | h <;> omega))
      obtain ⟨I'', f1, f2, f3⟩ := q_rs47 (V := V) (b := b) (z := z) (N := N) (F := F) (R := R) (J_Plan_rankSteps_33 N n) (x2 := nI (cnt 40 A - (p + 1))) hw hc' hJ hu huu (fun s hs => ⟨(k2 s hs).1, by have := (k2 s hs).2; omega⟩) hN
      refine Or.inr ⟨(nI (cnt 40 A - (p + 1)) - 1, (z, dH b I'' J F)), ?_, _, I'', rfl, ?_, fun s hs => ⟨f2 s hs, ?_⟩, fun o j ho => by rw [f3 o j ho]; exact k3 o j ho⟩
      · rw [n_mn] at f1
        simp (disch := first | assumption | omega | decide) only [J_Plan_rankSteps_33, e5, e4, DO_0, DR_0_0, DR_0_1, DR_0_2, DR_0_3, DR_0_4, DR_0_5, DO_1, DR_1_0, DR_1_1, DR_1_2, DA_2, DB_2, DA_3, DB_3, DA_4, DB_4, DA_5, DO_166, DR_166_0, DR_166_1, DG_166_2, DS_166_2, DR_166_3, DG_166_4, DS_166_4, DA_167, DB_167, DA_168, DB_168, DA_169, DB_169, DO_170, DR_170_0, DR_170_1, DR_170_2, DG_170_3, DS_170_3, DG_170_4, DS_170_4, DA_171, DB_171, DA_172, DB_172, DA_173, DB_173, DO_174, DG_174_0, DS_174_0, DG_174_1, DS_174_1, DG_174_2, DS_174_2, DG_174_3, DS_174_3, DR_174_4, DA_175, DB_175, DO_176, DR_176_0, DG_176_1, DS_176_1, DR_176_2, DA_177, DB_177, DA_178, DB_178, DO_st, DG_st_0, DS_st_0, DG_st_1, DS_st_1, DG_st_2, DS_st_2, DG_st_3, DS_st_3, DR_st_4, DG_st_5, DS_st_5, DR_st_6, DG_st_7, DS_st_7, DG_st_8, DS_st_8, DG_st_9, DS_st_9, DG_st_10, DS_st_10, DG_st_11, DS_st_11, DG_st_12, DS_st_12, DR_st_13, DA_st_1, DB_st_1, DA_st_2, DB_st_2, DA_st_3, DB_st_3, ifp, ifn, Option.bind_some, n_s, n_le, n_lt, n_eq, l8, l40, l64, g40, u40, u6, u3, u0, mul6, mul3, J_bit, cmp0, b2_0, zR_b, zR_0, zR_1, up2_eq, up2_ne, up2J_eq, up2J_ne, mkv_eq, n_m1]
        exact f1
      · have := rk_s (V := V) (A := A) (ps := ps) (R := R) (u := u) (fun s hs hA => (g4 s hs hA).2.2) hinj hu e2 (by rw [e3, show cnt 40 A - (p + 1) + 1 = cnt 40 A - p by omega]; exact k1)
        rw [e3] at this
        exact this
      · have := (k2 s hs).2
        have := (k2 u hu).2
        have := (hw.1 s hs).2.2
        split <;> omega
    · rintro n st ⟨R, I', rfl, k1, k2, k3⟩
      refine ⟨R, I', ?_, by rw [Nat.sub_self] at k1; exact k1, fun s hs => ⟨(k2 s hs).1, by have := (k2 s hs).2; omega⟩, k3⟩
      rw [Nat.sub_self]
      have : (nI 0 - 1 < (0 : Int32)) = True := by decide
      simp (disch := first | assumption | omega | decide) only [J_Plan_rankSteps_33, this, DO_0, DR_0_0, DR_0_1, DR_0_2, DR_0_3, DR_0_4, DR_0_5, DO_1, DR_1_0, DR_1_1, DR_1_2, DA_2, DB_2, DA_3, DB_3, DA_4, DB_4, DA_5, DO_166, DR_166_0, DR_166_1, DG_166_2, DS_166_2, DR_166_3, DG_166_4, DS_166_4, DA_167, DB_167, DA_168, DB_168, DA_169, DB_169, DO_170, DR_170_0, DR_170_1, DR_170_2, DG_170_3, DS_170_3, DG_170_4, DS_170_4, DA_171, DB_171, DA_172, DB_172, DA_173, DB_173, DO_174, DG_174_0, DS_174_0, DG_174_1, DS_174_1, DG_174_2, DS_174_2, DG_174_3, DS_174_3, DR_174_4, DA_175, DB_175, DO_176, DR_176_0, DG_176_1, DS_176_1, DR_176_2, DA_177, DB_177, DA_178, DB_178, DO_st, DG_st_0, DS_st_0, DG_st_1, DS_st_1, DG_st_2, DS_st_2, DG_st_3, DS_st_3, DR_st_4, DG_st_5, DS_st_5, DR_st_6, DG_st_7, DS_st_7, DG_st_8, DS_st_8, DG_st_9, DS_st_9, DG_st_10, DS_st_10, DG_st_11, DS_st_11, DG_st_12, DS_st_12, DR_st_13, DA_st_1, DB_st_1, DA_st_2, DB_st_2, DA_st_3, DB_st_3, ifp, ifn, Option.bind_some, n_s, n_le, n_lt, n_eq, l8, l40, l64, g40, u40, u6, u3, u0, mul6, mul3, J_bit, cmp0, b2_0, zR_b, zR_0, zR_1, up2_eq, up2_ne, up2J_eq, up2J_ne, mkv_eq, n_m1]
    · have := (g4 t ht hA).1
      omega
theorem q_greatest (hL : Lin V A A I ps) (hR : ∀ s, s < 40 → I 169 s = nI (R s) ∧ R s ≤ 4100) (hN : 100 < N) : ∃ G, J_Plan_greatestRank N (b + 166) (z, dH b I J F) = some (nI G, (z, dH b I J F)) ∧ G ≤ 4100 ∧ (∀ s, s < 40 → A s = true → R s ≤ G) ∧ (G = 0 ∨ ∃ s, s < 40 ∧ A s = true ∧ R s = G) := by
  obtain ⟨g1, g2, g3, g4⟩ := hL
  have hcl := @cnt_le A 40
  rw [J_Plan_greatestRank]
  refine lpx (cnt 40 A) (fun n (st : Int32 × Int32) => J_Plan_greatestRank_4 N n (b + 166) st.1 st.2 (z, dH b I J F)) (fun i st => ∃ G, st = (nI G, nI i) ∧ G ≤ 4100 ∧ (∀ s, s < 40 → A s = true → ps s < i → R s ≤ G) ∧ (G = 0 ∨ ∃ s, s < 40 ∧ A s = true ∧ R s = G)) (fun q => ∃ G, q = some (nI G, (z, dH b I J F)) ∧ G ≤ 4100 ∧ (∀ s, s < 40 → A s = true → R s ≤ G) ∧ (G = 0 ∨ ∃ s, s < 40 ∧ A s = true ∧ R s = G)) ?_ ?_ N (nI 0, nI 0) (by omega) ⟨0, rfl, by omega, fun s _ _ h => by omega, Or.inl rfl⟩
  · rintro n i st hi ⟨G, rfl, h1, h2, h3⟩
    obtain ⟨u, hu, e1, e2, e3⟩ := g3 i hi
    have a1 := hR u hu
    have key : ∀ s, s < 40 → A s = true → ps s < i + 1 → ps s < i ∨ s = u := by
      intro s hs hA h
      by_cases q : ps s < i
      · exact Or.inl q
      · right
        have k1 := (g4 s hs hA).2.1
        rw [show ps s = i by omega, e1] at k1
        have := (n_eq (a := u) (k := s) (by omega) (by omega)) ▸ k1
        omega
    refine Or.inr ?_
    by_cases q : G < R u
    · refine ⟨(nI (R u), nI (i + 1)), ?_, R u, rfl, a1.2, fun s hs hA h => ?_, Or.inr ⟨u, hu, e2, rfl⟩⟩
      · simp (disch := first | assumption | omega | decide) only [J_Plan_greatestRank_4, g2, e1, a1, DO_0, DR_0_0, DR_0_1, DR_0_2, DR_0_3, DR_0_4, DR_0_5, DO_1, DR_1_0, DR_1_1, DR_1_2, DA_2, DB_2, DA_3, DB_3, DA_4, DB_4, DA_5, DO_166, DR_166_0, DR_166_1, DG_166_2, DS_166_2, DR_166_3, DG_166_4, DS_166_4, DA_167, DB_167, DA_168, DB_168, DA_169, DB_169, DO_170, DR_170_0, DR_170_1, DR_170_2, DG_170_3, DS_170_3, DG_170_4, DS_170_4, DA_171, DB_171, DA_172, DB_172, DA_173, DB_173, DO_174, DG_174_0, DS_174_0, DG_174_1, DS_174_1, DG_174_2, DS_174_2, DG_174_3, DS_174_3, DR_174_4, DA_175, DB_175, DO_176, DR_176_0, DG_176_1, DS_176_1, DR_176_2, DA_177, DB_177, DA_178, DB_178, DO_st, DG_st_0, DS_st_0, DG_st_1, DS_st_1, DG_st_2, DS_st_2, DG_st_3, DS_st_3, DR_st_4, DG_st_5, DS_st_5, DR_st_6, DG_st_7, DS_st_7, DG_st_8, DS_st_8, DG_st_9, DS_st_9, DG_st_10, DS_st_10, DG_st_11, DS_st_11, DG_st_12, DS_st_12, DR_st_13, DA_st_1, DB_st_1, DA_st_2, DB_st_2, DA_st_3, DB_st_3, ifp, ifn, Option.bind_some, n_s, n_le, n_lt, n_eq, l8, l40, l64, g40, u40, u6, u3, u0, mul6, mul3, J_bit, cmp0, b2_0, zR_b, zR_0, zR_1, up2_eq, up2_ne, up2J_eq, up2J_ne, mkv_eq, n_m1]
      · rcases key s hs hA h with h | h
        · have := h2 s hs hA h; omega
        · rw [h]; omega
    · refine ⟨(nI G, nI (i + 1)), ?_, G, rfl, h1, fun s hs hA h => ?_, h3⟩
      · simp (disch := first | assumption | omega | decide) only [J_Plan_greatestRank_4, g2, e1, a1, DO_0, DR_0_0, DR_0_1, DR_0_2, DR_0_3, DR_0_4, DR_0_5, DO_1, DR_1_0, DR_1_1, DR_1_2, DA_2, DB_2, DA_3, DB_3, DA_4, DB_4, DA_5, DO_166, DR_166_0, DR_166_1, DG_166_2, DS_166_2, DR_166_3, DG_166_4, DS_166_4, DA_167, DB_167, DA_168, DB_168, DA_169, DB_169, DO_170, DR_170_0, DR_170_1, DR_170_2, DG_170_3, DS_170_3, DG_170_4, DS_170_4, DA_171, DB_171, DA_172, DB_172, DA_173, DB_173, DO_174, DG_174_0, DS_174_0, DG_174_1, DS_174_1, DG_174_2, DS_174_2, DG_174_3, DS_174_3, DR_174_4, DA_175, DB_175, DO_176, DR_176_0, DG_176_1, DS_176_1, DR_176_2, DA_177, DB_177, DA_178, DB_178, DO_st, DG_st_0, DS_st_0, DG_st_1, DS_st_1, DG_st_2, DS_st_2, DG_st_3, DS_st_3, DR_st_4, DG_st_5, DS_st_5, DR_st_6, DG_st_7, DS_st_7, DG_st_8, DS_st_8, DG_st_9, DS_st_9, DG_st_10, DS_st_10, DG_st_11, DS_st_11, DG_st_12, DS_st_12, DR_st_13, DA_st_1, DB_st_1, DA_st_2, DB_st_2, DA_st_3, DB_st_3, ifp, ifn, Option.bind_some, n_s, n_le, n_lt, n_eq, l8, l40, l64, g40, u40, u6, u3, u0, mul6, mul3, J_bit, cmp0, b2_0, zR_b, zR_0, zR_1, up2_eq, up2_ne, up2J_eq, up2J_ne, mkv_eq, n_m1]
      · rcases key s hs hA h with h | h
        · exact h2 s hs hA h
        · rw [h]; omega
  · rintro n st ⟨G, rfl, h1, h2, h3⟩
    refine ⟨G, ?_, h1, fun s hs hA => h2 s hs hA (g4 s hs hA).1, h3⟩
    simp (disch := first | assumption | omega | decide) only [J_Plan_greatestRank_4, g2, DO_0, DR_0_0, DR_0_1, DR_0_2, DR_0_3, DR_0_4, DR_0_5, DO_1, DR_1_0, DR_1_1, DR_1_2, DA_2, DB_2, DA_3, DB_3, DA_4, DB_4, DA_5, DO_166, DR_166_0, DR_166_1, DG_166_2, DS_166_2, DR_166_3, DG_166_4, DS_166_4, DA_167, DB_167, DA_168, DB_168, DA_169, DB_169, DO_170, DR_170_0, DR_170_1, DR_170_2, DG_170_3, DS_170_3, DG_170_4, DS_170_4, DA_171, DB_171, DA_172, DB_172, DA_173, DB_173, DO_174, DG_174_0, DS_174_0, DG_174_1, DS_174_1, DG_174_2, DS_174_2, DG_174_3, DS_174_3, DR_174_4, DA_175, DB_175, DO_176, DR_176_0, DG_176_1, DS_176_1, DR_176_2, DA_177, DB_177, DA_178, DB_178, DO_st, DG_st_0, DS_st_0, DG_st_1, DS_st_1, DG_st_2, DS_st_2, DG_st_3, DS_st_3, DR_st_4, DG_st_5, DS_st_5, DR_st_6, DG_st_7, DS_st_7, DG_st_8, DS_st_8, DG_st_9, DS_st_9, DG_st_10, DS_st_10, DG_st_11, DS_st_11, DG_st_12, DS_st_12, DR_st_13, DA_st_1, DB_st_1, DA_st_2, DB_st_2, DA_st_3, DB_st_3, ifp, ifn, Option.bind_some, n_s, n_le, n_lt, n_eq, l8, l40, l64, g40, u40, u6, u3, u0, mul6, mul3, J_bit, cmp0, b2_0, zR_b, zR_0, zR_1, up2_eq, up2_ne, up2J_eq, up2J_ne, mkv_eq, n_m1]
end CP
