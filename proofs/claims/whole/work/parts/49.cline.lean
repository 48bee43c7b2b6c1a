def Stk (V : Vw) (A Pl : Nat → Bool) : Prop := ∀ s, s < 40 → A s = true → Pl s = false → ∃ t, t < 40 ∧ tk V s t = true ∧ Pl t = false
/-- the line: n steps, Pl the set of them, ps s the place of s -/
def Lin (V : Vw) (A Pl : Nat → Bool) (I : Nat → Nat → Int32) (ps : Nat → Nat) : Prop := inS Pl A ∧ I 166 2 = nI (cnt 40 Pl) ∧ (∀ i, i < cnt 40 Pl → ∃ s, s < 40 ∧ I 168 i = nI s ∧ Pl s = true ∧ ps s = i) ∧ (∀ s, s < 40 → Pl s = true → ps s < cnt 40 Pl ∧ I 168 (ps s) = nI s ∧ ∀ t, t < 40 → tk V s t = true → Pl t = true ∧ ps t < ps s)
def frL (I I' : Nat → Nat → Int32) : Prop := ∀ o k, o ≠ 166 → o ≠ 168 → I' o k = I o k
theorem bcases (c : Bool) : c = true ∨ c = false := by cases c <;> simp
section CP
variable {V : Vw} {z b N s : Nat} {I : Nat → Nat → Int32} {J : Nat → Nat → Int64} {F : Nat → Option HE} {A Pl : Nat → Bool}
theorem Lin_s {ps : Nat → Nat} {s : Nat} (h : Lin V A Pl I ps) (hs : s < 40) (hA : A s = true) (hP : Pl s = false) (hT : ∀ t, t < 40 → tk V s t = true → Pl t = true) : cnt 40 Pl < 40 ∧ Lin V A (fun t => Pl t || decide (t = s)) (up2 (up2 I 168 (cnt 40 Pl) (nI s)) 166 2 (nI (cnt 40 Pl + 1))) (fun t => if t = s then cnt 40 Pl else ps t) := by
  obtain ⟨h1, h2, h3, h4⟩ := h
  have h5 : cnt 40 (fun t => Pl t || decide (t = s)) = cnt 40 Pl + 1 := cnt_add s hs hP (by simp) (fun k _ hk => by simp [hk])
  have h6 := @cnt_le (fun t => Pl t || decide (t = s)) 40
  refine ⟨by omega, fun t ht q => ?_, ?_, fun i hi => ?_, fun u hu q => ?_⟩
  · rcases Bool.or_eq_true _ _ ▸ q with q | q
    · exact h1 t ht q
    · have : t = s := by simpa using q
      rw [this]; exact hA
  · rw [up2_eq, h5]
  · rw [h5] at hi
    by_cases e : i = cnt 40 Pl
    · refine ⟨s, hs, ?_, by simp, by simp [e]⟩
      rw [up2_ne (by omega), e, up2_eq]
    · obtain ⟨u, hu, e1, e2, e3⟩ := h3 i (by omega)
      refine ⟨u, hu, ?_, by simp [e2], ?_⟩
      · rw [up2_ne (by omega), up2_ne (by omega)]; exact e1
      · have : u ≠ s := by intro q; rw [q, hP] at e2; exact absurd e2 (by simp)
        simp [this, e3]
  · rw [h5]
    by_cases e : u = s
    · subst e
      refine ⟨by simp, by simp only [if_true]; rw [up2_ne (by omega), up2_eq], fun t ht hk => ?_⟩
      have h7 := hT t ht hk
      have : t ≠ u := by intro q; rw [q, hP] at h7; exact absurd h7 (by simp)
      have h8 := (h4 t ht h7).1
      simp [h7, this, h8]
    · have q' : Pl u = true := by simpa [e] using q
      have h7 := h4 u hu q'
      refine ⟨by simp [e]; omega, by simp only [if_neg e]; rw [up2_ne (by omega), up2_ne (by omega)]; exact h7.2.1, fun t ht hk => ?_⟩
      have h8 := h7.2.2 t ht hk
      have : t ≠ s := by intro q; rw [q, hP] at h8; exact absurd h8.1 (by simp)
      simp [h8, this, e]
theorem q_lu27 (r : Nat → Int64 → Int32 → Hp → Option (Int32 × Hp)) {x3 : Int32} {w : Int64} {ps : Nat → Nat} (hJ : ∀ s, s < 40 → isB (J 167 s) (tk V s)) (hA : isB (J 166 4) A) (hP : isB w Pl) (hL : Lin V A Pl I ps) (hN : 100 < N) : ∃ w' Pl' I' ps', J_Plan_lineUp_27 N r N (b + 166) w x3 (nI 0) (z, dH b I J F) = r (b + 166) w' (x3 + 1) (z, dH b I' J F) ∧ isB w' Pl' ∧ Lin V A Pl' I' ps' ∧ frL I I' ∧ inS Pl Pl' ∧ (Stk V A Pl → ∀ t, t < 40 → Pl' t = Pl t) ∧ ((∀ t, t < 40 → Pl' t = Pl t) → Stk V A Pl) := by
  refine lpx 40 (fun n (st : Int64 × Int32 × Hp) => J_Plan_lineUp_27 N r n (b + 166) st.1 x3 st.2.1 st.2.2) (fun k st => ∃ w' Pl' I' ps', st = (w', nI k, (z, dH b I' J F)) ∧ isB w' Pl' ∧ Lin V A Pl' I' ps' ∧ frL I I' ∧ inS Pl Pl' ∧ (Stk V A Pl → ∀ t, t < 40 → Pl' t = Pl t) ∧ (∀ s, s < k → A s = true → Pl' s = false → ∃ t, t < 40 ∧ tk V s t = true ∧ Pl t = false)) (fun q => ∃ w' Pl' I' ps', q = r (b + 166) w' (x3 + 1) (z, dH b I' J F) ∧ isB w' Pl' ∧ Lin V A Pl' I' ps' ∧ frL I I' ∧ inS Pl Pl' ∧ (Stk V A Pl → ∀ t, t < 40 → Pl' t = Pl t) ∧ ((∀ t, t < 40 → Pl' t = Pl t) → Stk V A Pl)) ?_ ?_ N (w, nI 0, (z, dH b I J F)) (by omega) ⟨w, Pl, I, ps, rfl, hP, hL, fun _ _ _ _ => rfl, fun _ _ h => h, fun _ _ _ => rfl, fun s h => by omega⟩
  · rintro n k st hk ⟨w', Pl', I', ps', rfl, h1, h2, h3, h4, h5, h6⟩
    have a1 := hJ k hk
    have a2 := isB_diff hA h1
    refine Or.inr ?_
    cases e : (A k && !Pl' k)
    · refine ⟨(w', nI (k + 1), (z, dH b I' J F)), ?_, w', Pl', I', ps', rfl, h1, h2, h3, h4, h5, fun s hs hA' hP' => ?_⟩
      · simp (disch := first | assumption | omega | decide) only [J_Plan_lineUp_27, J_isIn a2 hk, e, DO_0, DR_0_0, DR_0_1, DR_0_2, DR_0_3, DR_0_4, DR_0_5, DO_1, DR_1_0, DR_1_1, DR_1_2, DA_2, DB_2, DA_3, DB_3, DA_4, DB_4, DA_5, DO_166, DR_166_0, DR_166_1, DG_166_2, DS_166_2, DR_166_3, DG_166_4, DS_166_4, DA_167, DB_167, DA_168, DB_168, DA_169, DB_169, DO_170, DR_170_0, DR_170_1, DR_170_2, DG_170_3, DS_170_3, DG_170_4, DS_170_4, DA_171, DB_171, DA_172, DB_172, DA_173, DB_173, DO_174, DG_174_0, DS_174_0, DG_174_1, DS_174_1, DG_174_2, DS_174_2, DG_174_3, DS_174_3, DR_174_4, DA_175, DB_175, DO_176, DR_176_0, DG_176_1, DS_176_1, DR_176_2, DA_177, DB_177, DA_178, DB_178, DO_st, DG_st_0, DS_st_0, DG_st_1, DS_st_1, DG_st_2, DS_st_2, DG_st_3, DS_st_3, DR_st_4, DG_st_5, DS_st_5, DR_st_6, DG_st_7, DS_st_7, DG_st_8, DS_st_8, DG_st_9, DS_st_9, DG_st_10, DS_st_10, DG_st_11, DS_st_11, DG_st_12, DS_st_12, DR_st_13, DA_st_1, DB_st_1, DA_st_2, DB_st_2, DA_st_3, DB_st_3, ifp, ifn, Option.bind_some, n_s, n_le, n_lt, n_eq, l8, l40, l64, g40, u40, u6, u3, u0, mul6, mul3, J_bit, cmp0, b2_0, zR_b, zR_0, zR_1, up2_eq, up2_ne, up2J_eq, up2J_ne, mkv_eq, n_m1]
      · by_cases q : s = k
        · subst q; simp [hA', hP'] at e
        · exact h6 s (by omega) hA' hP'
    · have e1 : A k = true := by simp at e; exact e.1
      have e2 : Pl' k = false := by simp at e; exact e.2
      have a3 := isB_z (isB_diff a1 h1)
      by_cases q : J 167 k &&& (w' ^^^ (-1)) = 0
      · have a4 := a3.mp q
        have a5 : ∀ t, t < 40 → tk V k t = true → Pl' t = true := fun t ht h => by
          have := a4 t ht
          simpa [h] using this
        obtain ⟨a6, a7⟩ := Lin_s h2 hk e1 e2 a5
        have a8 := h2.2.1
        refine ⟨(w' ||| bitw k, nI (k + 1), (z, dH b (up2 (up2 I' 168 (cnt 40 Pl') (nI k)) 166 2 (nI (cnt 40 Pl' + 1))) J F)), ?_, _, _, _, _, rfl, isB_or h1 (isB_bit hk), a7, fun o j ho1 ho2 => ?_, fun t ht h => by simp [h4 t ht h], fun hS => ?_, fun s hs hA' hP' => ?_⟩
        · simp (disch := first | assumption | omega | decide) only [J_Plan_lineUp_27, J_isIn a2 hk, e, a8, DO_0, DR_0_0, DR_0_1, DR_0_2, DR_0_3, DR_0_4, DR_0_5, DO_1, DR_1_0, DR_1_1, DR_1_2, DA_2, DB_2, DA_3, DB_3, DA_4, DB_4, DA_5, DO_166, DR_166_0, DR_166_1, DG_166_2, DS_166_2, DR_166_3, DG_166_4, DS_166_4, DA_167, DB_167, DA_168, DB_168, DA_169, DB_169, DO_170, DR_170_0, DR_170_1, DR_170_2, DG_170_3, DS_170_3, DG_170_4, DS_170_4, DA_171, DB_171, DA_172, DB_172, DA_173, DB_173, DO_174, DG_174_0, DS_174_0, DG_174_1, DS_174_1, DG_174_2, DS_174_2, DG_174_3, DS_174_3, DR_174_4, DA_175, DB_175, DO_176, DR_176_0, DG_176_1, DS_176_1, DR_176_2, DA_177, DB_177, DA_178, DB_178, DO_st, DG_st_0, DS_st_0, DG_st_1, DS_st_1, DG_st_2, DS_st_2, DG_st_3, DS_st_3, DR_st_4, DG_st_5, DS_st_5, DR_st_6, DG_st_7, DS_st_7, DG_st_8, DS_st_8, DG_st_9, DS_st_9, DG_st_10, DS_st_10, DG_st_11, DS_st_11, DG_st_12, DS_st_12, DR_st_13, DA_st_1, DB_st_1, DA_st_2, DB_st_2, DA_st_3, DB_st_3, ifp, ifn, Option.bind_some, n_s, n_le, n_lt, n_eq, l8, l40, l64, g40, u40, u6, u3, u0, mul6, mul3, J_bit, cmp0, b2_0, zR_b, zR_0, zR_1, up2_eq, up2_ne, up2J_eq, up2J_ne, mkv_eq, n_m1]
        · rw [up2_ne (by omega), up2_ne (by omega)]; exact h3 o j ho1 ho2
        · have b1 := h5 hS
          obtain ⟨t, ht, b2', b3⟩ := hS k hk e1 (by rw [← b1 k hk]; exact e2)
          have b4 := a5 t ht b2'
          rw [b1 t ht, b3] at b4
          exact absurd b4 (by simp)
        · by_cases q2 : s = k
          · subst q2; simp at hP'
          · exact h6 s (by omega) hA' (by simp at hP'; exact hP'.1)
      · refine ⟨(w', nI (k + 1), (z, dH b I' J F)), ?_, w', Pl', I', ps', rfl, h1, h2, h3, h4, h5, fun s hs hA' hP' => ?_⟩
        · simp (disch := first | assumption | omega | decide) only [J_Plan_lineUp_27, J_isIn a2 hk, e, DO_0, DR_0_0, DR_0_1, DR_0_2, DR_0_3, DR_0_4, DR_0_5, DO_1, DR_1_0, DR_1_1, DR_1_2, DA_2, DB_2, DA_3, DB_3, DA_4, DB_4, DA_5, DO_166, DR_166_0, DR_166_1, DG_166_2, DS_166_2, DR_166_3, DG_166_4, DS_166_4, DA_167, DB_167, DA_168, DB_168, DA_169, DB_169, DO_170, DR_170_0, DR_170_1, DR_170_2, DG_170_3, DS_170_3, DG_170_4, DS_170_4, DA_171, DB_171, DA_172, DB_172, DA_173, DB_173, DO_174, DG_174_0, DS_174_0, DG_174_1, DS_174_1, DG_174_2, DS_174_2, DG_174_3, DS_174_3, DR_174_4, DA_175, DB_175, DO_176, DR_176_0, DG_176_1, DS_176_1, DR_176_2, DA_177, DB_177, DA_178, DB_178, DO_st, DG_st_0, DS_st_0, DG_st_1, DS_st_1, DG_st_2, DS_st_2, DG_st_3, DS_st_3, DR_st_4, DG_st_5, DS_st_5, DR_st_6, DG_st_7, DS_st_7, DG_st_8, DS_st_8, DG_st_9, DS_st_9, DG_st_10, DS_st_10, DG_st_11, DS_st_11, DG_st_12, DS_st_12, DR_st_13, DA_st_1, DB_st_1, DA_st_2, DB_st_2, DA_st_3, DB_st_3, ifp, ifn, Option.bind_some, n_s, n_le, n_lt, n_eq, l8, l40, l64, g40, u40, u6, u3, u0, mul6, mul3, J_bit, cmp0, b2_0, zR_b, zR_0, zR_1, up2_eq, up2_ne, up2J_eq, up2J_ne, mkv_eq, n_m1]
        · by_cases q2 : s = k
          · subst q2
            refine Classical.byContradiction (fun hn => q (a3.mpr (fun t ht => ?_)))
            cases b1 : tk V s t
            · rfl
            · cases b2' : Pl' t
              · refine absurd ⟨t, ht, b1, ?_⟩ hn
                cases b3 : Pl t
                · rfl
                · rw [h4 t ht b3] at b2'; exact absurd b2' (by simp)
              · rfl
          · exact h6 s (by omega) hA' hP'
  · rintro n st ⟨w', Pl', I', ps', rfl, h1, h2, h3, h4, h5, h6⟩
    refine ⟨w', Pl', I', ps', ?_, h1, h2, h3, h4, h5, fun hq s hs hA' hP' => h6 s hs hA' (by rw [hq s hs]; exact hP')⟩
    simp (disch := first | assumption | omega | decide) only [J_Plan_lineUp_27, DO_0, DR_0_0, DR_0_1, DR_0_2, DR_0_3, DR_0_4, DR_0_5, DO_1, DR_1_0, DR_1_1, DR_1_2, DA_2, DB_2, DA_3, DB_3, DA_4, DB_4, DA_5, DO_166, DR_166_0, DR_166_1, DG_166_2, DS_166_2, DR_166_3, DG_166_4, DS_166_4, DA_167, DB_167, DA_168, DB_168, DA_169, DB_169, DO_170, DR_170_0, DR_170_1, DR_170_2, DG_170_3, DS_170_3, DG_170_4, DS_170_4, DA_171, DB_171, DA_172, DB_172, DA_173, DB_173, DO_174, DG_174_0, DS_174_0, DG_174_1, DS_174_1, DG_174_2, DS_174_2, DG_174_3, DS_174_3, DR_174_4, DA_175, DB_175, DO_176, DR_176_0, DG_176_1, DS_176_1, DR_176_2, DA_177, DB_177, DA_178, DB_178, DO_st, DG_st_0, DS_st_0, DG_st_1, DS_st_1, DG_st_2, DS_st_2, DG_st_3, DS_st_3, DR_st_4, DG_st_5, DS_st_5, DR_st_6, DG_st_7, DS_st_7, DG_st_8, DS_st_8, DG_st_9, DS_st_9, DG_st_10, DS_st_10, DG_st_11, DS_st_11, DG_st_12, DS_st_12, DR_st_13, DA_st_1, DB_st_1, DA_st_2, DB_st_2, DA_st_3, DB_st_3, ifp, ifn, Option.bind_some, n_s, n_le, n_lt, n_eq, l8, l40, l64, g40, u40, u6, u3, u0, mul6, mul3, J_bit, cmp0, b2_0, zR_b, zR_0, zR_1, up2_eq, up2_ne, up2J_eq, up2J_ne, mkv_eq, n_m1]
theorem q_lineUp (hJ : ∀ s, s < 40 → isB (J 167 s) (tk V s)) (hA : isB (J 166 4) A) (hN : 100 < N) : ∃ c I', J_Plan_lineUp N (b + 166) (z, dH b I J F) = some (b2 c, (z, dH b I' J F)) ∧ frL I I' ∧ (c = true → ∃ ps, Lin V A A I' ps) ∧ (c = false → ∃ Pl, inS Pl A ∧ Stk V A Pl ∧ ∃ s, s < 40 ∧ A s = true ∧ Pl s = false) := by
  simp (disch := first | assumption | omega | decide) only [J_Plan_lineUp, DO_0, DR_0_0, DR_0_1, DR_0_2, DR_0_3, DR_0_4, DR_0_5, DO_1, DR_1_0, DR_1_1, DR_1_2, DA_2, DB_2, DA_3, DB_3, DA_4, DB_4, DA_5, DO_166, DR_166_0, DR_166_1, DG_166_2, DS_166_2, DR_166_3, DG_166_4, DS_166_4, DA_167, DB_167, DA_168, DB_168, DA_169, DB_169, DO_170, DR_170_0, DR_170_1, DR_170_2, DG_170_3, DS_170_3, DG_170_4, DS_170_4, DA_171, DB_171, DA_172, DB_172, DA_173, DB_173, DO_174, DG_174_0, DS_174_0, DG_174_1, DS_174_1, DG_174_2, DS_174_2, DG_174_3, DS_174_3, DR_174_4, DA_175, DB_175, DO_176, DR_176_0, DG_176_1, DS_176_1, DR_176_2, DA_177, DB_177, DA_178, DB_178, DO_st, DG_st_0, DS_st_0, DG_st_1, DS_st_1, DG_st_2, DS_st_2, DG_st_3, DS_st_3, DR_st_4, DG_st_5, DS_st_5, DR_st_6, DG_st_7, DS_st_7, DG_st_8, DS_st_8, DG_st_9, DS_st_9, DG_st_10, DS_st_10, DG_st_11, DS_st_11, DG_st_12, DS_st_12, DR_st_13, DA_st_1, DB_st_1, DA_st_2, DB_st_2, DA_st_3, DB_st_3, ifp, ifn, Option.bind_some, n_s, n_le, n_lt, n_eq, l8, l40, l64, g40, u40, u6, u3, u0, mul6, mul3, J_bit, cmp0, b2_0, zR_b, zR_0, zR_1, up2_eq, up2_ne, up2J_eq, up2J_ne, mkv_eq, n_m1]
  refine lpx 40 (fun n (st : Int64 × Int32 × Hp) => J_Plan_lineUp_9 N n (b + 166) st.1 st.2.1 st.2.2) (fun p st => ∃ w Pl I' ps, st = (w, nI p, (z, dH b I' J F)) ∧ isB w Pl ∧ Lin V A Pl I' ps ∧ frL I I' ∧ (p ≤ cnt 40 Pl ∨ Stk V A Pl)) (fun q => ∃ c I', q = some (b2 c, (z, dH b I' J F)) ∧ frL I I' ∧ (c = true → ∃ ps, Lin V A A I' ps) ∧ (c = false → ∃ Pl, inS Pl A ∧ Stk V A Pl ∧ ∃ s, s < 40 ∧ A s = true ∧ Pl s = false)) ?_ ?_ N (0, nI 0, (z, dH b (up2 I 166 2 0) J F)) (by omega) ⟨0, fun _ => false, up2 I 166 2 0, fun _ => 0, rfl, isB_0, ⟨fun t _ h => absurd h (by simp), by rw [up2_eq, cnt_0 (fun _ _ => rfl)]; rfl, fun i hi => by rw [cnt_0 (fun _ _ => rfl)] at hi; omega, fun s _ h => absurd h (by simp)⟩, fun o j h1 h2 => up2_ne (Or.inl h1), Or.inl (Nat.zero_le _)⟩
  · rintro n p st hp ⟨w, Pl, I', ps, rfl, h1, h2, h3, h4⟩
    by_cases q : w = J 166 4
    · have q2 := (isB_eq h1 hA).mp q
      refine Or.inl ⟨true, I', ?_, h3, fun _ => ⟨ps, ?_⟩, (fun h => absurd h (by simp))⟩
      · simp (disch := first | assumption | omega | decide) only [J_Plan_lineUp_9, J_Plan_lineUp_111, b2_t, DO_0, DR_0_0, DR_0_1, DR_0_2, DR_0_3, DR_0_4, DR_0_5, DO_1, DR_1_0, DR_1_1, DR_1_2, DA_2, DB_2, DA_3, DB_3, DA_4, DB_4, DA_5, DO_166, DR_166_0, DR_166_1, DG_166_2, DS_166_2, DR_166_3, DG_166_4, DS_166_4, DA_167, DB_167, DA_168, DB_168, DA_169, DB_169, DO_170, DR_170_0, DR_170_1, DR_170_2, DG_170_3, DS_170_3, DG_170_4, DS_170_4, DA_171, DB_171, DA_172, DB_172, DA_173, DB_173, DO_174, DG_174_0, DS_174_0, DG_174_1, DS_174_1, DG_174_2, DS_174_2, DG_174_3, DS_174_3, DR_174_4, DA_175, DB_175, DO_176, DR_176_0, DG_176_1, DS_176_1, DR_176_2, DA_177, DB_177, DA_178, DB_178, DO_st, DG_st_0, DS_st_0, DG_st_1, DS_st_1, DG_st_2, DS_st_2, DG_st_3, DS_st_3, DR_st_4, DG_st_5, DS_st_5, DR_st_6, DG_st_7, DS_st_7, DG_st_8, DS_st_8, DG_st_9, DS_st_9, DG_st_10, DS_st_10, DG_st_11, DS_st_11, DG_st_12, DS_st_12, DR_st_13, DA_st_1, DB_st_1, DA_st_2, DB_st_2, DA_st_3, DB_st_3, ifp, ifn, Option.bind_some, n_s, n_le, n_lt, n_eq, l8, l40, l64, g40, u40, u6, u3, u0, mul6, mul3, J_bit, cmp0, b2_0, zR_b, zR_0, zR_1, up2_eq, up2_ne, up2J_eq, up2J_ne, mkv_eq, n_m1]
      · have e : cnt 40 Pl = cnt 40 A := cnt_congr q2
        obtain ⟨g1, g2, g3, g4⟩ := h2
        refine ⟨fun _ _ h => h, by rw [← e]; exact g2, fun i hi => ?_, fun s hs hs2 => ?_⟩
        · rw [← e] at hi
          obtain ⟨s, k1, k2, k3, k4⟩ := g3 i hi
          exact ⟨s, k1, k2, by rw [← q2 s k1]; exact k3, k4⟩
        · have k := g4 s hs (by rw [q2 s hs]; exact hs2)
          rw [← e]
          exact ⟨k.1, k.2.1, fun t ht ht2 => ⟨by rw [← q2 t ht]; exact (k.2.2 t ht ht2).1, (k.2.2 t ht ht2).2⟩⟩
    · refine Or.inr ?_
      obtain ⟨w', Pl', I'', ps', e1, e2, e3, e4, e5, e6, e7⟩ := q_lu27 (V := V) (b := b) (z := z) (N := N) (F := F) (J_Plan_lineUp_9 N n) (x3 := nI p) hJ hA h1 h2 hN
      refine ⟨(w', nI (p + 1), (z, dH b I'' J F)), ?_, w', Pl', I'', ps', rfl, e2, e3, fun o j o1 o2 => by rw [e4 o j o1 o2, h3 o j o1 o2], ?_⟩
      · rw [n_s] at e1
        simp (disch := first | assumption | omega | decide) only [J_Plan_lineUp_9, DO_0, DR_0_0, DR_0_1, DR_0_2, DR_0_3, DR_0_4, DR_0_5, DO_1, DR_1_0, DR_1_1, DR_1_2, DA_2, DB_2, DA_3, DB_3, DA_4, DB_4, DA_5, DO_166, DR_166_0, DR_166_1, DG_166_2, DS_166_2, DR_166_3, DG_166_4, DS_166_4, DA_167, DB_167, DA_168, DB_168, DA_169, DB_169, DO_170, DR_170_0, DR_170_1, DR_170_2, DG_170_3, DS_170_3, DG_170_4, DS_170_4, DA_171, DB_171, DA_172, DB_172, DA_173, DB_173, DO_174, DG_174_0, DS_174_0, DG_174_1, DS_174_1, DG_174_2, DS_174_2, DG_174_3, DS_174_3, DR_174_4, DA_175, DB_175, DO_176, DR_176_0, DG_176_1, DS_176_1, DR_176_2, DA_177, DB_177, DA_178, DB_178, DO_st, DG_st_0, DS_st_0, DG_st_1, DS_st_1, DG_st_2, DS_st_2, DG_st_3, DS_st_3, DR_st_4, DG_st_5, DS_st_5, DR_st_6, DG_st_7, DS_st_7, DG_st_8, DS_st_8, DG_st_9, DS_st_9, DG_st_10, DS_st_10, DG_st_11, DS_st_11, DG_st_12, DS_st_12, DR_st_13, DA_st_1, DB_st_1, DA_st_2, DB_st_2, DA_st_3, DB_st_3, ifp, ifn, Option.bind_some, n_s, n_le, n_lt, n_eq, l8, l40, l64, g40, u40, u6, u3, u0, mul6, mul3, J_bit, cmp0, b2_0, zR_b, zR_0, zR_1, up2_eq, up2_ne, up2J_eq, up2J_ne, mkv_eq, n_m1]
        exact e1
      · by_cases hS : Stk V A Pl
        · right
          have k := e6 hS
          intro s hs hs1 hs2
          obtain ⟨t, ht, k1, k2⟩ := hS s hs hs1 (by rw [← k s hs]; exact hs2)
          exact ⟨t, ht, k1, by rw [k t ht]; exact k2⟩
        · left
          have h5 : p ≤ cnt 40 Pl := by rcases h4 with h | h; exact h; exact absurd h hS
          have h6 : cnt 40 Pl < cnt 40 Pl' := by
            refine Nat.lt_of_not_le (fun h8 => hS (e7 (same_cnt e5 h8)))
          omega
  · rintro n st ⟨w, Pl, I', ps, rfl, h1, h2, h3, h4⟩
    by_cases q : w = J 166 4
    · have q2 := (isB_eq h1 hA).mp q
      refine ⟨true, I', ?_, h3, fun _ => ⟨ps, ?_⟩, (fun h => absurd h (by simp))⟩
      · simp (disch := first | assumption | omega | decide) only [J_Plan_lineUp_9, J_Plan_lineUp_111, b2_t, DO_0, DR_0_0, DR_0_1, DR_0_2, DR_0_3, DR_0_4, DR_0_5, DO_1, DR_1_0, DR_1_1, DR_1_2, DA_2, DB_2, DA_3, DB_3, DA_4, DB_4, DA_5, DO_166, DR_166_0, DR_166_1, DG_166_2, DS_166_2, DR_166_3, DG_166_4, DS_166_4, DA_167, DB_167, DA_168, DB_168, DA_169, DB_169, DO_170, DR_170_0, DR_170_1, DR_170_2, DG_170_3, DS_170_3, DG_170_4, DS_170_4, DA_171, DB_171, DA_172, DB_172, DA_173, DB_173, DO_174, DG_174_0, DS_174_0, DG_174_1, DS_174_1, DG_174_2, DS_174_2, DG_174_3, DS_174_3, DR_174_4, DA_175, DB_175, DO_176, DR_176_0, DG_176_1, DS_176_1, DR_176_2, DA_177, DB_177, DA_178, DB_178, DO_st, DG_st_0, DS_st_0, DG_st_1, DS_st_1, DG_st_2, DS_st_2, DG_st_3, DS_st_3, DR_st_4, DG_st_5, DS_st_5, DR_st_6, DG_st_7, DS_st_7, DG_st_8, DS_st_8, DG_st_9, DS_st_9, DG_st_10, DS_st_10, DG_st_11, DS_st_11, DG_st_12, DS_st_12, DR_st_13, DA_st_1, DB_st_1, DA_st_2, DB_st_2, DA_st_3, DB_st_3, ifp, ifn, Option.bind_some, n_s, n_le, n_lt, n_eq, l8, l40, l64, g40, u40, u6, u3, u0, mul6, mul3, J_bit, cmp0, b2_0, zR_b, zR_0, zR_1, up2_eq, up2_ne, up2J_eq, up2J_ne, mkv_eq, n_m1]
      · have e : cnt 40 Pl = cnt 40 A := cnt_congr q2
        obtain ⟨g1, g2, g3, g4⟩ := h2
        refine ⟨fun _ _ h => h, by rw [← e]; exact g2, fun i hi => ?_, fun s hs hs2 => ?_⟩
        · rw [← e] at hi
          obtain ⟨s, k1, k2, k3, k4⟩ := g3 i hi
          exact ⟨s, k1, k2, by rw [← q2 s k1]; exact k3, k4⟩
        · have k := g4 s hs (by rw [q2 s hs]; exact hs2)
          rw [← e]
          exact ⟨k.1, k.2.1, fun t ht ht2 => ⟨by rw [← q2 t ht]; exact (k.2.2 t ht ht2).1, (k.2.2 t ht ht2).2⟩⟩
    · have q3 : ¬ ∀ t, t < 40 → Pl t = A t := fun h => q ((isB_eq h1 hA).mpr h)
      have q4 : Stk V A Pl := by
        rcases h4 with h | h
        · exfalso
          refine q3 (fun t ht => ?_)
          have := cnt_full h t ht
          rw [this, h2.1 t ht this]
        · exact h
      refine ⟨false, I', ?_, h3, (fun h => absurd h (by simp)), fun _ => ⟨Pl, h2.1, q4, ?_⟩⟩
      · simp (disch := first | assumption | omega | decide) only [J_Plan_lineUp_9, J_Plan_lineUp_111, b2_f, DO_0, DR_0_0, DR_0_1, DR_0_2, DR_0_3, DR_0_4, DR_0_5, DO_1, DR_1_0, DR_1_1, DR_1_2, DA_2, DB_2, DA_3, DB_3, DA_4, DB_4, DA_5, DO_166, DR_166_0, DR_166_1, DG_166_2, DS_166_2, DR_166_3, DG_166_4, DS_166_4, DA_167, DB_167, DA_168, DB_168, DA_169, DB_169, DO_170, DR_170_0, DR_170_1, DR_170_2, DG_170_3, DS_170_3, DG_170_4, DS_170_4, DA_171, DB_171, DA_172, DB_172, DA_173, DB_173, DO_174, DG_174_0, DS_174_0, DG_174_1, DS_174_1, DG_174_2, DS_174_2, DG_174_3, DS_174_3, DR_174_4, DA_175, DB_175, DO_176, DR_176_0, DG_176_1, DS_176_1, DR_176_2, DA_177, DB_177, DA_178, DB_178, DO_st, DG_st_0, DS_st_0, DG_st_1, DS_st_1, DG_st_2, DS_st_2, DG_st_3, DS_st_3, DR_st_4, DG_st_5, DS_st_5, DR_st_6, DG_st_7, DS_st_7, DG_st_8, DS_st_8, DG_st_9, DS_st_9, DG_st_10, DS_st_10, DG_st_11, DS_st_11, DG_st_12, DS_st_12, DR_st_13, DA_st_1, DB_st_1, DA_st_2, DB_st_2, DA_st_3, DB_st_3, ifp, ifn, Option.bind_some, n_s, n_le, n_lt, n_eq, l8, l40, l64, g40, u40, u6, u3, u0, mul6, mul3, J_bit, cmp0, b2_0, zR_b, zR_0, zR_1, up2_eq, up2_ne, up2J_eq, up2J_ne, mkv_eq, n_m1]
      · refine Classical.byContradiction (fun hn => q3 (fun t ht => ?_))
        cases k1 : Pl t
        · cases k2 : A t
          · rfl
          · exact absurd ⟨t, ht, k2, k1⟩ hn
        · exact (h2.1 t ht k1).symm
end CP
