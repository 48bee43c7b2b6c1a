theorem up2J_same {J : Nat → Nat → Int64} {o k : Nat} : up2J J o k (J o k) = J := by
  funext o' k'
  simp only [up2J]
  by_cases h : o' = o ∧ k' = k
  · rw [if_pos h, h.1, h.2]
  · rw [if_neg h]
theorem up2J_up {J : Nat → Nat → Int64} {o k : Nat} {v w : Int64} : up2J (up2J J o k v) o k w = up2J J o k w := by
  funext o' k'
  simp only [up2J]
  by_cases h : o' = o ∧ k' = k
  · rw [if_pos h, if_pos h]
  · rw [if_neg h, if_neg h, if_neg h]
theorem same_cnt {A B : Nat → Bool} (h : ∀ t, t < 40 → A t = true → B t = true) (hc : cnt 40 B ≤ cnt 40 A) : ∀ t, t < 40 → B t = A t := by
  intro t ht
  cases hA : A t
  · cases hB : B t
    · rfl
    · have := cnt_lt t h ht hA hB
      omega
  · exact h t ht hA
def clo (W : Nat → Nat → Bool) (A : Nat → Bool) : Prop := ∀ s t, s < 40 → t < 40 → A s = true → W s t = true → A t = true
def inS (A B : Nat → Bool) : Prop := ∀ t, t < 40 → A t = true → B t = true
section CP
variable {V : Vw} {z b N s : Nat} {I : Nat → Nat → Int32} {J : Nat → Nat → Int64} {F : Nat → Option HE} {A : Nat → Bool}
theorem q_fn75 (r : Nat → Int32 → Int32 → Hp → Option (Unit × Hp)) {x5 : Int32} {x6 : Int64} (hJ : ∀ s, s < 40 → isB (J 167 s) (tk V s)) (hA : isB (J 166 4) A) (hN : 41 < N) : ∃ w A', J_Plan_findNeeded_75 N r N (b + 166) x5 x6 (nI 0) (z, dH b I J F) = r (b + 166) (if w = x6 then 0 else 1) (x5 + 1) (z, dH b I (up2J J 166 4 w) F) ∧ isB w A' ∧ inS A A' ∧ (∀ s t, s < 40 → t < 40 → A s = true → tk V s t = true → A' t = true) ∧ (∀ B, inS A B → clo (tk V) B → inS A' B) := by
  refine lpx 40 (fun n (st : Int32 × Hp) => J_Plan_findNeeded_75 N r n (b + 166) x5 x6 st.1 st.2) (fun k st => ∃ w C, st = (nI k, (z, dH b I (up2J J 166 4 w) F)) ∧ isB w C ∧ inS A C ∧ (∀ s t, s < k → t < 40 → A s = true → tk V s t = true → C t = true) ∧ (∀ B, inS A B → clo (tk V) B → inS C B)) (fun q => ∃ w A', q = r (b + 166) (if w = x6 then 0 else 1) (x5 + 1) (z, dH b I (up2J J 166 4 w) F) ∧ isB w A' ∧ inS A A' ∧ (∀ s t, s < 40 → t < 40 → A s = true → tk V s t = true → A' t = true) ∧ (∀ B, inS A B → clo (tk V) B → inS A' B)) ?_ ?_ N (nI 0, (z, dH b I J F)) (by omega) ⟨J 166 4, A, by rw [up2J_same], hA, fun _ _ h => h, fun s t h => by omega, fun B h _ => h⟩
  · rintro n k st hk ⟨w, C, rfl, h1, h2, h3, h4⟩
    have a1 := hJ k hk
    refine Or.inr ?_
    cases e : C k
    · refine ⟨(nI (k + 1), (z, dH b I (up2J J 166 4 w) F)), ?_, w, C, rfl, h1, h2, fun s t hs ht hA' hT => ?_, h4⟩
      · simp (disch := first | assumption | omega | decide) only [J_Plan_findNeeded_75, J_isIn h1 hk, e, DO_0, DR_0_0, DR_0_1, DR_0_2, DR_0_3, DR_0_4, DR_0_5, DO_1, DR_1_0, DR_1_1, DR_1_2, DA_2, DB_2, DA_3, DB_3, DA_4, DB_4, DA_5, DO_166, DR_166_0, DR_166_1, DG_166_2, DS_166_2, DR_166_3, DG_166_4, DS_166_4, DA_167, DB_167, DA_168, DB_168, DA_169, DB_169, DO_170, DR_170_0, DR_170_1, DR_170_2, DG_170_3, DS_170_3, DG_170_4, DS_170_4, DA_171, DB_171, DA_172, DB_172, DA_173, DB_173, DO_174, DG_174_0, DS_174_0, DG_174_1, DS_174_1, DG_174_2, DS_174_2, DG_174_3, DS_174_3, DR_174_4, DA_175, DB_175, DO_176, DR_176_0, DG_176_1, DS_176_1, DR_176_2, DA_177, DB_177, DA_178, DB_178, DO_st, DG_st_0, DS_st_0, DG_st_1, DS_st_1, DG_st_2, DS_st_2, DG_st_3, DS_st_3, DR_st_4, DG_st_5, DS_st_5, DR_st_6, DG_st_7, DS_st_7, DG_st_8, DS_st_8, DG_st_9, DS_st_9, DG_st_10, DS_st_10, DG_st_11, DS_st_11, DG_st_12, DS_st_12, DR_st_13, DA_st_1, DB_st_1, DA_st_2, DB_st_2, DA_st_3, DB_st_3, ifp, ifn, Option.bind_some, n_s, n_le, n_lt, n_eq, l8, l40, l64, g40, u40, u6, u3, u0, mul6, mul3, J_bit, cmp0, b2_0, zR_b, zR_0, zR_1, up2_eq, up2_ne, up2J_eq, up2J_ne, mkv_eq, n_m1]
      · by_cases q : s = k
        · subst q
          have := h2 s hk hA'
          rw [e] at this
          exact absurd this (by simp)
        · exact h3 s t (by omega) ht hA' hT
    · refine ⟨(nI (k + 1), (z, dH b I (up2J J 166 4 (w ||| J 167 k)) F)), ?_, w ||| J 167 k, _, rfl, isB_or h1 a1, fun t ht q => by simp [h2 t ht q], fun s t hs ht hA' hT => ?_, fun B h5 h6 t ht q => ?_⟩
      · simp (disch := first | assumption | omega | decide) only [J_Plan_findNeeded_75, J_isIn h1 hk, e, up2J_up, DO_0, DR_0_0, DR_0_1, DR_0_2, DR_0_3, DR_0_4, DR_0_5, DO_1, DR_1_0, DR_1_1, DR_1_2, DA_2, DB_2, DA_3, DB_3, DA_4, DB_4, DA_5, DO_166, DR_166_0, DR_166_1, DG_166_2, DS_166_2, DR_166_3, DG_166_4, DS_166_4, DA_167, DB_167, DA_168, DB_168, DA_169, DB_169, DO_170, DR_170_0, DR_170_1, DR_170_2, DG_170_3, DS_170_3, DG_170_4, DS_170_4, DA_171, DB_171, DA_172, DB_172, DA_173, DB_173, DO_174, DG_174_0, DS_174_0, DG_174_1, DS_174_1, DG_174_2, DS_174_2, DG_174_3, DS_174_3, DR_174_4, DA_175, DB_175, DO_176, DR_176_0, DG_176_1, DS_176_1, DR_176_2, DA_177, DB_177, DA_178, DB_178, DO_st, DG_st_0, DS_st_0, DG_st_1, DS_st_1, DG_st_2, DS_st_2, DG_st_3, DS_st_3, DR_st_4, DG_st_5, DS_st_5, DR_st_6, DG_st_7, DS_st_7, DG_st_8, DS_st_8, DG_st_9, DS_st_9, DG_st_10, DS_st_10, DG_st_11, DS_st_11, DG_st_12, DS_st_12, DR_st_13, DA_st_1, DB_st_1, DA_st_2, DB_st_2, DA_st_3, DB_st_3, ifp, ifn, Option.bind_some, n_s, n_le, n_lt, n_eq, l8, l40, l64, g40, u40, u6, u3, u0, mul6, mul3, J_bit, cmp0, b2_0, zR_b, zR_0, zR_1, up2_eq, up2_ne, up2J_eq, up2J_ne, mkv_eq, n_m1]
      · by_cases q : s = k
        · subst q
          simp [hT]
        · simp [h3 s t (by omega) ht hA' hT]
      · rcases Bool.or_eq_true _ _ ▸ q with q | q
        · exact h4 B h5 h6 t ht q
        · exact h6 k t hk ht (h4 B h5 h6 k hk e) q
  · rintro n st ⟨w, C, rfl, h1, h2, h3, h4⟩
    refine ⟨w, C, ?_, h1, h2, h3, h4⟩
    simp (disch := first | assumption | omega | decide) only [J_Plan_findNeeded_75, DO_0, DR_0_0, DR_0_1, DR_0_2, DR_0_3, DR_0_4, DR_0_5, DO_1, DR_1_0, DR_1_1, DR_1_2, DA_2, DB_2, DA_3, DB_3, DA_4, DB_4, DA_5, DO_166, DR_166_0, DR_166_1, DG_166_2, DS_166_2, DR_166_3, DG_166_4, DS_166_4, DA_167, DB_167, DA_168, DB_168, DA_169, DB_169, DO_170, DR_170_0, DR_170_1, DR_170_2, DG_170_3, DS_170_3, DG_170_4, DS_170_4, DA_171, DB_171, DA_172, DB_172, DA_173, DB_173, DO_174, DG_174_0, DS_174_0, DG_174_1, DS_174_1, DG_174_2, DS_174_2, DG_174_3, DS_174_3, DR_174_4, DA_175, DB_175, DO_176, DR_176_0, DG_176_1, DS_176_1, DR_176_2, DA_177, DB_177, DA_178, DB_178, DO_st, DG_st_0, DS_st_0, DG_st_1, DS_st_1, DG_st_2, DS_st_2, DG_st_3, DS_st_3, DR_st_4, DG_st_5, DS_st_5, DR_st_6, DG_st_7, DS_st_7, DG_st_8, DS_st_8, DG_st_9, DS_st_9, DG_st_10, DS_st_10, DG_st_11, DS_st_11, DG_st_12, DS_st_12, DR_st_13, DA_st_1, DB_st_1, DA_st_2, DB_st_2, DA_st_3, DB_st_3, ifp, ifn, Option.bind_some, n_s, n_le, n_lt, n_eq, l8, l40, l64, g40, u40, u6, u3, u0, mul6, mul3, J_bit, cmp0, b2_0, zR_b, zR_0, zR_1, up2_eq, up2_ne, up2J_eq, up2J_ne, mkv_eq, n_m1]
    split <;> rfl
theorem q_fn54 {bs : Nat → Bool} (hJ : ∀ s, s < 40 → isB (J 167 s) (tk V s)) {w0 : Int64} (hA : isB w0 bs) (hN : 41 < N) : ∃ w A, J_Plan_findNeeded_54 N N (b + 166) 1 (nI 0) (z, dH b I (up2J J 166 4 w0) F) = some ((), (z, dH b I (up2J J 166 4 w) F)) ∧ isB w A ∧ Lst bs (tk V) A := by
  refine lpx 40 (fun n (st : Int32 × Int32 × Hp) => J_Plan_findNeeded_54 N n (b + 166) st.1 st.2.1 st.2.2) (fun p st => ∃ m w A, st = (b2 m, nI p, (z, dH b I (up2J J 166 4 w) F)) ∧ isB w A ∧ inS bs A ∧ (∀ B, inS bs B → clo (tk V) B → inS A B) ∧ (m = false → clo (tk V) A) ∧ (m = true → p ≤ cnt 40 A)) (fun q => ∃ w A, q = some ((), (z, dH b I (up2J J 166 4 w) F)) ∧ isB w A ∧ Lst bs (tk V) A) ?_ ?_ N (1, nI 0, (z, dH b I (up2J J 166 4 w0) F)) (by omega) ⟨true, w0, bs, rfl, hA, fun _ _ h => h, fun B h _ => h, (fun h => absurd h (by simp)), fun _ => Nat.zero_le _⟩
  · rintro n p st hp ⟨m, w, A, rfl, h1, h2, h3, h4, h5⟩
    cases m
    · refine Or.inl ⟨w, A, ?_, h1, h2, h4 rfl, h3⟩
      simp (disch := first | assumption | omega | decide) only [J_Plan_findNeeded_54, b2_f, DO_0, DR_0_0, DR_0_1, DR_0_2, DR_0_3, DR_0_4, DR_0_5, DO_1, DR_1_0, DR_1_1, DR_1_2, DA_2, DB_2, DA_3, DB_3, DA_4, DB_4, DA_5, DO_166, DR_166_0, DR_166_1, DG_166_2, DS_166_2, DR_166_3, DG_166_4, DS_166_4, DA_167, DB_167, DA_168, DB_168, DA_169, DB_169, DO_170, DR_170_0, DR_170_1, DR_170_2, DG_170_3, DS_170_3, DG_170_4, DS_170_4, DA_171, DB_171, DA_172, DB_172, DA_173, DB_173, DO_174, DG_174_0, DS_174_0, DG_174_1, DS_174_1, DG_174_2, DS_174_2, DG_174_3, DS_174_3, DR_174_4, DA_175, DB_175, DO_176, DR_176_0, DG_176_1, DS_176_1, DR_176_2, DA_177, DB_177, DA_178, DB_178, DO_st, DG_st_0, DS_st_0, DG_st_1, DS_st_1, DG_st_2, DS_st_2, DG_st_3, DS_st_3, DR_st_4, DG_st_5, DS_st_5, DR_st_6, DG_st_7, DS_st_7, DG_st_8, DS_st_8, DG_st_9, DS_st_9, DG_st_10, DS_st_10, DG_st_11, DS_st_11, DG_st_12, DS_st_12, DR_st_13, DA_st_1, DB_st_1, DA_st_2, DB_st_2, DA_st_3, DB_st_3, ifp, ifn, Option.bind_some, n_s, n_le, n_lt, n_eq, l8, l40, l64, g40, u40, u6, u3, u0, mul6, mul3, J_bit, cmp0, b2_0, zR_b, zR_0, zR_1, up2_eq, up2_ne, up2J_eq, up2J_ne, mkv_eq, n_m1]
    · refine Or.inr ?_
      obtain ⟨w', A', e1, e2, e3, e4, e5⟩ := q_fn75 (V := V) (b := b) (z := z) (N := N) (I := I) (J := up2J J 166 4 w) (F := F) (A := A) (J_Plan_findNeeded_54 N n) (x5 := nI p) (x6 := w) (fun s hs => by rw [up2J_ne (by omega)]; exact hJ s hs) (by rw [up2J_eq]; exact h1) hN
      rw [up2J_up, n_s] at e1
      by_cases q : w' = w
      · have e6 := (isB_eq e2 h1).mp q
        refine ⟨(b2 false, nI (p + 1), (z, dH b I (up2J J 166 4 w') F)), ?_, false, w', A', rfl, e2, fun t ht h => e3 t ht (h2 t ht h), fun B h6 h7 => e5 B (h3 B h6 h7) h7, fun _ s t hs ht h8 h9 => e4 s t hs ht (by rw [← e6 s hs]; exact h8) h9, (fun h => absurd h (by simp))⟩
        rw [if_pos q] at e1
        simp (disch := first | assumption | omega | decide) only [J_Plan_findNeeded_54, b2_t, DO_0, DR_0_0, DR_0_1, DR_0_2, DR_0_3, DR_0_4, DR_0_5, DO_1, DR_1_0, DR_1_1, DR_1_2, DA_2, DB_2, DA_3, DB_3, DA_4, DB_4, DA_5, DO_166, DR_166_0, DR_166_1, DG_166_2, DS_166_2, DR_166_3, DG_166_4, DS_166_4, DA_167, DB_167, DA_168, DB_168, DA_169, DB_169, DO_170, DR_170_0, DR_170_1, DR_170_2, DG_170_3, DS_170_3, DG_170_4, DS_170_4, DA_171, DB_171, DA_172, DB_172, DA_173, DB_173, DO_174, DG_174_0, DS_174_0, DG_174_1, DS_174_1, DG_174_2, DS_174_2, DG_174_3, DS_174_3, DR_174_4, DA_175, DB_175, DO_176, DR_176_0, DG_176_1, DS_176_1, DR_176_2, DA_177, DB_177, DA_178, DB_178, DO_st, DG_st_0, DS_st_0, DG_st_1, DS_st_1, DG_st_2, DS_st_2, DG_st_3, DS_st_3, DR_st_4, DG_st_5, DS_st_5, DR_st_6, DG_st_7, DS_st_7, DG_st_8, DS_st_8, DG_st_9, DS_st_9, DG_st_10, DS_st_10, DG_st_11, DS_st_11, DG_st_12, DS_st_12, DR_st_13, DA_st_1, DB_st_1, DA_st_2, DB_st_2, DA_st_3, DB_st_3, ifp, ifn, Option.bind_some, n_s, n_le, n_lt, n_eq, l8, l40, l64, g40, u40, u6, u3, u0, mul6, mul3, J_bit, cmp0, b2_0, zR_b, zR_0, zR_1, up2_eq, up2_ne, up2J_eq, up2J_ne, mkv_eq, n_m1]
        exact e1
      · refine ⟨(b2 true, nI (p + 1), (z, dH b I (up2J J 166 4 w') F)), ?_, true, w', A', rfl, e2, fun t ht h => e3 t ht (h2 t ht h), fun B h6 h7 => e5 B (h3 B h6 h7) h7, (fun h => absurd h (by simp)), fun _ => ?_⟩
        · rw [if_neg q] at e1
          simp (disch := first | assumption | omega | decide) only [J_Plan_findNeeded_54, b2_t, DO_0, DR_0_0, DR_0_1, DR_0_2, DR_0_3, DR_0_4, DR_0_5, DO_1, DR_1_0, DR_1_1, DR_1_2, DA_2, DB_2, DA_3, DB_3, DA_4, DB_4, DA_5, DO_166, DR_166_0, DR_166_1, DG_166_2, DS_166_2, DR_166_3, DG_166_4, DS_166_4, DA_167, DB_167, DA_168, DB_168, DA_169, DB_169, DO_170, DR_170_0, DR_170_1, DR_170_2, DG_170_3, DS_170_3, DG_170_4, DS_170_4, DA_171, DB_171, DA_172, DB_172, DA_173, DB_173, DO_174, DG_174_0, DS_174_0, DG_174_1, DS_174_1, DG_174_2, DS_174_2, DG_174_3, DS_174_3, DR_174_4, DA_175, DB_175, DO_176, DR_176_0, DG_176_1, DS_176_1, DR_176_2, DA_177, DB_177, DA_178, DB_178, DO_st, DG_st_0, DS_st_0, DG_st_1, DS_st_1, DG_st_2, DS_st_2, DG_st_3, DS_st_3, DR_st_4, DG_st_5, DS_st_5, DR_st_6, DG_st_7, DS_st_7, DG_st_8, DS_st_8, DG_st_9, DS_st_9, DG_st_10, DS_st_10, DG_st_11, DS_st_11, DG_st_12, DS_st_12, DR_st_13, DA_st_1, DB_st_1, DA_st_2, DB_st_2, DA_st_3, DB_st_3, ifp, ifn, Option.bind_some, n_s, n_le, n_lt, n_eq, l8, l40, l64, g40, u40, u6, u3, u0, mul6, mul3, J_bit, cmp0, b2_0, zR_b, zR_0, zR_1, up2_eq, up2_ne, up2J_eq, up2J_ne, mkv_eq, n_m1]
          exact e1
        · have h6 := h5 rfl
          have h7 : cnt 40 A < cnt 40 A' := by
            refine Nat.lt_of_not_le (fun h8 => q ?_)
            exact (isB_eq e2 h1).mpr (same_cnt e3 h8)
          omega
  · rintro n st ⟨m, w, A, rfl, h1, h2, h3, h4, h5⟩
    refine ⟨w, A, ?_, h1, h2, ?_, h3⟩
    · cases m
      · simp (disch := first | assumption | omega | decide) only [J_Plan_findNeeded_54, b2_f, DO_0, DR_0_0, DR_0_1, DR_0_2, DR_0_3, DR_0_4, DR_0_5, DO_1, DR_1_0, DR_1_1, DR_1_2, DA_2, DB_2, DA_3, DB_3, DA_4, DB_4, DA_5, DO_166, DR_166_0, DR_166_1, DG_166_2, DS_166_2, DR_166_3, DG_166_4, DS_166_4, DA_167, DB_167, DA_168, DB_168, DA_169, DB_169, DO_170, DR_170_0, DR_170_1, DR_170_2, DG_170_3, DS_170_3, DG_170_4, DS_170_4, DA_171, DB_171, DA_172, DB_172, DA_173, DB_173, DO_174, DG_174_0, DS_174_0, DG_174_1, DS_174_1, DG_174_2, DS_174_2, DG_174_3, DS_174_3, DR_174_4, DA_175, DB_175, DO_176, DR_176_0, DG_176_1, DS_176_1, DR_176_2, DA_177, DB_177, DA_178, DB_178, DO_st, DG_st_0, DS_st_0, DG_st_1, DS_st_1, DG_st_2, DS_st_2, DG_st_3, DS_st_3, DR_st_4, DG_st_5, DS_st_5, DR_st_6, DG_st_7, DS_st_7, DG_st_8, DS_st_8, DG_st_9, DS_st_9, DG_st_10, DS_st_10, DG_st_11, DS_st_11, DG_st_12, DS_st_12, DR_st_13, DA_st_1, DB_st_1, DA_st_2, DB_st_2, DA_st_3, DB_st_3, ifp, ifn, Option.bind_some, n_s, n_le, n_lt, n_eq, l8, l40, l64, g40, u40, u6, u3, u0, mul6, mul3, J_bit, cmp0, b2_0, zR_b, zR_0, zR_1, up2_eq, up2_ne, up2J_eq, up2J_ne, mkv_eq, n_m1]
      · simp (disch := first | assumption | omega | decide) only [J_Plan_findNeeded_54, b2_t, DO_0, DR_0_0, DR_0_1, DR_0_2, DR_0_3, DR_0_4, DR_0_5, DO_1, DR_1_0, DR_1_1, DR_1_2, DA_2, DB_2, DA_3, DB_3, DA_4, DB_4, DA_5, DO_166, DR_166_0, DR_166_1, DG_166_2, DS_166_2, DR_166_3, DG_166_4, DS_166_4, DA_167, DB_167, DA_168, DB_168, DA_169, DB_169, DO_170, DR_170_0, DR_170_1, DR_170_2, DG_170_3, DS_170_3, DG_170_4, DS_170_4, DA_171, DB_171, DA_172, DB_172, DA_173, DB_173, DO_174, DG_174_0, DS_174_0, DG_174_1, DS_174_1, DG_174_2, DS_174_2, DG_174_3, DS_174_3, DR_174_4, DA_175, DB_175, DO_176, DR_176_0, DG_176_1, DS_176_1, DR_176_2, DA_177, DB_177, DA_178, DB_178, DO_st, DG_st_0, DS_st_0, DG_st_1, DS_st_1, DG_st_2, DS_st_2, DG_st_3, DS_st_3, DR_st_4, DG_st_5, DS_st_5, DR_st_6, DG_st_7, DS_st_7, DG_st_8, DS_st_8, DG_st_9, DS_st_9, DG_st_10, DS_st_10, DG_st_11, DS_st_11, DG_st_12, DS_st_12, DR_st_13, DA_st_1, DB_st_1, DA_st_2, DB_st_2, DA_st_3, DB_st_3, ifp, ifn, Option.bind_some, n_s, n_le, n_lt, n_eq, l8, l40, l64, g40, u40, u6, u3, u0, mul6, mul3, J_bit, cmp0, b2_0, zR_b, zR_0, zR_1, up2_eq, up2_ne, up2J_eq, up2J_ne, mkv_eq, n_m1]
    · cases m
      · exact h4 rfl
      · intro s t hs ht _ _
        exact cnt_full (h5 rfl) t ht
theorem q_findNeeded (hw : VW V) (hc : CV V I) {f : Nat} (hf : f < 64) (hN : 100 < N) : ∃ J' A, J_Plan_findNeeded N (b + 166) (mkv (vmk V f)) (b + 5) (b + 1) (z, dH b I J F) = some ((), (z, dH b I J' F)) ∧ (∀ s, s < 40 → isB (J' 167 s) (tk V s)) ∧ isB (J' 166 4) A ∧ Lst (fun t => decide (t = vmk V f)) (tk V) A := by
  have a4 := hw.2.2.2.1 f hf
  rw [J_Plan_findNeeded]
  refine lpx 40 (fun n (st : Int32 × Hp) => J_Plan_findNeeded_3 N n (b + 166) (mkv (vmk V f)) (b + 5) (b + 1) st.1 st.2) (fun k st => ∃ J', st = (nI k, (z, dH b I J' F)) ∧ ∀ s, s < k → isB (J' 167 s) (tk V s)) (fun q => ∃ J' A, q = some ((), (z, dH b I J' F)) ∧ (∀ s, s < 40 → isB (J' 167 s) (tk V s)) ∧ isB (J' 166 4) A ∧ Lst (fun t => decide (t = vmk V f)) (tk V) A) ?_ ?_ N (nI 0, (z, dH b I J F)) (by omega) ⟨J, rfl, fun s h => by omega⟩
  · rintro n k st hk ⟨J', rfl, h1⟩
    obtain ⟨w, e1, e2⟩ := q_waitsFor (b := b) (z := z) (N := N) (J := J') (F := F) hw hc hk (by omega)
    refine Or.inr ⟨(nI (k + 1), (z, dH b I (up2J J' 167 k w) F)), ?_, _, rfl, fun s hs => ?_⟩
    · simp (disch := first | assumption | omega | decide) only [J_Plan_findNeeded_3, e1, DO_0, DR_0_0, DR_0_1, DR_0_2, DR_0_3, DR_0_4, DR_0_5, DO_1, DR_1_0, DR_1_1, DR_1_2, DA_2, DB_2, DA_3, DB_3, DA_4, DB_4, DA_5, DO_166, DR_166_0, DR_166_1, DG_166_2, DS_166_2, DR_166_3, DG_166_4, DS_166_4, DA_167, DB_167, DA_168, DB_168, DA_169, DB_169, DO_170, DR_170_0, DR_170_1, DR_170_2, DG_170_3, DS_170_3, DG_170_4, DS_170_4, DA_171, DB_171, DA_172, DB_172, DA_173, DB_173, DO_174, DG_174_0, DS_174_0, DG_174_1, DS_174_1, DG_174_2, DS_174_2, DG_174_3, DS_174_3, DR_174_4, DA_175, DB_175, DO_176, DR_176_0, DG_176_1, DS_176_1, DR_176_2, DA_177, DB_177, DA_178, DB_178, DO_st, DG_st_0, DS_st_0, DG_st_1, DS_st_1, DG_st_2, DS_st_2, DG_st_3, DS_st_3, DR_st_4, DG_st_5, DS_st_5, DR_st_6, DG_st_7, DS_st_7, DG_st_8, DS_st_8, DG_st_9, DS_st_9, DG_st_10, DS_st_10, DG_st_11, DS_st_11, DG_st_12, DS_st_12, DR_st_13, DA_st_1, DB_st_1, DA_st_2, DB_st_2, DA_st_3, DB_st_3, ifp, ifn, Option.bind_some, n_s, n_le, n_lt, n_eq, l8, l40, l64, g40, u40, u6, u3, u0, mul6, mul3, J_bit, cmp0, b2_0, zR_b, zR_0, zR_1, up2_eq, up2_ne, up2J_eq, up2J_ne, mkv_eq, n_m1]
    · by_cases q : s = k
      · subst q; rw [up2J_eq]; exact e2
      · rw [up2J_ne (by omega)]; exact h1 s (by omega)
  · rintro n st ⟨J', rfl, h1⟩
    have key : ∀ w0, isB w0 (fun t => decide (t = vmk V f)) → J_Plan_findNeeded_3 N (n + 1) (b + 166) (mkv (vmk V f)) (b + 5) (b + 1) (nI 40) (z, dH b I J' F) = J_Plan_findNeeded_54 N N (b + 166) 1 (nI 0) (z, dH b I (up2J J' 166 4 w0) F) → ∃ J'' A, J_Plan_findNeeded_3 N (n + 1) (b + 166) (mkv (vmk V f)) (b + 5) (b + 1) (nI 40) (z, dH b I J' F) = some ((), (z, dH b I J'' F)) ∧ (∀ s, s < 40 → isB (J'' 167 s) (tk V s)) ∧ isB (J'' 166 4) A ∧ Lst (fun t => decide (t = vmk V f)) (tk V) A := by
      intro w0 h2 h3
      obtain ⟨w, A, e1, e2, e3⟩ := q_fn54 (V := V) (b := b) (z := z) (N := N) (I := I) (J := J') (F := F) h1 h2 (by omega)
      refine ⟨_, A, by rw [h3, e1], fun s hs => by rw [up2J_ne (by omega)]; exact h1 s hs, by rw [up2J_eq]; exact e2, e3⟩
    by_cases hm : 40 ≤ vmk V f
    · refine key 0 (isB_congr isB_0 (fun t ht => ?_)) ?_
      · simp; omega
      · simp (disch := first | assumption | omega | decide) only [J_Plan_findNeeded_3, DO_0, DR_0_0, DR_0_1, DR_0_2, DR_0_3, DR_0_4, DR_0_5, DO_1, DR_1_0, DR_1_1, DR_1_2, DA_2, DB_2, DA_3, DB_3, DA_4, DB_4, DA_5, DO_166, DR_166_0, DR_166_1, DG_166_2, DS_166_2, DR_166_3, DG_166_4, DS_166_4, DA_167, DB_167, DA_168, DB_168, DA_169, DB_169, DO_170, DR_170_0, DR_170_1, DR_170_2, DG_170_3, DS_170_3, DG_170_4, DS_170_4, DA_171, DB_171, DA_172, DB_172, DA_173, DB_173, DO_174, DG_174_0, DS_174_0, DG_174_1, DS_174_1, DG_174_2, DS_174_2, DG_174_3, DS_174_3, DR_174_4, DA_175, DB_175, DO_176, DR_176_0, DG_176_1, DS_176_1, DR_176_2, DA_177, DB_177, DA_178, DB_178, DO_st, DG_st_0, DS_st_0, DG_st_1, DS_st_1, DG_st_2, DS_st_2, DG_st_3, DS_st_3, DR_st_4, DG_st_5, DS_st_5, DR_st_6, DG_st_7, DS_st_7, DG_st_8, DS_st_8, DG_st_9, DS_st_9, DG_st_10, DS_st_10, DG_st_11, DS_st_11, DG_st_12, DS_st_12, DR_st_13, DA_st_1, DB_st_1, DA_st_2, DB_st_2, DA_st_3, DB_st_3, ifp, ifn, Option.bind_some, n_s, n_le, n_lt, n_eq, l8, l40, l64, g40, u40, u6, u3, u0, mul6, mul3, J_bit, cmp0, b2_0, zR_b, zR_0, zR_1, up2_eq, up2_ne, up2J_eq, up2J_ne, mkv_eq, n_m1]
        rfl
    · refine key (bitw (vmk V f)) (isB_bit (by omega)) ?_
      simp (disch := first | assumption | omega | decide) only [J_Plan_findNeeded_3, mkv_n, DO_0, DR_0_0, DR_0_1, DR_0_2, DR_0_3, DR_0_4, DR_0_5, DO_1, DR_1_0, DR_1_1, DR_1_2, DA_2, DB_2, DA_3, DB_3, DA_4, DB_4, DA_5, DO_166, DR_166_0, DR_166_1, DG_166_2, DS_166_2, DR_166_3, DG_166_4, DS_166_4, DA_167, DB_167, DA_168, DB_168, DA_169, DB_169, DO_170, DR_170_0, DR_170_1, DR_170_2, DG_170_3, DS_170_3, DG_170_4, DS_170_4, DA_171, DB_171, DA_172, DB_172, DA_173, DB_173, DO_174, DG_174_0, DS_174_0, DG_174_1, DS_174_1, DG_174_2, DS_174_2, DG_174_3, DS_174_3, DR_174_4, DA_175, DB_175, DO_176, DR_176_0, DG_176_1, DS_176_1, DR_176_2, DA_177, DB_177, DA_178, DB_178, DO_st, DG_st_0, DS_st_0, DG_st_1, DS_st_1, DG_st_2, DS_st_2, DG_st_3, DS_st_3, DR_st_4, DG_st_5, DS_st_5, DR_st_6, DG_st_7, DS_st_7, DG_st_8, DS_st_8, DG_st_9, DS_st_9, DG_st_10, DS_st_10, DG_st_11, DS_st_11, DG_st_12, DS_st_12, DR_st_13, DA_st_1, DB_st_1, DA_st_2, DB_st_2, DA_st_3, DB_st_3, ifp, ifn, Option.bind_some, n_s, n_le, n_lt, n_eq, l8, l40, l64, g40, u40, u6, u3, u0, mul6, mul3, J_bit, cmp0, b2_0, zR_b, zR_0, zR_1, up2_eq, up2_ne, up2J_eq, up2J_ne, mkv_eq, n_m1]
      rfl
end CP
