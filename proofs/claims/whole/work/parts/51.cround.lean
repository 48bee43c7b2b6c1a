/-- the least number below n that is in p, or n -/
def fnd : Nat → (Nat → Bool) → Nat
  | 0, _ => 0
  | n + 1, p => if fnd n p < n then fnd n p else if p n = true then n else n + 1
theorem fnd_le {p : Nat → Bool} : ∀ {n : Nat}, fnd n p ≤ n
  | 0 => Nat.le_refl _
  | n + 1 => by
    have := @fnd_le p n
    rw [fnd]; split
    · omega
    · split <;> omega
theorem fnd_in {p : Nat → Bool} : ∀ {n : Nat}, fnd n p < n → p (fnd n p) = true
  | 0, h => by omega
  | n + 1, h => by
    rw [fnd] at h ⊢
    split at h
    · rename_i h1; rw [if_pos h1]; exact fnd_in h1
    · rename_i h1
      rw [if_neg h1]
      split at h
      · rename_i h2; rw [if_pos h2]; exact h2
      · omega
theorem fnd_lt {p : Nat → Bool} : ∀ {n : Nat} (j : Nat), j < fnd n p → p j = false
  | 0, j, h => by simp [fnd] at h
  | n + 1, j, h => by
    rw [fnd] at h
    split at h
    · exact fnd_lt j h
    · rename_i h1
      have h0 := @fnd_le p n
      have h2 : fnd n p = n := by omega
      split at h
      · exact fnd_lt (n := n) j (by omega)
      · rename_i h3
        by_cases e : j = n
        · subst e; simpa using h3
        · exact fnd_lt (n := n) j (by omega)
theorem fnd_eq {p : Nat → Bool} {n r : Nat} (hr : r < n) (h1 : p r = true) (h2 : ∀ j, j < r → p j = false) : fnd n p = r := by
  rcases Nat.lt_trichotomy (fnd n p) r with h | h | h
  · have h3 := fnd_in (p := p) (n := n) (by omega)
    rw [h2 _ h] at h3; exact absurd h3 (by simp)
  · exact h
  · have h3 := fnd_lt (p := p) (n := n) r h
    rw [h1] at h3; exact absurd h3 (by simp)
theorem fnd_ex {p : Nat → Bool} {n r : Nat} (hr : r < n) (h1 : p r = true) : fnd n p < n := by
  refine Nat.lt_of_not_le (fun h => ?_)
  have := @fnd_lt p n r (by omega)
  rw [h1] at this; exact absurd this (by simp)
/-- the way of the round: from its first step on, always the least from which the way back is short enough -/
def mem (E : Nat → Nat → Bool) (f m : Nat) : Nat → Nat
  | 0 => f
  | i + 1 => fnd 40 (fun t => E (mem E f m i) t && wk E f (m - i - 1) t)
def Ed (V : Vw) (A : Nat → Bool) (s t : Nat) : Bool := A s && tk V s t
section CP
variable {V : Vw} {z b N s : Nat} {I : Nat → Nat → Int32} {J : Nat → Nat → Int64} {F : Nat → Option HE} {A : Nat → Bool}
theorem mem_ok {E : Nat → Nat → Bool} {f m : Nat} (hf : f < 40) (h : wk E f m f = true) : ∀ i, i < m → mem E f m i < 40 ∧ wk E f (m - i) (mem E f m i) = true
  | 0, _ => ⟨hf, h⟩
  | i + 1, hi => by
    obtain ⟨h1, h2⟩ := mem_ok hf h i (by omega)
    rw [show m - i = (m - i - 1) + 1 by omega] at h2
    obtain ⟨u, hu, e1, e2⟩ := wk_s.mp h2
    have h3 : fnd 40 (fun t => E (mem E f m i) t && wk E f (m - i - 1) t) < 40 := fnd_ex hu (by simp [e1, e2])
    have h4 := fnd_in h3
    simp only [Bool.and_eq_true] at h4
    exact ⟨h3, by rw [show m - (i + 1) = m - i - 1 by omega]; exact h4.2⟩
theorem q_waitingFor {w : Int64} {S : Nat → Bool} (hJ : ∀ s, s < 40 → isB (J 167 s) (tk V s)) (hA : isB (J 166 4) A) (hS : isB w S) (hN : 100 < N) : ∃ w', J_Plan_waitingFor N (b + 166) w (z, dH b I J F) = some (w', (z, dH b I J F)) ∧ isB w' (fun s => anyB 40 (fun t => Ed V A s t && S t)) := by
  rw [J_Plan_waitingFor]
  refine lpx 40 (fun n (st : Int64 × Int32) => J_Plan_waitingFor_5 N n (b + 166) w st.1 st.2 (z, dH b I J F)) (fun k st => st.2 = nI k ∧ isB st.1 (fun s => decide (s < k) && anyB 40 (fun t => Ed V A s t && S t))) (fun q => ∃ w', q = some (w', (z, dH b I J F)) ∧ isB w' (fun s => anyB 40 (fun t => Ed V A s t && S t))) ?_ ?_ N (0, nI 0) (by omega) ⟨rfl, isB_congr isB_0 (fun t _ => by simp)⟩
  · rintro n k ⟨x, y⟩ hk ⟨hy, h1⟩
    simp only at hy h1; subst hy
    have a1 := hJ k hk
    have skip : anyB 40 (fun t => Ed V A k t && S t) = false → isB x (fun s => decide (s < k + 1) && anyB 40 (fun t => Ed V A s t && S t)) := by
      intro e
      refine isB_congr h1 (fun t ht => ?_)
      by_cases q : t = k
      · subst q; simp [e]
      · by_cases q2 : t < k
        · simp [q2, show t < k + 1 by omega]
        · simp [q2, show ¬ t < k + 1 by omega]
    refine Or.inr ?_
    cases e : A k
    · refine ⟨(x, nI (k + 1)), ?_, rfl, skip (anyB_no.mpr (fun t ht => by simp [Ed, e]))⟩
      simp (disch := first | assumption | omega | decide) only [J_Plan_waitingFor_5, J_isIn hA hk, e, DO_0, DR_0_0, DR_0_1, DR_0_2, DR_0_3, DR_0_4, DR_0_5, DO_1, DR_1_0, DR_1_1, DR_1_2, DA_2, DB_2, DA_3, DB_3, DA_4, DB_4, DA_5, DO_166, DR_166_0, DR_166_1, DG_166_2, DS_166_2, DR_166_3, DG_166_4, DS_166_4, DA_167, DB_167, DA_168, DB_168, DA_169, DB_169, DO_170, DR_170_0, DR_170_1, DR_170_2, DG_170_3, DS_170_3, DG_170_4, DS_170_4, DA_171, DB_171, DA_172, DB_172, DA_173, DB_173, DO_174, DG_174_0, DS_174_0, DG_174_1, DS_174_1, DG_174_2, DS_174_2, DG_174_3, DS_174_3, DR_174_4, DA_175, DB_175, DO_176, DR_176_0, DG_176_1, DS_176_1, DR_176_2, DA_177, DB_177, DA_178, DB_178, DO_st, DG_st_0, DS_st_0, DG_st_1, DS_st_1, DG_st_2, DS_st_2, DG_st_3, DS_st_3, DR_st_4, DG_st_5, DS_st_5, DR_st_6, DG_st_7, DS_st_7, DG_st_8, DS_st_8, DG_st_9, DS_st_9, DG_st_10, DS_st_10, DG_st_11, DS_st_11, DG_st_12, DS_st_12, DR_st_13, DA_st_1, DB_st_1, DA_st_2, DB_st_2, DA_st_3, DB_st_3, ifp, ifn, Option.bind_some, n_s, n_le, n_lt, n_eq, l8, l40, l64, g40, u40, u6, u3, u0, mul6, mul3, J_bit, cmp0, b2_0, zR_b, zR_0, zR_1, up2_eq, up2_ne, up2J_eq, up2J_ne, mkv_eq, n_m1]
    · by_cases q : J 167 k &&& w = 0
      · refine ⟨(x, nI (k + 1)), ?_, rfl, skip (anyB_no.mpr (fun t ht => ?_))⟩
        · simp (disch := first | assumption | omega | decide) only [J_Plan_waitingFor_5, J_isIn hA hk, e, DO_0, DR_0_0, DR_0_1, DR_0_2, DR_0_3, DR_0_4, DR_0_5, DO_1, DR_1_0, DR_1_1, DR_1_2, DA_2, DB_2, DA_3, DB_3, DA_4, DB_4, DA_5, DO_166, DR_166_0, DR_166_1, DG_166_2, DS_166_2, DR_166_3, DG_166_4, DS_166_4, DA_167, DB_167, DA_168, DB_168, DA_169, DB_169, DO_170, DR_170_0, DR_170_1, DR_170_2, DG_170_3, DS_170_3, DG_170_4, DS_170_4, DA_171, DB_171, DA_172, DB_172, DA_173, DB_173, DO_174, DG_174_0, DS_174_0, DG_174_1, DS_174_1, DG_174_2, DS_174_2, DG_174_3, DS_174_3, DR_174_4, DA_175, DB_175, DO_176, DR_176_0, DG_176_1, DS_176_1, DR_176_2, DA_177, DB_177, DA_178, DB_178, DO_st, DG_st_0, DS_st_0, DG_st_1, DS_st_1, DG_st_2, DS_st_2, DG_st_3, DS_st_3, DR_st_4, DG_st_5, DS_st_5, DR_st_6, DG_st_7, DS_st_7, DG_st_8, DS_st_8, DG_st_9, DS_st_9, DG_st_10, DS_st_10, DG_st_11, DS_st_11, DG_st_12, DS_st_12, DR_st_13, DA_st_1, DB_st_1, DA_st_2, DB_st_2, DA_st_3, DB_st_3, ifp, ifn, Option.bind_some, n_s, n_le, n_lt, n_eq, l8, l40, l64, g40, u40, u6, u3, u0, mul6, mul3, J_bit, cmp0, b2_0, zR_b, zR_0, zR_1, up2_eq, up2_ne, up2J_eq, up2J_ne, mkv_eq, n_m1]
        · have := (isB_z (isB_and a1 hS)).mp q t ht
          simp only [Ed, e, Bool.true_and]; exact this
      · refine ⟨(x ||| bitw k, nI (k + 1)), ?_, rfl, isB_congr (isB_or h1 (isB_bit hk)) (fun t ht => ?_)⟩
        · simp (disch := first | assumption | omega | decide) only [J_Plan_waitingFor_5, J_isIn hA hk, e, DO_0, DR_0_0, DR_0_1, DR_0_2, DR_0_3, DR_0_4, DR_0_5, DO_1, DR_1_0, DR_1_1, DR_1_2, DA_2, DB_2, DA_3, DB_3, DA_4, DB_4, DA_5, DO_166, DR_166_0, DR_166_1, DG_166_2, DS_166_2, DR_166_3, DG_166_4, DS_166_4, DA_167, DB_167, DA_168, DB_168, DA_169, DB_169, DO_170, DR_170_0, DR_170_1, DR_170_2, DG_170_3, DS_170_3, DG_170_4, DS_170_4, DA_171, DB_171, DA_172, DB_172, DA_173, DB_173, DO_174, DG_174_0, DS_174_0, DG_174_1, DS_174_1, DG_174_2, DS_174_2, DG_174_3, DS_174_3, DR_174_4, DA_175, DB_175, DO_176, DR_176_0, DG_176_1, DS_176_1, DR_176_2, DA_177, DB_177, DA_178, DB_178, DO_st, DG_st_0, DS_st_0, DG_st_1, DS_st_1, DG_st_2, DS_st_2, DG_st_3, DS_st_3, DR_st_4, DG_st_5, DS_st_5, DR_st_6, DG_st_7, DS_st_7, DG_st_8, DS_st_8, DG_st_9, DS_st_9, DG_st_10, DS_st_10, DG_st_11, DS_st_11, DG_st_12, DS_st_12, DR_st_13, DA_st_1, DB_st_1, DA_st_2, DB_st_2, DA_st_3, DB_st_3, ifp, ifn, Option.bind_some, n_s, n_le, n_lt, n_eq, l8, l40, l64, g40, u40, u6, u3, u0, mul6, mul3, J_bit, cmp0, b2_0, zR_b, zR_0, zR_1, up2_eq, up2_ne, up2J_eq, up2J_ne, mkv_eq, n_m1]
        · by_cases q2 : t = k
          · subst q2
            have : anyB 40 (fun u => Ed V A t u && S u) = true := by
              cases e2 : anyB 40 (fun u => Ed V A t u && S u)
              · refine absurd ((isB_z (isB_and a1 hS)).mpr (fun u hu => ?_)) q
                have := anyB_no.mp e2 u hu
                simpa only [Ed, e, Bool.true_and] using this
              · rfl
            simp [this]
          · by_cases q3 : t < k
            · simp [q2, q3, show t < k + 1 by omega]
            · simp [q2, q3, show ¬ t < k + 1 by omega]
  · rintro n ⟨x, y⟩ ⟨hy, h1⟩
    simp only at hy h1; subst hy
    refine ⟨x, ?_, isB_congr h1 (fun t ht => by simp [ht])⟩
    simp (disch := first | assumption | omega | decide) only [J_Plan_waitingFor_5, DO_0, DR_0_0, DR_0_1, DR_0_2, DR_0_3, DR_0_4, DR_0_5, DO_1, DR_1_0, DR_1_1, DR_1_2, DA_2, DB_2, DA_3, DB_3, DA_4, DB_4, DA_5, DO_166, DR_166_0, DR_166_1, DG_166_2, DS_166_2, DR_166_3, DG_166_4, DS_166_4, DA_167, DB_167, DA_168, DB_168, DA_169, DB_169, DO_170, DR_170_0, DR_170_1, DR_170_2, DG_170_3, DS_170_3, DG_170_4, DS_170_4, DA_171, DB_171, DA_172, DB_172, DA_173, DB_173, DO_174, DG_174_0, DS_174_0, DG_174_1, DS_174_1, DG_174_2, DS_174_2, DG_174_3, DS_174_3, DR_174_4, DA_175, DB_175, DO_176, DR_176_0, DG_176_1, DS_176_1, DR_176_2, DA_177, DB_177, DA_178, DB_178, DO_st, DG_st_0, DS_st_0, DG_st_1, DS_st_1, DG_st_2, DS_st_2, DG_st_3, DS_st_3, DR_st_4, DG_st_5, DS_st_5, DR_st_6, DG_st_7, DS_st_7, DG_st_8, DS_st_8, DG_st_9, DS_st_9, DG_st_10, DS_st_10, DG_st_11, DS_st_11, DG_st_12, DS_st_12, DR_st_13, DA_st_1, DB_st_1, DA_st_2, DB_st_2, DA_st_3, DB_st_3, ifp, ifn, Option.bind_some, n_s, n_le, n_lt, n_eq, l8, l40, l64, g40, u40, u6, u3, u0, mul6, mul3, J_bit, cmp0, b2_0, zR_b, zR_0, zR_1, up2_eq, up2_ne, up2J_eq, up2J_ne, mkv_eq, n_m1]
theorem q_measure (hJ : ∀ s, s < 40 → isB (J 167 s) (tk V s)) (hA : isB (J 166 4) A) (hs : s < 40) (hN : 100 < N) : ∃ m J', J_Round_measure N (b + 176) (nI s) (b + 166) (z, dH b I J F) = some (nI m, (z, dH b I J' F)) ∧ (∀ o k, o ≠ 178 → J' o k = J o k) ∧ m ≤ 40 ∧ (∀ d, d < m → 1 ≤ d → wk (Ed V A) s d s = false) ∧ (m = 0 → ∀ d, 1 ≤ d → d ≤ 40 → wk (Ed V A) s d s = false) ∧ (1 ≤ m → wk (Ed V A) s m s = true) ∧ (∀ d, d ≤ m → isB (J' 178 d) (wk (Ed V A) s d)) := by
  have a0 : sJ (z, dH b I J F) 2 (b + 178) (0 : Int32) (bitw s) = some (z, dH b I (up2J J 178 0 (bitw s)) F) := DB_178 (j := 0) (by decide)
  simp (disch := first | assumption | omega | decide) only [J_Round_measure, a0, DO_0, DR_0_0, DR_0_1, DR_0_2, DR_0_3, DR_0_4, DR_0_5, DO_1, DR_1_0, DR_1_1, DR_1_2, DA_2, DB_2, DA_3, DB_3, DA_4, DB_4, DA_5, DO_166, DR_166_0, DR_166_1, DG_166_2, DS_166_2, DR_166_3, DG_166_4, DS_166_4, DA_167, DB_167, DA_168, DB_168, DA_169, DB_169, DO_170, DR_170_0, DR_170_1, DR_170_2, DG_170_3, DS_170_3, DG_170_4, DS_170_4, DA_171, DB_171, DA_172, DB_172, DA_173, DB_173, DO_174, DG_174_0, DS_174_0, DG_174_1, DS_174_1, DG_174_2, DS_174_2, DG_174_3, DS_174_3, DR_174_4, DA_175, DB_175, DO_176, DR_176_0, DG_176_1, DS_176_1, DR_176_2, DA_177, DB_177, DA_178, DB_178, DO_st, DG_st_0, DS_st_0, DG_st_1, DS_st_1, DG_st_2, DS_st_2, DG_st_3, DS_st_3, DR_st_4, DG_st_5, DS_st_5, DR_st_6, DG_st_7, DS_st_7, DG_st_8, DS_st_8, DG_st_9, DS_st_9, DG_st_10, DS_st_10, DG_st_11, DS_st_11, DG_st_12, DS_st_12, DR_st_13, DA_st_1, DB_st_1, DA_st_2, DB_st_2, DA_st_3, DB_st_3, ifp, ifn, Option.bind_some, n_s, n_le, n_lt, n_eq, l8, l40, l64, g40, u40, u6, u3, u0, mul6, mul3, J_bit, cmp0, b2_0, zR_b, zR_0, zR_1, up2_eq, up2_ne, up2J_eq, up2J_ne, mkv_eq, n_m1]
  refine lpx 40 (fun n (st : Int32 × Hp) => J_Round_measure_12 N n (b + 176) (nI s) (b + 166) st.1 st.2) (fun k st => ∃ J', st = (nI (k + 1), (z, dH b I J' F)) ∧ (∀ o k, o ≠ 178 → J' o k = J o k) ∧ (∀ d, d < k + 1 → 1 ≤ d → wk (Ed V A) s d s = false) ∧ (∀ d, d < k + 1 → isB (J' 178 d) (wk (Ed V A) s d))) (fun q => ∃ m J', q = some (nI m, (z, dH b I J' F)) ∧ (∀ o k, o ≠ 178 → J' o k = J o k) ∧ m ≤ 40 ∧ (∀ d, d < m → 1 ≤ d → wk (Ed V A) s d s = false) ∧ (m = 0 → ∀ d, 1 ≤ d → d ≤ 40 → wk (Ed V A) s d s = false) ∧ (1 ≤ m → wk (Ed V A) s m s = true) ∧ (∀ d, d ≤ m → isB (J' 178 d) (wk (Ed V A) s d))) ?_ ?_ N (nI 1, (z, dH b I (up2J J 178 0 (bitw s)) F)) (by omega) ⟨up2J J 178 0 (bitw s), rfl, fun o k ho => up2J_ne (Or.inl ho), fun d h1 h2 => by omega, fun d hd => ?_⟩
  · rintro n k st hk ⟨J', rfl, h1, h2, h3⟩
    have c1 : nI (k + 1) - 1 = nI k := n_dn k
    obtain ⟨w, e1, e2⟩ := q_waitingFor (V := V) (A := A) (b := b) (z := z) (N := N) (I := I) (J := J') (F := F) (w := J' 178 k) (S := wk (Ed V A) s k) (fun t ht => by rw [h1 _ _ (by omega)]; exact hJ t ht) (by rw [h1 _ _ (by omega)]; exact hA) (h3 k (by omega)) hN
    have e3 : isB w (wk (Ed V A) s (k + 1)) := e2
    have h4 : ∀ d, d < k + 1 + 1 → isB (up2J J' 178 (k + 1) w 178 d) (wk (Ed V A) s d) := by
      intro d hd
      by_cases q : d = k + 1
      · subst q; rw [up2J_eq]; exact e3
      · rw [up2J_ne (by omega)]; exact h3 d (by omega)
    have h5 : ∀ o j, o ≠ 178 → up2J J' 178 (k + 1) w o j = J o j := fun o j ho => by rw [up2J_ne (Or.inl ho)]; exact h1 o j ho
    cases e : wk (Ed V A) s (k + 1) s
    · refine Or.inr ⟨(nI (k + 1 + 1), (z, dH b I (up2J J' 178 (k + 1) w) F)), ?_, _, rfl, h5, fun d hd hd1 => ?_, h4⟩
      · simp (disch := first | assumption | omega | decide) only [J_Round_measure_12, c1, e1, J_isIn e3 hs, e, DO_0, DR_0_0, DR_0_1, DR_0_2, DR_0_3, DR_0_4, DR_0_5, DO_1, DR_1_0, DR_1_1, DR_1_2, DA_2, DB_2, DA_3, DB_3, DA_4, DB_4, DA_5, DO_166, DR_166_0, DR_166_1, DG_166_2, DS_166_2, DR_166_3, DG_166_4, DS_166_4, DA_167, DB_167, DA_168, DB_168, DA_169, DB_169, DO_170, DR_170_0, DR_170_1, DR_170_2, DG_170_3, DS_170_3, DG_170_4, DS_170_4, DA_171, DB_171, DA_172, DB_172, DA_173, DB_173, DO_174, DG_174_0, DS_174_0, DG_174_1, DS_174_1, DG_174_2, DS_174_2, DG_174_3, DS_174_3, DR_174_4, DA_175, DB_175, DO_176, DR_176_0, DG_176_1, DS_176_1, DR_176_2, DA_177, DB_177, DA_178, DB_178, DO_st, DG_st_0, DS_st_0, DG_st_1, DS_st_1, DG_st_2, DS_st_2, DG_st_3, DS_st_3, DR_st_4, DG_st_5, DS_st_5, DR_st_6, DG_st_7, DS_st_7, DG_st_8, DS_st_8, DG_st_9, DS_st_9, DG_st_10, DS_st_10, DG_st_11, DS_st_11, DG_st_12, DS_st_12, DR_st_13, DA_st_1, DB_st_1, DA_st_2, DB_st_2, DA_st_3, DB_st_3, ifp, ifn, Option.bind_some, n_s, n_le, n_lt, n_eq, l8, l40, l64, g40, u40, u6, u3, u0, mul6, mul3, J_bit, cmp0, b2_0, zR_b, zR_0, zR_1, up2_eq, up2_ne, up2J_eq, up2J_ne, mkv_eq, n_m1]
      · by_cases q : d = k + 1
        · subst q; exact e
        · exact h2 d (by omega) hd1
    · refine Or.inl ⟨k + 1, _, ?_, h5, by omega, h2, (fun h => by omega), fun _ => e, fun d hd => h4 d (by omega)⟩
      simp (disch := first | assumption | omega | decide) only [J_Round_measure_12, c1, e1, J_isIn e3 hs, e, DO_0, DR_0_0, DR_0_1, DR_0_2, DR_0_3, DR_0_4, DR_0_5, DO_1, DR_1_0, DR_1_1, DR_1_2, DA_2, DB_2, DA_3, DB_3, DA_4, DB_4, DA_5, DO_166, DR_166_0, DR_166_1, DG_166_2, DS_166_2, DR_166_3, DG_166_4, DS_166_4, DA_167, DB_167, DA_168, DB_168, DA_169, DB_169, DO_170, DR_170_0, DR_170_1, DR_170_2, DG_170_3, DS_170_3, DG_170_4, DS_170_4, DA_171, DB_171, DA_172, DB_172, DA_173, DB_173, DO_174, DG_174_0, DS_174_0, DG_174_1, DS_174_1, DG_174_2, DS_174_2, DG_174_3, DS_174_3, DR_174_4, DA_175, DB_175, DO_176, DR_176_0, DG_176_1, DS_176_1, DR_176_2, DA_177, DB_177, DA_178, DB_178, DO_st, DG_st_0, DS_st_0, DG_st_1, DS_st_1, DG_st_2, DS_st_2, DG_st_3, DS_st_3, DR_st_4, DG_st_5, DS_st_5, DR_st_6, DG_st_7, DS_st_7, DG_st_8, DS_st_8, DG_st_9, DS_st_9, DG_st_10, DS_st_10, DG_st_11, DS_st_11, DG_st_12, DS_st_12, DR_st_13, DA_st_1, DB_st_1, DA_st_2, DB_st_2, DA_st_3, DB_st_3, ifp, ifn, Option.bind_some, n_s, n_le, n_lt, n_eq, l8, l40, l64, g40, u40, u6, u3, u0, mul6, mul3, J_bit, cmp0, b2_0, zR_b, zR_0, zR_1, up2_eq, up2_ne, up2J_eq, up2J_ne, mkv_eq, n_m1]
  · rintro n st ⟨J', rfl, h1, h2, h3⟩
    refine ⟨0, J', ?_, h1, by omega, fun d h => by omega, fun _ d hd1 hd2 => h2 d (by omega) hd1, fun h => by omega, fun d hd => h3 d (by omega)⟩
    simp (disch := first | assumption | omega | decide) only [J_Round_measure_12, DO_0, DR_0_0, DR_0_1, DR_0_2, DR_0_3, DR_0_4, DR_0_5, DO_1, DR_1_0, DR_1_1, DR_1_2, DA_2, DB_2, DA_3, DB_3, DA_4, DB_4, DA_5, DO_166, DR_166_0, DR_166_1, DG_166_2, DS_166_2, DR_166_3, DG_166_4, DS_166_4, DA_167, DB_167, DA_168, DB_168, DA_169, DB_169, DO_170, DR_170_0, DR_170_1, DR_170_2, DG_170_3, DS_170_3, DG_170_4, DS_170_4, DA_171, DB_171, DA_172, DB_172, DA_173, DB_173, DO_174, DG_174_0, DS_174_0, DG_174_1, DS_174_1, DG_174_2, DS_174_2, DG_174_3, DS_174_3, DR_174_4, DA_175, DB_175, DO_176, DR_176_0, DG_176_1, DS_176_1, DR_176_2, DA_177, DB_177, DA_178, DB_178, DO_st, DG_st_0, DS_st_0, DG_st_1, DS_st_1, DG_st_2, DS_st_2, DG_st_3, DS_st_3, DR_st_4, DG_st_5, DS_st_5, DR_st_6, DG_st_7, DS_st_7, DG_st_8, DS_st_8, DG_st_9, DS_st_9, DG_st_10, DS_st_10, DG_st_11, DS_st_11, DG_st_12, DS_st_12, DR_st_13, DA_st_1, DB_st_1, DA_st_2, DB_st_2, DA_st_3, DB_st_3, ifp, ifn, Option.bind_some, n_s, n_le, n_lt, n_eq, l8, l40, l64, g40, u40, u6, u3, u0, mul6, mul3, J_bit, cmp0, b2_0, zR_b, zR_0, zR_1, up2_eq, up2_ne, up2J_eq, up2J_ne, mkv_eq, n_m1]
    rfl
  · have : d = 0 := by omega
    subst this
    rw [up2J_eq]
    exact isB_congr (isB_bit hs) (fun t _ => rfl)
theorem q_least {w : Int64} {S : Nat → Bool} {x2 : Int32} {M : Nat → Option HE} (hS : isB w S) (h : fnd 40 S < 40) (hN : 100 < N) : J_Round_least N w x2 (z, M) = some (nI (fnd 40 S), (z, M)) := by
  rw [J_Round_least]
  refine lpx 40 (fun n (x : Int32) => J_Round_least_2 N n w x2 x (z, M)) (fun k x => x = nI k ∧ ∀ j, j < k → S j = false) (fun q => q = some (nI (fnd 40 S), (z, M))) ?_ ?_ N (nI 0) (by omega) ⟨rfl, fun j hj => by omega⟩
  · rintro n k x hk ⟨rfl, h1⟩
    cases e : S k
    · refine Or.inr ⟨nI (k + 1), ?_, rfl, fun j hj => ?_⟩
      · simp (disch := first | assumption | omega | decide) only [J_Round_least_2, J_isIn hS hk, e, DO_0, DR_0_0, DR_0_1, DR_0_2, DR_0_3, DR_0_4, DR_0_5, DO_1, DR_1_0, DR_1_1, DR_1_2, DA_2, DB_2, DA_3, DB_3, DA_4, DB_4, DA_5, DO_166, DR_166_0, DR_166_1, DG_166_2, DS_166_2, DR_166_3, DG_166_4, DS_166_4, DA_167, DB_167, DA_168, DB_168, DA_169, DB_169, DO_170, DR_170_0, DR_170_1, DR_170_2, DG_170_3, DS_170_3, DG_170_4, DS_170_4, DA_171, DB_171, DA_172, DB_172, DA_173, DB_173, DO_174, DG_174_0, DS_174_0, DG_174_1, DS_174_1, DG_174_2, DS_174_2, DG_174_3, DS_174_3, DR_174_4, DA_175, DB_175, DO_176, DR_176_0, DG_176_1, DS_176_1, DR_176_2, DA_177, DB_177, DA_178, DB_178, DO_st, DG_st_0, DS_st_0, DG_st_1, DS_st_1, DG_st_2, DS_st_2, DG_st_3, DS_st_3, DR_st_4, DG_st_5, DS_st_5, DR_st_6, DG_st_7, DS_st_7, DG_st_8, DS_st_8, DG_st_9, DS_st_9, DG_st_10, DS_st_10, DG_st_11, DS_st_11, DG_st_12, DS_st_12, DR_st_13, DA_st_1, DB_st_1, DA_st_2, DB_st_2, DA_st_3, DB_st_3, ifp, ifn, Option.bind_some, n_s, n_le, n_lt, n_eq, l8, l40, l64, g40, u40, u6, u3, u0, mul6, mul3, J_bit, cmp0, b2_0, zR_b, zR_0, zR_1, up2_eq, up2_ne, up2J_eq, up2J_ne, mkv_eq, n_m1]
      · by_cases q : j = k
        · subst q; exact e
        · exact h1 j (by omega)
    · refine Or.inl ?_
      rw [fnd_eq hk e h1]
      simp (disch := first | assumption | omega | decide) only [J_Round_least_2, J_isIn hS hk, e, DO_0, DR_0_0, DR_0_1, DR_0_2, DR_0_3, DR_0_4, DR_0_5, DO_1, DR_1_0, DR_1_1, DR_1_2, DA_2, DB_2, DA_3, DB_3, DA_4, DB_4, DA_5, DO_166, DR_166_0, DR_166_1, DG_166_2, DS_166_2, DR_166_3, DG_166_4, DS_166_4, DA_167, DB_167, DA_168, DB_168, DA_169, DB_169, DO_170, DR_170_0, DR_170_1, DR_170_2, DG_170_3, DS_170_3, DG_170_4, DS_170_4, DA_171, DB_171, DA_172, DB_172, DA_173, DB_173, DO_174, DG_174_0, DS_174_0, DG_174_1, DS_174_1, DG_174_2, DS_174_2, DG_174_3, DS_174_3, DR_174_4, DA_175, DB_175, DO_176, DR_176_0, DG_176_1, DS_176_1, DR_176_2, DA_177, DB_177, DA_178, DB_178, DO_st, DG_st_0, DS_st_0, DG_st_1, DS_st_1, DG_st_2, DS_st_2, DG_st_3, DS_st_3, DR_st_4, DG_st_5, DS_st_5, DR_st_6, DG_st_7, DS_st_7, DG_st_8, DS_st_8, DG_st_9, DS_st_9, DG_st_10, DS_st_10, DG_st_11, DS_st_11, DG_st_12, DS_st_12, DR_st_13, DA_st_1, DB_st_1, DA_st_2, DB_st_2, DA_st_3, DB_st_3, ifp, ifn, Option.bind_some, n_s, n_le, n_lt, n_eq, l8, l40, l64, g40, u40, u6, u3, u0, mul6, mul3, J_bit, cmp0, b2_0, zR_b, zR_0, zR_1, up2_eq, up2_ne, up2J_eq, up2J_ne, mkv_eq, n_m1]
  · rintro n x ⟨rfl, h1⟩
    have := fnd_in h
    rw [h1 _ h] at this
    exact absurd this (by simp)
theorem n_sub {a k : Nat} (h : k ≤ a) : nI a - nI k = nI (a - k) := by
  have : nI a = nI (a - k) + nI k := by rw [n_add, Nat.sub_add_cancel h]
  rw [this]
  simp
theorem q_walk {m : Nat} (hJ : ∀ s, s < 40 → isB (J 167 s) (tk V s)) (hs : s < 40) (hAs : ∀ t, t < 40 → wk (Ed V A) t 1 t = wk (Ed V A) t 1 t) (hm1 : 1 ≤ m) (hm : m ≤ 40) (hw : wk (Ed V A) s m s = true) (hn : ∀ d, d ≤ m → isB (J 178 d) (wk (Ed V A) s d)) (hN : 100 < N) : ∃ I', J_Round_walk N (b + 176) (nI s) (nI m) (b + 166) (z, dH b I J F) = some ((), (z, dH b I' J F)) ∧ I' 176 1 = nI m ∧ (∀ i, i < m → I' 177 i = nI (mem (Ed V A) s m i)) ∧ ∀ o k, o ≠ 176 → o ≠ 177 → I' o k = I o k := by
  have hok := mem_ok hs hw
  have hEA : ∀ i, i < m → ∀ t, Ed V A (mem (Ed V A) s m i) t = tk V (mem (Ed V A) s m i) t := by
    intro i hi t
    have h2 := (hok i hi).2
    rw [show m - i = (m - i - 1) + 1 by omega] at h2
    obtain ⟨u, hu, e1, e2⟩ := wk_s.mp h2
    have : A (mem (Ed V A) s m i) = true := by simp [Ed] at e1; exact e1.1
    simp [Ed, this]
  rw [J_Round_walk]
  refine lpx m (fun n (st : Int32 × Int32 × Hp) => J_Round_walk_6 N n (b + 176) (nI s) (nI m) (b + 166) st.1 st.2.1 st.2.2) (fun i st => ∃ I' a, st = (a, nI i, (z, dH b I' J F)) ∧ (i < m → a = nI (mem (Ed V A) s m i)) ∧ (∀ j, j < i → I' 177 j = nI (mem (Ed V A) s m j)) ∧ ∀ o k, o ≠ 176 → o ≠ 177 → I' o k = I o k) (fun q => ∃ I', q = some ((), (z, dH b I' J F)) ∧ I' 176 1 = nI m ∧ (∀ i, i < m → I' 177 i = nI (mem (Ed V A) s m i)) ∧ ∀ o k, o ≠ 176 → o ≠ 177 → I' o k = I o k) ?_ ?_ N (nI s, nI 0, (z, dH b I J F)) (by omega) ⟨I, nI s, rfl, fun _ => rfl, fun j hj => by omega, fun _ _ _ _ => rfl⟩
  · rintro n i st hi ⟨I', a, rfl, h1, h2, h3⟩
    have h4 := h1 hi
    subst h4
    obtain ⟨k1, k2⟩ := hok i hi
    have c1 : nI m - nI i - 1 = nI (m - i - 1) := by rw [n_sub (by omega), show m - i = m - i - 1 + 1 by omega]; exact n_dn _
    have k3 := isB_congr (U := fun t => Ed V A (mem (Ed V A) s m i) t && wk (Ed V A) s (m - i - 1) t) (isB_and (hJ _ k1) (hn (m - i - 1) (by omega))) (fun t _ => by rw [hEA i hi t])
    have k4 : fnd 40 (fun t => Ed V A (mem (Ed V A) s m i) t && wk (Ed V A) s (m - i - 1) t) < 40 := by
      rw [show m - i = (m - i - 1) + 1 by omega] at k2
      obtain ⟨u, hu, e1, e2⟩ := wk_s.mp k2
      exact fnd_ex hu (by simp [e1, e2])
    refine Or.inr ⟨(nI (mem (Ed V A) s m (i + 1)), nI (i + 1), (z, dH b (up2 I' 177 i (nI (mem (Ed V A) s m i))) J F)), ?_, _, _, rfl, fun _ => rfl, fun j hj => ?_, fun o k o1 o2 => by rw [up2_ne (Or.inl o2)]; exact h3 o k o1 o2⟩
    · simp (disch := first | assumption | omega | decide) only [J_Round_walk_6, c1, q_least k3 k4 hN, DO_0, DR_0_0, DR_0_1, DR_0_2, DR_0_3, DR_0_4, DR_0_5, DO_1, DR_1_0, DR_1_1, DR_1_2, DA_2, DB_2, DA_3, DB_3, DA_4, DB_4, DA_5, DO_166, DR_166_0, DR_166_1, DG_166_2, DS_166_2, DR_166_3, DG_166_4, DS_166_4, DA_167, DB_167, DA_168, DB_168, DA_169, DB_169, DO_170, DR_170_0, DR_170_1, DR_170_2, DG_170_3, DS_170_3, DG_170_4, DS_170_4, DA_171, DB_171, DA_172, DB_172, DA_173, DB_173, DO_174, DG_174_0, DS_174_0, DG_174_1, DS_174_1, DG_174_2, DS_174_2, DG_174_3, DS_174_3, DR_174_4, DA_175, DB_175, DO_176, DR_176_0, DG_176_1, DS_176_1, DR_176_2, DA_177, DB_177, DA_178, DB_178, DO_st, DG_st_0, DS_st_0, DG_st_1, DS_st_1, DG_st_2, DS_st_2, DG_st_3, DS_st_3, DR_st_4, DG_st_5, DS_st_5, DR_st_6, DG_st_7, DS_st_7, DG_st_8, DS_st_8, DG_st_9, DS_st_9, DG_st_10, DS_st_10, DG_st_11, DS_st_11, DG_st_12, DS_st_12, DR_st_13, DA_st_1, DB_st_1, DA_st_2, DB_st_2, DA_st_3, DB_st_3, ifp, ifn, Option.bind_some, n_s, n_le, n_lt, n_eq, l8, l40, l64, g40, u40, u6, u3, u0, mul6, mul3, J_bit, cmp0, b2_0, zR_b, zR_0, zR_1, up2_eq, up2_ne, up2J_eq, up2J_ne, mkv_eq, n_m1]
      rfl
    · by_cases q : j = i
      · subst q; rw [up2_eq]
      · rw [up2_ne (by omega)]; exact h2 j (by omega)
  · rintro n st ⟨I', a, rfl, h1, h2, h3⟩
    refine ⟨up2 I' 176 1 (nI m), ?_, by rw [up2_eq], fun i hi => by rw [up2_ne (by omega)]; exact h2 i hi, fun o k o1 o2 => by rw [up2_ne (Or.inl o1)]; exact h3 o k o1 o2⟩
    simp (disch := first | assumption | omega | decide) only [J_Round_walk_6, DO_0, DR_0_0, DR_0_1, DR_0_2, DR_0_3, DR_0_4, DR_0_5, DO_1, DR_1_0, DR_1_1, DR_1_2, DA_2, DB_2, DA_3, DB_3, DA_4, DB_4, DA_5, DO_166, DR_166_0, DR_166_1, DG_166_2, DS_166_2, DR_166_3, DG_166_4, DS_166_4, DA_167, DB_167, DA_168, DB_168, DA_169, DB_169, DO_170, DR_170_0, DR_170_1, DR_170_2, DG_170_3, DS_170_3, DG_170_4, DS_170_4, DA_171, DB_171, DA_172, DB_172, DA_173, DB_173, DO_174, DG_174_0, DS_174_0, DG_174_1, DS_174_1, DG_174_2, DS_174_2, DG_174_3, DS_174_3, DR_174_4, DA_175, DB_175, DO_176, DR_176_0, DG_176_1, DS_176_1, DR_176_2, DA_177, DB_177, DA_178, DB_178, DO_st, DG_st_0, DS_st_0, DG_st_1, DS_st_1, DG_st_2, DS_st_2, DG_st_3, DS_st_3, DR_st_4, DG_st_5, DS_st_5, DR_st_6, DG_st_7, DS_st_7, DG_st_8, DS_st_8, DG_st_9, DS_st_9, DG_st_10, DS_st_10, DG_st_11, DS_st_11, DG_st_12, DS_st_12, DR_st_13, DA_st_1, DB_st_1, DA_st_2, DB_st_2, DA_st_3, DB_st_3, ifp, ifn, Option.bind_some, n_s, n_le, n_lt, n_eq, l8, l40, l64, g40, u40, u6, u3, u0, mul6, mul3, J_bit, cmp0, b2_0, zR_b, zR_0, zR_1, up2_eq, up2_ne, up2J_eq, up2J_ne, mkv_eq, n_m1]
/-- the first step that is in a round, and the way of its shortest -/
theorem q_find (hJ : ∀ s, s < 40 → isB (J 167 s) (tk V s)) (hA : isB (J 166 4) A) (hN : 100 < N) : ∃ I' J', J_Round_find N (b + 176) (b + 166) (z, dH b I J F) = some ((), (z, dH b I' J' F)) ∧ (∀ o k, o ≠ 176 → o ≠ 177 → I' o k = I o k) ∧ ((∀ s, s < 40 → A s = true → ∀ d, 1 ≤ d → d ≤ 40 → wk (Ed V A) s d s = false) ∨ ∃ s m, s < 40 ∧ A s = true ∧ (∀ t, t < s → A t = true → ∀ d, 1 ≤ d → d ≤ 40 → wk (Ed V A) t d t = false) ∧ 1 ≤ m ∧ m ≤ 40 ∧ wk (Ed V A) s m s = true ∧ (∀ d, d < m → 1 ≤ d → wk (Ed V A) s d s = false) ∧ I' 176 1 = nI m ∧ ∀ i, i < m → I' 177 i = nI (mem (Ed V A) s m i)) := by
  rw [J_Round_find]
  refine lpx 40 (fun n (st : Int32 × Hp) => J_Round_find_2 N n (b + 176) (b + 166) st.1 st.2) (fun k st => ∃ J', st = (nI k, (z, dH b I J' F)) ∧ (∀ o k, o ≠ 178 → J' o k = J o k) ∧ (∀ t, t < k → A t = true → ∀ d, 1 ≤ d → d ≤ 40 → wk (Ed V A) t d t = false)) (fun q => ∃ I' J', q = some ((), (z, dH b I' J' F)) ∧ (∀ o k, o ≠ 176 → o ≠ 177 → I' o k = I o k) ∧ ((∀ s, s < 40 → A s = true → ∀ d, 1 ≤ d → d ≤ 40 → wk (Ed V A) s d s = false) ∨ ∃ s m, s < 40 ∧ A s = true ∧ (∀ t, t < s → A t = true → ∀ d, 1 ≤ d → d ≤ 40 → wk (Ed V A) t d t = false) ∧ 1 ≤ m ∧ m ≤ 40 ∧ wk (Ed V A) s m s = true ∧ (∀ d, d < m → 1 ≤ d → wk (Ed V A) s d s = false) ∧ I' 176 1 = nI m ∧ ∀ i, i < m → I' 177 i = nI (mem (Ed V A) s m i))) ?_ ?_ N (nI 0, (z, dH b I J F)) (by omega) ⟨J, rfl, fun _ _ _ => rfl, fun t h => by omega⟩
  · rintro n k st hk ⟨J', rfl, h1, h2⟩
    have hJ' : ∀ s, s < 40 → isB (J' 167 s) (tk V s) := fun t ht => by rw [h1 _ _ (by omega)]; exact hJ t ht
    have hA' : isB (J' 166 4) A := by rw [h1 _ _ (by omega)]; exact hA
    cases e : A k
    · refine Or.inr ⟨(nI (k + 1), (z, dH b I J' F)), ?_, J', rfl, h1, fun t ht hAt => ?_⟩
      · simp (disch := first | assumption | omega | decide) only [J_Round_find_2, J_isIn hA' hk, e, DO_0, DR_0_0, DR_0_1, DR_0_2, DR_0_3, DR_0_4, DR_0_5, DO_1, DR_1_0, DR_1_1, DR_1_2, DA_2, DB_2, DA_3, DB_3, DA_4, DB_4, DA_5, DO_166, DR_166_0, DR_166_1, DG_166_2, DS_166_2, DR_166_3, DG_166_4, DS_166_4, DA_167, DB_167, DA_168, DB_168, DA_169, DB_169, DO_170, DR_170_0, DR_170_1, DR_170_2, DG_170_3, DS_170_3, DG_170_4, DS_170_4, DA_171, DB_171, DA_172, DB_172, DA_173, DB_173, DO_174, DG_174_0, DS_174_0, DG_174_1, DS_174_1, DG_174_2, DS_174_2, DG_174_3, DS_174_3, DR_174_4, DA_175, DB_175, DO_176, DR_176_0, DG_176_1, DS_176_1, DR_176_2, DA_177, DB_177, DA_178, DB_178, DO_st, DG_st_0, DS_st_0, DG_st_1, DS_st_1, DG_st_2, DS_st_2, DG_st_3, DS_st_3, DR_st_4, DG_st_5, DS_st_5, DR_st_6, DG_st_7, DS_st_7, DG_st_8, DS_st_8, DG_st_9, DS_st_9, DG_st_10, DS_st_10, DG_st_11, DS_st_11, DG_st_12, DS_st_12, DR_st_13, DA_st_1, DB_st_1, DA_st_2, DB_st_2, DA_st_3, DB_st_3, ifp, ifn, Option.bind_some, n_s, n_le, n_lt, n_eq, l8, l40, l64, g40, u40, u6, u3, u0, mul6, mul3, J_bit, cmp0, b2_0, zR_b, zR_0, zR_1, up2_eq, up2_ne, up2J_eq, up2J_ne, mkv_eq, n_m1]
      · by_cases q : t = k
        · subst q; rw [e] at hAt; exact absurd hAt (by simp)
        · exact h2 t (by omega) hAt
    · obtain ⟨m, J'', e1, e2, e3, e4, e5, e6, e7⟩ := q_measure (V := V) (A := A) (b := b) (z := z) (N := N) (I := I) (J := J') (F := F) hJ' hA' hk hN
      by_cases q : m = 0
      · refine Or.inr ⟨(nI (k + 1), (z, dH b I J'' F)), ?_, J'', rfl, fun o j ho => by rw [e2 o j ho]; exact h1 o j ho, fun t ht hAt => ?_⟩
        · have q2 : (nI m ≤ (0 : Int32)) = True := by rw [q]; decide
          simp (disch := first | assumption | omega | decide) only [J_Round_find_2, J_isIn hA' hk, e, e1, q2, DO_0, DR_0_0, DR_0_1, DR_0_2, DR_0_3, DR_0_4, DR_0_5, DO_1, DR_1_0, DR_1_1, DR_1_2, DA_2, DB_2, DA_3, DB_3, DA_4, DB_4, DA_5, DO_166, DR_166_0, DR_166_1, DG_166_2, DS_166_2, DR_166_3, DG_166_4, DS_166_4, DA_167, DB_167, DA_168, DB_168, DA_169, DB_169, DO_170, DR_170_0, DR_170_1, DR_170_2, DG_170_3, DS_170_3, DG_170_4, DS_170_4, DA_171, DB_171, DA_172, DB_172, DA_173, DB_173, DO_174, DG_174_0, DS_174_0, DG_174_1, DS_174_1, DG_174_2, DS_174_2, DG_174_3, DS_174_3, DR_174_4, DA_175, DB_175, DO_176, DR_176_0, DG_176_1, DS_176_1, DR_176_2, DA_177, DB_177, DA_178, DB_178, DO_st, DG_st_0, DS_st_0, DG_st_1, DS_st_1, DG_st_2, DS_st_2, DG_st_3, DS_st_3, DR_st_4, DG_st_5, DS_st_5, DR_st_6, DG_st_7, DS_st_7, DG_st_8, DS_st_8, DG_st_9, DS_st_9, DG_st_10, DS_st_10, DG_st_11, DS_st_11, DG_st_12, DS_st_12, DR_st_13, DA_st_1, DB_st_1, DA_st_2, DB_st_2, DA_st_3, DB_st_3, ifp, ifn, Option.bind_some, n_s, n_le, n_lt, n_eq, l8, l40, l64, g40, u40, u6, u3, u0, mul6, mul3, J_bit, cmp0, b2_0, zR_b, zR_0, zR_1, up2_eq, up2_ne, up2J_eq, up2J_ne, mkv_eq, n_m1]
        · by_cases q3 : t = k
          · subst q3; exact e5 q
          · exact h2 t (by omega) hAt
      · obtain ⟨I', f1, f2, f3, f4⟩ := q_walk (V := V) (A := A) (b := b) (z := z) (N := N) (I := I) (J := J'') (F := F) (m := m) (fun t ht => by rw [e2 _ _ (by omega)]; exact hJ' t ht) hk (fun _ _ => rfl) (by omega) e3 (e6 (by omega)) e7 hN
        refine Or.inl ⟨I', J'', ?_, f4, Or.inr ⟨k, m, hk, e, h2, by omega, e3, e6 (by omega), e4, f2, f3⟩⟩
        have q2 : (nI m ≤ (0 : Int32)) = False := by
          rw [show (nI m ≤ (0 : Int32)) = (nI m ≤ nI 0) from rfl, n_le (by omega) (by decide)]
          exact eq_false (by omega)
        simp (disch := first | assumption | omega | decide) only [J_Round_find_2, J_isIn hA' hk, e, e1, q2, f1, DO_0, DR_0_0, DR_0_1, DR_0_2, DR_0_3, DR_0_4, DR_0_5, DO_1, DR_1_0, DR_1_1, DR_1_2, DA_2, DB_2, DA_3, DB_3, DA_4, DB_4, DA_5, DO_166, DR_166_0, DR_166_1, DG_166_2, DS_166_2, DR_166_3, DG_166_4, DS_166_4, DA_167, DB_167, DA_168, DB_168, DA_169, DB_169, DO_170, DR_170_0, DR_170_1, DR_170_2, DG_170_3, DS_170_3, DG_170_4, DS_170_4, DA_171, DB_171, DA_172, DB_172, DA_173, DB_173, DO_174, DG_174_0, DS_174_0, DG_174_1, DS_174_1, DG_174_2, DS_174_2, DG_174_3, DS_174_3, DR_174_4, DA_175, DB_175, DO_176, DR_176_0, DG_176_1, DS_176_1, DR_176_2, DA_177, DB_177, DA_178, DB_178, DO_st, DG_st_0, DS_st_0, DG_st_1, DS_st_1, DG_st_2, DS_st_2, DG_st_3, DS_st_3, DR_st_4, DG_st_5, DS_st_5, DR_st_6, DG_st_7, DS_st_7, DG_st_8, DS_st_8, DG_st_9, DS_st_9, DG_st_10, DS_st_10, DG_st_11, DS_st_11, DG_st_12, DS_st_12, DR_st_13, DA_st_1, DB_st_1, DA_st_2, DB_st_2, DA_st_3, DB_st_3, ifp, ifn, Option.bind_some, n_s, n_le, n_lt, n_eq, l8, l40, l64, g40, u40, u6, u3, u0, mul6, mul3, J_bit, cmp0, b2_0, zR_b, zR_0, zR_1, up2_eq, up2_ne, up2J_eq, up2J_ne, mkv_eq, n_m1]
  · rintro n st ⟨J', rfl, h1, h2⟩
    refine ⟨I, J', ?_, fun _ _ _ _ => rfl, Or.inl h2⟩
    simp (disch := first | assumption | omega | decide) only [J_Round_find_2, DO_0, DR_0_0, DR_0_1, DR_0_2, DR_0_3, DR_0_4, DR_0_5, DO_1, DR_1_0, DR_1_1, DR_1_2, DA_2, DB_2, DA_3, DB_3, DA_4, DB_4, DA_5, DO_166, DR_166_0, DR_166_1, DG_166_2, DS_166_2, DR_166_3, DG_166_4, DS_166_4, DA_167, DB_167, DA_168, DB_168, DA_169, DB_169, DO_170, DR_170_0, DR_170_1, DR_170_2, DG_170_3, DS_170_3, DG_170_4, DS_170_4, DA_171, DB_171, DA_172, DB_172, DA_173, DB_173, DO_174, DG_174_0, DS_174_0, DG_174_1, DS_174_1, DG_174_2, DS_174_2, DG_174_3, DS_174_3, DR_174_4, DA_175, DB_175, DO_176, DR_176_0, DG_176_1, DS_176_1, DR_176_2, DA_177, DB_177, DA_178, DB_178, DO_st, DG_st_0, DS_st_0, DG_st_1, DS_st_1, DG_st_2, DS_st_2, DG_st_3, DS_st_3, DR_st_4, DG_st_5, DS_st_5, DR_st_6, DG_st_7, DS_st_7, DG_st_8, DS_st_8, DG_st_9, DS_st_9, DG_st_10, DS_st_10, DG_st_11, DS_st_11, DG_st_12, DS_st_12, DR_st_13, DA_st_1, DB_st_1, DA_st_2, DB_st_2, DA_st_3, DB_st_3, ifp, ifn, Option.bind_some, n_s, n_le, n_lt, n_eq, l8, l40, l64, g40, u40, u6, u3, u0, mul6, mul3, J_bit, cmp0, b2_0, zR_b, zR_0, zR_1, up2_eq, up2_ne, up2J_eq, up2J_ne, mkv_eq, n_m1]
end CP
