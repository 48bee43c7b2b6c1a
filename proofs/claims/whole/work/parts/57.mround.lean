/-- the distances that the model holds: fr s is the length of a walk to the first step, or 1000 -/
def GI (E : Nat → Nat → Bool) (to : Nat) (fr : Nat → Nat) : Prop := fr to = 0 ∧ ∀ s, s < 40 → fr s ≤ 1000 ∧ (fr s < 1000 → wk E to (fr s) s = true)
/-- the nearest that is in p, or 40 -/
def nr (p : Nat → Bool) (fr : Nat → Nat) : Nat → Nat
  | 0 => 40
  | n + 1 => if p n = true ∧ (nr p fr n = 40 ∨ fr n < fr (nr p fr n)) then n else nr p fr n
theorem nr_s {p : Nat → Bool} {fr : Nat → Nat} : ∀ {n : Nat}, n ≤ 40 → (nr p fr n = 40 ∧ ∀ j, j < n → p j = false) ∨ (nr p fr n < n ∧ p (nr p fr n) = true ∧ (∀ j, j < n → p j = true → fr (nr p fr n) ≤ fr j) ∧ ∀ j, j < nr p fr n → p j = true → fr (nr p fr n) < fr j)
  | 0, _ => Or.inl ⟨rfl, fun j h => by omega⟩
  | n + 1, hn => by
    have ih := @nr_s p fr n (by omega)
    rw [nr]
    by_cases h : p n = true ∧ (nr p fr n = 40 ∨ fr n < fr (nr p fr n))
    · rw [if_pos h]
      right
      refine ⟨by omega, h.1, fun j hj hp => ?_, fun j hj hp => ?_⟩
      · by_cases q : j = n
        · subst q; exact Nat.le_refl _
        · rcases ih with ⟨h1, h2⟩ | ⟨h1, h2, h3, h4⟩
          · rw [h2 j (by omega)] at hp; exact absurd hp (by simp)
          · have := h3 j (by omega) hp
            rcases h.2 with h5 | h5 <;> omega
      · rcases ih with ⟨h1, h2⟩ | ⟨h1, h2, h3, h4⟩
        · rw [h2 j (by omega)] at hp; exact absurd hp (by simp)
        · have := h3 j (by omega) hp
          rcases h.2 with h5 | h5 <;> omega
    · rw [if_neg h]
      rcases ih with ⟨h1, h2⟩ | ⟨h1, h2, h3, h4⟩
      · refine Or.inl ⟨h1, fun j hj => ?_⟩
        by_cases q : j = n
        · subst q
          cases e : p j
          · rfl
          · exact absurd ⟨e, Or.inl h1⟩ h
        · exact h2 j (by omega)
      · refine Or.inr ⟨by omega, h2, fun j hj hp => ?_, h4⟩
        by_cases q : j = n
        · subst q
          refine Nat.le_of_not_lt (fun h5 => h ⟨hp, Or.inr h5⟩)
        · exact h3 j (by omega) hp
theorem mem_pre {E : Nat → Nat → Bool} {f m : Nat} (hf : f < 40) (h : wk E f m f = true) : ∀ i, i < m → wk E (mem E f m i) i f = true
  | 0, _ => wk_0.mpr rfl
  | i + 1, hi => by
    have h1 := mem_pre hf h i (by omega)
    have h2 := mem_ok hf h i (by omega)
    have h3 := mem_ok hf h (i + 1) hi
    have h4 : E (mem E f m i) (mem E f m (i + 1)) = true := by
      have h5 : fnd 40 (fun t => E (mem E f m i) t && wk E f (m - i - 1) t) < 40 := h3.1
      have h6 := fnd_in h5
      simp only [Bool.and_eq_true] at h6
      exact h6.1
    exact wk_add (wk_s.mpr ⟨mem E f m (i + 1), h3.1, h4, wk_0.mpr rfl⟩) h1
/-- what is nearest from a step of the way is the way's next step -/
theorem near_mem {E : Nat → Nat → Bool} {f m : Nat} {fr : Nat → Nat} (hf : f < 40) (h : wk E f m f = true) (hm : m ≤ 40) (hmin : ∀ d, d < m → 1 ≤ d → wk E f d f = false) (hG : GI E f fr) (hfix : ∀ d s, s < 40 → wk E f d s = true → fr s ≤ d) {i : Nat} (hi : i < m) : nr (fun t => E (mem E f m i) t && decide (fr t < 1000)) fr 40 = mem E f m (i + 1) ∧ mem E f m (i + 1) < 40 := by
  have h1 := mem_pre hf h i hi
  have h2 := mem_ok hf h i hi
  have h3 : ∀ t, t < 40 → E (mem E f m i) t = true → fr t < 1000 → m - i - 1 ≤ fr t := by
    intro t ht hE hlt
    refine Nat.le_of_not_lt (fun q => ?_)
    have k1 := (hG.2 t ht).2 hlt
    have k2 : wk E f (i + (fr t + 1)) f = true := wk_add (wk_s.mpr ⟨t, ht, hE, k1⟩) h1
    rw [hmin _ (by omega) (by omega)] at k2
    exact absurd k2 (by simp)
  have h4 : ∀ t, t < 40 → E (mem E f m i) t = true → (wk E f (m - i - 1) t = true ↔ (fr t < 1000 ∧ fr t = m - i - 1)) := by
    intro t ht hE
    constructor
    · intro k
      have k1 := hfix _ t ht k
      have k2 := h3 t ht hE (by omega)
      omega
    · rintro ⟨k1, k2⟩
      rw [← k2]; exact (hG.2 t ht).2 k1
  have h5 : fnd 40 (fun t => E (mem E f m i) t && wk E f (m - i - 1) t) < 40 := by
    have h6 := h2.2
    rw [show m - i = (m - i - 1) + 1 by omega] at h6
    obtain ⟨u, hu, e1, e2⟩ := wk_s.mp h6
    exact fnd_ex hu (by simp [e1, e2])
  have h6 := fnd_in h5
  simp only [Bool.and_eq_true] at h6
  have h7 := (h4 _ h5 h6.1).mp h6.2
  refine ⟨?_, h5⟩
  have hr := nr_s (p := fun t => E (mem E f m i) t && decide (fr t < 1000)) (fr := fr) (n := 40) (by omega)
  rcases hr with ⟨r1, r2⟩ | ⟨r1, r2, r3, r4⟩
  · have := r2 _ h5
    simp [h6.1, h7.1] at this
  · simp only [Bool.and_eq_true, decide_eq_true_eq] at r2
    have k1 := r3 _ h5 (by simp [h6.1, h7.1])
    have k2 := h3 _ r1 r2.1 r2.2
    have k3 : fr (nr (fun t => E (mem E f m i) t && decide (fr t < 1000)) fr 40) = m - i - 1 := by omega
    symm
    refine fnd_eq r1 (by rw [r2.1, (h4 _ r1 r2.1).mpr ⟨r2.2, k3⟩]; rfl) (fun j hj => ?_)
    cases e : (E (mem E f m i) j && wk E f (m - i - 1) j)
    · rfl
    · simp only [Bool.and_eq_true] at e
      have k4 := (h4 j (by omega) e.1).mp e.2
      have k5 := r4 j hj (by simp [e.1, k4.1])
      omega
theorem GI_fix {E : Nat → Nat → Bool} {f : Nat} {fr : Nat → Nat} (hG : GI E f fr) (hx : ∀ s t, s < 40 → t < 40 → s ≠ f → E s t = true → fr s ≤ fr t + 1) : ∀ d s, s < 40 → wk E f d s = true → fr s ≤ d
  | 0, s, hs, h => by
    have := wk_0.mp h
    rw [this, hG.1]; omega
  | d + 1, s, hs, h => by
    by_cases q : s = f
    · rw [q, hG.1]; omega
    · obtain ⟨u, hu, e1, e2⟩ := wk_s.mp h
      have := GI_fix hG hx d u hu e2
      have := hx s u hs hu q e1
      omega
section MR
variable {V : Vw} {z b N s t : Nat} {P : Nat → Nat → Int32} {F : Nat → Option HE} {A : Nat → Bool}
/-- a pass over the distances, up to the pair (s, k) -/
def PI (E : Nat → Nat → Bool) (to s k : Nat) (f0 fr : Nat → Nat) (m : Bool) : Prop := GI E to fr ∧ (∀ j, j < 40 → fr j ≤ f0 j) ∧ (m = false → (∀ j, j < 40 → fr j = f0 j) ∧ ∀ s' t', s' < 40 → t' < 40 → (s' < s ∨ (s' = s ∧ t' < k)) → s' ≠ to → E s' t' = true → f0 s' ≤ f0 t' + 1) ∧ (m = true → sumB 40 fr < sumB 40 f0)
theorem p_ms51 (r34 : Nat → Int32 → Int32 → Hp → Option (Unit × Hp)) (r42 : Nat → Int32 → Int32 → Int32 → Hp → Option (Unit × Hp)) {to : Nat} {f0 fr : Nat → Nat} {m : Bool} (hw : VW V) (hm : MV V P) (hA : ∀ s, s < 40 → P 20 s = b2 (A s)) (hAt : ∀ s, s < 40 → A s = true → vth V s = true) (hto : to < 40) (hs : s < 40) (hR : ∀ j, j < 40 → P 33 j = nI (fr j)) (hP : PI (Ed V A) to s 0 f0 fr m) (hN : 100 < N) : ∃ m' fr' P', J_Mod_measure_51 N r34 r42 N b (nI to) (b2 m) (nI s) (nI 0) (z, mH b P F) = r42 b (nI to) (b2 m') (nI (s + 1)) (z, mH b P' F) ∧ (∀ o, o ≠ 33 → P' o = P o) ∧ (∀ j, j < 40 → P' 33 j = nI (fr' j)) ∧ PI (Ed V A) to (s + 1) 0 f0 fr' m' := by
  have fin : ∀ {m fr}, PI (Ed V A) to s 40 f0 fr m → PI (Ed V A) to (s + 1) 0 f0 fr m := by
    rintro m fr ⟨g1, g2, g3, g4⟩
    exact ⟨g1, g2, fun h => ⟨(g3 h).1, fun s' t' h1 h2 h3 => (g3 h).2 s' t' h1 h2 (by omega)⟩, g4⟩
  have skip : (A s = false ∨ s = to) → PI (Ed V A) to (s + 1) 0 f0 fr m := by
    intro h
    obtain ⟨g1, g2, g3, g4⟩ := hP
    refine ⟨g1, g2, fun h0 => ⟨(g3 h0).1, fun s' t' h1 h2 h3 h4 h5 => ?_⟩, g4⟩
    by_cases q : s' = s
    · subst q
      rcases h with h | h
      · simp [Ed, h] at h5
      · exact absurd h h4
    · exact (g3 h0).2 s' t' h1 h2 (by omega) h4 h5
  have a0 := hA s hs
  by_cases q0 : A s = false ∨ s = to
  · refine ⟨m, fr, P, ?_, fun _ _ => rfl, hR, skip q0⟩
    obtain ⟨N', hN'⟩ : ∃ N', N = N' + 1 := ⟨N - 1, by omega⟩
    have key : ∀ M n, J_Mod_measure_51 M r34 r42 (n + 1) b (nI to) (b2 m) (nI s) (nI 0) (z, mH b P F) = r42 b (nI to) (b2 m) (nI (s + 1)) (z, mH b P F) := by
      intro M n
      by_cases q1 : A s = false
      · simp (disch := first | assumption | omega | decide) only [J_Mod_measure_51, a0, q1, MO_0, MG_0_0, MS_0_0, MR_0_1, MR_0_2, MR_0_3, MR_0_4, MR_0_5, MR_0_6, MR_0_7, MR_0_8, MR_0_9, MR_0_10, MR_0_11, MR_0_12, MR_0_13, MR_0_14, MR_0_15, MR_0_16, MR_0_17, MR_0_18, MR_0_19, MR_0_20, MR_0_21, MR_0_22, MR_0_23, MR_0_24, MR_0_25, MR_0_26, MG_0_27, MS_0_27, MG_0_28, MS_0_28, MG_0_29, MS_0_29, MG_0_30, MS_0_30, MG_0_31, MS_0_31, MR_0_32, MR_0_33, MR_0_34, MR_0_35, MR_0_36, MG_0_37, MS_0_37, MR_0_38, MR_0_39, MA_1, MB_1, MA_2, MB_2, MA_3, MB_3, MA_4, MB_4, MA_5, MB_5, MA_6, MB_6, MA_7, MB_7, MA_8, MB_8, MA_9, MB_9, MA_10, MB_10, MA_11, MB_11, MA_12, MB_12, MA_13, MB_13, MA_14, MB_14, MA_15, MB_15, MA_16, MB_16, MA_17, MB_17, MA_18, MB_18, MA_19, MB_19, MA_20, MB_20, MA_21, MB_21, MA_22, MB_22, MA_23, MB_23, MA_24, MB_24, MA_25, MB_25, MA_26, MB_26, MA_27, MB_27, MA_28, MB_28, MA_29, MB_29, MA_30, MB_30, MA_31, MB_31, MA_32, MB_32, MA_33, MB_33, ifp, ifn, Option.bind_some, n_s, n_le, n_lt, n_eq, l8, l40, l64, g40, u40, u6, u3, u0, mul6, mul3, J_bit, cmp0, b2_0, zR_b, zR_0, zR_1, up2_eq, up2_ne, up2J_eq, up2J_ne, mkv_eq, n_m1]
      · have q2 : A s = true := by simpa using q1
        have q3 : s = to := by rcases q0 with h | h; exact absurd h q1; exact h
        simp (disch := first | assumption | omega | decide) only [J_Mod_measure_51, a0, q2, MO_0, MG_0_0, MS_0_0, MR_0_1, MR_0_2, MR_0_3, MR_0_4, MR_0_5, MR_0_6, MR_0_7, MR_0_8, MR_0_9, MR_0_10, MR_0_11, MR_0_12, MR_0_13, MR_0_14, MR_0_15, MR_0_16, MR_0_17, MR_0_18, MR_0_19, MR_0_20, MR_0_21, MR_0_22, MR_0_23, MR_0_24, MR_0_25, MR_0_26, MG_0_27, MS_0_27, MG_0_28, MS_0_28, MG_0_29, MS_0_29, MG_0_30, MS_0_30, MG_0_31, MS_0_31, MR_0_32, MR_0_33, MR_0_34, MR_0_35, MR_0_36, MG_0_37, MS_0_37, MR_0_38, MR_0_39, MA_1, MB_1, MA_2, MB_2, MA_3, MB_3, MA_4, MB_4, MA_5, MB_5, MA_6, MB_6, MA_7, MB_7, MA_8, MB_8, MA_9, MB_9, MA_10, MB_10, MA_11, MB_11, MA_12, MB_12, MA_13, MB_13, MA_14, MB_14, MA_15, MB_15, MA_16, MB_16, MA_17, MB_17, MA_18, MB_18, MA_19, MB_19, MA_20, MB_20, MA_21, MB_21, MA_22, MB_22, MA_23, MB_23, MA_24, MB_24, MA_25, MB_25, MA_26, MB_26, MA_27, MB_27, MA_28, MB_28, MA_29, MB_29, MA_30, MB_30, MA_31, MB_31, MA_32, MB_32, MA_33, MB_33, ifp, ifn, Option.bind_some, n_s, n_le, n_lt, n_eq, l8, l40, l64, g40, u40, u6, u3, u0, mul6, mul3, J_bit, cmp0, b2_0, zR_b, zR_0, zR_1, up2_eq, up2_ne, up2J_eq, up2J_ne, mkv_eq, n_m1]
    have := key N N'
    rw [← hN'] at this
    exact this
  · have q1 : A s = true := by
      cases e : A s
      · exact absurd (Or.inl e) q0
      · rfl
    have q2 : ¬ s = to := fun h => q0 (Or.inr h)
    have hth := hAt s hs q1
    refine lpx 40 (fun n (st : Int32 × Int32 × Hp) => J_Mod_measure_51 N r34 r42 n b (nI to) st.1 (nI s) st.2.1 st.2.2) (fun k st => ∃ m' fr' P', st = (b2 m', nI k, (z, mH b P' F)) ∧ (∀ o, o ≠ 33 → P' o = P o) ∧ (∀ j, j < 40 → P' 33 j = nI (fr' j)) ∧ PI (Ed V A) to s k f0 fr' m') (fun r => ∃ m' fr' P', r = r42 b (nI to) (b2 m') (nI (s + 1)) (z, mH b P' F) ∧ (∀ o, o ≠ 33 → P' o = P o) ∧ (∀ j, j < 40 → P' 33 j = nI (fr' j)) ∧ PI (Ed V A) to (s + 1) 0 f0 fr' m') ?_ ?_ N (b2 m, nI 0, (z, mH b P F)) (by omega) ⟨m, fr, P, rfl, fun _ _ => rfl, hR, hP⟩
    · rintro n k st hk ⟨m', fr', P', rfl, h1, h2, h3⟩
      have hm' : MV V P' := MV_c hm (fun o ho => h1 o (by rcases ho with h | h | h | h | h | h <;> omega))
      have a1 : P' 20 s = b2 (A s) := by rw [h1 20 (by omega)]; exact a0
      have a2 := p_takes (N := N) (z := z) (b := b) (F := F) hw hm' hs hth hk hN
      have a3 := h2 s hs
      have a4 := h2 k hk
      obtain ⟨g1, g2, g3, g4⟩ := h3
      have c1 := (g1.2 s hs).1
      have c2 := (g1.2 k hk).1
      refine Or.inr ?_
      have stay : (tk V s k = true → fr' s ≤ fr' k + 1) → PI (Ed V A) to s (k + 1) f0 fr' m' := by
        intro hh
        refine ⟨g1, g2, fun h0 => ⟨(g3 h0).1, fun s' t' d1 d2 d3 d4 d5 => ?_⟩, g4⟩
        by_cases q3 : s' = s ∧ t' = k
        · obtain ⟨rfl, rfl⟩ := q3
          have e := (g3 h0).1
          rw [← e _ d1, ← e _ d2]
          exact hh (by simp [Ed] at d5; exact d5.2)
        · exact (g3 h0).2 s' t' d1 d2 (by omega) d4 d5
      cases e : tk V s k
      · refine ⟨(b2 m', nI (k + 1), (z, mH b P' F)), ?_, m', fr', P', rfl, h1, h2, stay (fun h => by rw [e] at h; exact absurd h (by simp))⟩
        simp (disch := first | assumption | omega | decide) only [J_Mod_measure_51, a1, q1, a2, e, MO_0, MG_0_0, MS_0_0, MR_0_1, MR_0_2, MR_0_3, MR_0_4, MR_0_5, MR_0_6, MR_0_7, MR_0_8, MR_0_9, MR_0_10, MR_0_11, MR_0_12, MR_0_13, MR_0_14, MR_0_15, MR_0_16, MR_0_17, MR_0_18, MR_0_19, MR_0_20, MR_0_21, MR_0_22, MR_0_23, MR_0_24, MR_0_25, MR_0_26, MG_0_27, MS_0_27, MG_0_28, MS_0_28, MG_0_29, MS_0_29, MG_0_30, MS_0_30, MG_0_31, MS_0_31, MR_0_32, MR_0_33, MR_0_34, MR_0_35, MR_0_36, MG_0_37, MS_0_37, MR_0_38, MR_0_39, MA_1, MB_1, MA_2, MB_2, MA_3, MB_3, MA_4, MB_4, MA_5, MB_5, MA_6, MB_6, MA_7, MB_7, MA_8, MB_8, MA_9, MB_9, MA_10, MB_10, MA_11, MB_11, MA_12, MB_12, MA_13, MB_13, MA_14, MB_14, MA_15, MB_15, MA_16, MB_16, MA_17, MB_17, MA_18, MB_18, MA_19, MB_19, MA_20, MB_20, MA_21, MB_21, MA_22, MB_22, MA_23, MB_23, MA_24, MB_24, MA_25, MB_25, MA_26, MB_26, MA_27, MB_27, MA_28, MB_28, MA_29, MB_29, MA_30, MB_30, MA_31, MB_31, MA_32, MB_32, MA_33, MB_33, ifp, ifn, Option.bind_some, n_s, n_le, n_lt, n_eq, l8, l40, l64, g40, u40, u6, u3, u0, mul6, mul3, J_bit, cmp0, b2_0, zR_b, zR_0, zR_1, up2_eq, up2_ne, up2J_eq, up2J_ne, mkv_eq, n_m1]
      · by_cases q3 : fr' k + 1 < fr' s
        · refine ⟨(b2 true, nI (k + 1), (z, mH b (up2 P' 33 s (nI (fr' k + 1))) F)), ?_, true, fun j => if j = s then fr' k + 1 else fr' j, _, rfl, fun o ho => by rw [up2_row ho]; exact h1 o ho, fun j hj => ?_, ⟨?_, fun j hj => ?_⟩, fun j hj => ?_, fun h => absurd h (by simp), fun _ => ?_⟩
          · simp (disch := first | assumption | omega | decide) only [J_Mod_measure_51, a1, q1, a2, e, a3, a4, MO_0, MG_0_0, MS_0_0, MR_0_1, MR_0_2, MR_0_3, MR_0_4, MR_0_5, MR_0_6, MR_0_7, MR_0_8, MR_0_9, MR_0_10, MR_0_11, MR_0_12, MR_0_13, MR_0_14, MR_0_15, MR_0_16, MR_0_17, MR_0_18, MR_0_19, MR_0_20, MR_0_21, MR_0_22, MR_0_23, MR_0_24, MR_0_25, MR_0_26, MG_0_27, MS_0_27, MG_0_28, MS_0_28, MG_0_29, MS_0_29, MG_0_30, MS_0_30, MG_0_31, MS_0_31, MR_0_32, MR_0_33, MR_0_34, MR_0_35, MR_0_36, MG_0_37, MS_0_37, MR_0_38, MR_0_39, MA_1, MB_1, MA_2, MB_2, MA_3, MB_3, MA_4, MB_4, MA_5, MB_5, MA_6, MB_6, MA_7, MB_7, MA_8, MB_8, MA_9, MB_9, MA_10, MB_10, MA_11, MB_11, MA_12, MB_12, MA_13, MB_13, MA_14, MB_14, MA_15, MB_15, MA_16, MB_16, MA_17, MB_17, MA_18, MB_18, MA_19, MB_19, MA_20, MB_20, MA_21, MB_21, MA_22, MB_22, MA_23, MB_23, MA_24, MB_24, MA_25, MB_25, MA_26, MB_26, MA_27, MB_27, MA_28, MB_28, MA_29, MB_29, MA_30, MB_30, MA_31, MB_31, MA_32, MB_32, MA_33, MB_33, ifp, ifn, Option.bind_some, n_s, n_le, n_lt, n_eq, l8, l40, l64, g40, u40, u6, u3, u0, mul6, mul3, J_bit, cmp0, b2_0, zR_b, zR_0, zR_1, up2_eq, up2_ne, up2J_eq, up2J_ne, mkv_eq, n_m1]
            rfl
          · by_cases q4 : j = s
            · subst q4; rw [up2_eq]; simp
            · rw [up2_ne (by omega)]; simp only [if_neg q4]; exact h2 j hj
          · simp only [if_neg (fun h : to = s => q2 h.symm)]; exact g1.1
          · by_cases q4 : j = s
            · subst q4
              simp only [if_true]
              refine ⟨by omega, fun _ => wk_s.mpr ⟨k, hk, by simp [Ed, q1, e], (g1.2 k hk).2 (by omega)⟩⟩
            · simp only [if_neg q4]; exact g1.2 j hj
          · have := g2 j hj
            by_cases q4 : j = s
            · subst q4; simp only [if_true]; omega
            · simp only [if_neg q4]; exact this
          · refine sumB_lt s (fun j hj => ?_) hs ?_
            · have := g2 j hj
              by_cases q4 : j = s
              · subst q4; simp only [if_true]; omega
              · simp only [if_neg q4]; exact this
            · have := g2 s hs
              simp only [if_true]; omega
        · refine ⟨(b2 m', nI (k + 1), (z, mH b P' F)), ?_, m', fr', P', rfl, h1, h2, stay (fun _ => by omega)⟩
          simp (disch := first | assumption | omega | decide) only [J_Mod_measure_51, a1, q1, a2, e, a3, a4, MO_0, MG_0_0, MS_0_0, MR_0_1, MR_0_2, MR_0_3, MR_0_4, MR_0_5, MR_0_6, MR_0_7, MR_0_8, MR_0_9, MR_0_10, MR_0_11, MR_0_12, MR_0_13, MR_0_14, MR_0_15, MR_0_16, MR_0_17, MR_0_18, MR_0_19, MR_0_20, MR_0_21, MR_0_22, MR_0_23, MR_0_24, MR_0_25, MR_0_26, MG_0_27, MS_0_27, MG_0_28, MS_0_28, MG_0_29, MS_0_29, MG_0_30, MS_0_30, MG_0_31, MS_0_31, MR_0_32, MR_0_33, MR_0_34, MR_0_35, MR_0_36, MG_0_37, MS_0_37, MR_0_38, MR_0_39, MA_1, MB_1, MA_2, MB_2, MA_3, MB_3, MA_4, MB_4, MA_5, MB_5, MA_6, MB_6, MA_7, MB_7, MA_8, MB_8, MA_9, MB_9, MA_10, MB_10, MA_11, MB_11, MA_12, MB_12, MA_13, MB_13, MA_14, MB_14, MA_15, MB_15, MA_16, MB_16, MA_17, MB_17, MA_18, MB_18, MA_19, MB_19, MA_20, MB_20, MA_21, MB_21, MA_22, MB_22, MA_23, MB_23, MA_24, MB_24, MA_25, MB_25, MA_26, MB_26, MA_27, MB_27, MA_28, MB_28, MA_29, MB_29, MA_30, MB_30, MA_31, MB_31, MA_32, MB_32, MA_33, MB_33, ifp, ifn, Option.bind_some, n_s, n_le, n_lt, n_eq, l8, l40, l64, g40, u40, u6, u3, u0, mul6, mul3, J_bit, cmp0, b2_0, zR_b, zR_0, zR_1, up2_eq, up2_ne, up2J_eq, up2J_ne, mkv_eq, n_m1]
    · rintro n st ⟨m', fr', P', rfl, h1, h2, h3⟩
      refine ⟨m', fr', P', ?_, h1, h2, fin h3⟩
      simp (disch := first | assumption | omega | decide) only [J_Mod_measure_51, MO_0, MG_0_0, MS_0_0, MR_0_1, MR_0_2, MR_0_3, MR_0_4, MR_0_5, MR_0_6, MR_0_7, MR_0_8, MR_0_9, MR_0_10, MR_0_11, MR_0_12, MR_0_13, MR_0_14, MR_0_15, MR_0_16, MR_0_17, MR_0_18, MR_0_19, MR_0_20, MR_0_21, MR_0_22, MR_0_23, MR_0_24, MR_0_25, MR_0_26, MG_0_27, MS_0_27, MG_0_28, MS_0_28, MG_0_29, MS_0_29, MG_0_30, MS_0_30, MG_0_31, MS_0_31, MR_0_32, MR_0_33, MR_0_34, MR_0_35, MR_0_36, MG_0_37, MS_0_37, MR_0_38, MR_0_39, MA_1, MB_1, MA_2, MB_2, MA_3, MB_3, MA_4, MB_4, MA_5, MB_5, MA_6, MB_6, MA_7, MB_7, MA_8, MB_8, MA_9, MB_9, MA_10, MB_10, MA_11, MB_11, MA_12, MB_12, MA_13, MB_13, MA_14, MB_14, MA_15, MB_15, MA_16, MB_16, MA_17, MB_17, MA_18, MB_18, MA_19, MB_19, MA_20, MB_20, MA_21, MB_21, MA_22, MB_22, MA_23, MB_23, MA_24, MB_24, MA_25, MB_25, MA_26, MB_26, MA_27, MB_27, MA_28, MB_28, MA_29, MB_29, MA_30, MB_30, MA_31, MB_31, MA_32, MB_32, MA_33, MB_33, ifp, ifn, Option.bind_some, n_s, n_le, n_lt, n_eq, l8, l40, l64, g40, u40, u6, u3, u0, mul6, mul3, J_bit, cmp0, b2_0, zR_b, zR_0, zR_1, up2_eq, up2_ne, up2J_eq, up2J_ne, mkv_eq, n_m1]
theorem p_ms42 (r34 : Nat → Int32 → Int32 → Hp → Option (Unit × Hp)) {to : Nat} {f0 : Nat → Nat} (hw : VW V) (hm : MV V P) (hA : ∀ s, s < 40 → P 20 s = b2 (A s)) (hAt : ∀ s, s < 40 → A s = true → vth V s = true) (hto : to < 40) (hR : ∀ j, j < 40 → P 33 j = nI (f0 j)) (hG : GI (Ed V A) to f0) (hN : 100 < N) : ∃ m' fr' P', J_Mod_measure_42 N r34 N b (nI to) 0 (nI 0) (z, mH b P F) = r34 b (nI to) (b2 m') (z, mH b P' F) ∧ (∀ o, o ≠ 33 → P' o = P o) ∧ (∀ j, j < 40 → P' 33 j = nI (fr' j)) ∧ PI (Ed V A) to 40 0 f0 fr' m' := by
  refine lpx 40 (fun n (st : Int32 × Int32 × Hp) => J_Mod_measure_42 N r34 n b (nI to) st.1 st.2.1 st.2.2) (fun s st => ∃ m' fr' P', st = (b2 m', nI s, (z, mH b P' F)) ∧ (∀ o, o ≠ 33 → P' o = P o) ∧ (∀ j, j < 40 → P' 33 j = nI (fr' j)) ∧ PI (Ed V A) to s 0 f0 fr' m') (fun r => ∃ m' fr' P', r = r34 b (nI to) (b2 m') (z, mH b P' F) ∧ (∀ o, o ≠ 33 → P' o = P o) ∧ (∀ j, j < 40 → P' 33 j = nI (fr' j)) ∧ PI (Ed V A) to 40 0 f0 fr' m') ?_ ?_ N (0, nI 0, (z, mH b P F)) (by omega) ⟨false, f0, P, rfl, fun _ _ => rfl, hR, hG, fun _ _ => Nat.le_refl _, fun _ => ⟨fun _ _ => rfl, fun s' t' _ _ h => by omega⟩, fun h => absurd h (by simp)⟩
  · rintro n s st hs ⟨m', fr', P', rfl, h1, h2, h3⟩
    have hm' : MV V P' := MV_c hm (fun o ho => h1 o (by rcases ho with h | h | h | h | h | h <;> omega))
    obtain ⟨m2, fr2, P2, e1, e2, e3, e4⟩ := p_ms51 (V := V) (P := P') (A := A) (N := N) (z := z) (b := b) (F := F) r34 (J_Mod_measure_42 N r34 n) hw hm' (fun s hs => by rw [h1 20 (by omega)]; exact hA s hs) hAt hto hs h2 h3 hN
    refine Or.inr ⟨(b2 m2, nI (s + 1), (z, mH b P2 F)), ?_, m2, fr2, P2, rfl, fun o ho => by rw [e2 o ho]; exact h1 o ho, e3, e4⟩
    simp (disch := first | assumption | omega | decide) only [J_Mod_measure_42, MO_0, MG_0_0, MS_0_0, MR_0_1, MR_0_2, MR_0_3, MR_0_4, MR_0_5, MR_0_6, MR_0_7, MR_0_8, MR_0_9, MR_0_10, MR_0_11, MR_0_12, MR_0_13, MR_0_14, MR_0_15, MR_0_16, MR_0_17, MR_0_18, MR_0_19, MR_0_20, MR_0_21, MR_0_22, MR_0_23, MR_0_24, MR_0_25, MR_0_26, MG_0_27, MS_0_27, MG_0_28, MS_0_28, MG_0_29, MS_0_29, MG_0_30, MS_0_30, MG_0_31, MS_0_31, MR_0_32, MR_0_33, MR_0_34, MR_0_35, MR_0_36, MG_0_37, MS_0_37, MR_0_38, MR_0_39, MA_1, MB_1, MA_2, MB_2, MA_3, MB_3, MA_4, MB_4, MA_5, MB_5, MA_6, MB_6, MA_7, MB_7, MA_8, MB_8, MA_9, MB_9, MA_10, MB_10, MA_11, MB_11, MA_12, MB_12, MA_13, MB_13, MA_14, MB_14, MA_15, MB_15, MA_16, MB_16, MA_17, MB_17, MA_18, MB_18, MA_19, MB_19, MA_20, MB_20, MA_21, MB_21, MA_22, MB_22, MA_23, MB_23, MA_24, MB_24, MA_25, MB_25, MA_26, MB_26, MA_27, MB_27, MA_28, MB_28, MA_29, MB_29, MA_30, MB_30, MA_31, MB_31, MA_32, MB_32, MA_33, MB_33, ifp, ifn, Option.bind_some, n_s, n_le, n_lt, n_eq, l8, l40, l64, g40, u40, u6, u3, u0, mul6, mul3, J_bit, cmp0, b2_0, zR_b, zR_0, zR_1, up2_eq, up2_ne, up2J_eq, up2J_ne, mkv_eq, n_m1]
    exact e1
  · rintro n st ⟨m', fr', P', rfl, h1, h2, h3⟩
    refine ⟨m', fr', P', ?_, h1, h2, h3⟩
    simp (disch := first | assumption | omega | decide) only [J_Mod_measure_42, MO_0, MG_0_0, MS_0_0, MR_0_1, MR_0_2, MR_0_3, MR_0_4, MR_0_5, MR_0_6, MR_0_7, MR_0_8, MR_0_9, MR_0_10, MR_0_11, MR_0_12, MR_0_13, MR_0_14, MR_0_15, MR_0_16, MR_0_17, MR_0_18, MR_0_19, MR_0_20, MR_0_21, MR_0_22, MR_0_23, MR_0_24, MR_0_25, MR_0_26, MG_0_27, MS_0_27, MG_0_28, MS_0_28, MG_0_29, MS_0_29, MG_0_30, MS_0_30, MG_0_31, MS_0_31, MR_0_32, MR_0_33, MR_0_34, MR_0_35, MR_0_36, MG_0_37, MS_0_37, MR_0_38, MR_0_39, MA_1, MB_1, MA_2, MB_2, MA_3, MB_3, MA_4, MB_4, MA_5, MB_5, MA_6, MB_6, MA_7, MB_7, MA_8, MB_8, MA_9, MB_9, MA_10, MB_10, MA_11, MB_11, MA_12, MB_12, MA_13, MB_13, MA_14, MB_14, MA_15, MB_15, MA_16, MB_16, MA_17, MB_17, MA_18, MB_18, MA_19, MB_19, MA_20, MB_20, MA_21, MB_21, MA_22, MB_22, MA_23, MB_23, MA_24, MB_24, MA_25, MB_25, MA_26, MB_26, MA_27, MB_27, MA_28, MB_28, MA_29, MB_29, MA_30, MB_30, MA_31, MB_31, MA_32, MB_32, MA_33, MB_33, ifp, ifn, Option.bind_some, n_s, n_le, n_lt, n_eq, l8, l40, l64, g40, u40, u6, u3, u0, mul6, mul3, J_bit, cmp0, b2_0, zR_b, zR_0, zR_1, up2_eq, up2_ne, up2J_eq, up2J_ne, mkv_eq, n_m1]
theorem p_measure {to : Nat} (hw : VW V) (hm : MV V P) (hA : ∀ s, s < 40 → P 20 s = b2 (A s)) (hAt : ∀ s, s < 40 → A s = true → vth V s = true) (hto : to < 40) (hN : 1000000 < N) : ∃ fr P', J_Mod_measure N b (nI to) (z, mH b P F) = some ((), (z, mH b P' F)) ∧ (∀ o, o ≠ 33 → P' o = P o) ∧ (∀ j, j < 40 → P' 33 j = nI (fr j)) ∧ GI (Ed V A) to fr ∧ ∀ s t, s < 40 → t < 40 → s ≠ to → Ed V A s t = true → fr s ≤ fr t + 1 := by
  rw [J_Mod_measure]
  refine lpx 40 (fun n (st : Int32 × Hp) => J_Mod_measure_2 N n b (nI to) st.1 st.2) (fun k st => ∃ P', st = (nI k, (z, mH b P' F)) ∧ (∀ o, o ≠ 33 → P' o = P o) ∧ (∀ j, j < k → P' 33 j = nI (if j = to then 0 else 1000))) (fun r => ∃ fr P', r = some ((), (z, mH b P' F)) ∧ (∀ o, o ≠ 33 → P' o = P o) ∧ (∀ j, j < 40 → P' 33 j = nI (fr j)) ∧ GI (Ed V A) to fr ∧ ∀ s t, s < 40 → t < 40 → s ≠ to → Ed V A s t = true → fr s ≤ fr t + 1) ?_ ?_ N (nI 0, (z, mH b P F)) (by omega) ⟨P, rfl, fun _ _ => rfl, fun j h => by omega⟩
  · rintro n k st hk ⟨P', rfl, h1, h2⟩
    by_cases q : k = to
    · refine Or.inr ⟨(nI (k + 1), (z, mH b (up2 P' 33 k 0) F)), ?_, _, rfl, fun o ho => by rw [up2_row ho]; exact h1 o ho, fun j hj => ?_⟩
      · simp (disch := first | assumption | omega | decide) only [J_Mod_measure_2, MO_0, MG_0_0, MS_0_0, MR_0_1, MR_0_2, MR_0_3, MR_0_4, MR_0_5, MR_0_6, MR_0_7, MR_0_8, MR_0_9, MR_0_10, MR_0_11, MR_0_12, MR_0_13, MR_0_14, MR_0_15, MR_0_16, MR_0_17, MR_0_18, MR_0_19, MR_0_20, MR_0_21, MR_0_22, MR_0_23, MR_0_24, MR_0_25, MR_0_26, MG_0_27, MS_0_27, MG_0_28, MS_0_28, MG_0_29, MS_0_29, MG_0_30, MS_0_30, MG_0_31, MS_0_31, MR_0_32, MR_0_33, MR_0_34, MR_0_35, MR_0_36, MG_0_37, MS_0_37, MR_0_38, MR_0_39, MA_1, MB_1, MA_2, MB_2, MA_3, MB_3, MA_4, MB_4, MA_5, MB_5, MA_6, MB_6, MA_7, MB_7, MA_8, MB_8, MA_9, MB_9, MA_10, MB_10, MA_11, MB_11, MA_12, MB_12, MA_13, MB_13, MA_14, MB_14, MA_15, MB_15, MA_16, MB_16, MA_17, MB_17, MA_18, MB_18, MA_19, MB_19, MA_20, MB_20, MA_21, MB_21, MA_22, MB_22, MA_23, MB_23, MA_24, MB_24, MA_25, MB_25, MA_26, MB_26, MA_27, MB_27, MA_28, MB_28, MA_29, MB_29, MA_30, MB_30, MA_31, MB_31, MA_32, MB_32, MA_33, MB_33, ifp, ifn, Option.bind_some, n_s, n_le, n_lt, n_eq, l8, l40, l64, g40, u40, u6, u3, u0, mul6, mul3, J_bit, cmp0, b2_0, zR_b, zR_0, zR_1, up2_eq, up2_ne, up2J_eq, up2J_ne, mkv_eq, n_m1]
      · by_cases q2 : j = k
        · rw [q2, up2_eq, if_pos q]; rfl
        · rw [up2_ne (by omega)]; exact h2 j (by omega)
    · refine Or.inr ⟨(nI (k + 1), (z, mH b (up2 P' 33 k 1000) F)), ?_, _, rfl, fun o ho => by rw [up2_row ho]; exact h1 o ho, fun j hj => ?_⟩
      · simp (disch := first | assumption | omega | decide) only [J_Mod_measure_2, MO_0, MG_0_0, MS_0_0, MR_0_1, MR_0_2, MR_0_3, MR_0_4, MR_0_5, MR_0_6, MR_0_7, MR_0_8, MR_0_9, MR_0_10, MR_0_11, MR_0_12, MR_0_13, MR_0_14, MR_0_15, MR_0_16, MR_0_17, MR_0_18, MR_0_19, MR_0_20, MR_0_21, MR_0_22, MR_0_23, MR_0_24, MR_0_25, MR_0_26, MG_0_27, MS_0_27, MG_0_28, MS_0_28, MG_0_29, MS_0_29, MG_0_30, MS_0_30, MG_0_31, MS_0_31, MR_0_32, MR_0_33, MR_0_34, MR_0_35, MR_0_36, MG_0_37, MS_0_37, MR_0_38, MR_0_39, MA_1, MB_1, MA_2, MB_2, MA_3, MB_3, MA_4, MB_4, MA_5, MB_5, MA_6, MB_6, MA_7, MB_7, MA_8, MB_8, MA_9, MB_9, MA_10, MB_10, MA_11, MB_11, MA_12, MB_12, MA_13, MB_13, MA_14, MB_14, MA_15, MB_15, MA_16, MB_16, MA_17, MB_17, MA_18, MB_18, MA_19, MB_19, MA_20, MB_20, MA_21, MB_21, MA_22, MB_22, MA_23, MB_23, MA_24, MB_24, MA_25, MB_25, MA_26, MB_26, MA_27, MB_27, MA_28, MB_28, MA_29, MB_29, MA_30, MB_30, MA_31, MB_31, MA_32, MB_32, MA_33, MB_33, ifp, ifn, Option.bind_some, n_s, n_le, n_lt, n_eq, l8, l40, l64, g40, u40, u6, u3, u0, mul6, mul3, J_bit, cmp0, b2_0, zR_b, zR_0, zR_1, up2_eq, up2_ne, up2J_eq, up2J_ne, mkv_eq, n_m1]
      · by_cases q2 : j = k
        · rw [q2, up2_eq, if_neg q]; rfl
        · rw [up2_ne (by omega)]; exact h2 j (by omega)
  · rintro n st ⟨P0, rfl, h1, h2⟩
    have s0 : sumB 40 (fun j => if j = to then 0 else 1000) ≤ 40 * 1000 := sumB_le (fun k _ => by split <;> omega)
    simp (disch := first | assumption | omega | decide) only [J_Mod_measure_2, MO_0, MG_0_0, MS_0_0, MR_0_1, MR_0_2, MR_0_3, MR_0_4, MR_0_5, MR_0_6, MR_0_7, MR_0_8, MR_0_9, MR_0_10, MR_0_11, MR_0_12, MR_0_13, MR_0_14, MR_0_15, MR_0_16, MR_0_17, MR_0_18, MR_0_19, MR_0_20, MR_0_21, MR_0_22, MR_0_23, MR_0_24, MR_0_25, MR_0_26, MG_0_27, MS_0_27, MG_0_28, MS_0_28, MG_0_29, MS_0_29, MG_0_30, MS_0_30, MG_0_31, MS_0_31, MR_0_32, MR_0_33, MR_0_34, MR_0_35, MR_0_36, MG_0_37, MS_0_37, MR_0_38, MR_0_39, MA_1, MB_1, MA_2, MB_2, MA_3, MB_3, MA_4, MB_4, MA_5, MB_5, MA_6, MB_6, MA_7, MB_7, MA_8, MB_8, MA_9, MB_9, MA_10, MB_10, MA_11, MB_11, MA_12, MB_12, MA_13, MB_13, MA_14, MB_14, MA_15, MB_15, MA_16, MB_16, MA_17, MB_17, MA_18, MB_18, MA_19, MB_19, MA_20, MB_20, MA_21, MB_21, MA_22, MB_22, MA_23, MB_23, MA_24, MB_24, MA_25, MB_25, MA_26, MB_26, MA_27, MB_27, MA_28, MB_28, MA_29, MB_29, MA_30, MB_30, MA_31, MB_31, MA_32, MB_32, MA_33, MB_33, ifp, ifn, Option.bind_some, n_s, n_le, n_lt, n_eq, l8, l40, l64, g40, u40, u6, u3, u0, mul6, mul3, J_bit, cmp0, b2_0, zR_b, zR_0, zR_1, up2_eq, up2_ne, up2J_eq, up2J_ne, mkv_eq, n_m1]
    refine lpx 40001 (fun n (st : Int32 × Hp) => J_Mod_measure_34 N n b (nI to) st.1 st.2) (fun p st => ∃ m fr P', st = (b2 m, (z, mH b P' F)) ∧ (∀ o, o ≠ 33 → P' o = P o) ∧ (∀ j, j < 40 → P' 33 j = nI (fr j)) ∧ GI (Ed V A) to fr ∧ (m = false → ∀ s t, s < 40 → t < 40 → s ≠ to → Ed V A s t = true → fr s ≤ fr t + 1) ∧ (m = true → sumB 40 fr + p ≤ 40000)) (fun r => ∃ fr P', r = some ((), (z, mH b P' F)) ∧ (∀ o, o ≠ 33 → P' o = P o) ∧ (∀ j, j < 40 → P' 33 j = nI (fr j)) ∧ GI (Ed V A) to fr ∧ ∀ s t, s < 40 → t < 40 → s ≠ to → Ed V A s t = true → fr s ≤ fr t + 1) ?_ ?_ N (1, (z, mH b P0 F)) (by omega) ⟨true, fun j => if j = to then 0 else 1000, P0, rfl, h1, h2, ⟨by simp, fun s hs => ?_⟩, fun h => absurd h (by simp), fun _ => by omega⟩
    · rintro n p st hp ⟨m, fr, P', rfl, k1, k2, k3, k4, k5⟩
      cases m
      · refine Or.inl ⟨fr, P', ?_, k1, k2, k3, k4 rfl⟩
        simp (disch := first | assumption | omega | decide) only [J_Mod_measure_34, b2_f, MO_0, MG_0_0, MS_0_0, MR_0_1, MR_0_2, MR_0_3, MR_0_4, MR_0_5, MR_0_6, MR_0_7, MR_0_8, MR_0_9, MR_0_10, MR_0_11, MR_0_12, MR_0_13, MR_0_14, MR_0_15, MR_0_16, MR_0_17, MR_0_18, MR_0_19, MR_0_20, MR_0_21, MR_0_22, MR_0_23, MR_0_24, MR_0_25, MR_0_26, MG_0_27, MS_0_27, MG_0_28, MS_0_28, MG_0_29, MS_0_29, MG_0_30, MS_0_30, MG_0_31, MS_0_31, MR_0_32, MR_0_33, MR_0_34, MR_0_35, MR_0_36, MG_0_37, MS_0_37, MR_0_38, MR_0_39, MA_1, MB_1, MA_2, MB_2, MA_3, MB_3, MA_4, MB_4, MA_5, MB_5, MA_6, MB_6, MA_7, MB_7, MA_8, MB_8, MA_9, MB_9, MA_10, MB_10, MA_11, MB_11, MA_12, MB_12, MA_13, MB_13, MA_14, MB_14, MA_15, MB_15, MA_16, MB_16, MA_17, MB_17, MA_18, MB_18, MA_19, MB_19, MA_20, MB_20, MA_21, MB_21, MA_22, MB_22, MA_23, MB_23, MA_24, MB_24, MA_25, MB_25, MA_26, MB_26, MA_27, MB_27, MA_28, MB_28, MA_29, MB_29, MA_30, MB_30, MA_31, MB_31, MA_32, MB_32, MA_33, MB_33, ifp, ifn, Option.bind_some, n_s, n_le, n_lt, n_eq, l8, l40, l64, g40, u40, u6, u3, u0, mul6, mul3, J_bit, cmp0, b2_0, zR_b, zR_0, zR_1, up2_eq, up2_ne, up2J_eq, up2J_ne, mkv_eq, n_m1]
      · have hm' : MV V P' := MV_c hm (fun o ho => k1 o (by rcases ho with h | h | h | h | h | h <;> omega))
        obtain ⟨m2, fr2, P2, e1, e2, e3, e4, e5, e6, e7⟩ := p_ms42 (V := V) (P := P') (A := A) (N := N) (z := z) (b := b) (F := F) (J_Mod_measure_34 N n) hw hm' (fun s hs => by rw [k1 20 (by omega)]; exact hA s hs) hAt hto k2 k3 (by omega)
        refine Or.inr ⟨(b2 m2, (z, mH b P2 F)), ?_, m2, fr2, P2, rfl, fun o ho => by rw [e2 o ho]; exact k1 o ho, e3, e4, fun h s t hs ht hst hE => ?_, fun h => ?_⟩
        · simp (disch := first | assumption | omega | decide) only [J_Mod_measure_34, b2_t, MO_0, MG_0_0, MS_0_0, MR_0_1, MR_0_2, MR_0_3, MR_0_4, MR_0_5, MR_0_6, MR_0_7, MR_0_8, MR_0_9, MR_0_10, MR_0_11, MR_0_12, MR_0_13, MR_0_14, MR_0_15, MR_0_16, MR_0_17, MR_0_18, MR_0_19, MR_0_20, MR_0_21, MR_0_22, MR_0_23, MR_0_24, MR_0_25, MR_0_26, MG_0_27, MS_0_27, MG_0_28, MS_0_28, MG_0_29, MS_0_29, MG_0_30, MS_0_30, MG_0_31, MS_0_31, MR_0_32, MR_0_33, MR_0_34, MR_0_35, MR_0_36, MG_0_37, MS_0_37, MR_0_38, MR_0_39, MA_1, MB_1, MA_2, MB_2, MA_3, MB_3, MA_4, MB_4, MA_5, MB_5, MA_6, MB_6, MA_7, MB_7, MA_8, MB_8, MA_9, MB_9, MA_10, MB_10, MA_11, MB_11, MA_12, MB_12, MA_13, MB_13, MA_14, MB_14, MA_15, MB_15, MA_16, MB_16, MA_17, MB_17, MA_18, MB_18, MA_19, MB_19, MA_20, MB_20, MA_21, MB_21, MA_22, MB_22, MA_23, MB_23, MA_24, MB_24, MA_25, MB_25, MA_26, MB_26, MA_27, MB_27, MA_28, MB_28, MA_29, MB_29, MA_30, MB_30, MA_31, MB_31, MA_32, MB_32, MA_33, MB_33, ifp, ifn, Option.bind_some, n_s, n_le, n_lt, n_eq, l8, l40, l64, g40, u40, u6, u3, u0, mul6, mul3, J_bit, cmp0, b2_0, zR_b, zR_0, zR_1, up2_eq, up2_ne, up2J_eq, up2J_ne, mkv_eq, n_m1]
          exact e1
        · obtain ⟨c1, c2⟩ := e6 h
          rw [c1 s hs, c1 t ht]
          exact c2 s t hs ht (by omega) hst hE
        · have := k5 rfl
          have := e7 h
          omega
    · rintro n st ⟨m, fr, P', rfl, k1, k2, k3, k4, k5⟩
      cases m
      · refine ⟨fr, P', ?_, k1, k2, k3, k4 rfl⟩
        simp (disch := first | assumption | omega | decide) only [J_Mod_measure_34, b2_f, MO_0, MG_0_0, MS_0_0, MR_0_1, MR_0_2, MR_0_3, MR_0_4, MR_0_5, MR_0_6, MR_0_7, MR_0_8, MR_0_9, MR_0_10, MR_0_11, MR_0_12, MR_0_13, MR_0_14, MR_0_15, MR_0_16, MR_0_17, MR_0_18, MR_0_19, MR_0_20, MR_0_21, MR_0_22, MR_0_23, MR_0_24, MR_0_25, MR_0_26, MG_0_27, MS_0_27, MG_0_28, MS_0_28, MG_0_29, MS_0_29, MG_0_30, MS_0_30, MG_0_31, MS_0_31, MR_0_32, MR_0_33, MR_0_34, MR_0_35, MR_0_36, MG_0_37, MS_0_37, MR_0_38, MR_0_39, MA_1, MB_1, MA_2, MB_2, MA_3, MB_3, MA_4, MB_4, MA_5, MB_5, MA_6, MB_6, MA_7, MB_7, MA_8, MB_8, MA_9, MB_9, MA_10, MB_10, MA_11, MB_11, MA_12, MB_12, MA_13, MB_13, MA_14, MB_14, MA_15, MB_15, MA_16, MB_16, MA_17, MB_17, MA_18, MB_18, MA_19, MB_19, MA_20, MB_20, MA_21, MB_21, MA_22, MB_22, MA_23, MB_23, MA_24, MB_24, MA_25, MB_25, MA_26, MB_26, MA_27, MB_27, MA_28, MB_28, MA_29, MB_29, MA_30, MB_30, MA_31, MB_31, MA_32, MB_32, MA_33, MB_33, ifp, ifn, Option.bind_some, n_s, n_le, n_lt, n_eq, l8, l40, l64, g40, u40, u6, u3, u0, mul6, mul3, J_bit, cmp0, b2_0, zR_b, zR_0, zR_1, up2_eq, up2_ne, up2J_eq, up2J_ne, mkv_eq, n_m1]
      · have := k5 rfl
        omega
    · by_cases q : s = to
      · simp only [if_pos q]; exact ⟨by omega, fun _ => wk_0.mpr q⟩
      · simp only [if_neg q]; exact ⟨by omega, fun h => by omega⟩
theorem p_nearest {fr : Nat → Nat} (hw : VW V) (hm : MV V P) (hs : s < 40) (hth : vth V s = true) (hR : ∀ j, j < 40 → P 33 j = nI (fr j) ∧ fr j ≤ 1000) (hN : 100 < N) : J_Mod_nearest N b (nI s) (z, mH b P F) = some (mkv (nr (fun t => tk V s t && decide (fr t < 1000)) fr 40), (z, mH b P F)) := by
  rw [J_Mod_nearest]
  refine lpx 40 (fun n (st : Int32 × Int32) => J_Mod_nearest_4 N n b (nI s) st.1 st.2 (z, mH b P F)) (fun k st => st = (mkv (nr (fun t => tk V s t && decide (fr t < 1000)) fr k), nI k)) (fun c => c = some (mkv (nr (fun t => tk V s t && decide (fr t < 1000)) fr 40), (z, mH b P F))) ?_ ?_ N (-1, nI 0) (by omega) rfl
  · rintro n k st hk rfl
    have a1 := p_takes (N := N) (z := z) (b := b) (F := F) hw hm hs hth hk hN
    obtain ⟨a2, a3⟩ := hR k hk
    have a4 : ((1000 : Int32) ≤ nI (fr k)) = (1000 ≤ fr k) := n_le (a := 1000) (by decide) (by omega)
    refine Or.inr ⟨_, ?_, rfl⟩
    cases e : tk V s k
    · have e2 : nr (fun t => tk V s t && decide (fr t < 1000)) fr (k + 1) = nr (fun t => tk V s t && decide (fr t < 1000)) fr k := by rw [nr, if_neg (by simp [e])]
      simp (disch := first | assumption | omega | decide) only [J_Mod_nearest_4, a1, e, e2, MO_0, MG_0_0, MS_0_0, MR_0_1, MR_0_2, MR_0_3, MR_0_4, MR_0_5, MR_0_6, MR_0_7, MR_0_8, MR_0_9, MR_0_10, MR_0_11, MR_0_12, MR_0_13, MR_0_14, MR_0_15, MR_0_16, MR_0_17, MR_0_18, MR_0_19, MR_0_20, MR_0_21, MR_0_22, MR_0_23, MR_0_24, MR_0_25, MR_0_26, MG_0_27, MS_0_27, MG_0_28, MS_0_28, MG_0_29, MS_0_29, MG_0_30, MS_0_30, MG_0_31, MS_0_31, MR_0_32, MR_0_33, MR_0_34, MR_0_35, MR_0_36, MG_0_37, MS_0_37, MR_0_38, MR_0_39, MA_1, MB_1, MA_2, MB_2, MA_3, MB_3, MA_4, MB_4, MA_5, MB_5, MA_6, MB_6, MA_7, MB_7, MA_8, MB_8, MA_9, MB_9, MA_10, MB_10, MA_11, MB_11, MA_12, MB_12, MA_13, MB_13, MA_14, MB_14, MA_15, MB_15, MA_16, MB_16, MA_17, MB_17, MA_18, MB_18, MA_19, MB_19, MA_20, MB_20, MA_21, MB_21, MA_22, MB_22, MA_23, MB_23, MA_24, MB_24, MA_25, MB_25, MA_26, MB_26, MA_27, MB_27, MA_28, MB_28, MA_29, MB_29, MA_30, MB_30, MA_31, MB_31, MA_32, MB_32, MA_33, MB_33, ifp, ifn, Option.bind_some, n_s, n_le, n_lt, n_eq, l8, l40, l64, g40, u40, u6, u3, u0, mul6, mul3, J_bit, cmp0, b2_0, zR_b, zR_0, zR_1, up2_eq, up2_ne, up2J_eq, up2J_ne, mkv_eq, n_m1]
    · by_cases q : 1000 ≤ fr k
      · have e2 : nr (fun t => tk V s t && decide (fr t < 1000)) fr (k + 1) = nr (fun t => tk V s t && decide (fr t < 1000)) fr k := by rw [nr, if_neg (by simp; omega)]
        simp (disch := first | assumption | omega | decide) only [J_Mod_nearest_4, a1, e, e2, a2, a4, MO_0, MG_0_0, MS_0_0, MR_0_1, MR_0_2, MR_0_3, MR_0_4, MR_0_5, MR_0_6, MR_0_7, MR_0_8, MR_0_9, MR_0_10, MR_0_11, MR_0_12, MR_0_13, MR_0_14, MR_0_15, MR_0_16, MR_0_17, MR_0_18, MR_0_19, MR_0_20, MR_0_21, MR_0_22, MR_0_23, MR_0_24, MR_0_25, MR_0_26, MG_0_27, MS_0_27, MG_0_28, MS_0_28, MG_0_29, MS_0_29, MG_0_30, MS_0_30, MG_0_31, MS_0_31, MR_0_32, MR_0_33, MR_0_34, MR_0_35, MR_0_36, MG_0_37, MS_0_37, MR_0_38, MR_0_39, MA_1, MB_1, MA_2, MB_2, MA_3, MB_3, MA_4, MB_4, MA_5, MB_5, MA_6, MB_6, MA_7, MB_7, MA_8, MB_8, MA_9, MB_9, MA_10, MB_10, MA_11, MB_11, MA_12, MB_12, MA_13, MB_13, MA_14, MB_14, MA_15, MB_15, MA_16, MB_16, MA_17, MB_17, MA_18, MB_18, MA_19, MB_19, MA_20, MB_20, MA_21, MB_21, MA_22, MB_22, MA_23, MB_23, MA_24, MB_24, MA_25, MB_25, MA_26, MB_26, MA_27, MB_27, MA_28, MB_28, MA_29, MB_29, MA_30, MB_30, MA_31, MB_31, MA_32, MB_32, MA_33, MB_33, ifp, ifn, Option.bind_some, n_s, n_le, n_lt, n_eq, l8, l40, l64, g40, u40, u6, u3, u0, mul6, mul3, J_bit, cmp0, b2_0, zR_b, zR_0, zR_1, up2_eq, up2_ne, up2J_eq, up2J_ne, mkv_eq, n_m1]
      · have hp : (tk V s k && decide (fr k < 1000)) = true := by simp [e]; omega
        have hmk : mkv k = nI k := mkv_n hk
        rcases nr_s (p := fun t => tk V s t && decide (fr t < 1000)) (fr := fr) (n := k) (by omega) with ⟨h1, h2⟩ | ⟨h1, h2, h3, h4⟩
        · have e2 : nr (fun t => tk V s t && decide (fr t < 1000)) fr (k + 1) = k := by rw [nr, if_pos ⟨hp, Or.inl h1⟩]
          have h1' : mkv (nr (fun t => tk V s t && decide (fr t < 1000)) fr k) = -1 := by rw [h1]; rfl
          simp (disch := first | assumption | omega | decide) only [J_Mod_nearest_4, J_Mod_nearest_51, a1, e, e2, a2, a4, h1', hmk, MO_0, MG_0_0, MS_0_0, MR_0_1, MR_0_2, MR_0_3, MR_0_4, MR_0_5, MR_0_6, MR_0_7, MR_0_8, MR_0_9, MR_0_10, MR_0_11, MR_0_12, MR_0_13, MR_0_14, MR_0_15, MR_0_16, MR_0_17, MR_0_18, MR_0_19, MR_0_20, MR_0_21, MR_0_22, MR_0_23, MR_0_24, MR_0_25, MR_0_26, MG_0_27, MS_0_27, MG_0_28, MS_0_28, MG_0_29, MS_0_29, MG_0_30, MS_0_30, MG_0_31, MS_0_31, MR_0_32, MR_0_33, MR_0_34, MR_0_35, MR_0_36, MG_0_37, MS_0_37, MR_0_38, MR_0_39, MA_1, MB_1, MA_2, MB_2, MA_3, MB_3, MA_4, MB_4, MA_5, MB_5, MA_6, MB_6, MA_7, MB_7, MA_8, MB_8, MA_9, MB_9, MA_10, MB_10, MA_11, MB_11, MA_12, MB_12, MA_13, MB_13, MA_14, MB_14, MA_15, MB_15, MA_16, MB_16, MA_17, MB_17, MA_18, MB_18, MA_19, MB_19, MA_20, MB_20, MA_21, MB_21, MA_22, MB_22, MA_23, MB_23, MA_24, MB_24, MA_25, MB_25, MA_26, MB_26, MA_27, MB_27, MA_28, MB_28, MA_29, MB_29, MA_30, MB_30, MA_31, MB_31, MA_32, MB_32, MA_33, MB_33, ifp, ifn, Option.bind_some, n_s, n_le, n_lt, n_eq, l8, l40, l64, g40, u40, u6, u3, u0, mul6, mul3, J_bit, cmp0, b2_0, zR_b, zR_0, zR_1, up2_eq, up2_ne, up2J_eq, up2J_ne, mkv_eq, n_m1]
        · obtain ⟨b1, b2'⟩ := hR _ (show nr (fun t => tk V s t && decide (fr t < 1000)) fr k < 40 by omega)
          have h1' : mkv (nr (fun t => tk V s t && decide (fr t < 1000)) fr k) = nI (nr (fun t => tk V s t && decide (fr t < 1000)) fr k) := mkv_n (by omega)
          by_cases q2 : fr k < fr (nr (fun t => tk V s t && decide (fr t < 1000)) fr k)
          · have e2 : nr (fun t => tk V s t && decide (fr t < 1000)) fr (k + 1) = k := by rw [nr, if_pos ⟨hp, Or.inr q2⟩]
            simp (disch := first | assumption | omega | decide) only [J_Mod_nearest_4, J_Mod_nearest_51, a1, e, e2, a2, a4, h1', hmk, b1, MO_0, MG_0_0, MS_0_0, MR_0_1, MR_0_2, MR_0_3, MR_0_4, MR_0_5, MR_0_6, MR_0_7, MR_0_8, MR_0_9, MR_0_10, MR_0_11, MR_0_12, MR_0_13, MR_0_14, MR_0_15, MR_0_16, MR_0_17, MR_0_18, MR_0_19, MR_0_20, MR_0_21, MR_0_22, MR_0_23, MR_0_24, MR_0_25, MR_0_26, MG_0_27, MS_0_27, MG_0_28, MS_0_28, MG_0_29, MS_0_29, MG_0_30, MS_0_30, MG_0_31, MS_0_31, MR_0_32, MR_0_33, MR_0_34, MR_0_35, MR_0_36, MG_0_37, MS_0_37, MR_0_38, MR_0_39, MA_1, MB_1, MA_2, MB_2, MA_3, MB_3, MA_4, MB_4, MA_5, MB_5, MA_6, MB_6, MA_7, MB_7, MA_8, MB_8, MA_9, MB_9, MA_10, MB_10, MA_11, MB_11, MA_12, MB_12, MA_13, MB_13, MA_14, MB_14, MA_15, MB_15, MA_16, MB_16, MA_17, MB_17, MA_18, MB_18, MA_19, MB_19, MA_20, MB_20, MA_21, MB_21, MA_22, MB_22, MA_23, MB_23, MA_24, MB_24, MA_25, MB_25, MA_26, MB_26, MA_27, MB_27, MA_28, MB_28, MA_29, MB_29, MA_30, MB_30, MA_31, MB_31, MA_32, MB_32, MA_33, MB_33, ifp, ifn, Option.bind_some, n_s, n_le, n_lt, n_eq, l8, l40, l64, g40, u40, u6, u3, u0, mul6, mul3, J_bit, cmp0, b2_0, zR_b, zR_0, zR_1, up2_eq, up2_ne, up2J_eq, up2J_ne, mkv_eq, n_m1]
          · have e2 : nr (fun t => tk V s t && decide (fr t < 1000)) fr (k + 1) = nr (fun t => tk V s t && decide (fr t < 1000)) fr k := by rw [nr, if_neg (by rintro ⟨_, h | h⟩ <;> omega)]
            simp (disch := first | assumption | omega | decide) only [J_Mod_nearest_4, J_Mod_nearest_51, a1, e, e2, a2, a4, h1', b1, MO_0, MG_0_0, MS_0_0, MR_0_1, MR_0_2, MR_0_3, MR_0_4, MR_0_5, MR_0_6, MR_0_7, MR_0_8, MR_0_9, MR_0_10, MR_0_11, MR_0_12, MR_0_13, MR_0_14, MR_0_15, MR_0_16, MR_0_17, MR_0_18, MR_0_19, MR_0_20, MR_0_21, MR_0_22, MR_0_23, MR_0_24, MR_0_25, MR_0_26, MG_0_27, MS_0_27, MG_0_28, MS_0_28, MG_0_29, MS_0_29, MG_0_30, MS_0_30, MG_0_31, MS_0_31, MR_0_32, MR_0_33, MR_0_34, MR_0_35, MR_0_36, MG_0_37, MS_0_37, MR_0_38, MR_0_39, MA_1, MB_1, MA_2, MB_2, MA_3, MB_3, MA_4, MB_4, MA_5, MB_5, MA_6, MB_6, MA_7, MB_7, MA_8, MB_8, MA_9, MB_9, MA_10, MB_10, MA_11, MB_11, MA_12, MB_12, MA_13, MB_13, MA_14, MB_14, MA_15, MB_15, MA_16, MB_16, MA_17, MB_17, MA_18, MB_18, MA_19, MB_19, MA_20, MB_20, MA_21, MB_21, MA_22, MB_22, MA_23, MB_23, MA_24, MB_24, MA_25, MB_25, MA_26, MB_26, MA_27, MB_27, MA_28, MB_28, MA_29, MB_29, MA_30, MB_30, MA_31, MB_31, MA_32, MB_32, MA_33, MB_33, ifp, ifn, Option.bind_some, n_s, n_le, n_lt, n_eq, l8, l40, l64, g40, u40, u6, u3, u0, mul6, mul3, J_bit, cmp0, b2_0, zR_b, zR_0, zR_1, up2_eq, up2_ne, up2J_eq, up2J_ne, mkv_eq, n_m1]
  · rintro n st rfl
    simp (disch := first | assumption | omega | decide) only [J_Mod_nearest_4, MO_0, MG_0_0, MS_0_0, MR_0_1, MR_0_2, MR_0_3, MR_0_4, MR_0_5, MR_0_6, MR_0_7, MR_0_8, MR_0_9, MR_0_10, MR_0_11, MR_0_12, MR_0_13, MR_0_14, MR_0_15, MR_0_16, MR_0_17, MR_0_18, MR_0_19, MR_0_20, MR_0_21, MR_0_22, MR_0_23, MR_0_24, MR_0_25, MR_0_26, MG_0_27, MS_0_27, MG_0_28, MS_0_28, MG_0_29, MS_0_29, MG_0_30, MS_0_30, MG_0_31, MS_0_31, MR_0_32, MR_0_33, MR_0_34, MR_0_35, MR_0_36, MG_0_37, MS_0_37, MR_0_38, MR_0_39, MA_1, MB_1, MA_2, MB_2, MA_3, MB_3, MA_4, MB_4, MA_5, MB_5, MA_6, MB_6, MA_7, MB_7, MA_8, MB_8, MA_9, MB_9, MA_10, MB_10, MA_11, MB_11, MA_12, MB_12, MA_13, MB_13, MA_14, MB_14, MA_15, MB_15, MA_16, MB_16, MA_17, MB_17, MA_18, MB_18, MA_19, MB_19, MA_20, MB_20, MA_21, MB_21, MA_22, MB_22, MA_23, MB_23, MA_24, MB_24, MA_25, MB_25, MA_26, MB_26, MA_27, MB_27, MA_28, MB_28, MA_29, MB_29, MA_30, MB_30, MA_31, MB_31, MA_32, MB_32, MA_33, MB_33, ifp, ifn, Option.bind_some, n_s, n_le, n_lt, n_eq, l8, l40, l64, g40, u40, u6, u3, u0, mul6, mul3, J_bit, cmp0, b2_0, zR_b, zR_0, zR_1, up2_eq, up2_ne, up2J_eq, up2J_ne, mkv_eq, n_m1]
end MR
