section MO
variable {V : Vw} {z b N s t : Nat} {P : Nat → Nat → Int32} {F : Nat → Option HE} {A R D : Nat → Bool} {ps Rc : Nat → Nat}
def QI (V : Vw) (A : Nat → Bool) (Rc : Nat → Nat) (s k : Nat) (f0 rk : Nat → Nat) (m : Bool) : Prop := (∀ j, j < 40 → A j = true → vdu V j ≤ rk j ∧ rk j ≤ Rc j) ∧ (∀ j, j < 40 → A j = false → rk j = 0) ∧ (∀ j, j < 40 → f0 j ≤ rk j) ∧ (m = false → (∀ j, j < 40 → rk j = f0 j) ∧ ∀ s' t', s' < 40 → t' < 40 → (s' < s ∨ (s' = s ∧ t' < k)) → A s' = true → A t' = true → tk V t' s' = true → f0 t' + vdu V s' ≤ f0 s') ∧ (m = true → sumB 40 f0 < sumB 40 rk)
theorem p_or57 (r41 : Nat → Int32 → Hp → Option (Unit × Hp)) (r49 : Nat → Int32 → Int32 → Hp → Option (Unit × Hp)) {f0 rk : Nat → Nat} {m : Bool} (hw : VW V) (hm : MV V P) (hA : ∀ s, s < 40 → P 20 s = b2 (A s)) (hAt : ∀ s, s < 40 → A s = true → vth V s = true) (hs : s < 40) (hRc : ∀ s, s < 40 → Rc s ≤ 4100) (hsup : ∀ s t, s < 40 → t < 40 → A t = true → tk V t s = true → Rc t + vdu V s ≤ Rc s) (hR : ∀ j, j < 40 → P 21 j = nI (rk j)) (hP : QI V A Rc s 0 f0 rk m) (hN : 100 < N) : ∃ m' rk' P', J_Mod_order_57 N r41 r49 N b (b2 m) (nI s) (nI 0) (z, mH b P F) = r49 b (b2 m') (nI (s + 1)) (z, mH b P' F) ∧ (∀ o, o ≠ 21 → P' o = P o) ∧ (∀ j, j < 40 → P' 21 j = nI (rk' j)) ∧ QI V A Rc (s + 1) 0 f0 rk' m' := by
  have fin : ∀ {m rk}, QI V A Rc s 40 f0 rk m → QI V A Rc (s + 1) 0 f0 rk m := by
    rintro m rk ⟨g1, g2, g3, g4, g5⟩
    exact ⟨g1, g2, g3, fun h => ⟨(g4 h).1, fun s' t' h1 h2 h3 => (g4 h).2 s' t' h1 h2 (by omega)⟩, g5⟩
  have a0 := hA s hs
  cases q1 : A s
  · refine ⟨m, rk, P, ?_, fun _ _ => rfl, hR, ?_⟩
    · obtain ⟨N', hN'⟩ : ∃ N', N = N' + 1 := ⟨N - 1, by omega⟩
      have key : ∀ M n, J_Mod_order_57 M r41 r49 (n + 1) b (b2 m) (nI s) (nI 0) (z, mH b P F) = r49 b (b2 m) (nI (s + 1)) (z, mH b P F) := by
        intro M n
        simp (disch := first | assumption | omega | decide) only [J_Mod_order_57, a0, q1, MO_0, MG_0_0, MS_0_0, MR_0_1, MR_0_2, MR_0_3, MR_0_4, MR_0_5, MR_0_6, MR_0_7, MR_0_8, MR_0_9, MR_0_10, MR_0_11, MR_0_12, MR_0_13, MR_0_14, MR_0_15, MR_0_16, MR_0_17, MR_0_18, MR_0_19, MR_0_20, MR_0_21, MR_0_22, MR_0_23, MR_0_24, MR_0_25, MR_0_26, MG_0_27, MS_0_27, MG_0_28, MS_0_28, MG_0_29, MS_0_29, MG_0_30, MS_0_30, MG_0_31, MS_0_31, MR_0_32, MR_0_33, MR_0_34, MR_0_35, MR_0_36, MG_0_37, MS_0_37, MR_0_38, MR_0_39, MA_1, MB_1, MA_2, MB_2, MA_3, MB_3, MA_4, MB_4, MA_5, MB_5, MA_6, MB_6, MA_7, MB_7, MA_8, MB_8, MA_9, MB_9, MA_10, MB_10, MA_11, MB_11, MA_12, MB_12, MA_13, MB_13, MA_14, MB_14, MA_15, MB_15, MA_16, MB_16, MA_17, MB_17, MA_18, MB_18, MA_19, MB_19, MA_20, MB_20, MA_21, MB_21, MA_22, MB_22, MA_23, MB_23, MA_24, MB_24, MA_25, MB_25, MA_26, MB_26, MA_27, MB_27, MA_28, MB_28, MA_29, MB_29, MA_30, MB_30, MA_31, MB_31, MA_32, MB_32, MA_33, MB_33, ifp, ifn, Option.bind_some, n_s, n_le, n_lt, n_eq, l8, l40, l64, g40, u40, u6, u3, u0, mul6, mul3, J_bit, cmp0, b2_0, zR_b, zR_0, zR_1, up2_eq, up2_ne, up2J_eq, up2J_ne, mkv_eq, n_m1]
      have := key N N'
      rw [← hN'] at this
      exact this
    · obtain ⟨g1, g2, g3, g4, g5⟩ := hP
      refine ⟨g1, g2, g3, fun h => ⟨(g4 h).1, fun s' t' h1 h2 h3 h4 => ?_⟩, g5⟩
      by_cases q : s' = s
      · subst q; rw [q1] at h4; exact absurd h4 (by simp)
      · exact (g4 h).2 s' t' h1 h2 (by omega) h4
  · refine lpx 40 (fun n (st : Int32 × Int32 × Hp) => J_Mod_order_57 N r41 r49 n b st.1 (nI s) st.2.1 st.2.2) (fun k st => ∃ m' rk' P', st = (b2 m', nI k, (z, mH b P' F)) ∧ (∀ o, o ≠ 21 → P' o = P o) ∧ (∀ j, j < 40 → P' 21 j = nI (rk' j)) ∧ QI V A Rc s k f0 rk' m') (fun r => ∃ m' rk' P', r = r49 b (b2 m') (nI (s + 1)) (z, mH b P' F) ∧ (∀ o, o ≠ 21 → P' o = P o) ∧ (∀ j, j < 40 → P' 21 j = nI (rk' j)) ∧ QI V A Rc (s + 1) 0 f0 rk' m') ?_ ?_ N (b2 m, nI 0, (z, mH b P F)) (by omega) ⟨m, rk, P, rfl, fun _ _ => rfl, hR, hP⟩
    · rintro n k st hk ⟨m', rk', P', rfl, h1, h2, h3⟩
      have hm' : MV V P' := MV_c hm (fun o ho => h1 o (by rcases ho with h | h | h | h | h | h <;> omega))
      have a1 : P' 20 s = b2 (A s) := by rw [h1 20 (by omega)]; exact a0
      have a2 : P' 20 k = b2 (A k) := by rw [h1 20 (by omega)]; exact hA k hk
      have a3 := h2 s hs
      have a4 := h2 k hk
      have a5 := hm'.2.2.2.2 s hs
      have a6 := hw.1 s hs
      obtain ⟨g1, g2, g3, g4, g5⟩ := h3
      have c1 := hRc s hs
      have c2 := hRc k hk
      have c3 := g1 s hs q1
      refine Or.inr ?_
      have stay : (A k = true → tk V k s = true → rk' k + vdu V s ≤ rk' s) → QI V A Rc s (k + 1) f0 rk' m' := by
        intro hh
        refine ⟨g1, g2, g3, fun h0 => ⟨(g4 h0).1, fun s' t' d1 d2 d3 d4 d5 d6 => ?_⟩, g5⟩
        by_cases q3 : s' = s ∧ t' = k
        · obtain ⟨rfl, rfl⟩ := q3
          have e := (g4 h0).1
          rw [← e _ d1, ← e _ d2]
          exact hh d5 d6
        · exact (g4 h0).2 s' t' d1 d2 (by omega) d4 d5 d6
      cases e0 : A k
      · refine ⟨(b2 m', nI (k + 1), (z, mH b P' F)), ?_, m', rk', P', rfl, h1, h2, stay (fun h => by rw [e0] at h; exact absurd h (by simp))⟩
        simp (disch := first | assumption | omega | decide) only [J_Mod_order_57, a1, q1, a2, e0, MO_0, MG_0_0, MS_0_0, MR_0_1, MR_0_2, MR_0_3, MR_0_4, MR_0_5, MR_0_6, MR_0_7, MR_0_8, MR_0_9, MR_0_10, MR_0_11, MR_0_12, MR_0_13, MR_0_14, MR_0_15, MR_0_16, MR_0_17, MR_0_18, MR_0_19, MR_0_20, MR_0_21, MR_0_22, MR_0_23, MR_0_24, MR_0_25, MR_0_26, MG_0_27, MS_0_27, MG_0_28, MS_0_28, MG_0_29, MS_0_29, MG_0_30, MS_0_30, MG_0_31, MS_0_31, MR_0_32, MR_0_33, MR_0_34, MR_0_35, MR_0_36, MG_0_37, MS_0_37, MR_0_38, MR_0_39, MA_1, MB_1, MA_2, MB_2, MA_3, MB_3, MA_4, MB_4, MA_5, MB_5, MA_6, MB_6, MA_7, MB_7, MA_8, MB_8, MA_9, MB_9, MA_10, MB_10, MA_11, MB_11, MA_12, MB_12, MA_13, MB_13, MA_14, MB_14, MA_15, MB_15, MA_16, MB_16, MA_17, MB_17, MA_18, MB_18, MA_19, MB_19, MA_20, MB_20, MA_21, MB_21, MA_22, MB_22, MA_23, MB_23, MA_24, MB_24, MA_25, MB_25, MA_26, MB_26, MA_27, MB_27, MA_28, MB_28, MA_29, MB_29, MA_30, MB_30, MA_31, MB_31, MA_32, MB_32, MA_33, MB_33, ifp, ifn, Option.bind_some, n_s, n_le, n_lt, n_eq, l8, l40, l64, g40, u40, u6, u3, u0, mul6, mul3, J_bit, cmp0, b2_0, zR_b, zR_0, zR_1, up2_eq, up2_ne, up2J_eq, up2J_ne, mkv_eq, n_m1]
      · have a7 := p_takes (N := N) (z := z) (b := b) (F := F) hw hm' hk (hAt k hk e0) hs hN
        have c4 := g1 k hk e0
        cases e : tk V k s
        · refine ⟨(b2 m', nI (k + 1), (z, mH b P' F)), ?_, m', rk', P', rfl, h1, h2, stay (fun _ h => by rw [e] at h; exact absurd h (by simp))⟩
          simp (disch := first | assumption | omega | decide) only [J_Mod_order_57, a1, q1, a2, e0, a7, e, MO_0, MG_0_0, MS_0_0, MR_0_1, MR_0_2, MR_0_3, MR_0_4, MR_0_5, MR_0_6, MR_0_7, MR_0_8, MR_0_9, MR_0_10, MR_0_11, MR_0_12, MR_0_13, MR_0_14, MR_0_15, MR_0_16, MR_0_17, MR_0_18, MR_0_19, MR_0_20, MR_0_21, MR_0_22, MR_0_23, MR_0_24, MR_0_25, MR_0_26, MG_0_27, MS_0_27, MG_0_28, MS_0_28, MG_0_29, MS_0_29, MG_0_30, MS_0_30, MG_0_31, MS_0_31, MR_0_32, MR_0_33, MR_0_34, MR_0_35, MR_0_36, MG_0_37, MS_0_37, MR_0_38, MR_0_39, MA_1, MB_1, MA_2, MB_2, MA_3, MB_3, MA_4, MB_4, MA_5, MB_5, MA_6, MB_6, MA_7, MB_7, MA_8, MB_8, MA_9, MB_9, MA_10, MB_10, MA_11, MB_11, MA_12, MB_12, MA_13, MB_13, MA_14, MB_14, MA_15, MB_15, MA_16, MB_16, MA_17, MB_17, MA_18, MB_18, MA_19, MB_19, MA_20, MB_20, MA_21, MB_21, MA_22, MB_22, MA_23, MB_23, MA_24, MB_24, MA_25, MB_25, MA_26, MB_26, MA_27, MB_27, MA_28, MB_28, MA_29, MB_29, MA_30, MB_30, MA_31, MB_31, MA_32, MB_32, MA_33, MB_33, ifp, ifn, Option.bind_some, n_s, n_le, n_lt, n_eq, l8, l40, l64, g40, u40, u6, u3, u0, mul6, mul3, J_bit, cmp0, b2_0, zR_b, zR_0, zR_1, up2_eq, up2_ne, up2J_eq, up2J_ne, mkv_eq, n_m1]
        · by_cases q3 : rk' s < rk' k + vdu V s
          · have c5 := hsup s k hs hk e0 e
            refine ⟨(b2 true, nI (k + 1), (z, mH b (up2 P' 21 s (nI (rk' k + vdu V s))) F)), ?_, true, fun j => if j = s then rk' k + vdu V s else rk' j, _, rfl, fun o ho => by rw [up2_row ho]; exact h1 o ho, fun j hj => ?_, fun j hj hAj => ?_, fun j hj hAj => ?_, fun j hj => ?_, fun h => absurd h (by simp), fun _ => ?_⟩
            · simp (disch := first | assumption | omega | decide) only [J_Mod_order_57, a1, q1, a2, e0, a7, e, a3, a4, a5, n_add, MO_0, MG_0_0, MS_0_0, MR_0_1, MR_0_2, MR_0_3, MR_0_4, MR_0_5, MR_0_6, MR_0_7, MR_0_8, MR_0_9, MR_0_10, MR_0_11, MR_0_12, MR_0_13, MR_0_14, MR_0_15, MR_0_16, MR_0_17, MR_0_18, MR_0_19, MR_0_20, MR_0_21, MR_0_22, MR_0_23, MR_0_24, MR_0_25, MR_0_26, MG_0_27, MS_0_27, MG_0_28, MS_0_28, MG_0_29, MS_0_29, MG_0_30, MS_0_30, MG_0_31, MS_0_31, MR_0_32, MR_0_33, MR_0_34, MR_0_35, MR_0_36, MG_0_37, MS_0_37, MR_0_38, MR_0_39, MA_1, MB_1, MA_2, MB_2, MA_3, MB_3, MA_4, MB_4, MA_5, MB_5, MA_6, MB_6, MA_7, MB_7, MA_8, MB_8, MA_9, MB_9, MA_10, MB_10, MA_11, MB_11, MA_12, MB_12, MA_13, MB_13, MA_14, MB_14, MA_15, MB_15, MA_16, MB_16, MA_17, MB_17, MA_18, MB_18, MA_19, MB_19, MA_20, MB_20, MA_21, MB_21, MA_22, MB_22, MA_23, MB_23, MA_24, MB_24, MA_25, MB_25, MA_26, MB_26, MA_27, MB_27, MA_28, MB_28, MA_29, MB_29, MA_30, MB_30, MA_31, MB_31, MA_32, MB_32, MA_33, MB_33, ifp, ifn, Option.bind_some, n_s, n_le, n_lt, n_eq, l8, l40, l64, g40, u40, u6, u3, u0, mul6, mul3, J_bit, cmp0, b2_0, zR_b, zR_0, zR_1, up2_eq, up2_ne, up2J_eq, up2J_ne, mkv_eq, n_m1]
              rfl
            · by_cases q4 : j = s
              · subst q4; rw [up2_eq]; simp
              · rw [up2_ne (by omega)]; simp only [if_neg q4]; exact h2 j hj
            · by_cases q4 : j = s
              · subst q4; simp only [if_true]; omega
              · simp only [if_neg q4]; exact g1 j hj hAj
            · by_cases q4 : j = s
              · subst q4; rw [q1] at hAj; exact absurd hAj (by simp)
              · simp only [if_neg q4]; exact g2 j hj hAj
            · have := g3 j hj
              by_cases q4 : j = s
              · subst q4; simp only [if_true]; omega
              · simp only [if_neg q4]; exact this
            · refine sumB_lt s (fun j hj => ?_) hs ?_
              · have := g3 j hj
                by_cases q4 : j = s
                · subst q4; simp only [if_true]; omega
                · simp only [if_neg q4]; exact this
              · have := g3 s hs
                simp only [if_true]; omega
          · refine ⟨(b2 m', nI (k + 1), (z, mH b P' F)), ?_, m', rk', P', rfl, h1, h2, stay (fun _ _ => by omega)⟩
            simp (disch := first | assumption | omega | decide) only [J_Mod_order_57, a1, q1, a2, e0, a7, e, a3, a4, a5, n_add, MO_0, MG_0_0, MS_0_0, MR_0_1, MR_0_2, MR_0_3, MR_0_4, MR_0_5, MR_0_6, MR_0_7, MR_0_8, MR_0_9, MR_0_10, MR_0_11, MR_0_12, MR_0_13, MR_0_14, MR_0_15, MR_0_16, MR_0_17, MR_0_18, MR_0_19, MR_0_20, MR_0_21, MR_0_22, MR_0_23, MR_0_24, MR_0_25, MR_0_26, MG_0_27, MS_0_27, MG_0_28, MS_0_28, MG_0_29, MS_0_29, MG_0_30, MS_0_30, MG_0_31, MS_0_31, MR_0_32, MR_0_33, MR_0_34, MR_0_35, MR_0_36, MG_0_37, MS_0_37, MR_0_38, MR_0_39, MA_1, MB_1, MA_2, MB_2, MA_3, MB_3, MA_4, MB_4, MA_5, MB_5, MA_6, MB_6, MA_7, MB_7, MA_8, MB_8, MA_9, MB_9, MA_10, MB_10, MA_11, MB_11, MA_12, MB_12, MA_13, MB_13, MA_14, MB_14, MA_15, MB_15, MA_16, MB_16, MA_17, MB_17, MA_18, MB_18, MA_19, MB_19, MA_20, MB_20, MA_21, MB_21, MA_22, MB_22, MA_23, MB_23, MA_24, MB_24, MA_25, MB_25, MA_26, MB_26, MA_27, MB_27, MA_28, MB_28, MA_29, MB_29, MA_30, MB_30, MA_31, MB_31, MA_32, MB_32, MA_33, MB_33, ifp, ifn, Option.bind_some, n_s, n_le, n_lt, n_eq, l8, l40, l64, g40, u40, u6, u3, u0, mul6, mul3, J_bit, cmp0, b2_0, zR_b, zR_0, zR_1, up2_eq, up2_ne, up2J_eq, up2J_ne, mkv_eq, n_m1]
    · rintro n st ⟨m', rk', P', rfl, h1, h2, h3⟩
      refine ⟨m', rk', P', ?_, h1, h2, fin h3⟩
      simp (disch := first | assumption | omega | decide) only [J_Mod_order_57, MO_0, MG_0_0, MS_0_0, MR_0_1, MR_0_2, MR_0_3, MR_0_4, MR_0_5, MR_0_6, MR_0_7, MR_0_8, MR_0_9, MR_0_10, MR_0_11, MR_0_12, MR_0_13, MR_0_14, MR_0_15, MR_0_16, MR_0_17, MR_0_18, MR_0_19, MR_0_20, MR_0_21, MR_0_22, MR_0_23, MR_0_24, MR_0_25, MR_0_26, MG_0_27, MS_0_27, MG_0_28, MS_0_28, MG_0_29, MS_0_29, MG_0_30, MS_0_30, MG_0_31, MS_0_31, MR_0_32, MR_0_33, MR_0_34, MR_0_35, MR_0_36, MG_0_37, MS_0_37, MR_0_38, MR_0_39, MA_1, MB_1, MA_2, MB_2, MA_3, MB_3, MA_4, MB_4, MA_5, MB_5, MA_6, MB_6, MA_7, MB_7, MA_8, MB_8, MA_9, MB_9, MA_10, MB_10, MA_11, MB_11, MA_12, MB_12, MA_13, MB_13, MA_14, MB_14, MA_15, MB_15, MA_16, MB_16, MA_17, MB_17, MA_18, MB_18, MA_19, MB_19, MA_20, MB_20, MA_21, MB_21, MA_22, MB_22, MA_23, MB_23, MA_24, MB_24, MA_25, MB_25, MA_26, MB_26, MA_27, MB_27, MA_28, MB_28, MA_29, MB_29, MA_30, MB_30, MA_31, MB_31, MA_32, MB_32, MA_33, MB_33, ifp, ifn, Option.bind_some, n_s, n_le, n_lt, n_eq, l8, l40, l64, g40, u40, u6, u3, u0, mul6, mul3, J_bit, cmp0, b2_0, zR_b, zR_0, zR_1, up2_eq, up2_ne, up2J_eq, up2J_ne, mkv_eq, n_m1]
theorem p_or49 (r41 : Nat → Int32 → Hp → Option (Unit × Hp)) {f0 : Nat → Nat} (hw : VW V) (hm : MV V P) (hA : ∀ s, s < 40 → P 20 s = b2 (A s)) (hAt : ∀ s, s < 40 → A s = true → vth V s = true) (hRc : ∀ s, s < 40 → Rc s ≤ 4100) (hsup : ∀ s t, s < 40 → t < 40 → A t = true → tk V t s = true → Rc t + vdu V s ≤ Rc s) (hR : ∀ j, j < 40 → P 21 j = nI (f0 j)) (h0 : ∀ j, j < 40 → A j = true → vdu V j ≤ f0 j ∧ f0 j ≤ Rc j) (h0' : ∀ j, j < 40 → A j = false → f0 j = 0) (hN : 100 < N) : ∃ m' rk' P', J_Mod_order_49 N r41 N b 0 (nI 0) (z, mH b P F) = r41 b (b2 m') (z, mH b P' F) ∧ (∀ o, o ≠ 21 → P' o = P o) ∧ (∀ j, j < 40 → P' 21 j = nI (rk' j)) ∧ QI V A Rc 40 0 f0 rk' m' := by
  refine lpx 40 (fun n (st : Int32 × Int32 × Hp) => J_Mod_order_49 N r41 n b st.1 st.2.1 st.2.2) (fun s st => ∃ m' rk' P', st = (b2 m', nI s, (z, mH b P' F)) ∧ (∀ o, o ≠ 21 → P' o = P o) ∧ (∀ j, j < 40 → P' 21 j = nI (rk' j)) ∧ QI V A Rc s 0 f0 rk' m') (fun r => ∃ m' rk' P', r = r41 b (b2 m') (z, mH b P' F) ∧ (∀ o, o ≠ 21 → P' o = P o) ∧ (∀ j, j < 40 → P' 21 j = nI (rk' j)) ∧ QI V A Rc 40 0 f0 rk' m') ?_ ?_ N (0, nI 0, (z, mH b P F)) (by omega) ⟨false, f0, P, rfl, fun _ _ => rfl, hR, h0, h0', fun _ _ => Nat.le_refl _, fun _ => ⟨fun _ _ => rfl, fun s' t' _ _ h => by omega⟩, fun h => absurd h (by simp)⟩
  · rintro n s st hs ⟨m', rk', P', rfl, h1, h2, h3⟩
    have hm' : MV V P' := MV_c hm (fun o ho => h1 o (by rcases ho with h | h | h | h | h | h <;> omega))
    obtain ⟨m2, rk2, P2, e1, e2, e3, e4⟩ := p_or57 (V := V) (P := P') (A := A) (N := N) (z := z) (b := b) (F := F) (s := s) r41 (J_Mod_order_49 N r41 n) hw hm' (fun s hs => by rw [h1 20 (by omega)]; exact hA s hs) hAt hs hRc hsup h2 h3 hN
    refine Or.inr ⟨(b2 m2, nI (s + 1), (z, mH b P2 F)), ?_, m2, rk2, P2, rfl, fun o ho => by rw [e2 o ho]; exact h1 o ho, e3, e4⟩
    simp (disch := first | assumption | omega | decide) only [J_Mod_order_49, MO_0, MG_0_0, MS_0_0, MR_0_1, MR_0_2, MR_0_3, MR_0_4, MR_0_5, MR_0_6, MR_0_7, MR_0_8, MR_0_9, MR_0_10, MR_0_11, MR_0_12, MR_0_13, MR_0_14, MR_0_15, MR_0_16, MR_0_17, MR_0_18, MR_0_19, MR_0_20, MR_0_21, MR_0_22, MR_0_23, MR_0_24, MR_0_25, MR_0_26, MG_0_27, MS_0_27, MG_0_28, MS_0_28, MG_0_29, MS_0_29, MG_0_30, MS_0_30, MG_0_31, MS_0_31, MR_0_32, MR_0_33, MR_0_34, MR_0_35, MR_0_36, MG_0_37, MS_0_37, MR_0_38, MR_0_39, MA_1, MB_1, MA_2, MB_2, MA_3, MB_3, MA_4, MB_4, MA_5, MB_5, MA_6, MB_6, MA_7, MB_7, MA_8, MB_8, MA_9, MB_9, MA_10, MB_10, MA_11, MB_11, MA_12, MB_12, MA_13, MB_13, MA_14, MB_14, MA_15, MB_15, MA_16, MB_16, MA_17, MB_17, MA_18, MB_18, MA_19, MB_19, MA_20, MB_20, MA_21, MB_21, MA_22, MB_22, MA_23, MB_23, MA_24, MB_24, MA_25, MB_25, MA_26, MB_26, MA_27, MB_27, MA_28, MB_28, MA_29, MB_29, MA_30, MB_30, MA_31, MB_31, MA_32, MB_32, MA_33, MB_33, ifp, ifn, Option.bind_some, n_s, n_le, n_lt, n_eq, l8, l40, l64, g40, u40, u6, u3, u0, mul6, mul3, J_bit, cmp0, b2_0, zR_b, zR_0, zR_1, up2_eq, up2_ne, up2J_eq, up2J_ne, mkv_eq, n_m1]
    exact e1
  · rintro n st ⟨m', rk', P', rfl, h1, h2, h3⟩
    refine ⟨m', rk', P', ?_, h1, h2, h3⟩
    simp (disch := first | assumption | omega | decide) only [J_Mod_order_49, MO_0, MG_0_0, MS_0_0, MR_0_1, MR_0_2, MR_0_3, MR_0_4, MR_0_5, MR_0_6, MR_0_7, MR_0_8, MR_0_9, MR_0_10, MR_0_11, MR_0_12, MR_0_13, MR_0_14, MR_0_15, MR_0_16, MR_0_17, MR_0_18, MR_0_19, MR_0_20, MR_0_21, MR_0_22, MR_0_23, MR_0_24, MR_0_25, MR_0_26, MG_0_27, MS_0_27, MG_0_28, MS_0_28, MG_0_29, MS_0_29, MG_0_30, MS_0_30, MG_0_31, MS_0_31, MR_0_32, MR_0_33, MR_0_34, MR_0_35, MR_0_36, MG_0_37, MS_0_37, MR_0_38, MR_0_39, MA_1, MB_1, MA_2, MB_2, MA_3, MB_3, MA_4, MB_4, MA_5, MB_5, MA_6, MB_6, MA_7, MB_7, MA_8, MB_8, MA_9, MB_9, MA_10, MB_10, MA_11, MB_11, MA_12, MB_12, MA_13, MB_13, MA_14, MB_14, MA_15, MB_15, MA_16, MB_16, MA_17, MB_17, MA_18, MB_18, MA_19, MB_19, MA_20, MB_20, MA_21, MB_21, MA_22, MB_22, MA_23, MB_23, MA_24, MB_24, MA_25, MB_25, MA_26, MB_26, MA_27, MB_27, MA_28, MB_28, MA_29, MB_29, MA_30, MB_30, MA_31, MB_31, MA_32, MB_32, MA_33, MB_33, ifp, ifn, Option.bind_some, n_s, n_le, n_lt, n_eq, l8, l40, l64, g40, u40, u6, u3, u0, mul6, mul3, J_bit, cmp0, b2_0, zR_b, zR_0, zR_1, up2_eq, up2_ne, up2J_eq, up2J_ne, mkv_eq, n_m1]
theorem p_order (hw : VW V) (hm : MV V P) (hA : ∀ s, s < 40 → P 20 s = b2 (A s)) (hAt : ∀ s, s < 40 → A s = true → vth V s = true) (hRc : ∀ s, s < 40 → Rc s ≤ 4100) (hps : ∀ s, s < 40 → A s = true → ps s < 40 ∧ ∀ t, t < 40 → tk V s t = true → A t = true ∧ ps t < ps s) (hok : rkOK V A ps 0 Rc) (hN : 1000000 < N) : ∃ P', J_Mod_order N b (z, mH b P F) = some ((), (z, mH b P' F)) ∧ (∀ o, o ≠ 21 → P' o = P o) ∧ ∀ s, s < 40 → P' 21 s = nI (if A s = true then Rc s else 0) := by
  obtain ⟨o1, o2, o3⟩ := hok
  have hsup : ∀ s t, s < 40 → t < 40 → A t = true → tk V t s = true → Rc t + vdu V s ≤ Rc s := fun s t hs ht h1 h2 => o2 s t hs ht h1 (by omega) h2
  rw [J_Mod_order]
  refine lpx 40 (fun n (st : Int32 × Hp) => J_Mod_order_2 N n b st.1 st.2) (fun k st => ∃ P', st = (nI k, (z, mH b P' F)) ∧ (∀ o, o ≠ 21 → P' o = P o) ∧ (∀ j, j < k → P' 21 j = nI (if A j = true then vdu V j else 0))) (fun r => ∃ P', r = some ((), (z, mH b P' F)) ∧ (∀ o, o ≠ 21 → P' o = P o) ∧ ∀ s, s < 40 → P' 21 s = nI (if A s = true then Rc s else 0)) ?_ ?_ N (nI 0, (z, mH b P F)) (by omega) ⟨P, rfl, fun _ _ => rfl, fun j h => by omega⟩
  · rintro n k st hk ⟨P', rfl, h1, h2⟩
    have a1 : P' 20 k = b2 (A k) := by rw [h1 20 (by omega)]; exact hA k hk
    have a2 : P' 7 k = nI (vdu V k) := by rw [h1 7 (by omega)]; exact hm.2.2.2.2 k hk
    cases e : A k
    · refine Or.inr ⟨(nI (k + 1), (z, mH b (up2 P' 21 k 0) F)), ?_, _, rfl, fun o ho => by rw [up2_row ho]; exact h1 o ho, fun j hj => ?_⟩
      · simp (disch := first | assumption | omega | decide) only [J_Mod_order_2, a1, e, MO_0, MG_0_0, MS_0_0, MR_0_1, MR_0_2, MR_0_3, MR_0_4, MR_0_5, MR_0_6, MR_0_7, MR_0_8, MR_0_9, MR_0_10, MR_0_11, MR_0_12, MR_0_13, MR_0_14, MR_0_15, MR_0_16, MR_0_17, MR_0_18, MR_0_19, MR_0_20, MR_0_21, MR_0_22, MR_0_23, MR_0_24, MR_0_25, MR_0_26, MG_0_27, MS_0_27, MG_0_28, MS_0_28, MG_0_29, MS_0_29, MG_0_30, MS_0_30, MG_0_31, MS_0_31, MR_0_32, MR_0_33, MR_0_34, MR_0_35, MR_0_36, MG_0_37, MS_0_37, MR_0_38, MR_0_39, MA_1, MB_1, MA_2, MB_2, MA_3, MB_3, MA_4, MB_4, MA_5, MB_5, MA_6, MB_6, MA_7, MB_7, MA_8, MB_8, MA_9, MB_9, MA_10, MB_10, MA_11, MB_11, MA_12, MB_12, MA_13, MB_13, MA_14, MB_14, MA_15, MB_15, MA_16, MB_16, MA_17, MB_17, MA_18, MB_18, MA_19, MB_19, MA_20, MB_20, MA_21, MB_21, MA_22, MB_22, MA_23, MB_23, MA_24, MB_24, MA_25, MB_25, MA_26, MB_26, MA_27, MB_27, MA_28, MB_28, MA_29, MB_29, MA_30, MB_30, MA_31, MB_31, MA_32, MB_32, MA_33, MB_33, ifp, ifn, Option.bind_some, n_s, n_le, n_lt, n_eq, l8, l40, l64, g40, u40, u6, u3, u0, mul6, mul3, J_bit, cmp0, b2_0, zR_b, zR_0, zR_1, up2_eq, up2_ne, up2J_eq, up2J_ne, mkv_eq, n_m1]
      · by_cases q : j = k
        · rw [q, up2_eq, e]; rfl
        · rw [up2_ne (by omega)]; exact h2 j (by omega)
    · refine Or.inr ⟨(nI (k + 1), (z, mH b (up2 P' 21 k (nI (vdu V k))) F)), ?_, _, rfl, fun o ho => by rw [up2_row ho]; exact h1 o ho, fun j hj => ?_⟩
      · simp (disch := first | assumption | omega | decide) only [J_Mod_order_2, a1, e, a2, MO_0, MG_0_0, MS_0_0, MR_0_1, MR_0_2, MR_0_3, MR_0_4, MR_0_5, MR_0_6, MR_0_7, MR_0_8, MR_0_9, MR_0_10, MR_0_11, MR_0_12, MR_0_13, MR_0_14, MR_0_15, MR_0_16, MR_0_17, MR_0_18, MR_0_19, MR_0_20, MR_0_21, MR_0_22, MR_0_23, MR_0_24, MR_0_25, MR_0_26, MG_0_27, MS_0_27, MG_0_28, MS_0_28, MG_0_29, MS_0_29, MG_0_30, MS_0_30, MG_0_31, MS_0_31, MR_0_32, MR_0_33, MR_0_34, MR_0_35, MR_0_36, MG_0_37, MS_0_37, MR_0_38, MR_0_39, MA_1, MB_1, MA_2, MB_2, MA_3, MB_3, MA_4, MB_4, MA_5, MB_5, MA_6, MB_6, MA_7, MB_7, MA_8, MB_8, MA_9, MB_9, MA_10, MB_10, MA_11, MB_11, MA_12, MB_12, MA_13, MB_13, MA_14, MB_14, MA_15, MB_15, MA_16, MB_16, MA_17, MB_17, MA_18, MB_18, MA_19, MB_19, MA_20, MB_20, MA_21, MB_21, MA_22, MB_22, MA_23, MB_23, MA_24, MB_24, MA_25, MB_25, MA_26, MB_26, MA_27, MB_27, MA_28, MB_28, MA_29, MB_29, MA_30, MB_30, MA_31, MB_31, MA_32, MB_32, MA_33, MB_33, ifp, ifn, Option.bind_some, n_s, n_le, n_lt, n_eq, l8, l40, l64, g40, u40, u6, u3, u0, mul6, mul3, J_bit, cmp0, b2_0, zR_b, zR_0, zR_1, up2_eq, up2_ne, up2J_eq, up2J_ne, mkv_eq, n_m1]
      · by_cases q : j = k
        · rw [q, up2_eq, e]; simp
        · rw [up2_ne (by omega)]; exact h2 j (by omega)
  · rintro n st ⟨P0, rfl, h1, h2⟩
    simp (disch := first | assumption | omega | decide) only [J_Mod_order_2, MO_0, MG_0_0, MS_0_0, MR_0_1, MR_0_2, MR_0_3, MR_0_4, MR_0_5, MR_0_6, MR_0_7, MR_0_8, MR_0_9, MR_0_10, MR_0_11, MR_0_12, MR_0_13, MR_0_14, MR_0_15, MR_0_16, MR_0_17, MR_0_18, MR_0_19, MR_0_20, MR_0_21, MR_0_22, MR_0_23, MR_0_24, MR_0_25, MR_0_26, MG_0_27, MS_0_27, MG_0_28, MS_0_28, MG_0_29, MS_0_29, MG_0_30, MS_0_30, MG_0_31, MS_0_31, MR_0_32, MR_0_33, MR_0_34, MR_0_35, MR_0_36, MG_0_37, MS_0_37, MR_0_38, MR_0_39, MA_1, MB_1, MA_2, MB_2, MA_3, MB_3, MA_4, MB_4, MA_5, MB_5, MA_6, MB_6, MA_7, MB_7, MA_8, MB_8, MA_9, MB_9, MA_10, MB_10, MA_11, MB_11, MA_12, MB_12, MA_13, MB_13, MA_14, MB_14, MA_15, MB_15, MA_16, MB_16, MA_17, MB_17, MA_18, MB_18, MA_19, MB_19, MA_20, MB_20, MA_21, MB_21, MA_22, MB_22, MA_23, MB_23, MA_24, MB_24, MA_25, MB_25, MA_26, MB_26, MA_27, MB_27, MA_28, MB_28, MA_29, MB_29, MA_30, MB_30, MA_31, MB_31, MA_32, MB_32, MA_33, MB_33, ifp, ifn, Option.bind_some, n_s, n_le, n_lt, n_eq, l8, l40, l64, g40, u40, u6, u3, u0, mul6, mul3, J_bit, cmp0, b2_0, zR_b, zR_0, zR_1, up2_eq, up2_ne, up2J_eq, up2J_ne, mkv_eq, n_m1]
    refine lpx 164001 (fun n (st : Int32 × Hp) => J_Mod_order_41 N n b st.1 st.2) (fun p st => ∃ m rk P', st = (b2 m, (z, mH b P' F)) ∧ (∀ o, o ≠ 21 → P' o = P o) ∧ (∀ j, j < 40 → P' 21 j = nI (rk j)) ∧ (∀ j, j < 40 → A j = true → vdu V j ≤ rk j ∧ rk j ≤ Rc j) ∧ (∀ j, j < 40 → A j = false → rk j = 0) ∧ (m = false → ∀ s t, s < 40 → t < 40 → A s = true → A t = true → tk V t s = true → rk t + vdu V s ≤ rk s) ∧ (m = true → p ≤ sumB 40 rk)) (fun r => ∃ P', r = some ((), (z, mH b P' F)) ∧ (∀ o, o ≠ 21 → P' o = P o) ∧ ∀ s, s < 40 → P' 21 s = nI (if A s = true then Rc s else 0)) ?_ ?_ N (1, (z, mH b P0 F)) (by omega) ⟨true, fun j => if A j = true then vdu V j else 0, P0, rfl, h1, h2, fun j hj hAj => by simp only [hAj, if_true]; exact ⟨Nat.le_refl _, o1 j hj⟩, fun j hj hAj => by simp [hAj], fun h => absurd h (by simp), fun _ => Nat.zero_le _⟩
    · rintro n p st hp ⟨m, rk, P', rfl, k1, k2, k3, k4, k5, k6⟩
      cases m
      · refine Or.inl ⟨P', ?_, k1, fun s hs => ?_⟩
        · simp (disch := first | assumption | omega | decide) only [J_Mod_order_41, b2_f, MO_0, MG_0_0, MS_0_0, MR_0_1, MR_0_2, MR_0_3, MR_0_4, MR_0_5, MR_0_6, MR_0_7, MR_0_8, MR_0_9, MR_0_10, MR_0_11, MR_0_12, MR_0_13, MR_0_14, MR_0_15, MR_0_16, MR_0_17, MR_0_18, MR_0_19, MR_0_20, MR_0_21, MR_0_22, MR_0_23, MR_0_24, MR_0_25, MR_0_26, MG_0_27, MS_0_27, MG_0_28, MS_0_28, MG_0_29, MS_0_29, MG_0_30, MS_0_30, MG_0_31, MS_0_31, MR_0_32, MR_0_33, MR_0_34, MR_0_35, MR_0_36, MG_0_37, MS_0_37, MR_0_38, MR_0_39, MA_1, MB_1, MA_2, MB_2, MA_3, MB_3, MA_4, MB_4, MA_5, MB_5, MA_6, MB_6, MA_7, MB_7, MA_8, MB_8, MA_9, MB_9, MA_10, MB_10, MA_11, MB_11, MA_12, MB_12, MA_13, MB_13, MA_14, MB_14, MA_15, MB_15, MA_16, MB_16, MA_17, MB_17, MA_18, MB_18, MA_19, MB_19, MA_20, MB_20, MA_21, MB_21, MA_22, MB_22, MA_23, MB_23, MA_24, MB_24, MA_25, MB_25, MA_26, MB_26, MA_27, MB_27, MA_28, MB_28, MA_29, MB_29, MA_30, MB_30, MA_31, MB_31, MA_32, MB_32, MA_33, MB_33, ifp, ifn, Option.bind_some, n_s, n_le, n_lt, n_eq, l8, l40, l64, g40, u40, u6, u3, u0, mul6, mul3, J_bit, cmp0, b2_0, zR_b, zR_0, zR_1, up2_eq, up2_ne, up2J_eq, up2J_ne, mkv_eq, n_m1]
        · rw [k2 s hs]
          cases e : A s
          · rw [k4 s hs e]; simp
          · have c1 := k3 s hs e
            have c2 := rank_le (E := Ed V A) (Nd := A) (du := vdu V) (R := Rc) (Q := rk) (ps := ps) (M := 40) (fun s hs h => (hps s hs h).1) (fun s t hs ht h => by simp only [Ed, Bool.and_eq_true] at h; exact ((hps s hs h.1).2 t ht h.2).2) (fun s t h => by simp only [Ed, Bool.and_eq_true] at h; exact h.1) (fun s hs h => by
              rcases o3 s hs with h1 | ⟨t, ht, j1, j2, j3, j4⟩
              · exact Or.inl h1
              · exact Or.inr ⟨t, ht, by simp [Ed, j1, j3], j4⟩) (fun s hs h => (k3 s hs h).1) (fun s t hs ht h1 h2 => by simp only [Ed, Bool.and_eq_true] at h2; exact k5 rfl s t hs ht h1 h2.1 h2.2) s hs e
            rw [show rk s = Rc s by omega]; simp
      · have hm' : MV V P' := MV_c hm (fun o ho => k1 o (by rcases ho with h | h | h | h | h | h <;> omega))
        obtain ⟨m2, rk2, P2, e1, e2, e3, e4, e5, e6, e7, e8⟩ := p_or49 (V := V) (P := P') (A := A) (Rc := Rc) (N := N) (z := z) (b := b) (F := F) (J_Mod_order_41 N n) hw hm' (fun s hs => by rw [k1 20 (by omega)]; exact hA s hs) hAt hRc hsup k2 k3 k4 (by omega)
        refine Or.inr ⟨(b2 m2, (z, mH b P2 F)), ?_, m2, rk2, P2, rfl, fun o ho => by rw [e2 o ho]; exact k1 o ho, e3, e4, e5, fun h s t hs ht d1 d2 d3 => ?_, fun h => ?_⟩
        · simp (disch := first | assumption | omega | decide) only [J_Mod_order_41, b2_t, MO_0, MG_0_0, MS_0_0, MR_0_1, MR_0_2, MR_0_3, MR_0_4, MR_0_5, MR_0_6, MR_0_7, MR_0_8, MR_0_9, MR_0_10, MR_0_11, MR_0_12, MR_0_13, MR_0_14, MR_0_15, MR_0_16, MR_0_17, MR_0_18, MR_0_19, MR_0_20, MR_0_21, MR_0_22, MR_0_23, MR_0_24, MR_0_25, MR_0_26, MG_0_27, MS_0_27, MG_0_28, MS_0_28, MG_0_29, MS_0_29, MG_0_30, MS_0_30, MG_0_31, MS_0_31, MR_0_32, MR_0_33, MR_0_34, MR_0_35, MR_0_36, MG_0_37, MS_0_37, MR_0_38, MR_0_39, MA_1, MB_1, MA_2, MB_2, MA_3, MB_3, MA_4, MB_4, MA_5, MB_5, MA_6, MB_6, MA_7, MB_7, MA_8, MB_8, MA_9, MB_9, MA_10, MB_10, MA_11, MB_11, MA_12, MB_12, MA_13, MB_13, MA_14, MB_14, MA_15, MB_15, MA_16, MB_16, MA_17, MB_17, MA_18, MB_18, MA_19, MB_19, MA_20, MB_20, MA_21, MB_21, MA_22, MB_22, MA_23, MB_23, MA_24, MB_24, MA_25, MB_25, MA_26, MB_26, MA_27, MB_27, MA_28, MB_28, MA_29, MB_29, MA_30, MB_30, MA_31, MB_31, MA_32, MB_32, MA_33, MB_33, ifp, ifn, Option.bind_some, n_s, n_le, n_lt, n_eq, l8, l40, l64, g40, u40, u6, u3, u0, mul6, mul3, J_bit, cmp0, b2_0, zR_b, zR_0, zR_1, up2_eq, up2_ne, up2J_eq, up2J_ne, mkv_eq, n_m1]
          exact e1
        · obtain ⟨c1, c2⟩ := e7 h
          rw [c1 s hs, c1 t ht]
          exact c2 s t hs ht (by omega) d1 d2 d3
        · have := k6 rfl
          have := e8 h
          omega
    · rintro n st ⟨m, rk, P', rfl, k1, k2, k3, k4, k5, k6⟩
      cases m
      · refine ⟨P', ?_, k1, fun s hs => ?_⟩
        · simp (disch := first | assumption | omega | decide) only [J_Mod_order_41, b2_f, MO_0, MG_0_0, MS_0_0, MR_0_1, MR_0_2, MR_0_3, MR_0_4, MR_0_5, MR_0_6, MR_0_7, MR_0_8, MR_0_9, MR_0_10, MR_0_11, MR_0_12, MR_0_13, MR_0_14, MR_0_15, MR_0_16, MR_0_17, MR_0_18, MR_0_19, MR_0_20, MR_0_21, MR_0_22, MR_0_23, MR_0_24, MR_0_25, MR_0_26, MG_0_27, MS_0_27, MG_0_28, MS_0_28, MG_0_29, MS_0_29, MG_0_30, MS_0_30, MG_0_31, MS_0_31, MR_0_32, MR_0_33, MR_0_34, MR_0_35, MR_0_36, MG_0_37, MS_0_37, MR_0_38, MR_0_39, MA_1, MB_1, MA_2, MB_2, MA_3, MB_3, MA_4, MB_4, MA_5, MB_5, MA_6, MB_6, MA_7, MB_7, MA_8, MB_8, MA_9, MB_9, MA_10, MB_10, MA_11, MB_11, MA_12, MB_12, MA_13, MB_13, MA_14, MB_14, MA_15, MB_15, MA_16, MB_16, MA_17, MB_17, MA_18, MB_18, MA_19, MB_19, MA_20, MB_20, MA_21, MB_21, MA_22, MB_22, MA_23, MB_23, MA_24, MB_24, MA_25, MB_25, MA_26, MB_26, MA_27, MB_27, MA_28, MB_28, MA_29, MB_29, MA_30, MB_30, MA_31, MB_31, MA_32, MB_32, MA_33, MB_33, ifp, ifn, Option.bind_some, n_s, n_le, n_lt, n_eq, l8, l40, l64, g40, u40, u6, u3, u0, mul6, mul3, J_bit, cmp0, b2_0, zR_b, zR_0, zR_1, up2_eq, up2_ne, up2J_eq, up2J_ne, mkv_eq, n_m1]
        · rw [k2 s hs]
          cases e : A s
          · rw [k4 s hs e]; simp
          · have c1 := k3 s hs e
            have c2 := rank_le (E := Ed V A) (Nd := A) (du := vdu V) (R := Rc) (Q := rk) (ps := ps) (M := 40) (fun s hs h => (hps s hs h).1) (fun s t hs ht h => by simp only [Ed, Bool.and_eq_true] at h; exact ((hps s hs h.1).2 t ht h.2).2) (fun s t h => by simp only [Ed, Bool.and_eq_true] at h; exact h.1) (fun s hs h => by
              rcases o3 s hs with h1 | ⟨t, ht, j1, j2, j3, j4⟩
              · exact Or.inl h1
              · exact Or.inr ⟨t, ht, by simp [Ed, j1, j3], j4⟩) (fun s hs h => (k3 s hs h).1) (fun s t hs ht h1 h2 => by simp only [Ed, Bool.and_eq_true] at h2; exact k5 rfl s t hs ht h1 h2.1 h2.2) s hs e
            rw [show rk s = Rc s by omega]; simp
      · have c1 := k6 rfl
        have c2 : sumB 40 rk ≤ 40 * 4100 := sumB_le (fun j hj => by
          cases e : A j
          · rw [k4 j hj e]; omega
          · have := k3 j hj e
            have := hRc j hj
            omega)
        omega
theorem swp_R {rd : (Nat → Bool) → Nat → Bool} (hr : ∀ D s, rd D s = true → R s = false) (h : ∀ s, R s = true → D s = false) : ∀ n s, R s = true → swp rd D n s = false
  | 0, s, hs => h s hs
  | n + 1, s, hs => by
    rw [swp]
    split
    · rename_i h1
      have : s ≠ n := by intro q; rw [q, hr _ _ h1] at hs; exact absurd hs (by simp)
      simp [swp_R hr h n s hs, this]
    · exact swp_R hr h n s hs
theorem p_pa10 (r2 : Nat → Int32 → Hp → Option (Unit × Hp)) {q : Nat → Nat} (hw : VW V) (hm : MV V P) (hA : ∀ s, s < 40 → P 20 s = b2 (A s)) (hAt : ∀ s, s < 40 → A s = true → vth V s = true) (hS : ∀ s, s < 40 → P 22 s = stV R D s) (hRD : ∀ s, R s = true → D s = false) (hq : ∀ s, s < 40 → A s = true → R s = false → ∀ P', (∀ o, o ≠ 22 → P' o = P o) → J_Mod_why N b (nI s) (z, mH b P' F) = some (nI (q s), (z, mH b P' F))) (hq2 : ∀ s, q s < 100) (hN : 100 < N) : ∃ P', J_Mod_pass_10 N r2 N b 0 (nI 0) (z, mH b P F) = r2 b (b2 (swm (fun D s => rdy V A R D s && decide (q s = 0)) D 40)) (z, mH b P' F) ∧ (∀ o, o ≠ 22 → P' o = P o) ∧ (∀ s, s < 40 → P' 22 s = stV R (swp (fun D s => rdy V A R D s && decide (q s = 0)) D 40) s) := by
  have hr : ∀ D s, (fun D s => rdy V A R D s && decide (q s = 0)) D s = true → R s = false := by
    intro D s h
    simp [rdy] at h; exact h.1.1.2.1
  refine lpx 40 (fun n (st : Int32 × Int32 × Hp) => J_Mod_pass_10 N r2 n b st.1 st.2.1 st.2.2) (fun k st => ∃ P', st = (b2 (swm (fun D s => rdy V A R D s && decide (q s = 0)) D k), nI k, (z, mH b P' F)) ∧ (∀ o, o ≠ 22 → P' o = P o) ∧ (∀ s, s < 40 → P' 22 s = stV R (swp (fun D s => rdy V A R D s && decide (q s = 0)) D k) s)) (fun c => ∃ P', c = r2 b (b2 (swm (fun D s => rdy V A R D s && decide (q s = 0)) D 40)) (z, mH b P' F) ∧ (∀ o, o ≠ 22 → P' o = P o) ∧ (∀ s, s < 40 → P' 22 s = stV R (swp (fun D s => rdy V A R D s && decide (q s = 0)) D 40) s)) ?_ ?_ N (0, nI 0, (z, mH b P F)) (by omega) ⟨P, rfl, fun _ _ => rfl, hS⟩
  · rintro n k st hk ⟨P', rfl, h1, h2⟩
    have hm' : MV V P' := MV_c hm (fun o ho => h1 o (by rcases ho with h | h | h | h | h | h <;> omega))
    have a1 := p_isReady (V := V) (A := A) (R := R) (D := swp (fun D s => rdy V A R D s && decide (q s = 0)) D k) (N := N) (b := b) (z := z) (F := F) (P := P') (s := k) hw hm' (fun s hs => by rw [h1 20 (by omega)]; exact hA s hs) hAt h2 (fun s _ h => swp_R hr hRD k s h) hk hN
    refine Or.inr ?_
    cases e : rdy V A R (swp (fun D s => rdy V A R D s && decide (q s = 0)) D k) k
    · refine ⟨(_, nI (k + 1), (z, mH b P' F)), ?_, P', rfl, h1, ?_⟩
      · simp (disch := first | assumption | omega | decide) only [J_Mod_pass_10, a1, e, swm, Bool.false_and, Bool.or_false, MO_0, MG_0_0, MS_0_0, MR_0_1, MR_0_2, MR_0_3, MR_0_4, MR_0_5, MR_0_6, MR_0_7, MR_0_8, MR_0_9, MR_0_10, MR_0_11, MR_0_12, MR_0_13, MR_0_14, MR_0_15, MR_0_16, MR_0_17, MR_0_18, MR_0_19, MR_0_20, MR_0_21, MR_0_22, MR_0_23, MR_0_24, MR_0_25, MR_0_26, MG_0_27, MS_0_27, MG_0_28, MS_0_28, MG_0_29, MS_0_29, MG_0_30, MS_0_30, MG_0_31, MS_0_31, MR_0_32, MR_0_33, MR_0_34, MR_0_35, MR_0_36, MG_0_37, MS_0_37, MR_0_38, MR_0_39, MA_1, MB_1, MA_2, MB_2, MA_3, MB_3, MA_4, MB_4, MA_5, MB_5, MA_6, MB_6, MA_7, MB_7, MA_8, MB_8, MA_9, MB_9, MA_10, MB_10, MA_11, MB_11, MA_12, MB_12, MA_13, MB_13, MA_14, MB_14, MA_15, MB_15, MA_16, MB_16, MA_17, MB_17, MA_18, MB_18, MA_19, MB_19, MA_20, MB_20, MA_21, MB_21, MA_22, MB_22, MA_23, MB_23, MA_24, MB_24, MA_25, MB_25, MA_26, MB_26, MA_27, MB_27, MA_28, MB_28, MA_29, MB_29, MA_30, MB_30, MA_31, MB_31, MA_32, MB_32, MA_33, MB_33, ifp, ifn, Option.bind_some, n_s, n_le, n_lt, n_eq, l8, l40, l64, g40, u40, u6, u3, u0, mul6, mul3, J_bit, cmp0, b2_0, zR_b, zR_0, zR_1, up2_eq, up2_ne, up2J_eq, up2J_ne, mkv_eq, n_m1]
      · rw [swp, if_neg (by simp [e])]; exact h2
    · have e2 : A k = true := by simp [rdy] at e; exact e.1.1
      have e3 : R k = false := by simp [rdy] at e; exact e.1.2.1
      have a2 := hq k hk e2 e3 P' h1
      have a4 := hq2 k
      by_cases e4 : q k = 0
      · have a3 : (nI (q k) ≤ (0 : Int32)) = True := by rw [e4]; decide
        refine ⟨(_, nI (k + 1), (z, mH b (up2 P' 22 k 2) F)), ?_, _, rfl, fun o ho => by rw [up2_row ho]; exact h1 o ho, fun s hs => ?_⟩
        · simp (disch := first | assumption | omega | decide) only [J_Mod_pass_10, a1, e, a2, a3, swm, MO_0, MG_0_0, MS_0_0, MR_0_1, MR_0_2, MR_0_3, MR_0_4, MR_0_5, MR_0_6, MR_0_7, MR_0_8, MR_0_9, MR_0_10, MR_0_11, MR_0_12, MR_0_13, MR_0_14, MR_0_15, MR_0_16, MR_0_17, MR_0_18, MR_0_19, MR_0_20, MR_0_21, MR_0_22, MR_0_23, MR_0_24, MR_0_25, MR_0_26, MG_0_27, MS_0_27, MG_0_28, MS_0_28, MG_0_29, MS_0_29, MG_0_30, MS_0_30, MG_0_31, MS_0_31, MR_0_32, MR_0_33, MR_0_34, MR_0_35, MR_0_36, MG_0_37, MS_0_37, MR_0_38, MR_0_39, MA_1, MB_1, MA_2, MB_2, MA_3, MB_3, MA_4, MB_4, MA_5, MB_5, MA_6, MB_6, MA_7, MB_7, MA_8, MB_8, MA_9, MB_9, MA_10, MB_10, MA_11, MB_11, MA_12, MB_12, MA_13, MB_13, MA_14, MB_14, MA_15, MB_15, MA_16, MB_16, MA_17, MB_17, MA_18, MB_18, MA_19, MB_19, MA_20, MB_20, MA_21, MB_21, MA_22, MB_22, MA_23, MB_23, MA_24, MB_24, MA_25, MB_25, MA_26, MB_26, MA_27, MB_27, MA_28, MB_28, MA_29, MB_29, MA_30, MB_30, MA_31, MB_31, MA_32, MB_32, MA_33, MB_33, ifp, ifn, Option.bind_some, n_s, n_le, n_lt, n_eq, l8, l40, l64, g40, u40, u6, u3, u0, mul6, mul3, J_bit, cmp0, b2_0, zR_b, zR_0, zR_1, up2_eq, up2_ne, up2J_eq, up2J_ne, mkv_eq, n_m1]
          simp only [e4, decide_true, Bool.and_self, Bool.or_true]; rfl
        · rw [swp, if_pos (by simp [e, e4])]
          by_cases q2 : s = k
          · rw [q2, up2_eq]; simp [stV, e3]
          · rw [up2_ne (by omega), h2 s hs]; simp [stV, q2]
      · have a3 : (nI (q k) ≤ (0 : Int32)) = False := by
          rw [show (nI (q k) ≤ (0 : Int32)) = (nI (q k) ≤ nI 0) from rfl, n_le (by omega) (by decide)]; exact eq_false (by omega)
        refine ⟨(_, nI (k + 1), (z, mH b P' F)), ?_, P', rfl, h1, ?_⟩
        · simp (disch := first | assumption | omega | decide) only [J_Mod_pass_10, a1, e, a2, a3, swm, MO_0, MG_0_0, MS_0_0, MR_0_1, MR_0_2, MR_0_3, MR_0_4, MR_0_5, MR_0_6, MR_0_7, MR_0_8, MR_0_9, MR_0_10, MR_0_11, MR_0_12, MR_0_13, MR_0_14, MR_0_15, MR_0_16, MR_0_17, MR_0_18, MR_0_19, MR_0_20, MR_0_21, MR_0_22, MR_0_23, MR_0_24, MR_0_25, MR_0_26, MG_0_27, MS_0_27, MG_0_28, MS_0_28, MG_0_29, MS_0_29, MG_0_30, MS_0_30, MG_0_31, MS_0_31, MR_0_32, MR_0_33, MR_0_34, MR_0_35, MR_0_36, MG_0_37, MS_0_37, MR_0_38, MR_0_39, MA_1, MB_1, MA_2, MB_2, MA_3, MB_3, MA_4, MB_4, MA_5, MB_5, MA_6, MB_6, MA_7, MB_7, MA_8, MB_8, MA_9, MB_9, MA_10, MB_10, MA_11, MB_11, MA_12, MB_12, MA_13, MB_13, MA_14, MB_14, MA_15, MB_15, MA_16, MB_16, MA_17, MB_17, MA_18, MB_18, MA_19, MB_19, MA_20, MB_20, MA_21, MB_21, MA_22, MB_22, MA_23, MB_23, MA_24, MB_24, MA_25, MB_25, MA_26, MB_26, MA_27, MB_27, MA_28, MB_28, MA_29, MB_29, MA_30, MB_30, MA_31, MB_31, MA_32, MB_32, MA_33, MB_33, ifp, ifn, Option.bind_some, n_s, n_le, n_lt, n_eq, l8, l40, l64, g40, u40, u6, u3, u0, mul6, mul3, J_bit, cmp0, b2_0, zR_b, zR_0, zR_1, up2_eq, up2_ne, up2J_eq, up2J_ne, mkv_eq, n_m1]
          simp only [e4, decide_false, Bool.and_false, Bool.or_false]
        · rw [swp, if_neg (by simp [e4])]; exact h2
  · rintro n st ⟨P', rfl, h1, h2⟩
    refine ⟨P', ?_, h1, h2⟩
    simp (disch := first | assumption | omega | decide) only [J_Mod_pass_10, MO_0, MG_0_0, MS_0_0, MR_0_1, MR_0_2, MR_0_3, MR_0_4, MR_0_5, MR_0_6, MR_0_7, MR_0_8, MR_0_9, MR_0_10, MR_0_11, MR_0_12, MR_0_13, MR_0_14, MR_0_15, MR_0_16, MR_0_17, MR_0_18, MR_0_19, MR_0_20, MR_0_21, MR_0_22, MR_0_23, MR_0_24, MR_0_25, MR_0_26, MG_0_27, MS_0_27, MG_0_28, MS_0_28, MG_0_29, MS_0_29, MG_0_30, MS_0_30, MG_0_31, MS_0_31, MR_0_32, MR_0_33, MR_0_34, MR_0_35, MR_0_36, MG_0_37, MS_0_37, MR_0_38, MR_0_39, MA_1, MB_1, MA_2, MB_2, MA_3, MB_3, MA_4, MB_4, MA_5, MB_5, MA_6, MB_6, MA_7, MB_7, MA_8, MB_8, MA_9, MB_9, MA_10, MB_10, MA_11, MB_11, MA_12, MB_12, MA_13, MB_13, MA_14, MB_14, MA_15, MB_15, MA_16, MB_16, MA_17, MB_17, MA_18, MB_18, MA_19, MB_19, MA_20, MB_20, MA_21, MB_21, MA_22, MB_22, MA_23, MB_23, MA_24, MB_24, MA_25, MB_25, MA_26, MB_26, MA_27, MB_27, MA_28, MB_28, MA_29, MB_29, MA_30, MB_30, MA_31, MB_31, MA_32, MB_32, MA_33, MB_33, ifp, ifn, Option.bind_some, n_s, n_le, n_lt, n_eq, l8, l40, l64, g40, u40, u6, u3, u0, mul6, mul3, J_bit, cmp0, b2_0, zR_b, zR_0, zR_1, up2_eq, up2_ne, up2J_eq, up2J_ne, mkv_eq, n_m1]
theorem p_pass {q : Nat → Nat} (hw : VW V) (hm : MV V P) (hA : ∀ s, s < 40 → P 20 s = b2 (A s)) (hAt : ∀ s, s < 40 → A s = true → vth V s = true) (hS : ∀ s, s < 40 → P 22 s = stV R D s) (hRD : ∀ s, R s = true → D s = false) (hq : ∀ s, s < 40 → A s = true → R s = false → ∀ P', (∀ o, o ≠ 22 → P' o = P o) → J_Mod_why N b (nI s) (z, mH b P' F) = some (nI (q s), (z, mH b P' F))) (hq2 : ∀ s, q s < 100) (hN : 100 < N) : ∃ P', J_Mod_pass N b (z, mH b P F) = some ((), (z, mH b P' F)) ∧ (∀ o, o ≠ 22 → P' o = P o) ∧ (∀ s, s < 40 → P' 22 s = stV R (itr (fun D s => rdy V A R D s && decide (q s = 0)) 40 D) s) ∧ (∀ s, R s = true → itr (fun D s => rdy V A R D s && decide (q s = 0)) 40 D s = false) := by
  have hr : ∀ D s, (fun D s => rdy V A R D s && decide (q s = 0)) D s = true → R s = false := by
    intro D s h
    simp [rdy] at h; exact h.1.1.2.1
  have hr2 : ∀ D' s, D' s = true → (fun D s => rdy V A R D s && decide (q s = 0)) D' s = false := fun D' s h => by simp [rdy_D h]
  rw [← itr_fix hr2 40 41 D (by omega) (by omega)]
  rw [J_Mod_pass]
  refine lpx 41 (fun n (st : Int32 × Hp) => J_Mod_pass_2 N n b st.1 st.2) (fun p st => ∃ m D' P', st = (b2 m, (z, mH b P' F)) ∧ (∀ o, o ≠ 22 → P' o = P o) ∧ (∀ s, s < 40 → P' 22 s = stV R D' s) ∧ (∀ s, R s = true → D' s = false) ∧ (m = true → itr (fun D s => rdy V A R D s && decide (q s = 0)) 41 D = itr (fun D s => rdy V A R D s && decide (q s = 0)) (41 - p) D') ∧ (m = false → itr (fun D s => rdy V A R D s && decide (q s = 0)) 41 D = D') ∧ (m = true → p ≤ cnt 40 D')) (fun c => ∃ P', c = some ((), (z, mH b P' F)) ∧ (∀ o, o ≠ 22 → P' o = P o) ∧ (∀ s, s < 40 → P' 22 s = stV R (itr (fun D s => rdy V A R D s && decide (q s = 0)) 41 D) s) ∧ (∀ s, R s = true → itr (fun D s => rdy V A R D s && decide (q s = 0)) 41 D s = false)) ?_ ?_ N (1, (z, mH b P F)) (by omega) ⟨true, D, P, rfl, fun _ _ => rfl, hS, hRD, fun _ => rfl, fun h => absurd h (by simp), fun _ => Nat.zero_le _⟩
  · rintro n p st hp ⟨m, D', P', rfl, h1, h2, h3, h4, h5, h6⟩
    cases m
    · refine Or.inl ⟨P', ?_, h1, by rw [h5 rfl]; exact h2, by rw [h5 rfl]; exact h3⟩
      simp (disch := first | assumption | omega | decide) only [J_Mod_pass_2, b2_f, MO_0, MG_0_0, MS_0_0, MR_0_1, MR_0_2, MR_0_3, MR_0_4, MR_0_5, MR_0_6, MR_0_7, MR_0_8, MR_0_9, MR_0_10, MR_0_11, MR_0_12, MR_0_13, MR_0_14, MR_0_15, MR_0_16, MR_0_17, MR_0_18, MR_0_19, MR_0_20, MR_0_21, MR_0_22, MR_0_23, MR_0_24, MR_0_25, MR_0_26, MG_0_27, MS_0_27, MG_0_28, MS_0_28, MG_0_29, MS_0_29, MG_0_30, MS_0_30, MG_0_31, MS_0_31, MR_0_32, MR_0_33, MR_0_34, MR_0_35, MR_0_36, MG_0_37, MS_0_37, MR_0_38, MR_0_39, MA_1, MB_1, MA_2, MB_2, MA_3, MB_3, MA_4, MB_4, MA_5, MB_5, MA_6, MB_6, MA_7, MB_7, MA_8, MB_8, MA_9, MB_9, MA_10, MB_10, MA_11, MB_11, MA_12, MB_12, MA_13, MB_13, MA_14, MB_14, MA_15, MB_15, MA_16, MB_16, MA_17, MB_17, MA_18, MB_18, MA_19, MB_19, MA_20, MB_20, MA_21, MB_21, MA_22, MB_22, MA_23, MB_23, MA_24, MB_24, MA_25, MB_25, MA_26, MB_26, MA_27, MB_27, MA_28, MB_28, MA_29, MB_29, MA_30, MB_30, MA_31, MB_31, MA_32, MB_32, MA_33, MB_33, ifp, ifn, Option.bind_some, n_s, n_le, n_lt, n_eq, l8, l40, l64, g40, u40, u6, u3, u0, mul6, mul3, J_bit, cmp0, b2_0, zR_b, zR_0, zR_1, up2_eq, up2_ne, up2J_eq, up2J_ne, mkv_eq, n_m1]
    · have hm' : MV V P' := MV_c hm (fun o ho => h1 o (by rcases ho with h | h | h | h | h | h <;> omega))
      obtain ⟨P2, e1, e2, e3⟩ := p_pa10 (V := V) (A := A) (R := R) (D := D') (N := N) (b := b) (z := z) (P := P') (F := F) (q := q) (J_Mod_pass_2 N n) hw hm' (fun s hs => by rw [h1 20 (by omega)]; exact hA s hs) hAt h2 h3 (fun s hs c1 c2 P2 hP2 => hq s hs c1 c2 P2 (fun o ho => by rw [hP2 o ho]; exact h1 o ho)) hq2 hN
      refine Or.inr ⟨(b2 (swm (fun D s => rdy V A R D s && decide (q s = 0)) D' 40), (z, mH b P2 F)), ?_, swm (fun D s => rdy V A R D s && decide (q s = 0)) D' 40, swp (fun D s => rdy V A R D s && decide (q s = 0)) D' 40, P2, rfl, fun o ho => by rw [e2 o ho]; exact h1 o ho, e3, swp_R hr h3 40, fun hm0 => ?_, fun hm0 => ?_, fun hm0 => ?_⟩
      · simp (disch := first | assumption | omega | decide) only [J_Mod_pass_2, b2_t, MO_0, MG_0_0, MS_0_0, MR_0_1, MR_0_2, MR_0_3, MR_0_4, MR_0_5, MR_0_6, MR_0_7, MR_0_8, MR_0_9, MR_0_10, MR_0_11, MR_0_12, MR_0_13, MR_0_14, MR_0_15, MR_0_16, MR_0_17, MR_0_18, MR_0_19, MR_0_20, MR_0_21, MR_0_22, MR_0_23, MR_0_24, MR_0_25, MR_0_26, MG_0_27, MS_0_27, MG_0_28, MS_0_28, MG_0_29, MS_0_29, MG_0_30, MS_0_30, MG_0_31, MS_0_31, MR_0_32, MR_0_33, MR_0_34, MR_0_35, MR_0_36, MG_0_37, MS_0_37, MR_0_38, MR_0_39, MA_1, MB_1, MA_2, MB_2, MA_3, MB_3, MA_4, MB_4, MA_5, MB_5, MA_6, MB_6, MA_7, MB_7, MA_8, MB_8, MA_9, MB_9, MA_10, MB_10, MA_11, MB_11, MA_12, MB_12, MA_13, MB_13, MA_14, MB_14, MA_15, MB_15, MA_16, MB_16, MA_17, MB_17, MA_18, MB_18, MA_19, MB_19, MA_20, MB_20, MA_21, MB_21, MA_22, MB_22, MA_23, MB_23, MA_24, MB_24, MA_25, MB_25, MA_26, MB_26, MA_27, MB_27, MA_28, MB_28, MA_29, MB_29, MA_30, MB_30, MA_31, MB_31, MA_32, MB_32, MA_33, MB_33, ifp, ifn, Option.bind_some, n_s, n_le, n_lt, n_eq, l8, l40, l64, g40, u40, u6, u3, u0, mul6, mul3, J_bit, cmp0, b2_0, zR_b, zR_0, zR_1, up2_eq, up2_ne, up2J_eq, up2J_ne, mkv_eq, n_m1]
        exact e1
      · rw [h4 rfl, show 41 - p = (41 - (p + 1)) + 1 by omega, itr, if_pos hm0]
      · rw [h4 rfl, show 41 - p = (41 - (p + 1)) + 1 by omega, itr, if_neg (by simp [hm0]), swm_no hm0]
      · have := h6 rfl
        have := swm_cnt hr2 (n := 40) (by omega) hm0
        omega
  · rintro n st ⟨m, D', P', rfl, h1, h2, h3, h4, h5, h6⟩
    cases m
    · refine ⟨P', ?_, h1, by rw [h5 rfl]; exact h2, by rw [h5 rfl]; exact h3⟩
      simp (disch := first | assumption | omega | decide) only [J_Mod_pass_2, b2_f, MO_0, MG_0_0, MS_0_0, MR_0_1, MR_0_2, MR_0_3, MR_0_4, MR_0_5, MR_0_6, MR_0_7, MR_0_8, MR_0_9, MR_0_10, MR_0_11, MR_0_12, MR_0_13, MR_0_14, MR_0_15, MR_0_16, MR_0_17, MR_0_18, MR_0_19, MR_0_20, MR_0_21, MR_0_22, MR_0_23, MR_0_24, MR_0_25, MR_0_26, MG_0_27, MS_0_27, MG_0_28, MS_0_28, MG_0_29, MS_0_29, MG_0_30, MS_0_30, MG_0_31, MS_0_31, MR_0_32, MR_0_33, MR_0_34, MR_0_35, MR_0_36, MG_0_37, MS_0_37, MR_0_38, MR_0_39, MA_1, MB_1, MA_2, MB_2, MA_3, MB_3, MA_4, MB_4, MA_5, MB_5, MA_6, MB_6, MA_7, MB_7, MA_8, MB_8, MA_9, MB_9, MA_10, MB_10, MA_11, MB_11, MA_12, MB_12, MA_13, MB_13, MA_14, MB_14, MA_15, MB_15, MA_16, MB_16, MA_17, MB_17, MA_18, MB_18, MA_19, MB_19, MA_20, MB_20, MA_21, MB_21, MA_22, MB_22, MA_23, MB_23, MA_24, MB_24, MA_25, MB_25, MA_26, MB_26, MA_27, MB_27, MA_28, MB_28, MA_29, MB_29, MA_30, MB_30, MA_31, MB_31, MA_32, MB_32, MA_33, MB_33, ifp, ifn, Option.bind_some, n_s, n_le, n_lt, n_eq, l8, l40, l64, g40, u40, u6, u3, u0, mul6, mul3, J_bit, cmp0, b2_0, zR_b, zR_0, zR_1, up2_eq, up2_ne, up2J_eq, up2J_ne, mkv_eq, n_m1]
    · have := h6 rfl
      have := @cnt_le D' 40
      omega
theorem p_hire24 (r2 : Nat → Int32 → Int32 → Hp → Option (Unit × Hp)) {x1 x2 : Int32} {Rk : Nat → Nat} (hw : VW V) (hm : MV V P) (hA : ∀ s, s < 40 → P 20 s = b2 (A s)) (hAt : ∀ s, s < 40 → A s = true → vth V s = true) (hS : ∀ s, s < 40 → P 22 s = stV R D s) (hRD : ∀ s, R s = true → D s = false) (hk : ∀ s, s < 40 → A s = true → P 21 s = nI (Rk s) ∧ Rk s ≤ 4100) (hN : 100 < N) : ∃ n, J_Mod_hire_24 N r2 N b x1 x2 (-1) (nI 0) (z, mH b P F) = J_Mod_hire_24 N r2 (n + 1) b x1 x2 (mkv (nb (rdy V A R D) Rk 40)) (nI 40) (z, mH b P F) := by
  refine lpx 40 (fun n (st : Int32 × Int32) => J_Mod_hire_24 N r2 n b x1 x2 st.1 st.2 (z, mH b P F)) (fun k st => st = (mkv (nb (rdy V A R D) Rk k), nI k)) (fun c => ∃ n, c = J_Mod_hire_24 N r2 (n + 1) b x1 x2 (mkv (nb (rdy V A R D) Rk 40)) (nI 40) (z, mH b P F)) ?_ ?_ N (-1, nI 0) (by omega) rfl
  · rintro n k st hk' rfl
    have a1 := p_isReady (V := V) (A := A) (R := R) (D := D) (N := N) (b := b) (z := z) (F := F) (P := P) (s := k) hw hm hA hAt hS (fun s _ h => hRD s h) hk' hN
    refine Or.inr ⟨_, ?_, rfl⟩
    cases e : rdy V A R D k
    · have e2 : nb (rdy V A R D) Rk (k + 1) = nb (rdy V A R D) Rk k := by rw [nb, if_neg (by simp [e])]
      simp (disch := first | assumption | omega | decide) only [J_Mod_hire_24, a1, e, e2, MO_0, MG_0_0, MS_0_0, MR_0_1, MR_0_2, MR_0_3, MR_0_4, MR_0_5, MR_0_6, MR_0_7, MR_0_8, MR_0_9, MR_0_10, MR_0_11, MR_0_12, MR_0_13, MR_0_14, MR_0_15, MR_0_16, MR_0_17, MR_0_18, MR_0_19, MR_0_20, MR_0_21, MR_0_22, MR_0_23, MR_0_24, MR_0_25, MR_0_26, MG_0_27, MS_0_27, MG_0_28, MS_0_28, MG_0_29, MS_0_29, MG_0_30, MS_0_30, MG_0_31, MS_0_31, MR_0_32, MR_0_33, MR_0_34, MR_0_35, MR_0_36, MG_0_37, MS_0_37, MR_0_38, MR_0_39, MA_1, MB_1, MA_2, MB_2, MA_3, MB_3, MA_4, MB_4, MA_5, MB_5, MA_6, MB_6, MA_7, MB_7, MA_8, MB_8, MA_9, MB_9, MA_10, MB_10, MA_11, MB_11, MA_12, MB_12, MA_13, MB_13, MA_14, MB_14, MA_15, MB_15, MA_16, MB_16, MA_17, MB_17, MA_18, MB_18, MA_19, MB_19, MA_20, MB_20, MA_21, MB_21, MA_22, MB_22, MA_23, MB_23, MA_24, MB_24, MA_25, MB_25, MA_26, MB_26, MA_27, MB_27, MA_28, MB_28, MA_29, MB_29, MA_30, MB_30, MA_31, MB_31, MA_32, MB_32, MA_33, MB_33, ifp, ifn, Option.bind_some, n_s, n_le, n_lt, n_eq, l8, l40, l64, g40, u40, u6, u3, u0, mul6, mul3, J_bit, cmp0, b2_0, zR_b, zR_0, zR_1, up2_eq, up2_ne, up2J_eq, up2J_ne, mkv_eq, n_m1]
    · have e2 : A k = true := by simp [rdy] at e; exact e.1.1
      obtain ⟨a2, a3⟩ := hk k hk' e2
      have hmk : mkv k = nI k := mkv_n hk'
      rcases nb_le (rd := rdy V A R D) (Rk := Rk) (n := k) (by omega) with ⟨h1, h2⟩ | ⟨h1, h2⟩
      · have e3 : nb (rdy V A R D) Rk (k + 1) = k := by rw [nb, if_pos ⟨e, Or.inl h1⟩]
        have h1' : mkv (nb (rdy V A R D) Rk k) = -1 := by rw [h1]; rfl
        simp (disch := first | assumption | omega | decide) only [J_Mod_hire_24, J_Mod_hire_61, a1, e, e3, h1', hmk, MO_0, MG_0_0, MS_0_0, MR_0_1, MR_0_2, MR_0_3, MR_0_4, MR_0_5, MR_0_6, MR_0_7, MR_0_8, MR_0_9, MR_0_10, MR_0_11, MR_0_12, MR_0_13, MR_0_14, MR_0_15, MR_0_16, MR_0_17, MR_0_18, MR_0_19, MR_0_20, MR_0_21, MR_0_22, MR_0_23, MR_0_24, MR_0_25, MR_0_26, MG_0_27, MS_0_27, MG_0_28, MS_0_28, MG_0_29, MS_0_29, MG_0_30, MS_0_30, MG_0_31, MS_0_31, MR_0_32, MR_0_33, MR_0_34, MR_0_35, MR_0_36, MG_0_37, MS_0_37, MR_0_38, MR_0_39, MA_1, MB_1, MA_2, MB_2, MA_3, MB_3, MA_4, MB_4, MA_5, MB_5, MA_6, MB_6, MA_7, MB_7, MA_8, MB_8, MA_9, MB_9, MA_10, MB_10, MA_11, MB_11, MA_12, MB_12, MA_13, MB_13, MA_14, MB_14, MA_15, MB_15, MA_16, MB_16, MA_17, MB_17, MA_18, MB_18, MA_19, MB_19, MA_20, MB_20, MA_21, MB_21, MA_22, MB_22, MA_23, MB_23, MA_24, MB_24, MA_25, MB_25, MA_26, MB_26, MA_27, MB_27, MA_28, MB_28, MA_29, MB_29, MA_30, MB_30, MA_31, MB_31, MA_32, MB_32, MA_33, MB_33, ifp, ifn, Option.bind_some, n_s, n_le, n_lt, n_eq, l8, l40, l64, g40, u40, u6, u3, u0, mul6, mul3, J_bit, cmp0, b2_0, zR_b, zR_0, zR_1, up2_eq, up2_ne, up2J_eq, up2J_ne, mkv_eq, n_m1]
      · have e6 : A (nb (rdy V A R D) Rk k) = true := by simp [rdy] at h2; exact h2.1.1
        obtain ⟨c1, c3⟩ := hk _ (by omega) e6
        have h1' : mkv (nb (rdy V A R D) Rk k) = nI (nb (rdy V A R D) Rk k) := mkv_n (by omega)
        by_cases q : Rk (nb (rdy V A R D) Rk k) < Rk k
        · have e3 : nb (rdy V A R D) Rk (k + 1) = k := by rw [nb, if_pos ⟨e, Or.inr q⟩]
          simp (disch := first | assumption | omega | decide) only [J_Mod_hire_24, J_Mod_hire_61, a1, e, e3, a2, h1', c1, hmk, MO_0, MG_0_0, MS_0_0, MR_0_1, MR_0_2, MR_0_3, MR_0_4, MR_0_5, MR_0_6, MR_0_7, MR_0_8, MR_0_9, MR_0_10, MR_0_11, MR_0_12, MR_0_13, MR_0_14, MR_0_15, MR_0_16, MR_0_17, MR_0_18, MR_0_19, MR_0_20, MR_0_21, MR_0_22, MR_0_23, MR_0_24, MR_0_25, MR_0_26, MG_0_27, MS_0_27, MG_0_28, MS_0_28, MG_0_29, MS_0_29, MG_0_30, MS_0_30, MG_0_31, MS_0_31, MR_0_32, MR_0_33, MR_0_34, MR_0_35, MR_0_36, MG_0_37, MS_0_37, MR_0_38, MR_0_39, MA_1, MB_1, MA_2, MB_2, MA_3, MB_3, MA_4, MB_4, MA_5, MB_5, MA_6, MB_6, MA_7, MB_7, MA_8, MB_8, MA_9, MB_9, MA_10, MB_10, MA_11, MB_11, MA_12, MB_12, MA_13, MB_13, MA_14, MB_14, MA_15, MB_15, MA_16, MB_16, MA_17, MB_17, MA_18, MB_18, MA_19, MB_19, MA_20, MB_20, MA_21, MB_21, MA_22, MB_22, MA_23, MB_23, MA_24, MB_24, MA_25, MB_25, MA_26, MB_26, MA_27, MB_27, MA_28, MB_28, MA_29, MB_29, MA_30, MB_30, MA_31, MB_31, MA_32, MB_32, MA_33, MB_33, ifp, ifn, Option.bind_some, n_s, n_le, n_lt, n_eq, l8, l40, l64, g40, u40, u6, u3, u0, mul6, mul3, J_bit, cmp0, b2_0, zR_b, zR_0, zR_1, up2_eq, up2_ne, up2J_eq, up2J_ne, mkv_eq, n_m1]
        · have e3 : nb (rdy V A R D) Rk (k + 1) = nb (rdy V A R D) Rk k := by rw [nb, if_neg (by rintro ⟨_, h | h⟩ <;> omega)]
          simp (disch := first | assumption | omega | decide) only [J_Mod_hire_24, J_Mod_hire_61, a1, e, e3, a2, h1', c1, MO_0, MG_0_0, MS_0_0, MR_0_1, MR_0_2, MR_0_3, MR_0_4, MR_0_5, MR_0_6, MR_0_7, MR_0_8, MR_0_9, MR_0_10, MR_0_11, MR_0_12, MR_0_13, MR_0_14, MR_0_15, MR_0_16, MR_0_17, MR_0_18, MR_0_19, MR_0_20, MR_0_21, MR_0_22, MR_0_23, MR_0_24, MR_0_25, MR_0_26, MG_0_27, MS_0_27, MG_0_28, MS_0_28, MG_0_29, MS_0_29, MG_0_30, MS_0_30, MG_0_31, MS_0_31, MR_0_32, MR_0_33, MR_0_34, MR_0_35, MR_0_36, MG_0_37, MS_0_37, MR_0_38, MR_0_39, MA_1, MB_1, MA_2, MB_2, MA_3, MB_3, MA_4, MB_4, MA_5, MB_5, MA_6, MB_6, MA_7, MB_7, MA_8, MB_8, MA_9, MB_9, MA_10, MB_10, MA_11, MB_11, MA_12, MB_12, MA_13, MB_13, MA_14, MB_14, MA_15, MB_15, MA_16, MB_16, MA_17, MB_17, MA_18, MB_18, MA_19, MB_19, MA_20, MB_20, MA_21, MB_21, MA_22, MB_22, MA_23, MB_23, MA_24, MB_24, MA_25, MB_25, MA_26, MB_26, MA_27, MB_27, MA_28, MB_28, MA_29, MB_29, MA_30, MB_30, MA_31, MB_31, MA_32, MB_32, MA_33, MB_33, ifp, ifn, Option.bind_some, n_s, n_le, n_lt, n_eq, l8, l40, l64, g40, u40, u6, u3, u0, mul6, mul3, J_bit, cmp0, b2_0, zR_b, zR_0, zR_1, up2_eq, up2_ne, up2J_eq, up2J_ne, mkv_eq, n_m1]
  · rintro n st rfl
    exact ⟨n, rfl⟩
end MO
