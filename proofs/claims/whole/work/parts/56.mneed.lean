section MN
variable {V : Vw} {z b N s t : Nat} {P : Nat → Nat → Int32} {F : Nat → Option HE} {A : Nat → Bool}
theorem p_sp62 (r37 : Nat → Int32 → Hp → Option (Unit × Hp)) (r45 : Nat → Int32 → Int32 → Hp → Option (Unit × Hp)) {x2 : Int32} (hw : VW V) (hm : MV V P) (hA : ∀ s, s < 40 → P 20 s = b2 (A s)) (hAt : ∀ s, s < 40 → A s = true → vth V s = true) (ht : t < 40) (hN : 100 < N) : J_Mod_spread_62 N r37 r45 N b x2 (nI t) (b2 (A t)) (nI 0) (z, mH b P F) = J_Mod_spread_107 N r37 r45 b x2 (nI t) (b2 (A t || anyB 40 (fun s => A s && tk V s t))) (z, mH b P F) := by
  refine lpx 40 (fun n (st : Int32 × Int32) => J_Mod_spread_62 N r37 r45 n b x2 (nI t) st.1 st.2 (z, mH b P F)) (fun k st => st = (b2 (A t || anyB k (fun s => A s && tk V s t)), nI k)) (fun r => r = J_Mod_spread_107 N r37 r45 b x2 (nI t) (b2 (A t || anyB 40 (fun s => A s && tk V s t))) (z, mH b P F)) ?_ ?_ N (b2 (A t), nI 0) (by omega) (by simp [anyB])
  · rintro n k st hk rfl
    have a0 := hA k hk
    cases e : (A t || anyB k (fun s => A s && tk V s t))
    · refine Or.inr ⟨_, ?_, rfl⟩
      have e0 : A t = false := by simp at e; exact e.1
      have e1 : anyB k (fun s => A s && tk V s t) = false := by simp at e; exact e.2
      cases e2 : A k
      · simp (disch := first | assumption | omega | decide) only [J_Mod_spread_62, J_Mod_spread_98, e, a0, e2, MO_0, MG_0_0, MS_0_0, MR_0_1, MR_0_2, MR_0_3, MR_0_4, MR_0_5, MR_0_6, MR_0_7, MR_0_8, MR_0_9, MR_0_10, MR_0_11, MR_0_12, MR_0_13, MR_0_14, MR_0_15, MR_0_16, MR_0_17, MR_0_18, MR_0_19, MR_0_20, MR_0_21, MR_0_22, MR_0_23, MR_0_24, MR_0_25, MR_0_26, MG_0_27, MS_0_27, MG_0_28, MS_0_28, MG_0_29, MS_0_29, MG_0_30, MS_0_30, MG_0_31, MS_0_31, MR_0_32, MR_0_33, MR_0_34, MR_0_35, MR_0_36, MG_0_37, MS_0_37, MR_0_38, MR_0_39, MA_1, MB_1, MA_2, MB_2, MA_3, MB_3, MA_4, MB_4, MA_5, MB_5, MA_6, MB_6, MA_7, MB_7, MA_8, MB_8, MA_9, MB_9, MA_10, MB_10, MA_11, MB_11, MA_12, MB_12, MA_13, MB_13, MA_14, MB_14, MA_15, MB_15, MA_16, MB_16, MA_17, MB_17, MA_18, MB_18, MA_19, MB_19, MA_20, MB_20, MA_21, MB_21, MA_22, MB_22, MA_23, MB_23, MA_24, MB_24, MA_25, MB_25, MA_26, MB_26, MA_27, MB_27, MA_28, MB_28, MA_29, MB_29, MA_30, MB_30, MA_31, MB_31, MA_32, MB_32, MA_33, MB_33, ifp, ifn, Option.bind_some, n_s, n_le, n_lt, n_eq, l8, l40, l64, g40, u40, u6, u3, u0, mul6, mul3, J_bit, cmp0, b2_0, zR_b, zR_0, zR_1, up2_eq, up2_ne, up2J_eq, up2J_ne, mkv_eq, n_m1]
        simp [anyB, e0, e1, e2, b2]
      · have a1 := p_takes (N := N) (z := z) (b := b) (F := F) hw hm hk (hAt k hk e2) ht hN
        cases e3 : tk V k t
        · simp (disch := first | assumption | omega | decide) only [J_Mod_spread_62, J_Mod_spread_98, e, a0, e2, a1, e3, MO_0, MG_0_0, MS_0_0, MR_0_1, MR_0_2, MR_0_3, MR_0_4, MR_0_5, MR_0_6, MR_0_7, MR_0_8, MR_0_9, MR_0_10, MR_0_11, MR_0_12, MR_0_13, MR_0_14, MR_0_15, MR_0_16, MR_0_17, MR_0_18, MR_0_19, MR_0_20, MR_0_21, MR_0_22, MR_0_23, MR_0_24, MR_0_25, MR_0_26, MG_0_27, MS_0_27, MG_0_28, MS_0_28, MG_0_29, MS_0_29, MG_0_30, MS_0_30, MG_0_31, MS_0_31, MR_0_32, MR_0_33, MR_0_34, MR_0_35, MR_0_36, MG_0_37, MS_0_37, MR_0_38, MR_0_39, MA_1, MB_1, MA_2, MB_2, MA_3, MB_3, MA_4, MB_4, MA_5, MB_5, MA_6, MB_6, MA_7, MB_7, MA_8, MB_8, MA_9, MB_9, MA_10, MB_10, MA_11, MB_11, MA_12, MB_12, MA_13, MB_13, MA_14, MB_14, MA_15, MB_15, MA_16, MB_16, MA_17, MB_17, MA_18, MB_18, MA_19, MB_19, MA_20, MB_20, MA_21, MB_21, MA_22, MB_22, MA_23, MB_23, MA_24, MB_24, MA_25, MB_25, MA_26, MB_26, MA_27, MB_27, MA_28, MB_28, MA_29, MB_29, MA_30, MB_30, MA_31, MB_31, MA_32, MB_32, MA_33, MB_33, ifp, ifn, Option.bind_some, n_s, n_le, n_lt, n_eq, l8, l40, l64, g40, u40, u6, u3, u0, mul6, mul3, J_bit, cmp0, b2_0, zR_b, zR_0, zR_1, up2_eq, up2_ne, up2J_eq, up2J_ne, mkv_eq, n_m1]
          simp [anyB, e0, e1, e3, b2]
        · simp (disch := first | assumption | omega | decide) only [J_Mod_spread_62, J_Mod_spread_98, e, a0, e2, a1, e3, MO_0, MG_0_0, MS_0_0, MR_0_1, MR_0_2, MR_0_3, MR_0_4, MR_0_5, MR_0_6, MR_0_7, MR_0_8, MR_0_9, MR_0_10, MR_0_11, MR_0_12, MR_0_13, MR_0_14, MR_0_15, MR_0_16, MR_0_17, MR_0_18, MR_0_19, MR_0_20, MR_0_21, MR_0_22, MR_0_23, MR_0_24, MR_0_25, MR_0_26, MG_0_27, MS_0_27, MG_0_28, MS_0_28, MG_0_29, MS_0_29, MG_0_30, MS_0_30, MG_0_31, MS_0_31, MR_0_32, MR_0_33, MR_0_34, MR_0_35, MR_0_36, MG_0_37, MS_0_37, MR_0_38, MR_0_39, MA_1, MB_1, MA_2, MB_2, MA_3, MB_3, MA_4, MB_4, MA_5, MB_5, MA_6, MB_6, MA_7, MB_7, MA_8, MB_8, MA_9, MB_9, MA_10, MB_10, MA_11, MB_11, MA_12, MB_12, MA_13, MB_13, MA_14, MB_14, MA_15, MB_15, MA_16, MB_16, MA_17, MB_17, MA_18, MB_18, MA_19, MB_19, MA_20, MB_20, MA_21, MB_21, MA_22, MB_22, MA_23, MB_23, MA_24, MB_24, MA_25, MB_25, MA_26, MB_26, MA_27, MB_27, MA_28, MB_28, MA_29, MB_29, MA_30, MB_30, MA_31, MB_31, MA_32, MB_32, MA_33, MB_33, ifp, ifn, Option.bind_some, n_s, n_le, n_lt, n_eq, l8, l40, l64, g40, u40, u6, u3, u0, mul6, mul3, J_bit, cmp0, b2_0, zR_b, zR_0, zR_1, up2_eq, up2_ne, up2J_eq, up2J_ne, mkv_eq, n_m1]
          simp [anyB, e2, e3, b2]
    · refine Or.inl ?_
      have e1 : (A t || anyB 40 (fun s => A s && tk V s t)) = true := by
        rcases Bool.or_eq_true _ _ ▸ e with h | h
        · simp [h]
        · obtain ⟨j, hj, h2⟩ := anyB_iff.mp h
          rw [show anyB 40 (fun s => A s && tk V s t) = true from anyB_iff.mpr ⟨j, by omega, h2⟩]; simp
      simp (disch := first | assumption | omega | decide) only [J_Mod_spread_62, e, MO_0, MG_0_0, MS_0_0, MR_0_1, MR_0_2, MR_0_3, MR_0_4, MR_0_5, MR_0_6, MR_0_7, MR_0_8, MR_0_9, MR_0_10, MR_0_11, MR_0_12, MR_0_13, MR_0_14, MR_0_15, MR_0_16, MR_0_17, MR_0_18, MR_0_19, MR_0_20, MR_0_21, MR_0_22, MR_0_23, MR_0_24, MR_0_25, MR_0_26, MG_0_27, MS_0_27, MG_0_28, MS_0_28, MG_0_29, MS_0_29, MG_0_30, MS_0_30, MG_0_31, MS_0_31, MR_0_32, MR_0_33, MR_0_34, MR_0_35, MR_0_36, MG_0_37, MS_0_37, MR_0_38, MR_0_39, MA_1, MB_1, MA_2, MB_2, MA_3, MB_3, MA_4, MB_4, MA_5, MB_5, MA_6, MB_6, MA_7, MB_7, MA_8, MB_8, MA_9, MB_9, MA_10, MB_10, MA_11, MB_11, MA_12, MB_12, MA_13, MB_13, MA_14, MB_14, MA_15, MB_15, MA_16, MB_16, MA_17, MB_17, MA_18, MB_18, MA_19, MB_19, MA_20, MB_20, MA_21, MB_21, MA_22, MB_22, MA_23, MB_23, MA_24, MB_24, MA_25, MB_25, MA_26, MB_26, MA_27, MB_27, MA_28, MB_28, MA_29, MB_29, MA_30, MB_30, MA_31, MB_31, MA_32, MB_32, MA_33, MB_33, ifp, ifn, Option.bind_some, n_s, n_le, n_lt, n_eq, l8, l40, l64, g40, u40, u6, u3, u0, mul6, mul3, J_bit, cmp0, b2_0, zR_b, zR_0, zR_1, up2_eq, up2_ne, up2J_eq, up2J_ne, mkv_eq, n_m1]
      rw [e1]
  · rintro n st rfl
    simp (disch := first | assumption | omega | decide) only [J_Mod_spread_62, MO_0, MG_0_0, MS_0_0, MR_0_1, MR_0_2, MR_0_3, MR_0_4, MR_0_5, MR_0_6, MR_0_7, MR_0_8, MR_0_9, MR_0_10, MR_0_11, MR_0_12, MR_0_13, MR_0_14, MR_0_15, MR_0_16, MR_0_17, MR_0_18, MR_0_19, MR_0_20, MR_0_21, MR_0_22, MR_0_23, MR_0_24, MR_0_25, MR_0_26, MG_0_27, MS_0_27, MG_0_28, MS_0_28, MG_0_29, MS_0_29, MG_0_30, MS_0_30, MG_0_31, MS_0_31, MR_0_32, MR_0_33, MR_0_34, MR_0_35, MR_0_36, MG_0_37, MS_0_37, MR_0_38, MR_0_39, MA_1, MB_1, MA_2, MB_2, MA_3, MB_3, MA_4, MB_4, MA_5, MB_5, MA_6, MB_6, MA_7, MB_7, MA_8, MB_8, MA_9, MB_9, MA_10, MB_10, MA_11, MB_11, MA_12, MB_12, MA_13, MB_13, MA_14, MB_14, MA_15, MB_15, MA_16, MB_16, MA_17, MB_17, MA_18, MB_18, MA_19, MB_19, MA_20, MB_20, MA_21, MB_21, MA_22, MB_22, MA_23, MB_23, MA_24, MB_24, MA_25, MB_25, MA_26, MB_26, MA_27, MB_27, MA_28, MB_28, MA_29, MB_29, MA_30, MB_30, MA_31, MB_31, MA_32, MB_32, MA_33, MB_33, ifp, ifn, Option.bind_some, n_s, n_le, n_lt, n_eq, l8, l40, l64, g40, u40, u6, u3, u0, mul6, mul3, J_bit, cmp0, b2_0, zR_b, zR_0, zR_1, up2_eq, up2_ne, up2J_eq, up2J_ne, mkv_eq, n_m1]
theorem p_sp45 (r37 : Nat → Int32 → Hp → Option (Unit × Hp)) (hw : VW V) (hm : MV V P) (hA : ∀ s, s < 40 → P 20 s = b2 (A s)) (hAt : ∀ s, s < 40 → A s = true → vth V s = true) (hN : 100 < N) : ∃ m C P', J_Mod_spread_45 N r37 N b 0 (nI 0) (z, mH b P F) = r37 b (b2 m) (z, mH b P' F) ∧ (∀ s, s < 40 → P' 20 s = b2 (C s)) ∧ (∀ o, o ≠ 20 → P' o = P o) ∧ inS A C ∧ (∀ s, s < 40 → C s = true → vth V s = true) ∧ (∀ B, inS A B → clo (tk V) B → inS C B) ∧ (m = false → (∀ t, t < 40 → C t = A t) ∧ clo (tk V) A) ∧ (m = true → cnt 40 A < cnt 40 C) := by
  refine lpx 40 (fun n (st : Int32 × Int32 × Hp) => J_Mod_spread_45 N r37 n b st.1 st.2.1 st.2.2) (fun k st => ∃ m C P', st = (b2 m, nI k, (z, mH b P' F)) ∧ (∀ s, s < 40 → P' 20 s = b2 (C s)) ∧ (∀ o, o ≠ 20 → P' o = P o) ∧ inS A C ∧ (∀ s, s < 40 → C s = true → vth V s = true) ∧ (∀ B, inS A B → clo (tk V) B → inS C B) ∧ (m = false → (∀ t, t < 40 → C t = A t) ∧ ∀ s t, s < 40 → t < k → A s = true → tk V s t = true → A t = true) ∧ (m = true → cnt 40 A < cnt 40 C)) (fun r => ∃ m C P', r = r37 b (b2 m) (z, mH b P' F) ∧ (∀ s, s < 40 → P' 20 s = b2 (C s)) ∧ (∀ o, o ≠ 20 → P' o = P o) ∧ inS A C ∧ (∀ s, s < 40 → C s = true → vth V s = true) ∧ (∀ B, inS A B → clo (tk V) B → inS C B) ∧ (m = false → (∀ t, t < 40 → C t = A t) ∧ clo (tk V) A) ∧ (m = true → cnt 40 A < cnt 40 C)) ?_ ?_ N (0, nI 0, (z, mH b P F)) (by omega) ⟨false, A, P, rfl, hA, fun _ _ => rfl, fun _ _ h => h, hAt, fun B h _ => h, fun _ => ⟨fun _ _ => rfl, fun s t _ h => by omega⟩, fun h => absurd h (by simp)⟩
  · rintro n k st hk ⟨m, C, P', rfl, h1, h2, h3, h4, h5, h6, h7⟩
    have a1 := h1 k hk
    have hm' : MV V P' := MV_c hm (fun o ho => h2 o (by rcases ho with h | h | h | h | h | h <;> omega))
    have a2 := p_sp62 (V := V) (P := P') (A := C) (N := N) (z := z) (b := b) (F := F) (t := k) r37 (J_Mod_spread_45 N r37 n) (x2 := b2 m) hw hm' h1 h4 hk hN
    have a2' : J_Mod_spread_62 N r37 (J_Mod_spread_45 N r37 n) N b (b2 m) (nI k) (b2 (C k)) (0 : Int32) (z, mH b P' F) = _ := a2
    refine Or.inr ?_
    have same : (C k || anyB 40 (fun s => C s && tk V s k)) = C k → ∃ st', J_Mod_spread_45 N r37 (n + 1) b (b2 m) (nI k) (z, mH b P' F) = J_Mod_spread_45 N r37 n b st'.1 st'.2.1 st'.2.2 ∧ ∃ m C P', st' = (b2 m, nI (k + 1), (z, mH b P' F)) ∧ (∀ s, s < 40 → P' 20 s = b2 (C s)) ∧ (∀ o, o ≠ 20 → P' o = P o) ∧ inS A C ∧ (∀ s, s < 40 → C s = true → vth V s = true) ∧ (∀ B, inS A B → clo (tk V) B → inS C B) ∧ (m = false → (∀ t, t < 40 → C t = A t) ∧ ∀ s t, s < 40 → t < k + 1 → A s = true → tk V s t = true → A t = true) ∧ (m = true → cnt 40 A < cnt 40 C) := by
      intro e
      refine ⟨(b2 m, nI (k + 1), (z, mH b (up2 P' 20 k (b2 (C k))) F)), ?_, m, C, _, rfl, fun s hs => ?_, fun o ho => by rw [up2_row ho]; exact h2 o ho, h3, h4, h5, fun hm0 => ⟨(h6 hm0).1, fun s t hs ht hAs hT => ?_⟩, h7⟩
      · rw [e] at a2'
        have c1 := b2_z (C k)
        cases m
        · simp (disch := first | assumption | omega | decide) only [J_Mod_spread_45, a1, a2', J_Mod_spread_107, J_Mod_spread_127, MO_0, MG_0_0, MS_0_0, MR_0_1, MR_0_2, MR_0_3, MR_0_4, MR_0_5, MR_0_6, MR_0_7, MR_0_8, MR_0_9, MR_0_10, MR_0_11, MR_0_12, MR_0_13, MR_0_14, MR_0_15, MR_0_16, MR_0_17, MR_0_18, MR_0_19, MR_0_20, MR_0_21, MR_0_22, MR_0_23, MR_0_24, MR_0_25, MR_0_26, MG_0_27, MS_0_27, MG_0_28, MS_0_28, MG_0_29, MS_0_29, MG_0_30, MS_0_30, MG_0_31, MS_0_31, MR_0_32, MR_0_33, MR_0_34, MR_0_35, MR_0_36, MG_0_37, MS_0_37, MR_0_38, MR_0_39, MA_1, MB_1, MA_2, MB_2, MA_3, MB_3, MA_4, MB_4, MA_5, MB_5, MA_6, MB_6, MA_7, MB_7, MA_8, MB_8, MA_9, MB_9, MA_10, MB_10, MA_11, MB_11, MA_12, MB_12, MA_13, MB_13, MA_14, MB_14, MA_15, MB_15, MA_16, MB_16, MA_17, MB_17, MA_18, MB_18, MA_19, MB_19, MA_20, MB_20, MA_21, MB_21, MA_22, MB_22, MA_23, MB_23, MA_24, MB_24, MA_25, MB_25, MA_26, MB_26, MA_27, MB_27, MA_28, MB_28, MA_29, MB_29, MA_30, MB_30, MA_31, MB_31, MA_32, MB_32, MA_33, MB_33, ifp, ifn, Option.bind_some, n_s, n_le, n_lt, n_eq, l8, l40, l64, g40, u40, u6, u3, u0, mul6, mul3, J_bit, cmp0, b2_0, zR_b, zR_0, zR_1, up2_eq, up2_ne, up2J_eq, up2J_ne, mkv_eq, n_m1]
          rfl
        · simp (disch := first | assumption | omega | decide) only [J_Mod_spread_45, a1, a2', J_Mod_spread_107, J_Mod_spread_127, MO_0, MG_0_0, MS_0_0, MR_0_1, MR_0_2, MR_0_3, MR_0_4, MR_0_5, MR_0_6, MR_0_7, MR_0_8, MR_0_9, MR_0_10, MR_0_11, MR_0_12, MR_0_13, MR_0_14, MR_0_15, MR_0_16, MR_0_17, MR_0_18, MR_0_19, MR_0_20, MR_0_21, MR_0_22, MR_0_23, MR_0_24, MR_0_25, MR_0_26, MG_0_27, MS_0_27, MG_0_28, MS_0_28, MG_0_29, MS_0_29, MG_0_30, MS_0_30, MG_0_31, MS_0_31, MR_0_32, MR_0_33, MR_0_34, MR_0_35, MR_0_36, MG_0_37, MS_0_37, MR_0_38, MR_0_39, MA_1, MB_1, MA_2, MB_2, MA_3, MB_3, MA_4, MB_4, MA_5, MB_5, MA_6, MB_6, MA_7, MB_7, MA_8, MB_8, MA_9, MB_9, MA_10, MB_10, MA_11, MB_11, MA_12, MB_12, MA_13, MB_13, MA_14, MB_14, MA_15, MB_15, MA_16, MB_16, MA_17, MB_17, MA_18, MB_18, MA_19, MB_19, MA_20, MB_20, MA_21, MB_21, MA_22, MB_22, MA_23, MB_23, MA_24, MB_24, MA_25, MB_25, MA_26, MB_26, MA_27, MB_27, MA_28, MB_28, MA_29, MB_29, MA_30, MB_30, MA_31, MB_31, MA_32, MB_32, MA_33, MB_33, ifp, ifn, Option.bind_some, n_s, n_le, n_lt, n_eq, l8, l40, l64, g40, u40, u6, u3, u0, mul6, mul3, J_bit, cmp0, b2_0, zR_b, zR_0, zR_1, up2_eq, up2_ne, up2J_eq, up2J_ne, mkv_eq, n_m1]
          simp [b2]
      · by_cases q : s = k
        · subst q; rw [up2_eq]
        · rw [up2_ne (by omega)]; exact h1 s hs
      · by_cases q : t = k
        · subst q
          have c1 := (h6 hm0).1
          rw [← c1 t hk]
          cases e2 : C t
          · rw [e2, Bool.false_or] at e
            have := anyB_no.mp e s hs
            rw [c1 s hs, hAs, hT] at this
            exact absurd this (by simp)
          · rfl
        · exact (h6 hm0).2 s t hs (by omega) hAs hT
    cases e1 : C k
    · cases e2 : anyB 40 (fun s => C s && tk V s k)
      · exact same (by rw [e1, e2]; rfl)
      · obtain ⟨s0, hs0, e3⟩ := anyB_iff.mp e2
        simp only [Bool.and_eq_true] at e3
        have e4 : vth V k = true := by
          obtain ⟨j, hj, e5⟩ := tk_iff.mp e3.2
          have := (hw.2.2.2.2.1 _ (hw.2.1 s0 j hs0 hj) (by omega)).1
          rw [e5] at this; exact this
        refine ⟨(b2 true, nI (k + 1), (z, mH b (up2 P' 20 k (b2 true)) F)), ?_, true, fun t => C t || decide (t = k), _, rfl, fun s hs => ?_, fun o ho => by rw [up2_row ho]; exact h2 o ho, fun t ht h => by simp [h3 t ht h], fun s hs h => ?_, fun B h8 h9 t ht h => ?_, fun h => absurd h (by simp), fun _ => ?_⟩
        · rw [e1, e2, Bool.or_true] at a2'
          rw [e1] at a1
          have c0 : ¬ b2 true = b2 false := by decide
          have c1 := b2_z true
          cases m
          · simp (disch := first | assumption | omega | decide) only [J_Mod_spread_45, a1, a2', J_Mod_spread_107, J_Mod_spread_127, MO_0, MG_0_0, MS_0_0, MR_0_1, MR_0_2, MR_0_3, MR_0_4, MR_0_5, MR_0_6, MR_0_7, MR_0_8, MR_0_9, MR_0_10, MR_0_11, MR_0_12, MR_0_13, MR_0_14, MR_0_15, MR_0_16, MR_0_17, MR_0_18, MR_0_19, MR_0_20, MR_0_21, MR_0_22, MR_0_23, MR_0_24, MR_0_25, MR_0_26, MG_0_27, MS_0_27, MG_0_28, MS_0_28, MG_0_29, MS_0_29, MG_0_30, MS_0_30, MG_0_31, MS_0_31, MR_0_32, MR_0_33, MR_0_34, MR_0_35, MR_0_36, MG_0_37, MS_0_37, MR_0_38, MR_0_39, MA_1, MB_1, MA_2, MB_2, MA_3, MB_3, MA_4, MB_4, MA_5, MB_5, MA_6, MB_6, MA_7, MB_7, MA_8, MB_8, MA_9, MB_9, MA_10, MB_10, MA_11, MB_11, MA_12, MB_12, MA_13, MB_13, MA_14, MB_14, MA_15, MB_15, MA_16, MB_16, MA_17, MB_17, MA_18, MB_18, MA_19, MB_19, MA_20, MB_20, MA_21, MB_21, MA_22, MB_22, MA_23, MB_23, MA_24, MB_24, MA_25, MB_25, MA_26, MB_26, MA_27, MB_27, MA_28, MB_28, MA_29, MB_29, MA_30, MB_30, MA_31, MB_31, MA_32, MB_32, MA_33, MB_33, ifp, ifn, Option.bind_some, n_s, n_le, n_lt, n_eq, l8, l40, l64, g40, u40, u6, u3, u0, mul6, mul3, J_bit, cmp0, b2_0, zR_b, zR_0, zR_1, up2_eq, up2_ne, up2J_eq, up2J_ne, mkv_eq, n_m1]
            rfl
          · simp (disch := first | assumption | omega | decide) only [J_Mod_spread_45, a1, a2', J_Mod_spread_107, J_Mod_spread_127, MO_0, MG_0_0, MS_0_0, MR_0_1, MR_0_2, MR_0_3, MR_0_4, MR_0_5, MR_0_6, MR_0_7, MR_0_8, MR_0_9, MR_0_10, MR_0_11, MR_0_12, MR_0_13, MR_0_14, MR_0_15, MR_0_16, MR_0_17, MR_0_18, MR_0_19, MR_0_20, MR_0_21, MR_0_22, MR_0_23, MR_0_24, MR_0_25, MR_0_26, MG_0_27, MS_0_27, MG_0_28, MS_0_28, MG_0_29, MS_0_29, MG_0_30, MS_0_30, MG_0_31, MS_0_31, MR_0_32, MR_0_33, MR_0_34, MR_0_35, MR_0_36, MG_0_37, MS_0_37, MR_0_38, MR_0_39, MA_1, MB_1, MA_2, MB_2, MA_3, MB_3, MA_4, MB_4, MA_5, MB_5, MA_6, MB_6, MA_7, MB_7, MA_8, MB_8, MA_9, MB_9, MA_10, MB_10, MA_11, MB_11, MA_12, MB_12, MA_13, MB_13, MA_14, MB_14, MA_15, MB_15, MA_16, MB_16, MA_17, MB_17, MA_18, MB_18, MA_19, MB_19, MA_20, MB_20, MA_21, MB_21, MA_22, MB_22, MA_23, MB_23, MA_24, MB_24, MA_25, MB_25, MA_26, MB_26, MA_27, MB_27, MA_28, MB_28, MA_29, MB_29, MA_30, MB_30, MA_31, MB_31, MA_32, MB_32, MA_33, MB_33, ifp, ifn, Option.bind_some, n_s, n_le, n_lt, n_eq, l8, l40, l64, g40, u40, u6, u3, u0, mul6, mul3, J_bit, cmp0, b2_0, zR_b, zR_0, zR_1, up2_eq, up2_ne, up2J_eq, up2J_ne, mkv_eq, n_m1]
            simp [b2]
        · by_cases q : s = k
          · subst q; rw [up2_eq]; simp
          · rw [up2_ne (by omega), h1 s hs]; simp [q]
        · rcases Bool.or_eq_true _ _ ▸ h with h | h
          · exact h4 s hs h
          · have : s = k := by simpa using h
            rw [this]; exact e4
        · rcases Bool.or_eq_true _ _ ▸ h with h | h
          · exact h5 B h8 h9 t ht h
          · have : t = k := by simpa using h
            rw [this]
            exact h9 s0 k hs0 hk (h5 B h8 h9 s0 hs0 e3.1) e3.2
        · have c1 : cnt 40 A ≤ cnt 40 C := cnt_mono h3
          have c2 := cnt_add (n := 40) (p := C) (q := fun t => C t || decide (t = k)) k hk e1 (by simp) (fun j _ hj => by simp [hj])
          omega
    · exact same (by rw [e1, Bool.true_or])
  · rintro n st ⟨m, C, P', rfl, h1, h2, h3, h4, h5, h6, h7⟩
    refine ⟨m, C, P', ?_, h1, h2, h3, h4, h5, fun hm0 => ⟨(h6 hm0).1, fun s t hs ht => (h6 hm0).2 s t hs ht⟩, h7⟩
    simp (disch := first | assumption | omega | decide) only [J_Mod_spread_45, MO_0, MG_0_0, MS_0_0, MR_0_1, MR_0_2, MR_0_3, MR_0_4, MR_0_5, MR_0_6, MR_0_7, MR_0_8, MR_0_9, MR_0_10, MR_0_11, MR_0_12, MR_0_13, MR_0_14, MR_0_15, MR_0_16, MR_0_17, MR_0_18, MR_0_19, MR_0_20, MR_0_21, MR_0_22, MR_0_23, MR_0_24, MR_0_25, MR_0_26, MG_0_27, MS_0_27, MG_0_28, MS_0_28, MG_0_29, MS_0_29, MG_0_30, MS_0_30, MG_0_31, MS_0_31, MR_0_32, MR_0_33, MR_0_34, MR_0_35, MR_0_36, MG_0_37, MS_0_37, MR_0_38, MR_0_39, MA_1, MB_1, MA_2, MB_2, MA_3, MB_3, MA_4, MB_4, MA_5, MB_5, MA_6, MB_6, MA_7, MB_7, MA_8, MB_8, MA_9, MB_9, MA_10, MB_10, MA_11, MB_11, MA_12, MB_12, MA_13, MB_13, MA_14, MB_14, MA_15, MB_15, MA_16, MB_16, MA_17, MB_17, MA_18, MB_18, MA_19, MB_19, MA_20, MB_20, MA_21, MB_21, MA_22, MB_22, MA_23, MB_23, MA_24, MB_24, MA_25, MB_25, MA_26, MB_26, MA_27, MB_27, MA_28, MB_28, MA_29, MB_29, MA_30, MB_30, MA_31, MB_31, MA_32, MB_32, MA_33, MB_33, ifp, ifn, Option.bind_some, n_s, n_le, n_lt, n_eq, l8, l40, l64, g40, u40, u6, u3, u0, mul6, mul3, J_bit, cmp0, b2_0, zR_b, zR_0, zR_1, up2_eq, up2_ne, up2J_eq, up2J_ne, mkv_eq, n_m1]
theorem p_spread {f : Nat} (hw : VW V) (hm : MV V P) (hf : f < 64) (hN : 100 < N) : ∃ P' A, J_Mod_spread N b (nI f) (z, mH b P F) = some ((), (z, mH b P' F)) ∧ (∀ s, s < 40 → P' 20 s = b2 (A s)) ∧ (∀ o, o ≠ 20 → P' o = P o) ∧ (∀ s, s < 40 → A s = true → vth V s = true) ∧ Lst (fun t => decide (t = vmk V f)) (tk V) A := by
  have a1 := hm.2.2.2.1 f hf
  have a2 := hw.2.2.2.1 f hf
  rw [J_Mod_spread]
  refine lpx 40 (fun n (st : Int32 × Hp) => J_Mod_spread_2 N n b (nI f) st.1 st.2) (fun k st => ∃ P', st = (nI k, (z, mH b P' F)) ∧ (∀ s, s < k → P' 20 s = b2 (decide (s = vmk V f))) ∧ (∀ o, o ≠ 20 → P' o = P o)) (fun r => ∃ P' A, r = some ((), (z, mH b P' F)) ∧ (∀ s, s < 40 → P' 20 s = b2 (A s)) ∧ (∀ o, o ≠ 20 → P' o = P o) ∧ (∀ s, s < 40 → A s = true → vth V s = true) ∧ Lst (fun t => decide (t = vmk V f)) (tk V) A) ?_ ?_ N (nI 0, (z, mH b P F)) (by omega) ⟨P, rfl, fun s h => by omega, fun _ _ => rfl⟩
  · rintro n k st hk ⟨P', rfl, h1, h2⟩
    have a3 : P' 3 f = mkv (vmk V f) := by rw [h2 3 (by omega)]; exact a1
    refine Or.inr ⟨(nI (k + 1), (z, mH b (up2 P' 20 k (b2 (decide (k = vmk V f)))) F)), ?_, _, rfl, fun s hs => ?_, fun o ho => by rw [up2_row ho]; exact h2 o ho⟩
    · by_cases q : vmk V f = k
      · simp (disch := first | assumption | omega | decide) only [J_Mod_spread_2, a3, mkv_nI, MO_0, MG_0_0, MS_0_0, MR_0_1, MR_0_2, MR_0_3, MR_0_4, MR_0_5, MR_0_6, MR_0_7, MR_0_8, MR_0_9, MR_0_10, MR_0_11, MR_0_12, MR_0_13, MR_0_14, MR_0_15, MR_0_16, MR_0_17, MR_0_18, MR_0_19, MR_0_20, MR_0_21, MR_0_22, MR_0_23, MR_0_24, MR_0_25, MR_0_26, MG_0_27, MS_0_27, MG_0_28, MS_0_28, MG_0_29, MS_0_29, MG_0_30, MS_0_30, MG_0_31, MS_0_31, MR_0_32, MR_0_33, MR_0_34, MR_0_35, MR_0_36, MG_0_37, MS_0_37, MR_0_38, MR_0_39, MA_1, MB_1, MA_2, MB_2, MA_3, MB_3, MA_4, MB_4, MA_5, MB_5, MA_6, MB_6, MA_7, MB_7, MA_8, MB_8, MA_9, MB_9, MA_10, MB_10, MA_11, MB_11, MA_12, MB_12, MA_13, MB_13, MA_14, MB_14, MA_15, MB_15, MA_16, MB_16, MA_17, MB_17, MA_18, MB_18, MA_19, MB_19, MA_20, MB_20, MA_21, MB_21, MA_22, MB_22, MA_23, MB_23, MA_24, MB_24, MA_25, MB_25, MA_26, MB_26, MA_27, MB_27, MA_28, MB_28, MA_29, MB_29, MA_30, MB_30, MA_31, MB_31, MA_32, MB_32, MA_33, MB_33, ifp, ifn, Option.bind_some, n_s, n_le, n_lt, n_eq, l8, l40, l64, g40, u40, u6, u3, u0, mul6, mul3, J_bit, cmp0, b2_0, zR_b, zR_0, zR_1, up2_eq, up2_ne, up2J_eq, up2J_ne, mkv_eq, n_m1]
        simp [q, b2]
      · have q' : ¬ k = vmk V f := fun h => q h.symm
        simp (disch := first | assumption | omega | decide) only [J_Mod_spread_2, a3, mkv_nI, MO_0, MG_0_0, MS_0_0, MR_0_1, MR_0_2, MR_0_3, MR_0_4, MR_0_5, MR_0_6, MR_0_7, MR_0_8, MR_0_9, MR_0_10, MR_0_11, MR_0_12, MR_0_13, MR_0_14, MR_0_15, MR_0_16, MR_0_17, MR_0_18, MR_0_19, MR_0_20, MR_0_21, MR_0_22, MR_0_23, MR_0_24, MR_0_25, MR_0_26, MG_0_27, MS_0_27, MG_0_28, MS_0_28, MG_0_29, MS_0_29, MG_0_30, MS_0_30, MG_0_31, MS_0_31, MR_0_32, MR_0_33, MR_0_34, MR_0_35, MR_0_36, MG_0_37, MS_0_37, MR_0_38, MR_0_39, MA_1, MB_1, MA_2, MB_2, MA_3, MB_3, MA_4, MB_4, MA_5, MB_5, MA_6, MB_6, MA_7, MB_7, MA_8, MB_8, MA_9, MB_9, MA_10, MB_10, MA_11, MB_11, MA_12, MB_12, MA_13, MB_13, MA_14, MB_14, MA_15, MB_15, MA_16, MB_16, MA_17, MB_17, MA_18, MB_18, MA_19, MB_19, MA_20, MB_20, MA_21, MB_21, MA_22, MB_22, MA_23, MB_23, MA_24, MB_24, MA_25, MB_25, MA_26, MB_26, MA_27, MB_27, MA_28, MB_28, MA_29, MB_29, MA_30, MB_30, MA_31, MB_31, MA_32, MB_32, MA_33, MB_33, ifp, ifn, Option.bind_some, n_s, n_le, n_lt, n_eq, l8, l40, l64, g40, u40, u6, u3, u0, mul6, mul3, J_bit, cmp0, b2_0, zR_b, zR_0, zR_1, up2_eq, up2_ne, up2J_eq, up2J_ne, mkv_eq, n_m1]
        simp [q', b2]
    · by_cases q : s = k
      · subst q; rw [up2_eq]
      · rw [up2_ne (by omega)]; exact h1 s (by omega)
  · rintro n st ⟨P0, rfl, h1, h2⟩
    simp (disch := first | assumption | omega | decide) only [J_Mod_spread_2, MO_0, MG_0_0, MS_0_0, MR_0_1, MR_0_2, MR_0_3, MR_0_4, MR_0_5, MR_0_6, MR_0_7, MR_0_8, MR_0_9, MR_0_10, MR_0_11, MR_0_12, MR_0_13, MR_0_14, MR_0_15, MR_0_16, MR_0_17, MR_0_18, MR_0_19, MR_0_20, MR_0_21, MR_0_22, MR_0_23, MR_0_24, MR_0_25, MR_0_26, MG_0_27, MS_0_27, MG_0_28, MS_0_28, MG_0_29, MS_0_29, MG_0_30, MS_0_30, MG_0_31, MS_0_31, MR_0_32, MR_0_33, MR_0_34, MR_0_35, MR_0_36, MG_0_37, MS_0_37, MR_0_38, MR_0_39, MA_1, MB_1, MA_2, MB_2, MA_3, MB_3, MA_4, MB_4, MA_5, MB_5, MA_6, MB_6, MA_7, MB_7, MA_8, MB_8, MA_9, MB_9, MA_10, MB_10, MA_11, MB_11, MA_12, MB_12, MA_13, MB_13, MA_14, MB_14, MA_15, MB_15, MA_16, MB_16, MA_17, MB_17, MA_18, MB_18, MA_19, MB_19, MA_20, MB_20, MA_21, MB_21, MA_22, MB_22, MA_23, MB_23, MA_24, MB_24, MA_25, MB_25, MA_26, MB_26, MA_27, MB_27, MA_28, MB_28, MA_29, MB_29, MA_30, MB_30, MA_31, MB_31, MA_32, MB_32, MA_33, MB_33, ifp, ifn, Option.bind_some, n_s, n_le, n_lt, n_eq, l8, l40, l64, g40, u40, u6, u3, u0, mul6, mul3, J_bit, cmp0, b2_0, zR_b, zR_0, zR_1, up2_eq, up2_ne, up2J_eq, up2J_ne, mkv_eq, n_m1]
    refine lpx 41 (fun n (st : Int32 × Hp) => J_Mod_spread_37 N n b st.1 st.2) (fun p st => ∃ m A P', st = (b2 m, (z, mH b P' F)) ∧ (∀ s, s < 40 → P' 20 s = b2 (A s)) ∧ (∀ o, o ≠ 20 → P' o = P o) ∧ inS (fun t => decide (t = vmk V f)) A ∧ (∀ s, s < 40 → A s = true → vth V s = true) ∧ (∀ B, inS (fun t => decide (t = vmk V f)) B → clo (tk V) B → inS A B) ∧ (m = false → clo (tk V) A) ∧ (m = true → p ≤ cnt 40 A)) (fun r => ∃ P' A, r = some ((), (z, mH b P' F)) ∧ (∀ s, s < 40 → P' 20 s = b2 (A s)) ∧ (∀ o, o ≠ 20 → P' o = P o) ∧ (∀ s, s < 40 → A s = true → vth V s = true) ∧ Lst (fun t => decide (t = vmk V f)) (tk V) A) ?_ ?_ N (1, (z, mH b P0 F)) (by omega) ⟨true, fun t => decide (t = vmk V f), P0, rfl, h1, h2, fun _ _ h => h, fun s hs h => ?_, fun B h _ => h, fun h => absurd h (by simp), fun _ => Nat.zero_le _⟩
    · rintro n p st hp ⟨m, A, P', rfl, k1, k2, k3, k4, k5, k6, k7⟩
      cases m
      · refine Or.inl ⟨P', A, ?_, k1, k2, k4, k3, k6 rfl, k5⟩
        simp (disch := first | assumption | omega | decide) only [J_Mod_spread_37, b2_f, MO_0, MG_0_0, MS_0_0, MR_0_1, MR_0_2, MR_0_3, MR_0_4, MR_0_5, MR_0_6, MR_0_7, MR_0_8, MR_0_9, MR_0_10, MR_0_11, MR_0_12, MR_0_13, MR_0_14, MR_0_15, MR_0_16, MR_0_17, MR_0_18, MR_0_19, MR_0_20, MR_0_21, MR_0_22, MR_0_23, MR_0_24, MR_0_25, MR_0_26, MG_0_27, MS_0_27, MG_0_28, MS_0_28, MG_0_29, MS_0_29, MG_0_30, MS_0_30, MG_0_31, MS_0_31, MR_0_32, MR_0_33, MR_0_34, MR_0_35, MR_0_36, MG_0_37, MS_0_37, MR_0_38, MR_0_39, MA_1, MB_1, MA_2, MB_2, MA_3, MB_3, MA_4, MB_4, MA_5, MB_5, MA_6, MB_6, MA_7, MB_7, MA_8, MB_8, MA_9, MB_9, MA_10, MB_10, MA_11, MB_11, MA_12, MB_12, MA_13, MB_13, MA_14, MB_14, MA_15, MB_15, MA_16, MB_16, MA_17, MB_17, MA_18, MB_18, MA_19, MB_19, MA_20, MB_20, MA_21, MB_21, MA_22, MB_22, MA_23, MB_23, MA_24, MB_24, MA_25, MB_25, MA_26, MB_26, MA_27, MB_27, MA_28, MB_28, MA_29, MB_29, MA_30, MB_30, MA_31, MB_31, MA_32, MB_32, MA_33, MB_33, ifp, ifn, Option.bind_some, n_s, n_le, n_lt, n_eq, l8, l40, l64, g40, u40, u6, u3, u0, mul6, mul3, J_bit, cmp0, b2_0, zR_b, zR_0, zR_1, up2_eq, up2_ne, up2J_eq, up2J_ne, mkv_eq, n_m1]
      · have hm' : MV V P' := MV_c hm (fun o ho => k2 o (by rcases ho with h | h | h | h | h | h <;> omega))
        obtain ⟨m', C, P'', e1, e2, e3, e4, e5, e6, e7, e8⟩ := p_sp45 (V := V) (P := P') (A := A) (N := N) (z := z) (b := b) (F := F) (J_Mod_spread_37 N n) hw hm' k1 k4 hN
        refine Or.inr ⟨(b2 m', (z, mH b P'' F)), ?_, m', C, P'', rfl, e2, fun o ho => by rw [e3 o ho]; exact k2 o ho, fun t ht h => e4 t ht (k3 t ht h), e5, fun B h3 h4 => e6 B (k5 B h3 h4) h4, fun h => ?_, fun h => ?_⟩
        · simp (disch := first | assumption | omega | decide) only [J_Mod_spread_37, b2_t, MO_0, MG_0_0, MS_0_0, MR_0_1, MR_0_2, MR_0_3, MR_0_4, MR_0_5, MR_0_6, MR_0_7, MR_0_8, MR_0_9, MR_0_10, MR_0_11, MR_0_12, MR_0_13, MR_0_14, MR_0_15, MR_0_16, MR_0_17, MR_0_18, MR_0_19, MR_0_20, MR_0_21, MR_0_22, MR_0_23, MR_0_24, MR_0_25, MR_0_26, MG_0_27, MS_0_27, MG_0_28, MS_0_28, MG_0_29, MS_0_29, MG_0_30, MS_0_30, MG_0_31, MS_0_31, MR_0_32, MR_0_33, MR_0_34, MR_0_35, MR_0_36, MG_0_37, MS_0_37, MR_0_38, MR_0_39, MA_1, MB_1, MA_2, MB_2, MA_3, MB_3, MA_4, MB_4, MA_5, MB_5, MA_6, MB_6, MA_7, MB_7, MA_8, MB_8, MA_9, MB_9, MA_10, MB_10, MA_11, MB_11, MA_12, MB_12, MA_13, MB_13, MA_14, MB_14, MA_15, MB_15, MA_16, MB_16, MA_17, MB_17, MA_18, MB_18, MA_19, MB_19, MA_20, MB_20, MA_21, MB_21, MA_22, MB_22, MA_23, MB_23, MA_24, MB_24, MA_25, MB_25, MA_26, MB_26, MA_27, MB_27, MA_28, MB_28, MA_29, MB_29, MA_30, MB_30, MA_31, MB_31, MA_32, MB_32, MA_33, MB_33, ifp, ifn, Option.bind_some, n_s, n_le, n_lt, n_eq, l8, l40, l64, g40, u40, u6, u3, u0, mul6, mul3, J_bit, cmp0, b2_0, zR_b, zR_0, zR_1, up2_eq, up2_ne, up2J_eq, up2J_ne, mkv_eq, n_m1]
          exact e1
        · obtain ⟨c1, c2⟩ := e7 h
          intro s t hs ht h3 h4
          rw [c1 t ht]
          rw [c1 s hs] at h3
          exact c2 s t hs ht h3 h4
        · have := k7 rfl
          have := e8 h
          omega
    · rintro n st ⟨m, A, P', rfl, k1, k2, k3, k4, k5, k6, k7⟩
      cases m
      · refine ⟨P', A, ?_, k1, k2, k4, k3, k6 rfl, k5⟩
        simp (disch := first | assumption | omega | decide) only [J_Mod_spread_37, b2_f, MO_0, MG_0_0, MS_0_0, MR_0_1, MR_0_2, MR_0_3, MR_0_4, MR_0_5, MR_0_6, MR_0_7, MR_0_8, MR_0_9, MR_0_10, MR_0_11, MR_0_12, MR_0_13, MR_0_14, MR_0_15, MR_0_16, MR_0_17, MR_0_18, MR_0_19, MR_0_20, MR_0_21, MR_0_22, MR_0_23, MR_0_24, MR_0_25, MR_0_26, MG_0_27, MS_0_27, MG_0_28, MS_0_28, MG_0_29, MS_0_29, MG_0_30, MS_0_30, MG_0_31, MS_0_31, MR_0_32, MR_0_33, MR_0_34, MR_0_35, MR_0_36, MG_0_37, MS_0_37, MR_0_38, MR_0_39, MA_1, MB_1, MA_2, MB_2, MA_3, MB_3, MA_4, MB_4, MA_5, MB_5, MA_6, MB_6, MA_7, MB_7, MA_8, MB_8, MA_9, MB_9, MA_10, MB_10, MA_11, MB_11, MA_12, MB_12, MA_13, MB_13, MA_14, MB_14, MA_15, MB_15, MA_16, MB_16, MA_17, MB_17, MA_18, MB_18, MA_19, MB_19, MA_20, MB_20, MA_21, MB_21, MA_22, MB_22, MA_23, MB_23, MA_24, MB_24, MA_25, MB_25, MA_26, MB_26, MA_27, MB_27, MA_28, MB_28, MA_29, MB_29, MA_30, MB_30, MA_31, MB_31, MA_32, MB_32, MA_33, MB_33, ifp, ifn, Option.bind_some, n_s, n_le, n_lt, n_eq, l8, l40, l64, g40, u40, u6, u3, u0, mul6, mul3, J_bit, cmp0, b2_0, zR_b, zR_0, zR_1, up2_eq, up2_ne, up2J_eq, up2J_ne, mkv_eq, n_m1]
      · have := k7 rfl
        have := @cnt_le A 40
        omega
    · have h3 : s = vmk V f := by simpa using h
      have := (hw.2.2.2.2.1 f hf (by omega)).1
      rw [← h3] at this; exact this
end MN
