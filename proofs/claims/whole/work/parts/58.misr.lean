theorem nr_congr {p q : Nat → Bool} {fr : Nat → Nat} : ∀ {n : Nat}, (∀ j, j < n → p j = q j) → nr p fr n = nr q fr n
  | 0, _ => rfl
  | n + 1, h => by rw [nr, nr, nr_congr (n := n) (fun j hj => h j (by omega)), h n (by omega)]
section MR
variable {V : Vw} {z b N s t : Nat} {P : Nat → Nat → Int32} {F : Nat → Option HE} {A Fi : Nat → Bool}
/-- what isRound finds -/
def Rnd (V : Vw) (A : Nat → Bool) (s m : Nat) : Prop := s < 40 ∧ A s = true ∧ (∀ t, t < s → A t = true → ∀ d, 1 ≤ d → d ≤ 40 → wk (Ed V A) t d t = false) ∧ 1 ≤ m ∧ m ≤ 40 ∧ wk (Ed V A) s m s = true ∧ (∀ d, d < m → 1 ≤ d → wk (Ed V A) s d s = false)
theorem Rnd_u {s s' m m' : Nat} (h : Rnd V A s m) (h' : Rnd V A s' m') : s = s' ∧ m = m' := by
  obtain ⟨a1, a2, a3, a4, a5, a6, a7⟩ := h
  obtain ⟨b1, b2', b3, b4, b5, b6, b7⟩ := h'
  have e : s = s' := by
    rcases Nat.lt_trichotomy s s' with q | q | q
    · have := b3 s q a2 m a4 a5; rw [a6] at this; exact absurd this (by simp)
    · exact q
    · have := a3 s' q b2' m' b4 b5; rw [b6] at this; exact absurd this (by simp)
  subst e
  refine ⟨rfl, ?_⟩
  rcases Nat.lt_trichotomy m m' with q | q | q
  · have := b7 m q a4; rw [a6] at this; exact absurd this (by simp)
  · exact q
  · have := a7 m' q b4; rw [b6] at this; exact absurd this (by simp)
theorem p_ir51 {m : Nat} {fr : Nat → Nat} (hw : VW V) (hm : MV V P) (hAt : ∀ s, s < 40 → A s = true → vth V s = true) (hR : ∀ j, j < 40 → P 33 j = nI (fr j)) (hG : GI (Ed V A) s fr) (hx : ∀ s' t, s' < 40 → t < 40 → s' ≠ s → Ed V A s' t = true → fr s' ≤ fr t + 1) (hn : Rnd V A s m) (h37 : P 0 37 = nI 1) (h32 : P 32 0 = nI s) (hN : 1000000 < N) : ∃ P', J_Mod_isRound_51 N N b (nI s) (nI (mem (Ed V A) s m 1)) (z, mH b P F) = some (1, (z, mH b P' F)) ∧ (∀ o k, o ≠ 32 → (o ≠ 0 ∨ k ≠ 37) → P' o k = P o k) ∧ P' 0 37 = nI m ∧ ∀ i, i < m → P' 32 i = nI (mem (Ed V A) s m i) := by
  obtain ⟨hs, hAs, _, hm1, hm2, hwk, hmin⟩ := hn
  have hfix := GI_fix hG hx
  have nm : ∀ i, i < m → mem (Ed V A) s m (i + 1) < 40 := fun i hi => (near_mem hs hwk hm2 hmin hG hfix hi).2
  have hok := mem_ok hs hwk
  have hAm : ∀ i, i < m → A (mem (Ed V A) s m i) = true := by
    intro i hi
    have h2 := (hok i hi).2
    rw [show m - i = (m - i - 1) + 1 by omega] at h2
    obtain ⟨u, hu, e1, e2⟩ := wk_s.mp h2
    simp [Ed] at e1; exact e1.1
  refine lpx (m - 1) (fun n (st : Int32 × Hp) => J_Mod_isRound_51 N n b (nI s) st.1 st.2) (fun k st => ∃ P', st = (nI (mem (Ed V A) s m (k + 1)), (z, mH b P' F)) ∧ (∀ o k, o ≠ 32 → (o ≠ 0 ∨ k ≠ 37) → P' o k = P o k) ∧ P' 0 37 = nI (k + 1) ∧ ∀ i, i < k + 1 → P' 32 i = nI (mem (Ed V A) s m i)) (fun r => ∃ P', r = some (1, (z, mH b P' F)) ∧ (∀ o k, o ≠ 32 → (o ≠ 0 ∨ k ≠ 37) → P' o k = P o k) ∧ P' 0 37 = nI m ∧ ∀ i, i < m → P' 32 i = nI (mem (Ed V A) s m i)) ?_ ?_ N (nI (mem (Ed V A) s m 1), (z, mH b P F)) (by omega) ⟨P, rfl, fun _ _ _ _ => rfl, h37, fun i hi => by rw [show i = 0 by omega]; exact h32⟩
  · rintro n k st hk ⟨P', rfl, h1, h2, h3⟩
    have c1 := nm k (by omega)
    have c2 : ¬ mem (Ed V A) s m (k + 1) = s := by
      intro q
      have := (hok (k + 1) (by omega)).2
      rw [q, hmin _ (by omega) (by omega)] at this
      exact absurd this (by simp)
    have c3 := near_mem hs hwk hm2 hmin hG hfix (i := k + 1) (by omega)
    have c4 := hAm (k + 1) (by omega)
    have hP2 : MV V (up2 (up2 P' 32 (k + 1) (nI (mem (Ed V A) s m (k + 1)))) 0 37 (nI (k + 1 + 1))) := MV_c hm (fun o ho => by
      funext j
      rw [up2_ne (by rcases ho with h | h | h | h | h | h <;> omega), up2_ne (by rcases ho with h | h | h | h | h | h <;> omega)]
      exact h1 o j (by rcases ho with h | h | h | h | h | h <;> omega) (by rcases ho with h | h | h | h | h | h <;> omega))
    have c5 := p_nearest (V := V) (P := up2 (up2 P' 32 (k + 1) (nI (mem (Ed V A) s m (k + 1)))) 0 37 (nI (k + 1 + 1))) (N := N) (z := z) (b := b) (F := F) (s := mem (Ed V A) s m (k + 1)) (fr := fr) hw hP2 c1 (hAt _ c1 c4) (fun j hj => ⟨by rw [up2_ne (by omega), up2_ne (by omega), h1 _ _ (by omega) (by omega)]; exact hR j hj, (hG.2 j hj).1⟩) (by omega)
    have c6 : nr (fun t => tk V (mem (Ed V A) s m (k + 1)) t && decide (fr t < 1000)) fr 40 = mem (Ed V A) s m (k + 1 + 1) := by
      rw [← c3.1]
      exact nr_congr (fun j _ => by simp [Ed, c4])
    rw [c6, mkv_n c3.2] at c5
    refine Or.inr ⟨(nI (mem (Ed V A) s m (k + 1 + 1)), (z, mH b (up2 (up2 P' 32 (k + 1) (nI (mem (Ed V A) s m (k + 1)))) 0 37 (nI (k + 1 + 1))) F)), ?_, _, rfl, fun o j o1 o2 => by rw [up2_ne (by omega), up2_ne (by omega)]; exact h1 o j o1 o2, by rw [up2_eq], fun i hi => ?_⟩
    · simp (disch := first | assumption | omega | decide) only [J_Mod_isRound_51, h2, c5, MO_0, MG_0_0, MS_0_0, MR_0_1, MR_0_2, MR_0_3, MR_0_4, MR_0_5, MR_0_6, MR_0_7, MR_0_8, MR_0_9, MR_0_10, MR_0_11, MR_0_12, MR_0_13, MR_0_14, MR_0_15, MR_0_16, MR_0_17, MR_0_18, MR_0_19, MR_0_20, MR_0_21, MR_0_22, MR_0_23, MR_0_24, MR_0_25, MR_0_26, MG_0_27, MS_0_27, MG_0_28, MS_0_28, MG_0_29, MS_0_29, MG_0_30, MS_0_30, MG_0_31, MS_0_31, MR_0_32, MR_0_33, MR_0_34, MR_0_35, MR_0_36, MG_0_37, MS_0_37, MR_0_38, MR_0_39, MA_1, MB_1, MA_2, MB_2, MA_3, MB_3, MA_4, MB_4, MA_5, MB_5, MA_6, MB_6, MA_7, MB_7, MA_8, MB_8, MA_9, MB_9, MA_10, MB_10, MA_11, MB_11, MA_12, MB_12, MA_13, MB_13, MA_14, MB_14, MA_15, MB_15, MA_16, MB_16, MA_17, MB_17, MA_18, MB_18, MA_19, MB_19, MA_20, MB_20, MA_21, MB_21, MA_22, MB_22, MA_23, MB_23, MA_24, MB_24, MA_25, MB_25, MA_26, MB_26, MA_27, MB_27, MA_28, MB_28, MA_29, MB_29, MA_30, MB_30, MA_31, MB_31, MA_32, MB_32, MA_33, MB_33, ifp, ifn, Option.bind_some, n_s, n_le, n_lt, n_eq, l8, l40, l64, g40, u40, u6, u3, u0, mul6, mul3, J_bit, cmp0, b2_0, zR_b, zR_0, zR_1, up2_eq, up2_ne, up2J_eq, up2J_ne, mkv_eq, n_m1]
    · by_cases q : i = k + 1
      · rw [q, up2_ne (by omega), up2_eq]
      · rw [up2_ne (by omega), up2_ne (by omega)]; exact h3 i (by omega)
  · rintro n st ⟨P', rfl, h1, h2, h3⟩
    rw [show m - 1 + 1 = m by omega] at h2 h3 ⊢
    have c3 := near_mem hs hwk hm2 hmin hG hfix (i := m - 1) (by omega)
    rw [show m - 1 + 1 = m by omega] at c3
    have c4 : mem (Ed V A) s m m = s := by
      have e : mem (Ed V A) s m (m - 1 + 1) = fnd 40 (fun t => Ed V A (mem (Ed V A) s m (m - 1)) t && wk (Ed V A) s (m - (m - 1) - 1) t) := rfl
      rw [show m - 1 + 1 = m by omega, show m - (m - 1) - 1 = 0 by omega] at e
      have c5 := c3.2
      rw [e] at c5
      have c6 := fnd_in c5
      simp only [Bool.and_eq_true] at c6
      rw [e]; exact wk_0.mp c6.2
    refine ⟨P', ?_, h1, h2, h3⟩
    simp (disch := first | assumption | omega | decide) only [J_Mod_isRound_51, c4, MO_0, MG_0_0, MS_0_0, MR_0_1, MR_0_2, MR_0_3, MR_0_4, MR_0_5, MR_0_6, MR_0_7, MR_0_8, MR_0_9, MR_0_10, MR_0_11, MR_0_12, MR_0_13, MR_0_14, MR_0_15, MR_0_16, MR_0_17, MR_0_18, MR_0_19, MR_0_20, MR_0_21, MR_0_22, MR_0_23, MR_0_24, MR_0_25, MR_0_26, MG_0_27, MS_0_27, MG_0_28, MS_0_28, MG_0_29, MS_0_29, MG_0_30, MS_0_30, MG_0_31, MS_0_31, MR_0_32, MR_0_33, MR_0_34, MR_0_35, MR_0_36, MG_0_37, MS_0_37, MR_0_38, MR_0_39, MA_1, MB_1, MA_2, MB_2, MA_3, MB_3, MA_4, MB_4, MA_5, MB_5, MA_6, MB_6, MA_7, MB_7, MA_8, MB_8, MA_9, MB_9, MA_10, MB_10, MA_11, MB_11, MA_12, MB_12, MA_13, MB_13, MA_14, MB_14, MA_15, MB_15, MA_16, MB_16, MA_17, MB_17, MA_18, MB_18, MA_19, MB_19, MA_20, MB_20, MA_21, MB_21, MA_22, MB_22, MA_23, MB_23, MA_24, MB_24, MA_25, MB_25, MA_26, MB_26, MA_27, MB_27, MA_28, MB_28, MA_29, MB_29, MA_30, MB_30, MA_31, MB_31, MA_32, MB_32, MA_33, MB_33, ifp, ifn, Option.bind_some, n_s, n_le, n_lt, n_eq, l8, l40, l64, g40, u40, u6, u3, u0, mul6, mul3, J_bit, cmp0, b2_0, zR_b, zR_0, zR_1, up2_eq, up2_ne, up2J_eq, up2J_ne, mkv_eq, n_m1]
theorem p_isRound (hw : VW V) (hm : MV V P) (hA : ∀ s, s < 40 → P 20 s = b2 (A s)) (hAt : ∀ s, s < 40 → A s = true → vth V s = true) (hN : 1000000 < N) : ∃ c P', J_Mod_isRound N b (z, mH b P F) = some (b2 c, (z, mH b P' F)) ∧ (∀ o k, o ≠ 33 → (c = false ∨ (o ≠ 32 ∧ (o ≠ 0 ∨ k ≠ 37))) → P' o k = P o k) ∧ (c = false → ∀ s, s < 40 → A s = true → ∀ d, 1 ≤ d → d ≤ 40 → wk (Ed V A) s d s = false) ∧ (c = true → ∃ s m, Rnd V A s m ∧ P' 0 37 = nI m ∧ ∀ i, i < m → P' 32 i = nI (mem (Ed V A) s m i)) := by
  rw [J_Mod_isRound]
  refine lpx 40 (fun n (st : Int32 × Hp) => J_Mod_isRound_2 N n b st.1 st.2) (fun k st => ∃ P', st = (nI k, (z, mH b P' F)) ∧ (∀ o, o ≠ 33 → P' o = P o) ∧ ∀ t, t < k → A t = true → ∀ d, 1 ≤ d → d ≤ 40 → wk (Ed V A) t d t = false) (fun r => ∃ c P', r = some (b2 c, (z, mH b P' F)) ∧ (∀ o k, o ≠ 33 → (c = false ∨ (o ≠ 32 ∧ (o ≠ 0 ∨ k ≠ 37))) → P' o k = P o k) ∧ (c = false → ∀ s, s < 40 → A s = true → ∀ d, 1 ≤ d → d ≤ 40 → wk (Ed V A) s d s = false) ∧ (c = true → ∃ s m, Rnd V A s m ∧ P' 0 37 = nI m ∧ ∀ i, i < m → P' 32 i = nI (mem (Ed V A) s m i))) ?_ ?_ N (nI 0, (z, mH b P F)) (by omega) ⟨P, rfl, fun _ _ => rfl, fun t h => by omega⟩
  · rintro n k st hk ⟨P', rfl, h1, h2⟩
    have a0 : P' 20 k = b2 (A k) := by rw [h1 20 (by omega)]; exact hA k hk
    cases e : A k
    · refine Or.inr ⟨(nI (k + 1), (z, mH b P' F)), ?_, P', rfl, h1, fun t ht hAt' => ?_⟩
      · simp (disch := first | assumption | omega | decide) only [J_Mod_isRound_2, a0, e, MO_0, MG_0_0, MS_0_0, MR_0_1, MR_0_2, MR_0_3, MR_0_4, MR_0_5, MR_0_6, MR_0_7, MR_0_8, MR_0_9, MR_0_10, MR_0_11, MR_0_12, MR_0_13, MR_0_14, MR_0_15, MR_0_16, MR_0_17, MR_0_18, MR_0_19, MR_0_20, MR_0_21, MR_0_22, MR_0_23, MR_0_24, MR_0_25, MR_0_26, MG_0_27, MS_0_27, MG_0_28, MS_0_28, MG_0_29, MS_0_29, MG_0_30, MS_0_30, MG_0_31, MS_0_31, MR_0_32, MR_0_33, MR_0_34, MR_0_35, MR_0_36, MG_0_37, MS_0_37, MR_0_38, MR_0_39, MA_1, MB_1, MA_2, MB_2, MA_3, MB_3, MA_4, MB_4, MA_5, MB_5, MA_6, MB_6, MA_7, MB_7, MA_8, MB_8, MA_9, MB_9, MA_10, MB_10, MA_11, MB_11, MA_12, MB_12, MA_13, MB_13, MA_14, MB_14, MA_15, MB_15, MA_16, MB_16, MA_17, MB_17, MA_18, MB_18, MA_19, MB_19, MA_20, MB_20, MA_21, MB_21, MA_22, MB_22, MA_23, MB_23, MA_24, MB_24, MA_25, MB_25, MA_26, MB_26, MA_27, MB_27, MA_28, MB_28, MA_29, MB_29, MA_30, MB_30, MA_31, MB_31, MA_32, MB_32, MA_33, MB_33, ifp, ifn, Option.bind_some, n_s, n_le, n_lt, n_eq, l8, l40, l64, g40, u40, u6, u3, u0, mul6, mul3, J_bit, cmp0, b2_0, zR_b, zR_0, zR_1, up2_eq, up2_ne, up2J_eq, up2J_ne, mkv_eq, n_m1]
      · by_cases q : t = k
        · subst q; rw [e] at hAt'; exact absurd hAt' (by simp)
        · exact h2 t (by omega) hAt'
    · have hm' : MV V P' := MV_c hm (fun o ho => h1 o (by rcases ho with h | h | h | h | h | h <;> omega))
      obtain ⟨fr, P2, e1, e2, e3, e4, e5⟩ := p_measure (V := V) (P := P') (A := A) (N := N) (z := z) (b := b) (F := F) hw hm' (fun s hs => by rw [h1 20 (by omega)]; exact hA s hs) hAt hk hN
      have hm2 : MV V P2 := MV_c hm' (fun o ho => e2 o (by rcases ho with h | h | h | h | h | h <;> omega))
      have hth := hAt k hk e
      have e6 := p_nearest (V := V) (P := P2) (N := N) (z := z) (b := b) (F := F) (s := k) (fr := fr) hw hm2 hk hth (fun j hj => ⟨e3 j hj, (e4.2 j hj).1⟩) (by omega)
      have hfix := GI_fix e4 e5
      cases e7 : anyB 40 (fun d => wk (Ed V A) k (d + 1) k)
      · have no : ∀ d, wk (Ed V A) k (d + 1) k = false := by
          intro d
          cases q : wk (Ed V A) k (d + 1) k
          · rfl
          · rw [rch q] at e7; exact absurd e7 (by simp)
        have e8 : nr (fun t => tk V k t && decide (fr t < 1000)) fr 40 = 40 := by
          rcases nr_s (p := fun t => tk V k t && decide (fr t < 1000)) (fr := fr) (n := 40) (by omega) with ⟨r1, _⟩ | ⟨r1, r2, _⟩
          · exact r1
          · simp only [Bool.and_eq_true, decide_eq_true_eq] at r2
            have := no (fr (nr (fun t => tk V k t && decide (fr t < 1000)) fr 40))
            rw [wk_s.mpr ⟨_, r1, by simp only [Ed, e]; exact r2.1, (e4.2 _ r1).2 r2.2⟩] at this
            exact absurd this (by simp)
        rw [e8] at e6
        refine Or.inr ⟨(nI (k + 1), (z, mH b P2 F)), ?_, P2, rfl, fun o ho => by rw [e2 o ho]; exact h1 o ho, fun t ht hAt' => ?_⟩
        · have c0 : (40 ≤ 40) = True := by simp
          simp (disch := first | assumption | omega | decide) only [J_Mod_isRound_2, a0, e, e1, e6, c0, MO_0, MG_0_0, MS_0_0, MR_0_1, MR_0_2, MR_0_3, MR_0_4, MR_0_5, MR_0_6, MR_0_7, MR_0_8, MR_0_9, MR_0_10, MR_0_11, MR_0_12, MR_0_13, MR_0_14, MR_0_15, MR_0_16, MR_0_17, MR_0_18, MR_0_19, MR_0_20, MR_0_21, MR_0_22, MR_0_23, MR_0_24, MR_0_25, MR_0_26, MG_0_27, MS_0_27, MG_0_28, MS_0_28, MG_0_29, MS_0_29, MG_0_30, MS_0_30, MG_0_31, MS_0_31, MR_0_32, MR_0_33, MR_0_34, MR_0_35, MR_0_36, MG_0_37, MS_0_37, MR_0_38, MR_0_39, MA_1, MB_1, MA_2, MB_2, MA_3, MB_3, MA_4, MB_4, MA_5, MB_5, MA_6, MB_6, MA_7, MB_7, MA_8, MB_8, MA_9, MB_9, MA_10, MB_10, MA_11, MB_11, MA_12, MB_12, MA_13, MB_13, MA_14, MB_14, MA_15, MB_15, MA_16, MB_16, MA_17, MB_17, MA_18, MB_18, MA_19, MB_19, MA_20, MB_20, MA_21, MB_21, MA_22, MB_22, MA_23, MB_23, MA_24, MB_24, MA_25, MB_25, MA_26, MB_26, MA_27, MB_27, MA_28, MB_28, MA_29, MB_29, MA_30, MB_30, MA_31, MB_31, MA_32, MB_32, MA_33, MB_33, ifp, ifn, Option.bind_some, n_s, n_le, n_lt, n_eq, l8, l40, l64, g40, u40, u6, u3, u0, mul6, mul3, J_bit, cmp0, b2_0, zR_b, zR_0, zR_1, up2_eq, up2_ne, up2J_eq, up2J_ne, mkv_eq, n_m1]
        · by_cases q : t = k
          · subst q
            intro d hd1 hd2
            rw [show d = (d - 1) + 1 by omega]; exact no _
          · exact h2 t (by omega) hAt'
      · obtain ⟨d0, hd0, e8⟩ := anyB_iff.mp e7
        obtain ⟨d1, g1, g2, g3⟩ := least_ex (p := fun d => wk (Ed V A) k (d + 1) k) d0 e8
        have hn : Rnd V A k (d1 + 1) := ⟨hk, e, h2, by omega, by omega, g2, fun d hd hd' => by rw [show d = (d - 1) + 1 by omega]; exact g3 _ (by omega)⟩
        have c3 := near_mem (i := 0) hk g2 (by omega) (fun d hd hd' => by rw [show d = (d - 1) + 1 by omega]; exact g3 _ (by omega)) e4 hfix (by omega)
        have c6 : nr (fun t => tk V k t && decide (fr t < 1000)) fr 40 = mem (Ed V A) k (d1 + 1) 1 := by
          rw [← c3.1]
          exact nr_congr (fun j _ => by simp [Ed, mem, e])
        rw [c6] at e6
        have hmv : mkv (mem (Ed V A) k (d1 + 1) 1) = nI (mem (Ed V A) k (d1 + 1) 1) := mkv_n c3.2
        have hml : mem (Ed V A) k (d1 + 1) 1 < 40 := c3.2
        rw [hmv] at e6
        have hP3 : MV V (up2 (up2 P2 32 0 (nI k)) 0 37 1) := MV_c hm2 (fun o ho => by
          funext j
          rw [up2_ne (by rcases ho with h | h | h | h | h | h <;> omega), up2_ne (by rcases ho with h | h | h | h | h | h <;> omega)])
        obtain ⟨P4, f1, f2, f3, f4⟩ := p_ir51 (V := V) (P := up2 (up2 P2 32 0 (nI k)) 0 37 1) (A := A) (N := N) (z := z) (b := b) (F := F) (s := k) (m := d1 + 1) (fr := fr) hw hP3 hAt (fun j hj => by rw [up2_ne (by omega), up2_ne (by omega)]; exact e3 j hj) e4 e5 hn (by rw [up2_eq]; rfl) (by rw [up2_ne (by omega), up2_eq]) hN
        refine Or.inl ⟨true, P4, ?_, fun o j o1 o2 => ?_, fun h => absurd h (by simp), fun _ => ⟨k, d1 + 1, hn, f3, f4⟩⟩
        · have c9 : sI (z, mH b P2 F) 0 (b + 32) (0 : Int32) (nI k) = some (z, mH b (up2 P2 32 0 (nI k)) F) := MB_32 (j := 0) (by decide)
          have c10 : mem (Ed V A) k (d1 + 1) 1 < 2 ^ 31 := by omega
          simp (disch := first | assumption | omega | decide) only [J_Mod_isRound_2, a0, e, e1, e6, c9, MO_0, MG_0_0, MS_0_0, MR_0_1, MR_0_2, MR_0_3, MR_0_4, MR_0_5, MR_0_6, MR_0_7, MR_0_8, MR_0_9, MR_0_10, MR_0_11, MR_0_12, MR_0_13, MR_0_14, MR_0_15, MR_0_16, MR_0_17, MR_0_18, MR_0_19, MR_0_20, MR_0_21, MR_0_22, MR_0_23, MR_0_24, MR_0_25, MR_0_26, MG_0_27, MS_0_27, MG_0_28, MS_0_28, MG_0_29, MS_0_29, MG_0_30, MS_0_30, MG_0_31, MS_0_31, MR_0_32, MR_0_33, MR_0_34, MR_0_35, MR_0_36, MG_0_37, MS_0_37, MR_0_38, MR_0_39, MA_1, MB_1, MA_2, MB_2, MA_3, MB_3, MA_4, MB_4, MA_5, MB_5, MA_6, MB_6, MA_7, MB_7, MA_8, MB_8, MA_9, MB_9, MA_10, MB_10, MA_11, MB_11, MA_12, MB_12, MA_13, MB_13, MA_14, MB_14, MA_15, MB_15, MA_16, MB_16, MA_17, MB_17, MA_18, MB_18, MA_19, MB_19, MA_20, MB_20, MA_21, MB_21, MA_22, MB_22, MA_23, MB_23, MA_24, MB_24, MA_25, MB_25, MA_26, MB_26, MA_27, MB_27, MA_28, MB_28, MA_29, MB_29, MA_30, MB_30, MA_31, MB_31, MA_32, MB_32, MA_33, MB_33, ifp, ifn, Option.bind_some, n_s, n_le, n_lt, n_eq, l8, l40, l64, g40, u40, u6, u3, u0, mul6, mul3, J_bit, cmp0, b2_0, zR_b, zR_0, zR_1, up2_eq, up2_ne, up2J_eq, up2J_ne, mkv_eq, n_m1]
          rw [f1]; rfl
        · have o3 : o ≠ 32 ∧ (o ≠ 0 ∨ j ≠ 37) := by rcases o2 with h | h; exact absurd h (by simp); exact h
          rw [f2 o j o3.1 o3.2, up2_ne (by omega), up2_ne (by omega), e2 o o1, h1 o o1]
  · rintro n st ⟨P', rfl, h1, h2⟩
    refine ⟨false, P', ?_, fun o k o1 _ => by rw [h1 o o1], fun _ s hs hAs => h2 s hs hAs, fun h => absurd h (by simp)⟩
    simp (disch := first | assumption | omega | decide) only [J_Mod_isRound_2, MO_0, MG_0_0, MS_0_0, MR_0_1, MR_0_2, MR_0_3, MR_0_4, MR_0_5, MR_0_6, MR_0_7, MR_0_8, MR_0_9, MR_0_10, MR_0_11, MR_0_12, MR_0_13, MR_0_14, MR_0_15, MR_0_16, MR_0_17, MR_0_18, MR_0_19, MR_0_20, MR_0_21, MR_0_22, MR_0_23, MR_0_24, MR_0_25, MR_0_26, MG_0_27, MS_0_27, MG_0_28, MS_0_28, MG_0_29, MS_0_29, MG_0_30, MS_0_30, MG_0_31, MS_0_31, MR_0_32, MR_0_33, MR_0_34, MR_0_35, MR_0_36, MG_0_37, MS_0_37, MR_0_38, MR_0_39, MA_1, MB_1, MA_2, MB_2, MA_3, MB_3, MA_4, MB_4, MA_5, MB_5, MA_6, MB_6, MA_7, MB_7, MA_8, MB_8, MA_9, MB_9, MA_10, MB_10, MA_11, MB_11, MA_12, MB_12, MA_13, MB_13, MA_14, MB_14, MA_15, MB_15, MA_16, MB_16, MA_17, MB_17, MA_18, MB_18, MA_19, MB_19, MA_20, MB_20, MA_21, MB_21, MA_22, MB_22, MA_23, MB_23, MA_24, MB_24, MA_25, MB_25, MA_26, MB_26, MA_27, MB_27, MA_28, MB_28, MA_29, MB_29, MA_30, MB_30, MA_31, MB_31, MA_32, MB_32, MA_33, MB_33, ifp, ifn, Option.bind_some, n_s, n_le, n_lt, n_eq, l8, l40, l64, g40, u40, u6, u3, u0, mul6, mul3, J_bit, cmp0, b2_0, zR_b, zR_0, zR_1, up2_eq, up2_ne, up2J_eq, up2J_ne, mkv_eq, n_m1]
    rfl
theorem p_lk34 (r25 : Nat → Int32 → Int32 → Hp → Option (Int32 × Hp)) {c : Bool} (hw : VW V) (hm : MV V P) (hA : ∀ s, s < 40 → P 20 s = b2 (A s)) (hF : MFi P Fi) (hs : s < 40) (hth : vth V s = true) (hAs : A s = true) (hN : 100 < N) : J_Mod_isLacking_34 N r25 N b (b2 c) (nI s) (nI 0) (z, mH b P F) = r25 b (b2 (c || lkS V Fi s)) (nI (s + 1)) (z, mH b P F) := by
  have a0 := hA s hs
  rw [hAs] at a0
  have a1 := hm.1 s hs hth
  have a2 := hw.1 s hs
  refine lpx (vic V s) (fun n (st : Int32 × Int32) => J_Mod_isLacking_34 N r25 n b st.1 (nI s) st.2 (z, mH b P F)) (fun k st => st = (b2 (c || anyB k (fun k => lkF V Fi (vin V s k))), nI k)) (fun r => r = r25 b (b2 (c || lkS V Fi s)) (nI (s + 1)) (z, mH b P F)) ?_ ?_ N (b2 c, nI 0) (by omega) (by simp [anyB])
  · rintro n k st hk rfl
    have a3 := hw.2.1 s k hs hk
    have a4 := hF _ a3
    have a5 := hm.2.2.2.1 _ a3
    have a6 := hw.2.2.2.1 _ a3
    refine Or.inr ⟨_, ?_, rfl⟩
    cases e : (c || anyB k (fun k => lkF V Fi (vin V s k)))
    · have e0 : c = false := by simp at e; exact e.1
      have e1 : anyB k (fun k => lkF V Fi (vin V s k)) = false := by simp only [Bool.or_eq_false_iff] at e; exact e.2
      by_cases q : 40 ≤ vmk V (vin V s k)
      · have q' : vmk V (vin V s k) = 40 := by omega
        cases e2 : Fi (vin V s k)
        · have e3 : lkF V Fi (vin V s k) = true := by simp [lkF, q', e2]
          simp (disch := first | assumption | omega | decide) only [J_Mod_isLacking_34, J_Mod_isLacking_97, a0, a1, hm.2.1 s k hs hth hk, e, a4, a5, e2, MO_0, MG_0_0, MS_0_0, MR_0_1, MR_0_2, MR_0_3, MR_0_4, MR_0_5, MR_0_6, MR_0_7, MR_0_8, MR_0_9, MR_0_10, MR_0_11, MR_0_12, MR_0_13, MR_0_14, MR_0_15, MR_0_16, MR_0_17, MR_0_18, MR_0_19, MR_0_20, MR_0_21, MR_0_22, MR_0_23, MR_0_24, MR_0_25, MR_0_26, MG_0_27, MS_0_27, MG_0_28, MS_0_28, MG_0_29, MS_0_29, MG_0_30, MS_0_30, MG_0_31, MS_0_31, MR_0_32, MR_0_33, MR_0_34, MR_0_35, MR_0_36, MG_0_37, MS_0_37, MR_0_38, MR_0_39, MA_1, MB_1, MA_2, MB_2, MA_3, MB_3, MA_4, MB_4, MA_5, MB_5, MA_6, MB_6, MA_7, MB_7, MA_8, MB_8, MA_9, MB_9, MA_10, MB_10, MA_11, MB_11, MA_12, MB_12, MA_13, MB_13, MA_14, MB_14, MA_15, MB_15, MA_16, MB_16, MA_17, MB_17, MA_18, MB_18, MA_19, MB_19, MA_20, MB_20, MA_21, MB_21, MA_22, MB_22, MA_23, MB_23, MA_24, MB_24, MA_25, MB_25, MA_26, MB_26, MA_27, MB_27, MA_28, MB_28, MA_29, MB_29, MA_30, MB_30, MA_31, MB_31, MA_32, MB_32, MA_33, MB_33, ifp, ifn, Option.bind_some, n_s, n_le, n_lt, n_eq, l8, l40, l64, g40, u40, u6, u3, u0, mul6, mul3, J_bit, cmp0, b2_0, zR_b, zR_0, zR_1, up2_eq, up2_ne, up2J_eq, up2J_ne, mkv_eq, n_m1]
          simp [anyB, e3, b2]
        · have e3 : lkF V Fi (vin V s k) = false := by simp [lkF, e2]
          simp (disch := first | assumption | omega | decide) only [J_Mod_isLacking_34, J_Mod_isLacking_97, a0, a1, hm.2.1 s k hs hth hk, e, a4, a5, e2, MO_0, MG_0_0, MS_0_0, MR_0_1, MR_0_2, MR_0_3, MR_0_4, MR_0_5, MR_0_6, MR_0_7, MR_0_8, MR_0_9, MR_0_10, MR_0_11, MR_0_12, MR_0_13, MR_0_14, MR_0_15, MR_0_16, MR_0_17, MR_0_18, MR_0_19, MR_0_20, MR_0_21, MR_0_22, MR_0_23, MR_0_24, MR_0_25, MR_0_26, MG_0_27, MS_0_27, MG_0_28, MS_0_28, MG_0_29, MS_0_29, MG_0_30, MS_0_30, MG_0_31, MS_0_31, MR_0_32, MR_0_33, MR_0_34, MR_0_35, MR_0_36, MG_0_37, MS_0_37, MR_0_38, MR_0_39, MA_1, MB_1, MA_2, MB_2, MA_3, MB_3, MA_4, MB_4, MA_5, MB_5, MA_6, MB_6, MA_7, MB_7, MA_8, MB_8, MA_9, MB_9, MA_10, MB_10, MA_11, MB_11, MA_12, MB_12, MA_13, MB_13, MA_14, MB_14, MA_15, MB_15, MA_16, MB_16, MA_17, MB_17, MA_18, MB_18, MA_19, MB_19, MA_20, MB_20, MA_21, MB_21, MA_22, MB_22, MA_23, MB_23, MA_24, MB_24, MA_25, MB_25, MA_26, MB_26, MA_27, MB_27, MA_28, MB_28, MA_29, MB_29, MA_30, MB_30, MA_31, MB_31, MA_32, MB_32, MA_33, MB_33, ifp, ifn, Option.bind_some, n_s, n_le, n_lt, n_eq, l8, l40, l64, g40, u40, u6, u3, u0, mul6, mul3, J_bit, cmp0, b2_0, zR_b, zR_0, zR_1, up2_eq, up2_ne, up2J_eq, up2J_ne, mkv_eq, n_m1]
          simp [anyB, e0, e1, e3, b2]
      · have e3 : lkF V Fi (vin V s k) = false := by
          have : ¬ vmk V (vin V s k) = 40 := by omega
          simp [lkF, this]
        simp (disch := first | assumption | omega | decide) only [J_Mod_isLacking_34, J_Mod_isLacking_97, a0, a1, hm.2.1 s k hs hth hk, e, a4, a5, MO_0, MG_0_0, MS_0_0, MR_0_1, MR_0_2, MR_0_3, MR_0_4, MR_0_5, MR_0_6, MR_0_7, MR_0_8, MR_0_9, MR_0_10, MR_0_11, MR_0_12, MR_0_13, MR_0_14, MR_0_15, MR_0_16, MR_0_17, MR_0_18, MR_0_19, MR_0_20, MR_0_21, MR_0_22, MR_0_23, MR_0_24, MR_0_25, MR_0_26, MG_0_27, MS_0_27, MG_0_28, MS_0_28, MG_0_29, MS_0_29, MG_0_30, MS_0_30, MG_0_31, MS_0_31, MR_0_32, MR_0_33, MR_0_34, MR_0_35, MR_0_36, MG_0_37, MS_0_37, MR_0_38, MR_0_39, MA_1, MB_1, MA_2, MB_2, MA_3, MB_3, MA_4, MB_4, MA_5, MB_5, MA_6, MB_6, MA_7, MB_7, MA_8, MB_8, MA_9, MB_9, MA_10, MB_10, MA_11, MB_11, MA_12, MB_12, MA_13, MB_13, MA_14, MB_14, MA_15, MB_15, MA_16, MB_16, MA_17, MB_17, MA_18, MB_18, MA_19, MB_19, MA_20, MB_20, MA_21, MB_21, MA_22, MB_22, MA_23, MB_23, MA_24, MB_24, MA_25, MB_25, MA_26, MB_26, MA_27, MB_27, MA_28, MB_28, MA_29, MB_29, MA_30, MB_30, MA_31, MB_31, MA_32, MB_32, MA_33, MB_33, ifp, ifn, Option.bind_some, n_s, n_le, n_lt, n_eq, l8, l40, l64, g40, u40, u6, u3, u0, mul6, mul3, J_bit, cmp0, b2_0, zR_b, zR_0, zR_1, up2_eq, up2_ne, up2J_eq, up2J_ne, mkv_eq, n_m1]
        simp [anyB, e0, e1, e3, b2]
    · have e1 : (c || anyB (k + 1) (fun k => lkF V Fi (vin V s k))) = true := by
        rw [anyB, ← Bool.or_assoc, e, Bool.true_or]
      simp (disch := first | assumption | omega | decide) only [J_Mod_isLacking_34, J_Mod_isLacking_97, a0, a1, hm.2.1 s k hs hth hk, e, e1, MO_0, MG_0_0, MS_0_0, MR_0_1, MR_0_2, MR_0_3, MR_0_4, MR_0_5, MR_0_6, MR_0_7, MR_0_8, MR_0_9, MR_0_10, MR_0_11, MR_0_12, MR_0_13, MR_0_14, MR_0_15, MR_0_16, MR_0_17, MR_0_18, MR_0_19, MR_0_20, MR_0_21, MR_0_22, MR_0_23, MR_0_24, MR_0_25, MR_0_26, MG_0_27, MS_0_27, MG_0_28, MS_0_28, MG_0_29, MS_0_29, MG_0_30, MS_0_30, MG_0_31, MS_0_31, MR_0_32, MR_0_33, MR_0_34, MR_0_35, MR_0_36, MG_0_37, MS_0_37, MR_0_38, MR_0_39, MA_1, MB_1, MA_2, MB_2, MA_3, MB_3, MA_4, MB_4, MA_5, MB_5, MA_6, MB_6, MA_7, MB_7, MA_8, MB_8, MA_9, MB_9, MA_10, MB_10, MA_11, MB_11, MA_12, MB_12, MA_13, MB_13, MA_14, MB_14, MA_15, MB_15, MA_16, MB_16, MA_17, MB_17, MA_18, MB_18, MA_19, MB_19, MA_20, MB_20, MA_21, MB_21, MA_22, MB_22, MA_23, MB_23, MA_24, MB_24, MA_25, MB_25, MA_26, MB_26, MA_27, MB_27, MA_28, MB_28, MA_29, MB_29, MA_30, MB_30, MA_31, MB_31, MA_32, MB_32, MA_33, MB_33, ifp, ifn, Option.bind_some, n_s, n_le, n_lt, n_eq, l8, l40, l64, g40, u40, u6, u3, u0, mul6, mul3, J_bit, cmp0, b2_0, zR_b, zR_0, zR_1, up2_eq, up2_ne, up2J_eq, up2J_ne, mkv_eq, n_m1]
      rfl
  · rintro n st rfl
    simp (disch := first | assumption | omega | decide) only [J_Mod_isLacking_34, a1, MO_0, MG_0_0, MS_0_0, MR_0_1, MR_0_2, MR_0_3, MR_0_4, MR_0_5, MR_0_6, MR_0_7, MR_0_8, MR_0_9, MR_0_10, MR_0_11, MR_0_12, MR_0_13, MR_0_14, MR_0_15, MR_0_16, MR_0_17, MR_0_18, MR_0_19, MR_0_20, MR_0_21, MR_0_22, MR_0_23, MR_0_24, MR_0_25, MR_0_26, MG_0_27, MS_0_27, MG_0_28, MS_0_28, MG_0_29, MS_0_29, MG_0_30, MS_0_30, MG_0_31, MS_0_31, MR_0_32, MR_0_33, MR_0_34, MR_0_35, MR_0_36, MG_0_37, MS_0_37, MR_0_38, MR_0_39, MA_1, MB_1, MA_2, MB_2, MA_3, MB_3, MA_4, MB_4, MA_5, MB_5, MA_6, MB_6, MA_7, MB_7, MA_8, MB_8, MA_9, MB_9, MA_10, MB_10, MA_11, MB_11, MA_12, MB_12, MA_13, MB_13, MA_14, MB_14, MA_15, MB_15, MA_16, MB_16, MA_17, MB_17, MA_18, MB_18, MA_19, MB_19, MA_20, MB_20, MA_21, MB_21, MA_22, MB_22, MA_23, MB_23, MA_24, MB_24, MA_25, MB_25, MA_26, MB_26, MA_27, MB_27, MA_28, MB_28, MA_29, MB_29, MA_30, MB_30, MA_31, MB_31, MA_32, MB_32, MA_33, MB_33, ifp, ifn, Option.bind_some, n_s, n_le, n_lt, n_eq, l8, l40, l64, g40, u40, u6, u3, u0, mul6, mul3, J_bit, cmp0, b2_0, zR_b, zR_0, zR_1, up2_eq, up2_ne, up2J_eq, up2J_ne, mkv_eq, n_m1]
    rfl
theorem p_isLacking {f : Nat} (hw : VW V) (hm : MV V P) (hA : ∀ s, s < 40 → P 20 s = b2 (A s)) (hAt : ∀ s, s < 40 → A s = true → vth V s = true) (hF : MFi P Fi) (hf : f < 64) (hN : 100 < N) : J_Mod_isLacking N b (nI f) (z, mH b P F) = some (b2 (lkF V Fi f || anyB 40 (fun s => A s && lkS V Fi s)), (z, mH b P F)) := by
  have a4 := hF _ hf
  have a5 := hm.2.2.2.1 _ hf
  have a6 := hw.2.2.2.1 _ hf
  have main : J_Mod_isLacking_25 N N b (0 : Int32) (0 : Int32) (z, mH b P F) = some (b2 (anyB 40 (fun s => A s && lkS V Fi s)), (z, mH b P F)) := by
    refine lpx 40 (fun n (st : Int32 × Int32) => J_Mod_isLacking_25 N n b st.1 st.2 (z, mH b P F)) (fun k st => st = (b2 (anyB k (fun s => A s && lkS V Fi s)), nI k)) (fun r => r = some (b2 (anyB 40 (fun s => A s && lkS V Fi s)), (z, mH b P F))) ?_ ?_ N (0, nI 0) (by omega) rfl
    · rintro n k st hk rfl
      refine Or.inr ⟨_, ?_, rfl⟩
      cases e : A k
      · have e1 : anyB (k + 1) (fun s => A s && lkS V Fi s) = anyB k (fun s => A s && lkS V Fi s) := by rw [anyB, e]; simp
        have b0 := hA k hk
        rw [e] at b0
        simp (disch := first | assumption | omega | decide) only [J_Mod_isLacking_25, e1, MO_0, MG_0_0, MS_0_0, MR_0_1, MR_0_2, MR_0_3, MR_0_4, MR_0_5, MR_0_6, MR_0_7, MR_0_8, MR_0_9, MR_0_10, MR_0_11, MR_0_12, MR_0_13, MR_0_14, MR_0_15, MR_0_16, MR_0_17, MR_0_18, MR_0_19, MR_0_20, MR_0_21, MR_0_22, MR_0_23, MR_0_24, MR_0_25, MR_0_26, MG_0_27, MS_0_27, MG_0_28, MS_0_28, MG_0_29, MS_0_29, MG_0_30, MS_0_30, MG_0_31, MS_0_31, MR_0_32, MR_0_33, MR_0_34, MR_0_35, MR_0_36, MG_0_37, MS_0_37, MR_0_38, MR_0_39, MA_1, MB_1, MA_2, MB_2, MA_3, MB_3, MA_4, MB_4, MA_5, MB_5, MA_6, MB_6, MA_7, MB_7, MA_8, MB_8, MA_9, MB_9, MA_10, MB_10, MA_11, MB_11, MA_12, MB_12, MA_13, MB_13, MA_14, MB_14, MA_15, MB_15, MA_16, MB_16, MA_17, MB_17, MA_18, MB_18, MA_19, MB_19, MA_20, MB_20, MA_21, MB_21, MA_22, MB_22, MA_23, MB_23, MA_24, MB_24, MA_25, MB_25, MA_26, MB_26, MA_27, MB_27, MA_28, MB_28, MA_29, MB_29, MA_30, MB_30, MA_31, MB_31, MA_32, MB_32, MA_33, MB_33, ifp, ifn, Option.bind_some, n_s, n_le, n_lt, n_eq, l8, l40, l64, g40, u40, u6, u3, u0, mul6, mul3, J_bit, cmp0, b2_0, zR_b, zR_0, zR_1, up2_eq, up2_ne, up2J_eq, up2J_ne, mkv_eq, n_m1]
        obtain ⟨N', hN'⟩ : ∃ N', N = N' + 1 := ⟨N - 1, by omega⟩
        have key : ∀ M n' (r : Nat → Int32 → Int32 → Hp → Option (Int32 × Hp)) x, J_Mod_isLacking_34 M r (n' + 1) b x (nI k) 0 (z, mH b P F) = r b x (nI (k + 1)) (z, mH b P F) := by
          intro M n' r x
          by_cases q : P 8 k ≤ 0
          · simp (disch := first | assumption | omega | decide) only [J_Mod_isLacking_34, MO_0, MG_0_0, MS_0_0, MR_0_1, MR_0_2, MR_0_3, MR_0_4, MR_0_5, MR_0_6, MR_0_7, MR_0_8, MR_0_9, MR_0_10, MR_0_11, MR_0_12, MR_0_13, MR_0_14, MR_0_15, MR_0_16, MR_0_17, MR_0_18, MR_0_19, MR_0_20, MR_0_21, MR_0_22, MR_0_23, MR_0_24, MR_0_25, MR_0_26, MG_0_27, MS_0_27, MG_0_28, MS_0_28, MG_0_29, MS_0_29, MG_0_30, MS_0_30, MG_0_31, MS_0_31, MR_0_32, MR_0_33, MR_0_34, MR_0_35, MR_0_36, MG_0_37, MS_0_37, MR_0_38, MR_0_39, MA_1, MB_1, MA_2, MB_2, MA_3, MB_3, MA_4, MB_4, MA_5, MB_5, MA_6, MB_6, MA_7, MB_7, MA_8, MB_8, MA_9, MB_9, MA_10, MB_10, MA_11, MB_11, MA_12, MB_12, MA_13, MB_13, MA_14, MB_14, MA_15, MB_15, MA_16, MB_16, MA_17, MB_17, MA_18, MB_18, MA_19, MB_19, MA_20, MB_20, MA_21, MB_21, MA_22, MB_22, MA_23, MB_23, MA_24, MB_24, MA_25, MB_25, MA_26, MB_26, MA_27, MB_27, MA_28, MB_28, MA_29, MB_29, MA_30, MB_30, MA_31, MB_31, MA_32, MB_32, MA_33, MB_33, ifp, ifn, Option.bind_some, n_s, n_le, n_lt, n_eq, l8, l40, l64, g40, u40, u6, u3, u0, mul6, mul3, J_bit, cmp0, b2_0, zR_b, zR_0, zR_1, up2_eq, up2_ne, up2J_eq, up2J_ne, mkv_eq, n_m1]
          · simp (disch := first | assumption | omega | decide) only [J_Mod_isLacking_34, b0, b2_f, MO_0, MG_0_0, MS_0_0, MR_0_1, MR_0_2, MR_0_3, MR_0_4, MR_0_5, MR_0_6, MR_0_7, MR_0_8, MR_0_9, MR_0_10, MR_0_11, MR_0_12, MR_0_13, MR_0_14, MR_0_15, MR_0_16, MR_0_17, MR_0_18, MR_0_19, MR_0_20, MR_0_21, MR_0_22, MR_0_23, MR_0_24, MR_0_25, MR_0_26, MG_0_27, MS_0_27, MG_0_28, MS_0_28, MG_0_29, MS_0_29, MG_0_30, MS_0_30, MG_0_31, MS_0_31, MR_0_32, MR_0_33, MR_0_34, MR_0_35, MR_0_36, MG_0_37, MS_0_37, MR_0_38, MR_0_39, MA_1, MB_1, MA_2, MB_2, MA_3, MB_3, MA_4, MB_4, MA_5, MB_5, MA_6, MB_6, MA_7, MB_7, MA_8, MB_8, MA_9, MB_9, MA_10, MB_10, MA_11, MB_11, MA_12, MB_12, MA_13, MB_13, MA_14, MB_14, MA_15, MB_15, MA_16, MB_16, MA_17, MB_17, MA_18, MB_18, MA_19, MB_19, MA_20, MB_20, MA_21, MB_21, MA_22, MB_22, MA_23, MB_23, MA_24, MB_24, MA_25, MB_25, MA_26, MB_26, MA_27, MB_27, MA_28, MB_28, MA_29, MB_29, MA_30, MB_30, MA_31, MB_31, MA_32, MB_32, MA_33, MB_33, ifp, ifn, Option.bind_some, n_s, n_le, n_lt, n_eq, l8, l40, l64, g40, u40, u6, u3, u0, mul6, mul3, J_bit, cmp0, b2_0, zR_b, zR_0, zR_1, up2_eq, up2_ne, up2J_eq, up2J_ne, mkv_eq, n_m1]
        have := key N N' (J_Mod_isLacking_25 N n) (b2 (anyB k (fun s => A s && lkS V Fi s)))
        rw [← hN'] at this
        exact this
      · have e1 : anyB (k + 1) (fun s => A s && lkS V Fi s) = (anyB k (fun s => A s && lkS V Fi s) || lkS V Fi k) := by rw [anyB, e]; simp
        have e2 := p_lk34 (V := V) (P := P) (A := A) (Fi := Fi) (N := N) (z := z) (b := b) (F := F) (s := k) (J_Mod_isLacking_25 N n) (c := anyB k (fun s => A s && lkS V Fi s)) hw hm hA hF hk (hAt k hk e) e hN
        simp (disch := first | assumption | omega | decide) only [J_Mod_isLacking_25, e1, MO_0, MG_0_0, MS_0_0, MR_0_1, MR_0_2, MR_0_3, MR_0_4, MR_0_5, MR_0_6, MR_0_7, MR_0_8, MR_0_9, MR_0_10, MR_0_11, MR_0_12, MR_0_13, MR_0_14, MR_0_15, MR_0_16, MR_0_17, MR_0_18, MR_0_19, MR_0_20, MR_0_21, MR_0_22, MR_0_23, MR_0_24, MR_0_25, MR_0_26, MG_0_27, MS_0_27, MG_0_28, MS_0_28, MG_0_29, MS_0_29, MG_0_30, MS_0_30, MG_0_31, MS_0_31, MR_0_32, MR_0_33, MR_0_34, MR_0_35, MR_0_36, MG_0_37, MS_0_37, MR_0_38, MR_0_39, MA_1, MB_1, MA_2, MB_2, MA_3, MB_3, MA_4, MB_4, MA_5, MB_5, MA_6, MB_6, MA_7, MB_7, MA_8, MB_8, MA_9, MB_9, MA_10, MB_10, MA_11, MB_11, MA_12, MB_12, MA_13, MB_13, MA_14, MB_14, MA_15, MB_15, MA_16, MB_16, MA_17, MB_17, MA_18, MB_18, MA_19, MB_19, MA_20, MB_20, MA_21, MB_21, MA_22, MB_22, MA_23, MB_23, MA_24, MB_24, MA_25, MB_25, MA_26, MB_26, MA_27, MB_27, MA_28, MB_28, MA_29, MB_29, MA_30, MB_30, MA_31, MB_31, MA_32, MB_32, MA_33, MB_33, ifp, ifn, Option.bind_some, n_s, n_le, n_lt, n_eq, l8, l40, l64, g40, u40, u6, u3, u0, mul6, mul3, J_bit, cmp0, b2_0, zR_b, zR_0, zR_1, up2_eq, up2_ne, up2J_eq, up2J_ne, mkv_eq, n_m1]
        exact e2
    · rintro n st rfl
      simp (disch := first | assumption | omega | decide) only [J_Mod_isLacking_25, MO_0, MG_0_0, MS_0_0, MR_0_1, MR_0_2, MR_0_3, MR_0_4, MR_0_5, MR_0_6, MR_0_7, MR_0_8, MR_0_9, MR_0_10, MR_0_11, MR_0_12, MR_0_13, MR_0_14, MR_0_15, MR_0_16, MR_0_17, MR_0_18, MR_0_19, MR_0_20, MR_0_21, MR_0_22, MR_0_23, MR_0_24, MR_0_25, MR_0_26, MG_0_27, MS_0_27, MG_0_28, MS_0_28, MG_0_29, MS_0_29, MG_0_30, MS_0_30, MG_0_31, MS_0_31, MR_0_32, MR_0_33, MR_0_34, MR_0_35, MR_0_36, MG_0_37, MS_0_37, MR_0_38, MR_0_39, MA_1, MB_1, MA_2, MB_2, MA_3, MB_3, MA_4, MB_4, MA_5, MB_5, MA_6, MB_6, MA_7, MB_7, MA_8, MB_8, MA_9, MB_9, MA_10, MB_10, MA_11, MB_11, MA_12, MB_12, MA_13, MB_13, MA_14, MB_14, MA_15, MB_15, MA_16, MB_16, MA_17, MB_17, MA_18, MB_18, MA_19, MB_19, MA_20, MB_20, MA_21, MB_21, MA_22, MB_22, MA_23, MB_23, MA_24, MB_24, MA_25, MB_25, MA_26, MB_26, MA_27, MB_27, MA_28, MB_28, MA_29, MB_29, MA_30, MB_30, MA_31, MB_31, MA_32, MB_32, MA_33, MB_33, ifp, ifn, Option.bind_some, n_s, n_le, n_lt, n_eq, l8, l40, l64, g40, u40, u6, u3, u0, mul6, mul3, J_bit, cmp0, b2_0, zR_b, zR_0, zR_1, up2_eq, up2_ne, up2J_eq, up2J_ne, mkv_eq, n_m1]
  rw [J_Mod_isLacking]
  by_cases q : 40 ≤ vmk V f
  · have q' : vmk V f = 40 := by omega
    cases e2 : Fi f
    · have e3 : lkF V Fi f = true := by simp [lkF, q', e2]
      simp (disch := first | assumption | omega | decide) only [a4, a5, e2, e3, Bool.true_or, MO_0, MG_0_0, MS_0_0, MR_0_1, MR_0_2, MR_0_3, MR_0_4, MR_0_5, MR_0_6, MR_0_7, MR_0_8, MR_0_9, MR_0_10, MR_0_11, MR_0_12, MR_0_13, MR_0_14, MR_0_15, MR_0_16, MR_0_17, MR_0_18, MR_0_19, MR_0_20, MR_0_21, MR_0_22, MR_0_23, MR_0_24, MR_0_25, MR_0_26, MG_0_27, MS_0_27, MG_0_28, MS_0_28, MG_0_29, MS_0_29, MG_0_30, MS_0_30, MG_0_31, MS_0_31, MR_0_32, MR_0_33, MR_0_34, MR_0_35, MR_0_36, MG_0_37, MS_0_37, MR_0_38, MR_0_39, MA_1, MB_1, MA_2, MB_2, MA_3, MB_3, MA_4, MB_4, MA_5, MB_5, MA_6, MB_6, MA_7, MB_7, MA_8, MB_8, MA_9, MB_9, MA_10, MB_10, MA_11, MB_11, MA_12, MB_12, MA_13, MB_13, MA_14, MB_14, MA_15, MB_15, MA_16, MB_16, MA_17, MB_17, MA_18, MB_18, MA_19, MB_19, MA_20, MB_20, MA_21, MB_21, MA_22, MB_22, MA_23, MB_23, MA_24, MB_24, MA_25, MB_25, MA_26, MB_26, MA_27, MB_27, MA_28, MB_28, MA_29, MB_29, MA_30, MB_30, MA_31, MB_31, MA_32, MB_32, MA_33, MB_33, ifp, ifn, Option.bind_some, n_s, n_le, n_lt, n_eq, l8, l40, l64, g40, u40, u6, u3, u0, mul6, mul3, J_bit, cmp0, b2_0, zR_b, zR_0, zR_1, up2_eq, up2_ne, up2J_eq, up2J_ne, mkv_eq, n_m1]
      rfl
    · have e3 : lkF V Fi f = false := by simp [lkF, e2]
      simp (disch := first | assumption | omega | decide) only [a4, a5, e2, e3, Bool.false_or, MO_0, MG_0_0, MS_0_0, MR_0_1, MR_0_2, MR_0_3, MR_0_4, MR_0_5, MR_0_6, MR_0_7, MR_0_8, MR_0_9, MR_0_10, MR_0_11, MR_0_12, MR_0_13, MR_0_14, MR_0_15, MR_0_16, MR_0_17, MR_0_18, MR_0_19, MR_0_20, MR_0_21, MR_0_22, MR_0_23, MR_0_24, MR_0_25, MR_0_26, MG_0_27, MS_0_27, MG_0_28, MS_0_28, MG_0_29, MS_0_29, MG_0_30, MS_0_30, MG_0_31, MS_0_31, MR_0_32, MR_0_33, MR_0_34, MR_0_35, MR_0_36, MG_0_37, MS_0_37, MR_0_38, MR_0_39, MA_1, MB_1, MA_2, MB_2, MA_3, MB_3, MA_4, MB_4, MA_5, MB_5, MA_6, MB_6, MA_7, MB_7, MA_8, MB_8, MA_9, MB_9, MA_10, MB_10, MA_11, MB_11, MA_12, MB_12, MA_13, MB_13, MA_14, MB_14, MA_15, MB_15, MA_16, MB_16, MA_17, MB_17, MA_18, MB_18, MA_19, MB_19, MA_20, MB_20, MA_21, MB_21, MA_22, MB_22, MA_23, MB_23, MA_24, MB_24, MA_25, MB_25, MA_26, MB_26, MA_27, MB_27, MA_28, MB_28, MA_29, MB_29, MA_30, MB_30, MA_31, MB_31, MA_32, MB_32, MA_33, MB_33, ifp, ifn, Option.bind_some, n_s, n_le, n_lt, n_eq, l8, l40, l64, g40, u40, u6, u3, u0, mul6, mul3, J_bit, cmp0, b2_0, zR_b, zR_0, zR_1, up2_eq, up2_ne, up2J_eq, up2J_ne, mkv_eq, n_m1]
      exact main
  · have e3 : lkF V Fi f = false := by
      have : ¬ vmk V f = 40 := by omega
      simp [lkF, this]
    simp (disch := first | assumption | omega | decide) only [a5, e3, Bool.false_or, MO_0, MG_0_0, MS_0_0, MR_0_1, MR_0_2, MR_0_3, MR_0_4, MR_0_5, MR_0_6, MR_0_7, MR_0_8, MR_0_9, MR_0_10, MR_0_11, MR_0_12, MR_0_13, MR_0_14, MR_0_15, MR_0_16, MR_0_17, MR_0_18, MR_0_19, MR_0_20, MR_0_21, MR_0_22, MR_0_23, MR_0_24, MR_0_25, MR_0_26, MG_0_27, MS_0_27, MG_0_28, MS_0_28, MG_0_29, MS_0_29, MG_0_30, MS_0_30, MG_0_31, MS_0_31, MR_0_32, MR_0_33, MR_0_34, MR_0_35, MR_0_36, MG_0_37, MS_0_37, MR_0_38, MR_0_39, MA_1, MB_1, MA_2, MB_2, MA_3, MB_3, MA_4, MB_4, MA_5, MB_5, MA_6, MB_6, MA_7, MB_7, MA_8, MB_8, MA_9, MB_9, MA_10, MB_10, MA_11, MB_11, MA_12, MB_12, MA_13, MB_13, MA_14, MB_14, MA_15, MB_15, MA_16, MB_16, MA_17, MB_17, MA_18, MB_18, MA_19, MB_19, MA_20, MB_20, MA_21, MB_21, MA_22, MB_22, MA_23, MB_23, MA_24, MB_24, MA_25, MB_25, MA_26, MB_26, MA_27, MB_27, MA_28, MB_28, MA_29, MB_29, MA_30, MB_30, MA_31, MB_31, MA_32, MB_32, MA_33, MB_33, ifp, ifn, Option.bind_some, n_s, n_le, n_lt, n_eq, l8, l40, l64, g40, u40, u6, u3, u0, mul6, mul3, J_bit, cmp0, b2_0, zR_b, zR_0, zR_1, up2_eq, up2_ne, up2J_eq, up2J_ne, mkv_eq, n_m1]
    exact main
end MR
