theorem ifp {α : Sort _} {c : Prop} [Decidable c] {a b : α} (h : c) : (if c then a else b) = a := if_pos h
theorem ifn {α : Sort _} {c : Prop} [Decidable c] {a b : α} (h : ¬ c) : (if c then a else b) = b := if_neg h
/-! what a build goes by: counts, makers, durations, inputs, outputs, which steps are there -/
abbrev Vw : Type := Nat → Nat → Nat
def vic (V : Vw) (s : Nat) : Nat := V 0 s
def voc (V : Vw) (s : Nat) : Nat := V 1 s
def vdu (V : Vw) (s : Nat) : Nat := V 2 s
def vmk (V : Vw) (f : Nat) : Nat := V 3 f
def vin (V : Vw) (s k : Nat) : Nat := V 4 (6 * s + k)
def vou (V : Vw) (s k : Nat) : Nat := V 5 (3 * s + k)
def vth (V : Vw) (s : Nat) : Bool := decide (V 6 s = 1)
def VW (V : Vw) : Prop := (∀ s, s < 40 → vic V s ≤ 6 ∧ voc V s ≤ 3 ∧ vdu V s ≤ 100) ∧ (∀ s k, s < 40 → k < vic V s → vin V s k < 64) ∧ (∀ s k, s < 40 → k < voc V s → vou V s k < 64 ∧ vmk V (vou V s k) = s) ∧ (∀ f, f < 64 → vmk V f ≤ 40) ∧ (∀ f, f < 64 → vmk V f < 40 → vth V (vmk V f) = true ∧ ∃ k, k < voc V (vmk V f) ∧ vou V (vmk V f) k = f) ∧ (∀ s, s < 40 → vth V s = true → 1 ≤ vdu V s) ∧ (∀ s, s < 40 → vth V s = false → vic V s = 0 ∧ voc V s = 0)
/-- step s takes what step t makes -/
def tk (V : Vw) (s t : Nat) : Bool := anyB (vic V s) (fun k => decide (vmk V (vin V s k) = t))
def CV (V : Vw) (I : Nat → Nat → Int32) : Prop := (∀ s, s < 40 → I (6 + 4 * s) 5 = nI (vic V s) ∧ I (6 + 4 * s) 7 = nI (voc V s) ∧ I (6 + 4 * s) 3 = nI (vdu V s)) ∧ (∀ s k, s < 40 → k < vic V s → I (6 + 4 * s + 1) k = nI (vin V s k)) ∧ (∀ s k, s < 40 → k < voc V s → I (6 + 4 * s + 2) k = nI (vou V s k)) ∧ (∀ f, f < 64 → I 4 f = mkv (vmk V f))
def MV (V : Vw) (P : Nat → Nat → Int32) : Prop := (∀ s, s < 40 → vth V s = true → P 8 s = nI (vic V s) ∧ P 9 s = nI (voc V s)) ∧ (∀ s k, s < 40 → vth V s = true → k < vic V s → P 10 (6 * s + k) = nI (vin V s k)) ∧ (∀ s k, s < 40 → vth V s = true → k < voc V s → P 11 (3 * s + k) = nI (vou V s k)) ∧ (∀ f, f < 64 → P 3 f = mkv (vmk V f)) ∧ (∀ s, s < 40 → P 7 s = nI (vdu V s))
/-- the cells that no build changes -/
def stC (o k : Nat) : Prop := o = 4 ∨ (6 ≤ o ∧ o < 166 ∧ ((o - 6) % 4 = 1 ∨ (o - 6) % 4 = 2 ∨ ((o - 6) % 4 = 0 ∧ k ≤ 7)))
theorem CV_c {V : Vw} {I I' : Nat → Nat → Int32} (h : CV V I) (hc : ∀ o k, stC o k → I' o k = I o k) : CV V I' := by
  obtain ⟨h1, h2, h3, h4⟩ := h
  refine ⟨fun s hs => ?_, fun s k hs hk => ?_, fun s k hs hk => ?_, fun f hf => ?_⟩
  · rw [hc _ _ (by right; omega), hc _ _ (by right; omega), hc _ _ (by right; omega)]; exact h1 s hs
  · rw [hc _ _ (by right; omega)]; exact h2 s k hs hk
  · rw [hc _ _ (by right; omega)]; exact h3 s k hs hk
  · rw [hc _ _ (by left; rfl)]; exact h4 f hf
theorem MV_c {V : Vw} {P P' : Nat → Nat → Int32} (h : MV V P) (hc : ∀ o, o = 3 ∨ o = 7 ∨ o = 8 ∨ o = 9 ∨ o = 10 ∨ o = 11 → P' o = P o) : MV V P' := by
  obtain ⟨h1, h2, h3, h4, h5⟩ := h
  simp only [MV, hc 3 (by simp), hc 7 (by simp), hc 8 (by simp), hc 9 (by simp), hc 10 (by simp), hc 11 (by simp)]
  exact ⟨h1, h2, h3, h4, h5⟩
theorem up2_row {I : Nat → Nat → Int32} {o k o' : Nat} {v : Int32} (h : o' ≠ o) : up2 I o k v o' = I o' := by
  funext j; exact up2_ne (Or.inl h)
theorem tk_iff {V : Vw} {s t : Nat} : tk V s t = true ↔ ∃ k, k < vic V s ∧ vmk V (vin V s k) = t := by
  rw [tk, anyB_iff]; simp
section CS
variable {V : Vw} {z b N s : Nat} {I : Nat → Nat → Int32} {J : Nat → Nat → Int64} {F : Nat → Option HE}
theorem q_waitsFor (hw : VW V) (hc : CV V I) (hs : s < 40) (hN : 6 < N) : ∃ w, J_Step_waitsFor N (b + (6 + 4 * s)) (b + 1) (z, dH b I J F) = some (w, (z, dH b I J F)) ∧ isB w (tk V s) := by
  have a1 := hc.1 s hs
  have a2 := hw.1 s hs
  rw [J_Step_waitsFor]
  refine lpx (vic V s) (fun n (st : Int64 × Int32) => J_Step_waitsFor_5 N n (b + (6 + 4 * s)) (b + 1) st.1 st.2 (z, dH b I J F)) (fun k st => st.2 = nI k ∧ isB st.1 (fun t => anyB k (fun k => decide (vmk V (vin V s k) = t)))) (fun r => ∃ w, r = some (w, (z, dH b I J F)) ∧ isB w (tk V s)) ?_ ?_ N (0, nI 0) (by omega) ⟨rfl, isB_0⟩
  · rintro n k ⟨w, x⟩ hk ⟨hx, hi⟩
    simp only at hx hi; subst hx
    have a3 := hw.2.1 s k hs hk
    have a4 := hw.2.2.2.1 _ a3
    refine Or.inr ?_
    by_cases hm : 40 ≤ vmk V (vin V s k)
    · refine ⟨(w, nI (k + 1)), ?_, rfl, isB_congr hi (fun t ht => ?_)⟩
      · simp (disch := first | assumption | omega | decide) only [J_Step_waitsFor_5, J_File_makerOf, a1, hc.2.1 s k hs hk, hc.2.2.2, DO_0, DR_0_0, DR_0_1, DR_0_2, DR_0_3, DR_0_4, DR_0_5, DO_1, DR_1_0, DR_1_1, DR_1_2, DA_2, DB_2, DA_3, DB_3, DA_4, DB_4, DA_5, DO_166, DR_166_0, DR_166_1, DG_166_2, DS_166_2, DR_166_3, DG_166_4, DS_166_4, DA_167, DB_167, DA_168, DB_168, DA_169, DB_169, DO_170, DR_170_0, DR_170_1, DR_170_2, DG_170_3, DS_170_3, DG_170_4, DS_170_4, DA_171, DB_171, DA_172, DB_172, DA_173, DB_173, DO_174, DG_174_0, DS_174_0, DG_174_1, DS_174_1, DG_174_2, DS_174_2, DG_174_3, DS_174_3, DR_174_4, DA_175, DB_175, DO_176, DR_176_0, DG_176_1, DS_176_1, DR_176_2, DA_177, DB_177, DA_178, DB_178, DO_st, DG_st_0, DS_st_0, DG_st_1, DS_st_1, DG_st_2, DS_st_2, DG_st_3, DS_st_3, DR_st_4, DG_st_5, DS_st_5, DR_st_6, DG_st_7, DS_st_7, DG_st_8, DS_st_8, DG_st_9, DS_st_9, DG_st_10, DS_st_10, DG_st_11, DS_st_11, DG_st_12, DS_st_12, DR_st_13, DA_st_1, DB_st_1, DA_st_2, DB_st_2, DA_st_3, DB_st_3, ifp, ifn, Option.bind_some, n_s, n_le, n_lt, n_eq, l8, l40, l64, g40, u40, u6, u3, u0, mul6, mul3, J_bit, cmp0, b2_0, zR_b, zR_0, zR_1, up2_eq, up2_ne, up2J_eq, up2J_ne, mkv_eq, n_m1]
      · rw [anyB]; simp; omega
    · refine ⟨(w ||| bitw (vmk V (vin V s k)), nI (k + 1)), ?_, rfl, isB_congr (isB_or hi (isB_bit (s := vmk V (vin V s k)) (by omega))) (fun t ht => ?_)⟩
      · simp (disch := first | assumption | omega | decide) only [J_Step_waitsFor_5, J_File_makerOf, a1, hc.2.1 s k hs hk, hc.2.2.2, mkv_n, DO_0, DR_0_0, DR_0_1, DR_0_2, DR_0_3, DR_0_4, DR_0_5, DO_1, DR_1_0, DR_1_1, DR_1_2, DA_2, DB_2, DA_3, DB_3, DA_4, DB_4, DA_5, DO_166, DR_166_0, DR_166_1, DG_166_2, DS_166_2, DR_166_3, DG_166_4, DS_166_4, DA_167, DB_167, DA_168, DB_168, DA_169, DB_169, DO_170, DR_170_0, DR_170_1, DR_170_2, DG_170_3, DS_170_3, DG_170_4, DS_170_4, DA_171, DB_171, DA_172, DB_172, DA_173, DB_173, DO_174, DG_174_0, DS_174_0, DG_174_1, DS_174_1, DG_174_2, DS_174_2, DG_174_3, DS_174_3, DR_174_4, DA_175, DB_175, DO_176, DR_176_0, DG_176_1, DS_176_1, DR_176_2, DA_177, DB_177, DA_178, DB_178, DO_st, DG_st_0, DS_st_0, DG_st_1, DS_st_1, DG_st_2, DS_st_2, DG_st_3, DS_st_3, DR_st_4, DG_st_5, DS_st_5, DR_st_6, DG_st_7, DS_st_7, DG_st_8, DS_st_8, DG_st_9, DS_st_9, DG_st_10, DS_st_10, DG_st_11, DS_st_11, DG_st_12, DS_st_12, DR_st_13, DA_st_1, DB_st_1, DA_st_2, DB_st_2, DA_st_3, DB_st_3, ifp, ifn, Option.bind_some, n_s, n_le, n_lt, n_eq, l8, l40, l64, g40, u40, u6, u3, u0, mul6, mul3, J_bit, cmp0, b2_0, zR_b, zR_0, zR_1, up2_eq, up2_ne, up2J_eq, up2J_ne, mkv_eq, n_m1]
      · rw [anyB]; simp [eq_comm]
  · rintro n ⟨w, x⟩ ⟨hx, hi⟩
    simp only at hx hi; subst hx
    refine ⟨w, ?_, hi⟩
    simp (disch := first | assumption | omega | decide) only [J_Step_waitsFor_5, a1, DO_0, DR_0_0, DR_0_1, DR_0_2, DR_0_3, DR_0_4, DR_0_5, DO_1, DR_1_0, DR_1_1, DR_1_2, DA_2, DB_2, DA_3, DB_3, DA_4, DB_4, DA_5, DO_166, DR_166_0, DR_166_1, DG_166_2, DS_166_2, DR_166_3, DG_166_4, DS_166_4, DA_167, DB_167, DA_168, DB_168, DA_169, DB_169, DO_170, DR_170_0, DR_170_1, DR_170_2, DG_170_3, DS_170_3, DG_170_4, DS_170_4, DA_171, DB_171, DA_172, DB_172, DA_173, DB_173, DO_174, DG_174_0, DS_174_0, DG_174_1, DS_174_1, DG_174_2, DS_174_2, DG_174_3, DS_174_3, DR_174_4, DA_175, DB_175, DO_176, DR_176_0, DG_176_1, DS_176_1, DR_176_2, DA_177, DB_177, DA_178, DB_178, DO_st, DG_st_0, DS_st_0, DG_st_1, DS_st_1, DG_st_2, DS_st_2, DG_st_3, DS_st_3, DR_st_4, DG_st_5, DS_st_5, DR_st_6, DG_st_7, DS_st_7, DG_st_8, DS_st_8, DG_st_9, DS_st_9, DG_st_10, DS_st_10, DG_st_11, DS_st_11, DG_st_12, DS_st_12, DR_st_13, DA_st_1, DB_st_1, DA_st_2, DB_st_2, DA_st_3, DB_st_3, ifp, ifn, Option.bind_some, n_s, n_le, n_lt, n_eq, l8, l40, l64, g40, u40, u6, u3, u0, mul6, mul3, J_bit, cmp0, b2_0, zR_b, zR_0, zR_1, up2_eq, up2_ne, up2J_eq, up2J_ne, mkv_eq, n_m1]
theorem q_lacks {Fi : Nat → Bool} (hw : VW V) (hc : CV V I) (hF : ∀ f, f < 64 → I 3 f = b2 (Fi f)) {f : Nat} (hf : f < 64) : J_File_lacksSource N (b + 1) (nI f) (z, dH b I J F) = some (b2 (decide (vmk V f = 40) && !Fi f), (z, dH b I J F)) := by
  have a4 := hw.2.2.2.1 _ hf
  have a5 := hc.2.2.2 f hf
  have a6 := hF f hf
  by_cases hm : 40 ≤ vmk V f
  · have : vmk V f = 40 := by omega
    cases e : Fi f
    · simp (disch := first | assumption | omega | decide) only [J_File_lacksSource, J_File_lacksSource_23, a5, a6, e, DO_0, DR_0_0, DR_0_1, DR_0_2, DR_0_3, DR_0_4, DR_0_5, DO_1, DR_1_0, DR_1_1, DR_1_2, DA_2, DB_2, DA_3, DB_3, DA_4, DB_4, DA_5, DO_166, DR_166_0, DR_166_1, DG_166_2, DS_166_2, DR_166_3, DG_166_4, DS_166_4, DA_167, DB_167, DA_168, DB_168, DA_169, DB_169, DO_170, DR_170_0, DR_170_1, DR_170_2, DG_170_3, DS_170_3, DG_170_4, DS_170_4, DA_171, DB_171, DA_172, DB_172, DA_173, DB_173, DO_174, DG_174_0, DS_174_0, DG_174_1, DS_174_1, DG_174_2, DS_174_2, DG_174_3, DS_174_3, DR_174_4, DA_175, DB_175, DO_176, DR_176_0, DG_176_1, DS_176_1, DR_176_2, DA_177, DB_177, DA_178, DB_178, DO_st, DG_st_0, DS_st_0, DG_st_1, DS_st_1, DG_st_2, DS_st_2, DG_st_3, DS_st_3, DR_st_4, DG_st_5, DS_st_5, DR_st_6, DG_st_7, DS_st_7, DG_st_8, DS_st_8, DG_st_9, DS_st_9, DG_st_10, DS_st_10, DG_st_11, DS_st_11, DG_st_12, DS_st_12, DR_st_13, DA_st_1, DB_st_1, DA_st_2, DB_st_2, DA_st_3, DB_st_3, ifp, ifn, Option.bind_some, n_s, n_le, n_lt, n_eq, l8, l40, l64, g40, u40, u6, u3, u0, mul6, mul3, J_bit, cmp0, b2_0, zR_b, zR_0, zR_1, up2_eq, up2_ne, up2J_eq, up2J_ne, mkv_eq, n_m1]
      simp [this, b2]
    · simp (disch := first | assumption | omega | decide) only [J_File_lacksSource, J_File_lacksSource_23, a5, a6, e, DO_0, DR_0_0, DR_0_1, DR_0_2, DR_0_3, DR_0_4, DR_0_5, DO_1, DR_1_0, DR_1_1, DR_1_2, DA_2, DB_2, DA_3, DB_3, DA_4, DB_4, DA_5, DO_166, DR_166_0, DR_166_1, DG_166_2, DS_166_2, DR_166_3, DG_166_4, DS_166_4, DA_167, DB_167, DA_168, DB_168, DA_169, DB_169, DO_170, DR_170_0, DR_170_1, DR_170_2, DG_170_3, DS_170_3, DG_170_4, DS_170_4, DA_171, DB_171, DA_172, DB_172, DA_173, DB_173, DO_174, DG_174_0, DS_174_0, DG_174_1, DS_174_1, DG_174_2, DS_174_2, DG_174_3, DS_174_3, DR_174_4, DA_175, DB_175, DO_176, DR_176_0, DG_176_1, DS_176_1, DR_176_2, DA_177, DB_177, DA_178, DB_178, DO_st, DG_st_0, DS_st_0, DG_st_1, DS_st_1, DG_st_2, DS_st_2, DG_st_3, DS_st_3, DR_st_4, DG_st_5, DS_st_5, DR_st_6, DG_st_7, DS_st_7, DG_st_8, DS_st_8, DG_st_9, DS_st_9, DG_st_10, DS_st_10, DG_st_11, DS_st_11, DG_st_12, DS_st_12, DR_st_13, DA_st_1, DB_st_1, DA_st_2, DB_st_2, DA_st_3, DB_st_3, ifp, ifn, Option.bind_some, n_s, n_le, n_lt, n_eq, l8, l40, l64, g40, u40, u6, u3, u0, mul6, mul3, J_bit, cmp0, b2_0, zR_b, zR_0, zR_1, up2_eq, up2_ne, up2J_eq, up2J_ne, mkv_eq, n_m1]
      simp [b2]
  · simp (disch := first | assumption | omega | decide) only [J_File_lacksSource, J_File_lacksSource_23, a5, DO_0, DR_0_0, DR_0_1, DR_0_2, DR_0_3, DR_0_4, DR_0_5, DO_1, DR_1_0, DR_1_1, DR_1_2, DA_2, DB_2, DA_3, DB_3, DA_4, DB_4, DA_5, DO_166, DR_166_0, DR_166_1, DG_166_2, DS_166_2, DR_166_3, DG_166_4, DS_166_4, DA_167, DB_167, DA_168, DB_168, DA_169, DB_169, DO_170, DR_170_0, DR_170_1, DR_170_2, DG_170_3, DS_170_3, DG_170_4, DS_170_4, DA_171, DB_171, DA_172, DB_172, DA_173, DB_173, DO_174, DG_174_0, DS_174_0, DG_174_1, DS_174_1, DG_174_2, DS_174_2, DG_174_3, DS_174_3, DR_174_4, DA_175, DB_175, DO_176, DR_176_0, DG_176_1, DS_176_1, DR_176_2, DA_177, DB_177, DA_178, DB_178, DO_st, DG_st_0, DS_st_0, DG_st_1, DS_st_1, DG_st_2, DS_st_2, DG_st_3, DS_st_3, DR_st_4, DG_st_5, DS_st_5, DR_st_6, DG_st_7, DS_st_7, DG_st_8, DS_st_8, DG_st_9, DS_st_9, DG_st_10, DS_st_10, DG_st_11, DS_st_11, DG_st_12, DS_st_12, DR_st_13, DA_st_1, DB_st_1, DA_st_2, DB_st_2, DA_st_3, DB_st_3, ifp, ifn, Option.bind_some, n_s, n_le, n_lt, n_eq, l8, l40, l64, g40, u40, u6, u3, u0, mul6, mul3, J_bit, cmp0, b2_0, zR_b, zR_0, zR_1, up2_eq, up2_ne, up2J_eq, up2J_ne, mkv_eq, n_m1]
    have : ¬ vmk V f = 40 := by omega
    simp [this, b2]
end CS
