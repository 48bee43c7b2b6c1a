/-! what both sides do, as functions of sets -/
def rdy (V : Vw) (A R D : Nat → Bool) (s : Nat) : Bool := A s && !(R s || D s) && !anyB 40 (fun t => tk V s t && !D t)
/-- a sweep: rd D s says that s is to be passed over when D are done -/
def swp (rd : (Nat → Bool) → Nat → Bool) (D : Nat → Bool) : Nat → Nat → Bool
  | 0 => D
  | n + 1 => if rd (swp rd D n) n = true then (fun t => swp rd D n t || decide (t = n)) else swp rd D n
def swm (rd : (Nat → Bool) → Nat → Bool) (D : Nat → Bool) : Nat → Bool
  | 0 => false
  | n + 1 => swm rd D n || rd (swp rd D n) n
def itr (rd : (Nat → Bool) → Nat → Bool) : Nat → (Nat → Bool) → Nat → Bool
  | 0, D => D
  | n + 1, D => if swm rd D 40 = true then itr rd n (swp rd D 40) else D
/-- the next to begin, or 40 -/
def nb (rd : Nat → Bool) (Rk : Nat → Nat) : Nat → Nat
  | 0 => 40
  | n + 1 => if rd n = true ∧ (nb rd Rk n = 40 ∨ Rk (nb rd Rk n) < Rk n) then n else nb rd Rk n
/-- the next end, or -1 -/
def ne (R : Nat → Bool) (e : Nat → Int32) : Nat → Int32
  | 0 => -1
  | n + 1 => if R n = true then (if ne R e n = -1 then e n else if ne R e n ≤ e n then ne R e n else e n) else ne R e n
theorem nb_le {rd : Nat → Bool} {Rk : Nat → Nat} : ∀ {n : Nat}, n ≤ 40 → (nb rd Rk n = 40 ∧ ∀ j, j < n → rd j = false) ∨ (nb rd Rk n < n ∧ rd (nb rd Rk n) = true)
  | 0, _ => Or.inl ⟨rfl, fun j h => by omega⟩
  | n + 1, hn => by
    have ih := @nb_le rd Rk n (by omega)
    rw [nb]
    by_cases h : rd n = true ∧ (nb rd Rk n = 40 ∨ Rk (nb rd Rk n) < Rk n)
    · rw [if_pos h]; exact Or.inr ⟨by omega, h.1⟩
    · rw [if_neg h]
      rcases ih with ⟨h1, h2⟩ | ⟨h1, h2⟩
      · refine Or.inl ⟨h1, fun j hj => ?_⟩
        by_cases q : j = n
        · subst q
          cases e : rd j
          · rfl
          · exact absurd ⟨e, Or.inl h1⟩ h
        · exact h2 j (by omega)
      · exact Or.inr ⟨by omega, h2⟩
theorem ne_congr {R : Nat → Bool} {e e' : Nat → Int32} : ∀ {n : Nat}, (∀ s, s < n → R s = true → e s = e' s) → ne R e n = ne R e' n
  | 0, _ => rfl
  | n + 1, h => by
    rw [ne, ne, ne_congr (n := n) (fun s hs => h s (by omega))]
    by_cases q : R n = true
    · rw [h n (by omega) q]
    · simp [q]
theorem ne_in {R : Nat → Bool} {e : Nat → Int32} (h : ∀ s, s < 40 → R s = true → e s ≠ -1) : ∀ {n : Nat}, n ≤ 40 → (ne R e n = -1 ∧ ∀ s, s < n → R s = false) ∨ (ne R e n ≠ -1 ∧ ∃ s, s < n ∧ R s = true ∧ e s = ne R e n)
  | 0, _ => Or.inl ⟨rfl, fun s hs => by omega⟩
  | n + 1, hn => by
    have ih := @ne_in R e h n (by omega)
    rw [ne]
    by_cases q : R n = true
    · have h1 := h n (by omega) q
      rw [if_pos q]
      right
      rcases ih with ⟨i1, i2⟩ | ⟨i1, s, hs, i2, i3⟩
      · rw [if_pos i1]; exact ⟨h1, n, by omega, q, rfl⟩
      · rw [if_neg i1]
        split
        · exact ⟨i1, s, by omega, i2, i3⟩
        · exact ⟨h1, n, by omega, q, rfl⟩
    · rw [if_neg q]
      rcases ih with ⟨i1, i2⟩ | ⟨i1, s, hs, i2, i3⟩
      · refine Or.inl ⟨i1, fun s hs => ?_⟩
        by_cases q2 : s = n
        · subst q2; simpa using q
        · exact i2 s (by omega)
      · exact Or.inr ⟨i1, s, by omega, i2, i3⟩
theorem swp_in {rd : (Nat → Bool) → Nat → Bool} {D : Nat → Bool} {t : Nat} : ∀ {n : Nat}, D t = true → swp rd D n t = true
  | 0, h => h
  | n + 1, h => by
    rw [swp]; split
    · simp [swp_in (n := n) h]
    · exact swp_in (n := n) h
theorem swm_no {rd : (Nat → Bool) → Nat → Bool} {D : Nat → Bool} : ∀ {n : Nat}, swm rd D n = false → swp rd D n = D
  | 0, _ => rfl
  | n + 1, h => by
    rw [swm] at h
    simp only [Bool.or_eq_false_iff] at h
    rw [swp, if_neg (by simp [h.2])]
    exact swm_no h.1
theorem swm_cnt {rd : (Nat → Bool) → Nat → Bool} {D : Nat → Bool} (hr : ∀ D' s, D' s = true → rd D' s = false) : ∀ {n : Nat}, n ≤ 40 → swm rd D n = true → cnt 40 D < cnt 40 (swp rd D n)
  | 0, _, h => absurd h (by simp [swm])
  | n + 1, hn, h => by
    rw [swm] at h
    rw [swp]
    cases e : rd (swp rd D n) n
    · rw [e, Bool.or_false] at h
      simpa using swm_cnt hr (by omega) h
    · have h1 : swp rd D n n = false := by
        cases q : swp rd D n n
        · rfl
        · rw [hr _ _ q] at e; exact absurd e (by simp)
      have h2 := cnt_lt (n := 40) (p := swp rd D n) (q := fun t => swp rd D n t || decide (t = n)) n (fun k _ hk => by simp [hk]) (by omega) h1 (by simp)
      have h3 : cnt 40 D ≤ cnt 40 (swp rd D n) := cnt_mono (fun k _ hk => swp_in hk)
      simp only [if_true]
      omega
theorem itr_fix {rd : (Nat → Bool) → Nat → Bool} (hr : ∀ D' s, D' s = true → rd D' s = false) : ∀ (n m : Nat) (D : Nat → Bool), 40 ≤ n + cnt 40 D → n ≤ m → itr rd m D = itr rd n D
  | 0, 0, D, _, _ => rfl
  | 0, m + 1, D, h, _ => by
    have hf : ∀ k, k < 40 → D k = true := cnt_full (by omega)
    have h1 : ∀ n, n ≤ 40 → swm rd D n = false := by
      intro n
      induction n with
      | zero => intro _; rfl
      | succ n ih =>
        intro hn
        rw [swm, ih (by omega), hr _ n (swp_in (hf n (by omega)))]; rfl
    simp only [itr]
    rw [if_neg (by rw [h1 40 (by omega)]; simp)]
  | n + 1, 0, D, _, h => by omega
  | n + 1, m + 1, D, h, hm => by
    rw [itr, itr]
    by_cases q : swm rd D 40 = true
    · rw [if_pos q, if_pos q]
      have := swm_cnt hr (n := 40) (by omega) q
      exact itr_fix hr n m _ (by omega) (by omega)
    · rw [if_neg q, if_neg q]
theorem rdy_D {V : Vw} {A R D : Nat → Bool} {s : Nat} (h : D s = true) : rdy V A R D s = false := by simp [rdy, h]
section CC
variable {V : Vw} {z b N s : Nat} {I : Nat → Nat → Int32} {J : Nat → Nat → Int64} {F : Nat → Option HE} {A R D Fi : Nat → Bool}
theorem q_sourceLacks {f : Nat} (hw : VW V) (hc : CV V I) (hF : FI I Fi) (hA : isB (J 166 4) A) (hf : f < 64) (hN : 100 < N) : J_Desk_sourceLacks N b (nI f) (z, dH b I J F) = some (b2 (lkF V Fi f || anyB 40 (fun s => A s && lkS V Fi s)), (z, dH b I J F)) := by
  have a1 : J_File_lacksSource N (b + 1) (nI f) (z, dH b I J F) = some (b2 (lkF V Fi f), (z, dH b I J F)) := q_lacks hw hc hF hf
  rw [J_Desk_sourceLacks]
  cases e : lkF V Fi f
  · simp (disch := first | assumption | omega | decide) only [a1, e, DO_0, DR_0_0, DR_0_1, DR_0_2, DR_0_3, DR_0_4, DR_0_5, DO_1, DR_1_0, DR_1_1, DR_1_2, DA_2, DB_2, DA_3, DB_3, DA_4, DB_4, DA_5, DO_166, DR_166_0, DR_166_1, DG_166_2, DS_166_2, DR_166_3, DG_166_4, DS_166_4, DA_167, DB_167, DA_168, DB_168, DA_169, DB_169, DO_170, DR_170_0, DR_170_1, DR_170_2, DG_170_3, DS_170_3, DG_170_4, DS_170_4, DA_171, DB_171, DA_172, DB_172, DA_173, DB_173, DO_174, DG_174_0, DS_174_0, DG_174_1, DS_174_1, DG_174_2, DS_174_2, DG_174_3, DS_174_3, DR_174_4, DA_175, DB_175, DO_176, DR_176_0, DG_176_1, DS_176_1, DR_176_2, DA_177, DB_177, DA_178, DB_178, DO_st, DG_st_0, DS_st_0, DG_st_1, DS_st_1, DG_st_2, DS_st_2, DG_st_3, DS_st_3, DR_st_4, DG_st_5, DS_st_5, DR_st_6, DG_st_7, DS_st_7, DG_st_8, DS_st_8, DG_st_9, DS_st_9, DG_st_10, DS_st_10, DG_st_11, DS_st_11, DG_st_12, DS_st_12, DR_st_13, DA_st_1, DB_st_1, DA_st_2, DB_st_2, DA_st_3, DB_st_3, ifp, ifn, Option.bind_some, n_s, n_le, n_lt, n_eq, l8, l40, l64, g40, u40, u6, u3, u0, mul6, mul3, J_bit, cmp0, b2_0, zR_b, zR_0, zR_1, up2_eq, up2_ne, up2J_eq, up2J_ne, mkv_eq, n_m1]
    rw [Bool.false_or]
    refine lpx 40 (fun n (x : Int32) => J_Desk_sourceLacks_15 N n b x (z, dH b I J F)) (fun k x => x = nI k ∧ anyB k (fun s => A s && lkS V Fi s) = false) (fun r => r = some (b2 (anyB 40 (fun s => A s && lkS V Fi s)), (z, dH b I J F))) ?_ ?_ N (nI 0) (by omega) ⟨rfl, rfl⟩
    · rintro n k x hk ⟨rfl, hi⟩
      cases e1 : A k
      · refine Or.inr ⟨nI (k + 1), ?_, rfl, by simp [anyB, hi, e1]⟩
        simp (disch := first | assumption | omega | decide) only [J_Desk_sourceLacks_15, J_isIn hA hk, e1, DO_0, DR_0_0, DR_0_1, DR_0_2, DR_0_3, DR_0_4, DR_0_5, DO_1, DR_1_0, DR_1_1, DR_1_2, DA_2, DB_2, DA_3, DB_3, DA_4, DB_4, DA_5, DO_166, DR_166_0, DR_166_1, DG_166_2, DS_166_2, DR_166_3, DG_166_4, DS_166_4, DA_167, DB_167, DA_168, DB_168, DA_169, DB_169, DO_170, DR_170_0, DR_170_1, DR_170_2, DG_170_3, DS_170_3, DG_170_4, DS_170_4, DA_171, DB_171, DA_172, DB_172, DA_173, DB_173, DO_174, DG_174_0, DS_174_0, DG_174_1, DS_174_1, DG_174_2, DS_174_2, DG_174_3, DS_174_3, DR_174_4, DA_175, DB_175, DO_176, DR_176_0, DG_176_1, DS_176_1, DR_176_2, DA_177, DB_177, DA_178, DB_178, DO_st, DG_st_0, DS_st_0, DG_st_1, DS_st_1, DG_st_2, DS_st_2, DG_st_3, DS_st_3, DR_st_4, DG_st_5, DS_st_5, DR_st_6, DG_st_7, DS_st_7, DG_st_8, DS_st_8, DG_st_9, DS_st_9, DG_st_10, DS_st_10, DG_st_11, DS_st_11, DG_st_12, DS_st_12, DR_st_13, DA_st_1, DB_st_1, DA_st_2, DB_st_2, DA_st_3, DB_st_3, ifp, ifn, Option.bind_some, n_s, n_le, n_lt, n_eq, l8, l40, l64, g40, u40, u6, u3, u0, mul6, mul3, J_bit, cmp0, b2_0, zR_b, zR_0, zR_1, up2_eq, up2_ne, up2J_eq, up2J_ne, mkv_eq, n_m1]
      · have a4 := q_lkS (N := N) (z := z) (b := b) (J := J) (F := F) hw hc hF hk (by omega)
        cases e2 : lkS V Fi k
        · refine Or.inr ⟨nI (k + 1), ?_, rfl, by simp [anyB, hi, e2]⟩
          simp (disch := first | assumption | omega | decide) only [J_Desk_sourceLacks_15, J_isIn hA hk, e1, a4, e2, DO_0, DR_0_0, DR_0_1, DR_0_2, DR_0_3, DR_0_4, DR_0_5, DO_1, DR_1_0, DR_1_1, DR_1_2, DA_2, DB_2, DA_3, DB_3, DA_4, DB_4, DA_5, DO_166, DR_166_0, DR_166_1, DG_166_2, DS_166_2, DR_166_3, DG_166_4, DS_166_4, DA_167, DB_167, DA_168, DB_168, DA_169, DB_169, DO_170, DR_170_0, DR_170_1, DR_170_2, DG_170_3, DS_170_3, DG_170_4, DS_170_4, DA_171, DB_171, DA_172, DB_172, DA_173, DB_173, DO_174, DG_174_0, DS_174_0, DG_174_1, DS_174_1, DG_174_2, DS_174_2, DG_174_3, DS_174_3, DR_174_4, DA_175, DB_175, DO_176, DR_176_0, DG_176_1, DS_176_1, DR_176_2, DA_177, DB_177, DA_178, DB_178, DO_st, DG_st_0, DS_st_0, DG_st_1, DS_st_1, DG_st_2, DS_st_2, DG_st_3, DS_st_3, DR_st_4, DG_st_5, DS_st_5, DR_st_6, DG_st_7, DS_st_7, DG_st_8, DS_st_8, DG_st_9, DS_st_9, DG_st_10, DS_st_10, DG_st_11, DS_st_11, DG_st_12, DS_st_12, DR_st_13, DA_st_1, DB_st_1, DA_st_2, DB_st_2, DA_st_3, DB_st_3, ifp, ifn, Option.bind_some, n_s, n_le, n_lt, n_eq, l8, l40, l64, g40, u40, u6, u3, u0, mul6, mul3, J_bit, cmp0, b2_0, zR_b, zR_0, zR_1, up2_eq, up2_ne, up2J_eq, up2J_ne, mkv_eq, n_m1]
        · refine Or.inl ?_
          rw [show anyB 40 (fun s => A s && lkS V Fi s) = true from anyB_iff.mpr ⟨k, hk, by simp [e1, e2]⟩]
          simp (disch := first | assumption | omega | decide) only [J_Desk_sourceLacks_15, J_isIn hA hk, e1, a4, e2, DO_0, DR_0_0, DR_0_1, DR_0_2, DR_0_3, DR_0_4, DR_0_5, DO_1, DR_1_0, DR_1_1, DR_1_2, DA_2, DB_2, DA_3, DB_3, DA_4, DB_4, DA_5, DO_166, DR_166_0, DR_166_1, DG_166_2, DS_166_2, DR_166_3, DG_166_4, DS_166_4, DA_167, DB_167, DA_168, DB_168, DA_169, DB_169, DO_170, DR_170_0, DR_170_1, DR_170_2, DG_170_3, DS_170_3, DG_170_4, DS_170_4, DA_171, DB_171, DA_172, DB_172, DA_173, DB_173, DO_174, DG_174_0, DS_174_0, DG_174_1, DS_174_1, DG_174_2, DS_174_2, DG_174_3, DS_174_3, DR_174_4, DA_175, DB_175, DO_176, DR_176_0, DG_176_1, DS_176_1, DR_176_2, DA_177, DB_177, DA_178, DB_178, DO_st, DG_st_0, DS_st_0, DG_st_1, DS_st_1, DG_st_2, DS_st_2, DG_st_3, DS_st_3, DR_st_4, DG_st_5, DS_st_5, DR_st_6, DG_st_7, DS_st_7, DG_st_8, DS_st_8, DG_st_9, DS_st_9, DG_st_10, DS_st_10, DG_st_11, DS_st_11, DG_st_12, DS_st_12, DR_st_13, DA_st_1, DB_st_1, DA_st_2, DB_st_2, DA_st_3, DB_st_3, ifp, ifn, Option.bind_some, n_s, n_le, n_lt, n_eq, l8, l40, l64, g40, u40, u6, u3, u0, mul6, mul3, J_bit, cmp0, b2_0, zR_b, zR_0, zR_1, up2_eq, up2_ne, up2J_eq, up2J_ne, mkv_eq, n_m1]
          rfl
    · rintro n x ⟨rfl, hi⟩
      rw [hi]
      simp (disch := first | assumption | omega | decide) only [J_Desk_sourceLacks_15, DO_0, DR_0_0, DR_0_1, DR_0_2, DR_0_3, DR_0_4, DR_0_5, DO_1, DR_1_0, DR_1_1, DR_1_2, DA_2, DB_2, DA_3, DB_3, DA_4, DB_4, DA_5, DO_166, DR_166_0, DR_166_1, DG_166_2, DS_166_2, DR_166_3, DG_166_4, DS_166_4, DA_167, DB_167, DA_168, DB_168, DA_169, DB_169, DO_170, DR_170_0, DR_170_1, DR_170_2, DG_170_3, DS_170_3, DG_170_4, DS_170_4, DA_171, DB_171, DA_172, DB_172, DA_173, DB_173, DO_174, DG_174_0, DS_174_0, DG_174_1, DS_174_1, DG_174_2, DS_174_2, DG_174_3, DS_174_3, DR_174_4, DA_175, DB_175, DO_176, DR_176_0, DG_176_1, DS_176_1, DR_176_2, DA_177, DB_177, DA_178, DB_178, DO_st, DG_st_0, DS_st_0, DG_st_1, DS_st_1, DG_st_2, DS_st_2, DG_st_3, DS_st_3, DR_st_4, DG_st_5, DS_st_5, DR_st_6, DG_st_7, DS_st_7, DG_st_8, DS_st_8, DG_st_9, DS_st_9, DG_st_10, DS_st_10, DG_st_11, DS_st_11, DG_st_12, DS_st_12, DR_st_13, DA_st_1, DB_st_1, DA_st_2, DB_st_2, DA_st_3, DB_st_3, ifp, ifn, Option.bind_some, n_s, n_le, n_lt, n_eq, l8, l40, l64, g40, u40, u6, u3, u0, mul6, mul3, J_bit, cmp0, b2_0, zR_b, zR_0, zR_1, up2_eq, up2_ne, up2J_eq, up2J_ne, mkv_eq, n_m1]
      rfl
  · simp (disch := first | assumption | omega | decide) only [a1, e, DO_0, DR_0_0, DR_0_1, DR_0_2, DR_0_3, DR_0_4, DR_0_5, DO_1, DR_1_0, DR_1_1, DR_1_2, DA_2, DB_2, DA_3, DB_3, DA_4, DB_4, DA_5, DO_166, DR_166_0, DR_166_1, DG_166_2, DS_166_2, DR_166_3, DG_166_4, DS_166_4, DA_167, DB_167, DA_168, DB_168, DA_169, DB_169, DO_170, DR_170_0, DR_170_1, DR_170_2, DG_170_3, DS_170_3, DG_170_4, DS_170_4, DA_171, DB_171, DA_172, DB_172, DA_173, DB_173, DO_174, DG_174_0, DS_174_0, DG_174_1, DS_174_1, DG_174_2, DS_174_2, DG_174_3, DS_174_3, DR_174_4, DA_175, DB_175, DO_176, DR_176_0, DG_176_1, DS_176_1, DR_176_2, DA_177, DB_177, DA_178, DB_178, DO_st, DG_st_0, DS_st_0, DG_st_1, DS_st_1, DG_st_2, DS_st_2, DG_st_3, DS_st_3, DR_st_4, DG_st_5, DS_st_5, DR_st_6, DG_st_7, DS_st_7, DG_st_8, DS_st_8, DG_st_9, DS_st_9, DG_st_10, DS_st_10, DG_st_11, DS_st_11, DG_st_12, DS_st_12, DR_st_13, DA_st_1, DB_st_1, DA_st_2, DB_st_2, DA_st_3, DB_st_3, ifp, ifn, Option.bind_some, n_s, n_le, n_lt, n_eq, l8, l40, l64, g40, u40, u6, u3, u0, mul6, mul3, J_bit, cmp0, b2_0, zR_b, zR_0, zR_1, up2_eq, up2_ne, up2J_eq, up2J_ne, mkv_eq, n_m1]
    simp [b2]
theorem q_comeIn (hN : 100 < N) : ∃ I', J_Crew_comeIn N (b + 170) (z, dH b I J F) = some ((), (z, dH b I' (up2J (up2J J 170 3 0) 170 4 0) F)) ∧ (∀ w, w < 8 → I' 171 w = 0) ∧ ∀ o k, o ≠ 171 → I' o k = I o k := by
  rw [J_Crew_comeIn]
  refine lpx 8 (fun n (st : Int32 × Hp) => J_Crew_comeIn_2 N n (b + 170) st.1 st.2) (fun k st => ∃ I', st = (nI k, (z, dH b I' J F)) ∧ (∀ w, w < k → I' 171 w = 0) ∧ ∀ o k, o ≠ 171 → I' o k = I o k) (fun q => ∃ I', q = some ((), (z, dH b I' (up2J (up2J J 170 3 0) 170 4 0) F)) ∧ (∀ w, w < 8 → I' 171 w = 0) ∧ ∀ o k, o ≠ 171 → I' o k = I o k) ?_ ?_ N (nI 0, (z, dH b I J F)) (by omega) ⟨I, rfl, fun w h => by omega, fun _ _ _ => rfl⟩
  · rintro n k st hk ⟨I', rfl, h1, h2⟩
    refine Or.inr ⟨(nI (k + 1), (z, dH b (up2 I' 171 k 0) J F)), ?_, _, rfl, fun w hw => ?_, fun o j ho => by rw [up2_ne (Or.inl ho)]; exact h2 o j ho⟩
    · simp (disch := first | assumption | omega | decide) only [J_Crew_comeIn_2, DO_0, DR_0_0, DR_0_1, DR_0_2, DR_0_3, DR_0_4, DR_0_5, DO_1, DR_1_0, DR_1_1, DR_1_2, DA_2, DB_2, DA_3, DB_3, DA_4, DB_4, DA_5, DO_166, DR_166_0, DR_166_1, DG_166_2, DS_166_2, DR_166_3, DG_166_4, DS_166_4, DA_167, DB_167, DA_168, DB_168, DA_169, DB_169, DO_170, DR_170_0, DR_170_1, DR_170_2, DG_170_3, DS_170_3, DG_170_4, DS_170_4, DA_171, DB_171, DA_172, DB_172, DA_173, DB_173, DO_174, DG_174_0, DS_174_0, DG_174_1, DS_174_1, DG_174_2, DS_174_2, DG_174_3, DS_174_3, DR_174_4, DA_175, DB_175, DO_176, DR_176_0, DG_176_1, DS_176_1, DR_176_2, DA_177, DB_177, DA_178, DB_178, DO_st, DG_st_0, DS_st_0, DG_st_1, DS_st_1, DG_st_2, DS_st_2, DG_st_3, DS_st_3, DR_st_4, DG_st_5, DS_st_5, DR_st_6, DG_st_7, DS_st_7, DG_st_8, DS_st_8, DG_st_9, DS_st_9, DG_st_10, DS_st_10, DG_st_11, DS_st_11, DG_st_12, DS_st_12, DR_st_13, DA_st_1, DB_st_1, DA_st_2, DB_st_2, DA_st_3, DB_st_3, ifp, ifn, Option.bind_some, n_s, n_le, n_lt, n_eq, l8, l40, l64, g40, u40, u6, u3, u0, mul6, mul3, J_bit, cmp0, b2_0, zR_b, zR_0, zR_1, up2_eq, up2_ne, up2J_eq, up2J_ne, mkv_eq, n_m1]
    · by_cases q : w = k
      · subst q; rw [up2_eq]
      · rw [up2_ne (by omega)]; exact h1 w (by omega)
  · rintro n st ⟨I', rfl, h1, h2⟩
    refine ⟨I', ?_, h1, h2⟩
    simp (disch := first | assumption | omega | decide) only [J_Crew_comeIn_2, DO_0, DR_0_0, DR_0_1, DR_0_2, DR_0_3, DR_0_4, DR_0_5, DO_1, DR_1_0, DR_1_1, DR_1_2, DA_2, DB_2, DA_3, DB_3, DA_4, DB_4, DA_5, DO_166, DR_166_0, DR_166_1, DG_166_2, DS_166_2, DR_166_3, DG_166_4, DS_166_4, DA_167, DB_167, DA_168, DB_168, DA_169, DB_169, DO_170, DR_170_0, DR_170_1, DR_170_2, DG_170_3, DS_170_3, DG_170_4, DS_170_4, DA_171, DB_171, DA_172, DB_172, DA_173, DB_173, DO_174, DG_174_0, DS_174_0, DG_174_1, DS_174_1, DG_174_2, DS_174_2, DG_174_3, DS_174_3, DR_174_4, DA_175, DB_175, DO_176, DR_176_0, DG_176_1, DS_176_1, DR_176_2, DA_177, DB_177, DA_178, DB_178, DO_st, DG_st_0, DS_st_0, DG_st_1, DS_st_1, DG_st_2, DS_st_2, DG_st_3, DS_st_3, DR_st_4, DG_st_5, DS_st_5, DR_st_6, DG_st_7, DS_st_7, DG_st_8, DS_st_8, DG_st_9, DS_st_9, DG_st_10, DS_st_10, DG_st_11, DS_st_11, DG_st_12, DS_st_12, DR_st_13, DA_st_1, DB_st_1, DA_st_2, DB_st_2, DA_st_3, DB_st_3, ifp, ifn, Option.bind_some, n_s, n_le, n_lt, n_eq, l8, l40, l64, g40, u40, u6, u3, u0, mul6, mul3, J_bit, cmp0, b2_0, zR_b, zR_0, zR_1, up2_eq, up2_ne, up2J_eq, up2J_ne, mkv_eq, n_m1]
theorem q_isReady (hJ : ∀ s, s < 40 → isB (J 167 s) (tk V s)) (hA : isB (J 166 4) A) (hR : isB (J 170 3) R) (hD : isB (J 170 4) D) (hs : s < 40) : J_Desk_isReady N b (nI s) (z, dH b I J F) = some (b2 (rdy V A R D s), (z, dH b I J F)) := by
  have a1 := isB_z (isB_diff (hJ s hs) hD)
  rw [J_Desk_isReady]
  cases e1 : A s
  · simp (disch := first | assumption | omega | decide) only [J_isIn hA hs, e1, J_Desk_isReady_48, DO_0, DR_0_0, DR_0_1, DR_0_2, DR_0_3, DR_0_4, DR_0_5, DO_1, DR_1_0, DR_1_1, DR_1_2, DA_2, DB_2, DA_3, DB_3, DA_4, DB_4, DA_5, DO_166, DR_166_0, DR_166_1, DG_166_2, DS_166_2, DR_166_3, DG_166_4, DS_166_4, DA_167, DB_167, DA_168, DB_168, DA_169, DB_169, DO_170, DR_170_0, DR_170_1, DR_170_2, DG_170_3, DS_170_3, DG_170_4, DS_170_4, DA_171, DB_171, DA_172, DB_172, DA_173, DB_173, DO_174, DG_174_0, DS_174_0, DG_174_1, DS_174_1, DG_174_2, DS_174_2, DG_174_3, DS_174_3, DR_174_4, DA_175, DB_175, DO_176, DR_176_0, DG_176_1, DS_176_1, DR_176_2, DA_177, DB_177, DA_178, DB_178, DO_st, DG_st_0, DS_st_0, DG_st_1, DS_st_1, DG_st_2, DS_st_2, DG_st_3, DS_st_3, DR_st_4, DG_st_5, DS_st_5, DR_st_6, DG_st_7, DS_st_7, DG_st_8, DS_st_8, DG_st_9, DS_st_9, DG_st_10, DS_st_10, DG_st_11, DS_st_11, DG_st_12, DS_st_12, DR_st_13, DA_st_1, DB_st_1, DA_st_2, DB_st_2, DA_st_3, DB_st_3, ifp, ifn, Option.bind_some, n_s, n_le, n_lt, n_eq, l8, l40, l64, g40, u40, u6, u3, u0, mul6, mul3, J_bit, cmp0, b2_0, zR_b, zR_0, zR_1, up2_eq, up2_ne, up2J_eq, up2J_ne, mkv_eq, n_m1]
    simp [rdy, e1, b2]
  · cases e2 : (R s || D s)
    · by_cases q : J 167 s &&& (J 170 4 ^^^ (-1)) = 0
      · simp (disch := first | assumption | omega | decide) only [J_isIn hA hs, e1, J_Desk_isReady_48, J_Crew_isOpen, J_isIn (isB_or hR hD) hs, e2, J_Crew_areDone, DO_0, DR_0_0, DR_0_1, DR_0_2, DR_0_3, DR_0_4, DR_0_5, DO_1, DR_1_0, DR_1_1, DR_1_2, DA_2, DB_2, DA_3, DB_3, DA_4, DB_4, DA_5, DO_166, DR_166_0, DR_166_1, DG_166_2, DS_166_2, DR_166_3, DG_166_4, DS_166_4, DA_167, DB_167, DA_168, DB_168, DA_169, DB_169, DO_170, DR_170_0, DR_170_1, DR_170_2, DG_170_3, DS_170_3, DG_170_4, DS_170_4, DA_171, DB_171, DA_172, DB_172, DA_173, DB_173, DO_174, DG_174_0, DS_174_0, DG_174_1, DS_174_1, DG_174_2, DS_174_2, DG_174_3, DS_174_3, DR_174_4, DA_175, DB_175, DO_176, DR_176_0, DG_176_1, DS_176_1, DR_176_2, DA_177, DB_177, DA_178, DB_178, DO_st, DG_st_0, DS_st_0, DG_st_1, DS_st_1, DG_st_2, DS_st_2, DG_st_3, DS_st_3, DR_st_4, DG_st_5, DS_st_5, DR_st_6, DG_st_7, DS_st_7, DG_st_8, DS_st_8, DG_st_9, DS_st_9, DG_st_10, DS_st_10, DG_st_11, DS_st_11, DG_st_12, DS_st_12, DR_st_13, DA_st_1, DB_st_1, DA_st_2, DB_st_2, DA_st_3, DB_st_3, ifp, ifn, Option.bind_some, n_s, n_le, n_lt, n_eq, l8, l40, l64, g40, u40, u6, u3, u0, mul6, mul3, J_bit, cmp0, b2_0, zR_b, zR_0, zR_1, up2_eq, up2_ne, up2J_eq, up2J_ne, mkv_eq, n_m1]
        rw [show rdy V A R D s = true by simp only [rdy, e1, e2, anyB_no.mpr (a1.mp q)]; rfl]
        rfl
      · have h3 : anyB 40 (fun t => tk V s t && !D t) = true := by
          cases e3 : anyB 40 (fun t => tk V s t && !D t)
          · exact absurd (a1.mpr (anyB_no.mp e3)) q
          · rfl
        simp (disch := first | assumption | omega | decide) only [J_isIn hA hs, e1, J_Desk_isReady_48, J_Crew_isOpen, J_isIn (isB_or hR hD) hs, e2, J_Crew_areDone, DO_0, DR_0_0, DR_0_1, DR_0_2, DR_0_3, DR_0_4, DR_0_5, DO_1, DR_1_0, DR_1_1, DR_1_2, DA_2, DB_2, DA_3, DB_3, DA_4, DB_4, DA_5, DO_166, DR_166_0, DR_166_1, DG_166_2, DS_166_2, DR_166_3, DG_166_4, DS_166_4, DA_167, DB_167, DA_168, DB_168, DA_169, DB_169, DO_170, DR_170_0, DR_170_1, DR_170_2, DG_170_3, DS_170_3, DG_170_4, DS_170_4, DA_171, DB_171, DA_172, DB_172, DA_173, DB_173, DO_174, DG_174_0, DS_174_0, DG_174_1, DS_174_1, DG_174_2, DS_174_2, DG_174_3, DS_174_3, DR_174_4, DA_175, DB_175, DO_176, DR_176_0, DG_176_1, DS_176_1, DR_176_2, DA_177, DB_177, DA_178, DB_178, DO_st, DG_st_0, DS_st_0, DG_st_1, DS_st_1, DG_st_2, DS_st_2, DG_st_3, DS_st_3, DR_st_4, DG_st_5, DS_st_5, DR_st_6, DG_st_7, DS_st_7, DG_st_8, DS_st_8, DG_st_9, DS_st_9, DG_st_10, DS_st_10, DG_st_11, DS_st_11, DG_st_12, DS_st_12, DR_st_13, DA_st_1, DB_st_1, DA_st_2, DB_st_2, DA_st_3, DB_st_3, ifp, ifn, Option.bind_some, n_s, n_le, n_lt, n_eq, l8, l40, l64, g40, u40, u6, u3, u0, mul6, mul3, J_bit, cmp0, b2_0, zR_b, zR_0, zR_1, up2_eq, up2_ne, up2J_eq, up2J_ne, mkv_eq, n_m1]
        rw [show rdy V A R D s = false by simp only [rdy, h3]; simp]
        rfl
    · simp (disch := first | assumption | omega | decide) only [J_isIn hA hs, e1, J_Desk_isReady_48, J_Crew_isOpen, J_isIn (isB_or hR hD) hs, e2, DO_0, DR_0_0, DR_0_1, DR_0_2, DR_0_3, DR_0_4, DR_0_5, DO_1, DR_1_0, DR_1_1, DR_1_2, DA_2, DB_2, DA_3, DB_3, DA_4, DB_4, DA_5, DO_166, DR_166_0, DR_166_1, DG_166_2, DS_166_2, DR_166_3, DG_166_4, DS_166_4, DA_167, DB_167, DA_168, DB_168, DA_169, DB_169, DO_170, DR_170_0, DR_170_1, DR_170_2, DG_170_3, DS_170_3, DG_170_4, DS_170_4, DA_171, DB_171, DA_172, DB_172, DA_173, DB_173, DO_174, DG_174_0, DS_174_0, DG_174_1, DS_174_1, DG_174_2, DS_174_2, DG_174_3, DS_174_3, DR_174_4, DA_175, DB_175, DO_176, DR_176_0, DG_176_1, DS_176_1, DR_176_2, DA_177, DB_177, DA_178, DB_178, DO_st, DG_st_0, DS_st_0, DG_st_1, DS_st_1, DG_st_2, DS_st_2, DG_st_3, DS_st_3, DR_st_4, DG_st_5, DS_st_5, DR_st_6, DG_st_7, DS_st_7, DG_st_8, DS_st_8, DG_st_9, DS_st_9, DG_st_10, DS_st_10, DG_st_11, DS_st_11, DG_st_12, DS_st_12, DR_st_13, DA_st_1, DB_st_1, DA_st_2, DB_st_2, DA_st_3, DB_st_3, ifp, ifn, Option.bind_some, n_s, n_le, n_lt, n_eq, l8, l40, l64, g40, u40, u6, u3, u0, mul6, mul3, J_bit, cmp0, b2_0, zR_b, zR_0, zR_1, up2_eq, up2_ne, up2J_eq, up2J_ne, mkv_eq, n_m1]
      rw [show rdy V A R D s = false by simp only [rdy, e2]; simp]
      rfl
theorem q_po18 (r : Nat → Int32 → Int32 → Hp → Option (Unit × Hp)) {x2 : Int32} {q : Nat → Nat} (hJ : ∀ s, s < 40 → isB (J 167 s) (tk V s)) (hA : isB (J 166 4) A) (hR : isB (J 170 3) R) (hD : isB (J 170 4) D) (hq : ∀ s, s < 40 → A s = true → R s = false → ∀ J', J_Step_whyDue N (b + (6 + 4 * s)) (b + 1) (z, dH b I J' F) = some (nI (q s), (z, dH b I J' F))) (hq2 : ∀ s, q s < 100) (hN : 100 < N) : ∃ w, J_Desk_passOverSteps_18 N r N b 0 x2 (nI 0) (z, dH b I J F) = r b (b2 (swm (fun D s => rdy V A R D s && decide (q s = 0)) D 40)) (x2 + 1) (z, dH b I (up2J J 170 4 w) F) ∧ isB w (swp (fun D s => rdy V A R D s && decide (q s = 0)) D 40) := by
  refine lpx 40 (fun n (st : Int32 × Int32 × Hp) => J_Desk_passOverSteps_18 N r n b st.1 x2 st.2.1 st.2.2) (fun k st => ∃ w, st = (b2 (swm (fun D s => rdy V A R D s && decide (q s = 0)) D k), nI k, (z, dH b I (up2J J 170 4 w) F)) ∧ isB w (swp (fun D s => rdy V A R D s && decide (q s = 0)) D k)) (fun c => ∃ w, c = r b (b2 (swm (fun D s => rdy V A R D s && decide (q s = 0)) D 40)) (x2 + 1) (z, dH b I (up2J J 170 4 w) F) ∧ isB w (swp (fun D s => rdy V A R D s && decide (q s = 0)) D 40)) ?_ ?_ N (0, nI 0, (z, dH b I J F)) (by omega) ⟨J 170 4, by rw [up2J_same]; rfl, hD⟩
  · rintro n k st hk ⟨w, rfl, h1⟩
    have a1 := q_isReady (V := V) (A := A) (R := R) (N := N) (b := b) (z := z) (I := I) (F := F) (J := up2J J 170 4 w) (s := k) (fun t ht => by rw [up2J_ne (by omega)]; exact hJ t ht) (by rw [up2J_ne (by omega)]; exact hA) (by rw [up2J_ne (by omega)]; exact hR) (by rw [up2J_eq]; exact h1) hk
    refine Or.inr ?_
    cases e : rdy V A R (swp (fun D s => rdy V A R D s && decide (q s = 0)) D k) k
    · refine ⟨(_, nI (k + 1), (z, dH b I (up2J J 170 4 w) F)), ?_, w, rfl, ?_⟩
      · simp (disch := first | assumption | omega | decide) only [J_Desk_passOverSteps_18, a1, e, swm, Bool.false_and, Bool.or_false, DO_0, DR_0_0, DR_0_1, DR_0_2, DR_0_3, DR_0_4, DR_0_5, DO_1, DR_1_0, DR_1_1, DR_1_2, DA_2, DB_2, DA_3, DB_3, DA_4, DB_4, DA_5, DO_166, DR_166_0, DR_166_1, DG_166_2, DS_166_2, DR_166_3, DG_166_4, DS_166_4, DA_167, DB_167, DA_168, DB_168, DA_169, DB_169, DO_170, DR_170_0, DR_170_1, DR_170_2, DG_170_3, DS_170_3, DG_170_4, DS_170_4, DA_171, DB_171, DA_172, DB_172, DA_173, DB_173, DO_174, DG_174_0, DS_174_0, DG_174_1, DS_174_1, DG_174_2, DS_174_2, DG_174_3, DS_174_3, DR_174_4, DA_175, DB_175, DO_176, DR_176_0, DG_176_1, DS_176_1, DR_176_2, DA_177, DB_177, DA_178, DB_178, DO_st, DG_st_0, DS_st_0, DG_st_1, DS_st_1, DG_st_2, DS_st_2, DG_st_3, DS_st_3, DR_st_4, DG_st_5, DS_st_5, DR_st_6, DG_st_7, DS_st_7, DG_st_8, DS_st_8, DG_st_9, DS_st_9, DG_st_10, DS_st_10, DG_st_11, DS_st_11, DG_st_12, DS_st_12, DR_st_13, DA_st_1, DB_st_1, DA_st_2, DB_st_2, DA_st_3, DB_st_3, ifp, ifn, Option.bind_some, n_s, n_le, n_lt, n_eq, l8, l40, l64, g40, u40, u6, u3, u0, mul6, mul3, J_bit, cmp0, b2_0, zR_b, zR_0, zR_1, up2_eq, up2_ne, up2J_eq, up2J_ne, mkv_eq, n_m1]
      · rw [swp, if_neg (by simp [e])]; exact h1
    · have e2 : A k = true := by simp [rdy] at e; exact e.1.1
      have e3 : R k = false := by simp [rdy] at e; exact e.1.2.1
      have a2 := hq k hk e2 e3 (up2J J 170 4 w)
      have a4 := hq2 k
      by_cases e4 : q k = 0
      · have a3 : (nI (q k) = (0 : Int32)) = True := by rw [e4]; decide
        refine ⟨(_, nI (k + 1), (z, dH b I (up2J J 170 4 (w ||| bitw k)) F)), ?_, w ||| bitw k, rfl, ?_⟩
        · simp (disch := first | assumption | omega | decide) only [J_Desk_passOverSteps_18, J_Crew_passOver, a1, e, a2, a3, up2J_up, swm, DO_0, DR_0_0, DR_0_1, DR_0_2, DR_0_3, DR_0_4, DR_0_5, DO_1, DR_1_0, DR_1_1, DR_1_2, DA_2, DB_2, DA_3, DB_3, DA_4, DB_4, DA_5, DO_166, DR_166_0, DR_166_1, DG_166_2, DS_166_2, DR_166_3, DG_166_4, DS_166_4, DA_167, DB_167, DA_168, DB_168, DA_169, DB_169, DO_170, DR_170_0, DR_170_1, DR_170_2, DG_170_3, DS_170_3, DG_170_4, DS_170_4, DA_171, DB_171, DA_172, DB_172, DA_173, DB_173, DO_174, DG_174_0, DS_174_0, DG_174_1, DS_174_1, DG_174_2, DS_174_2, DG_174_3, DS_174_3, DR_174_4, DA_175, DB_175, DO_176, DR_176_0, DG_176_1, DS_176_1, DR_176_2, DA_177, DB_177, DA_178, DB_178, DO_st, DG_st_0, DS_st_0, DG_st_1, DS_st_1, DG_st_2, DS_st_2, DG_st_3, DS_st_3, DR_st_4, DG_st_5, DS_st_5, DR_st_6, DG_st_7, DS_st_7, DG_st_8, DS_st_8, DG_st_9, DS_st_9, DG_st_10, DS_st_10, DG_st_11, DS_st_11, DG_st_12, DS_st_12, DR_st_13, DA_st_1, DB_st_1, DA_st_2, DB_st_2, DA_st_3, DB_st_3, ifp, ifn, Option.bind_some, n_s, n_le, n_lt, n_eq, l8, l40, l64, g40, u40, u6, u3, u0, mul6, mul3, J_bit, cmp0, b2_0, zR_b, zR_0, zR_1, up2_eq, up2_ne, up2J_eq, up2J_ne, mkv_eq, n_m1]
          simp only [e4, decide_true, Bool.and_self, Bool.or_true]; rfl
        · rw [swp, if_pos (by simp [e, e4])]; exact isB_or h1 (isB_bit hk)
      · have a3 : (nI (q k) = (0 : Int32)) = False := by
          rw [show (nI (q k) = (0 : Int32)) = (nI (q k) = nI 0) from rfl, n_eq (by omega) (by decide)]; exact eq_false e4
        refine ⟨(_, nI (k + 1), (z, dH b I (up2J J 170 4 w) F)), ?_, w, rfl, ?_⟩
        · simp (disch := first | assumption | omega | decide) only [J_Desk_passOverSteps_18, a1, e, a2, a3, swm, DO_0, DR_0_0, DR_0_1, DR_0_2, DR_0_3, DR_0_4, DR_0_5, DO_1, DR_1_0, DR_1_1, DR_1_2, DA_2, DB_2, DA_3, DB_3, DA_4, DB_4, DA_5, DO_166, DR_166_0, DR_166_1, DG_166_2, DS_166_2, DR_166_3, DG_166_4, DS_166_4, DA_167, DB_167, DA_168, DB_168, DA_169, DB_169, DO_170, DR_170_0, DR_170_1, DR_170_2, DG_170_3, DS_170_3, DG_170_4, DS_170_4, DA_171, DB_171, DA_172, DB_172, DA_173, DB_173, DO_174, DG_174_0, DS_174_0, DG_174_1, DS_174_1, DG_174_2, DS_174_2, DG_174_3, DS_174_3, DR_174_4, DA_175, DB_175, DO_176, DR_176_0, DG_176_1, DS_176_1, DR_176_2, DA_177, DB_177, DA_178, DB_178, DO_st, DG_st_0, DS_st_0, DG_st_1, DS_st_1, DG_st_2, DS_st_2, DG_st_3, DS_st_3, DR_st_4, DG_st_5, DS_st_5, DR_st_6, DG_st_7, DS_st_7, DG_st_8, DS_st_8, DG_st_9, DS_st_9, DG_st_10, DS_st_10, DG_st_11, DS_st_11, DG_st_12, DS_st_12, DR_st_13, DA_st_1, DB_st_1, DA_st_2, DB_st_2, DA_st_3, DB_st_3, ifp, ifn, Option.bind_some, n_s, n_le, n_lt, n_eq, l8, l40, l64, g40, u40, u6, u3, u0, mul6, mul3, J_bit, cmp0, b2_0, zR_b, zR_0, zR_1, up2_eq, up2_ne, up2J_eq, up2J_ne, mkv_eq, n_m1]
          simp only [e4, decide_false, Bool.and_false, Bool.or_false]
        · rw [swp, if_neg (by simp [e4])]; exact h1
  · rintro n st ⟨w, rfl, h1⟩
    refine ⟨w, ?_, h1⟩
    simp (disch := first | assumption | omega | decide) only [J_Desk_passOverSteps_18, DO_0, DR_0_0, DR_0_1, DR_0_2, DR_0_3, DR_0_4, DR_0_5, DO_1, DR_1_0, DR_1_1, DR_1_2, DA_2, DB_2, DA_3, DB_3, DA_4, DB_4, DA_5, DO_166, DR_166_0, DR_166_1, DG_166_2, DS_166_2, DR_166_3, DG_166_4, DS_166_4, DA_167, DB_167, DA_168, DB_168, DA_169, DB_169, DO_170, DR_170_0, DR_170_1, DR_170_2, DG_170_3, DS_170_3, DG_170_4, DS_170_4, DA_171, DB_171, DA_172, DB_172, DA_173, DB_173, DO_174, DG_174_0, DS_174_0, DG_174_1, DS_174_1, DG_174_2, DS_174_2, DG_174_3, DS_174_3, DR_174_4, DA_175, DB_175, DO_176, DR_176_0, DG_176_1, DS_176_1, DR_176_2, DA_177, DB_177, DA_178, DB_178, DO_st, DG_st_0, DS_st_0, DG_st_1, DS_st_1, DG_st_2, DS_st_2, DG_st_3, DS_st_3, DR_st_4, DG_st_5, DS_st_5, DR_st_6, DG_st_7, DS_st_7, DG_st_8, DS_st_8, DG_st_9, DS_st_9, DG_st_10, DS_st_10, DG_st_11, DS_st_11, DG_st_12, DS_st_12, DR_st_13, DA_st_1, DB_st_1, DA_st_2, DB_st_2, DA_st_3, DB_st_3, ifp, ifn, Option.bind_some, n_s, n_le, n_lt, n_eq, l8, l40, l64, g40, u40, u6, u3, u0, mul6, mul3, J_bit, cmp0, b2_0, zR_b, zR_0, zR_1, up2_eq, up2_ne, up2J_eq, up2J_ne, mkv_eq, n_m1]
theorem q_passOver {q : Nat → Nat} (hJ : ∀ s, s < 40 → isB (J 167 s) (tk V s)) (hA : isB (J 166 4) A) (hR : isB (J 170 3) R) (hD : isB (J 170 4) D) (hq : ∀ s, s < 40 → A s = true → R s = false → ∀ J', J_Step_whyDue N (b + (6 + 4 * s)) (b + 1) (z, dH b I J' F) = some (nI (q s), (z, dH b I J' F))) (hq2 : ∀ s, q s < 100) (hN : 100 < N) : ∃ w, J_Desk_passOverSteps N b (z, dH b I J F) = some ((), (z, dH b I (up2J J 170 4 w) F)) ∧ isB w (itr (fun D s => rdy V A R D s && decide (q s = 0)) 40 D) := by
  rw [J_Desk_passOverSteps]
  refine lpx 40 (fun n (st : Int32 × Int32 × Hp) => J_Desk_passOverSteps_4 N n b st.1 st.2.1 st.2.2) (fun p st => ∃ m w D', st = (b2 m, nI p, (z, dH b I (up2J J 170 4 w) F)) ∧ isB w D' ∧ (m = true → itr (fun D s => rdy V A R D s && decide (q s = 0)) 40 D = itr (fun D s => rdy V A R D s && decide (q s = 0)) (40 - p) D') ∧ (m = false → itr (fun D s => rdy V A R D s && decide (q s = 0)) 40 D = D')) (fun c => ∃ w, c = some ((), (z, dH b I (up2J J 170 4 w) F)) ∧ isB w (itr (fun D s => rdy V A R D s && decide (q s = 0)) 40 D)) ?_ ?_ N (1, nI 0, (z, dH b I J F)) (by omega) ⟨true, J 170 4, D, by rw [up2J_same]; rfl, hD, fun _ => rfl, fun h => absurd h (by simp)⟩
  · rintro n p st hp ⟨m, w, D', rfl, h1, h2, h3⟩
    cases m
    · refine Or.inl ⟨w, ?_, by rw [h3 rfl]; exact h1⟩
      simp (disch := first | assumption | omega | decide) only [J_Desk_passOverSteps_4, b2_f, DO_0, DR_0_0, DR_0_1, DR_0_2, DR_0_3, DR_0_4, DR_0_5, DO_1, DR_1_0, DR_1_1, DR_1_2, DA_2, DB_2, DA_3, DB_3, DA_4, DB_4, DA_5, DO_166, DR_166_0, DR_166_1, DG_166_2, DS_166_2, DR_166_3, DG_166_4, DS_166_4, DA_167, DB_167, DA_168, DB_168, DA_169, DB_169, DO_170, DR_170_0, DR_170_1, DR_170_2, DG_170_3, DS_170_3, DG_170_4, DS_170_4, DA_171, DB_171, DA_172, DB_172, DA_173, DB_173, DO_174, DG_174_0, DS_174_0, DG_174_1, DS_174_1, DG_174_2, DS_174_2, DG_174_3, DS_174_3, DR_174_4, DA_175, DB_175, DO_176, DR_176_0, DG_176_1, DS_176_1, DR_176_2, DA_177, DB_177, DA_178, DB_178, DO_st, DG_st_0, DS_st_0, DG_st_1, DS_st_1, DG_st_2, DS_st_2, DG_st_3, DS_st_3, DR_st_4, DG_st_5, DS_st_5, DR_st_6, DG_st_7, DS_st_7, DG_st_8, DS_st_8, DG_st_9, DS_st_9, DG_st_10, DS_st_10, DG_st_11, DS_st_11, DG_st_12, DS_st_12, DR_st_13, DA_st_1, DB_st_1, DA_st_2, DB_st_2, DA_st_3, DB_st_3, ifp, ifn, Option.bind_some, n_s, n_le, n_lt, n_eq, l8, l40, l64, g40, u40, u6, u3, u0, mul6, mul3, J_bit, cmp0, b2_0, zR_b, zR_0, zR_1, up2_eq, up2_ne, up2J_eq, up2J_ne, mkv_eq, n_m1]
    · obtain ⟨w', e1, e2⟩ := q_po18 (V := V) (A := A) (R := R) (D := D') (N := N) (b := b) (z := z) (I := I) (F := F) (J := up2J J 170 4 w) (J_Desk_passOverSteps_4 N n) (x2 := nI p) (q := q) (fun t ht => by rw [up2J_ne (by omega)]; exact hJ t ht) (by rw [up2J_ne (by omega)]; exact hA) (by rw [up2J_ne (by omega)]; exact hR) (by rw [up2J_eq]; exact h1) hq hq2 hN
      rw [up2J_up, n_s] at e1
      refine Or.inr ⟨(b2 (swm (fun D s => rdy V A R D s && decide (q s = 0)) D' 40), nI (p + 1), (z, dH b I (up2J J 170 4 w') F)), ?_, swm (fun D s => rdy V A R D s && decide (q s = 0)) D' 40, w', _, rfl, e2, fun hm => ?_, fun hm => ?_⟩
      · simp (disch := first | assumption | omega | decide) only [J_Desk_passOverSteps_4, b2_t, DO_0, DR_0_0, DR_0_1, DR_0_2, DR_0_3, DR_0_4, DR_0_5, DO_1, DR_1_0, DR_1_1, DR_1_2, DA_2, DB_2, DA_3, DB_3, DA_4, DB_4, DA_5, DO_166, DR_166_0, DR_166_1, DG_166_2, DS_166_2, DR_166_3, DG_166_4, DS_166_4, DA_167, DB_167, DA_168, DB_168, DA_169, DB_169, DO_170, DR_170_0, DR_170_1, DR_170_2, DG_170_3, DS_170_3, DG_170_4, DS_170_4, DA_171, DB_171, DA_172, DB_172, DA_173, DB_173, DO_174, DG_174_0, DS_174_0, DG_174_1, DS_174_1, DG_174_2, DS_174_2, DG_174_3, DS_174_3, DR_174_4, DA_175, DB_175, DO_176, DR_176_0, DG_176_1, DS_176_1, DR_176_2, DA_177, DB_177, DA_178, DB_178, DO_st, DG_st_0, DS_st_0, DG_st_1, DS_st_1, DG_st_2, DS_st_2, DG_st_3, DS_st_3, DR_st_4, DG_st_5, DS_st_5, DR_st_6, DG_st_7, DS_st_7, DG_st_8, DS_st_8, DG_st_9, DS_st_9, DG_st_10, DS_st_10, DG_st_11, DS_st_11, DG_st_12, DS_st_12, DR_st_13, DA_st_1, DB_st_1, DA_st_2, DB_st_2, DA_st_3, DB_st_3, ifp, ifn, Option.bind_some, n_s, n_le, n_lt, n_eq, l8, l40, l64, g40, u40, u6, u3, u0, mul6, mul3, J_bit, cmp0, b2_0, zR_b, zR_0, zR_1, up2_eq, up2_ne, up2J_eq, up2J_ne, mkv_eq, n_m1]
        exact e1
      · rw [h2 rfl, show 40 - p = (40 - (p + 1)) + 1 by omega, itr, if_pos hm]
      · rw [h2 rfl, show 40 - p = (40 - (p + 1)) + 1 by omega, itr, if_neg (by simp [hm]), swm_no hm]
  · rintro n st ⟨m, w, D', rfl, h1, h2, h3⟩
    refine ⟨w, ?_, ?_⟩
    · cases m
      · simp (disch := first | assumption | omega | decide) only [J_Desk_passOverSteps_4, b2_f, DO_0, DR_0_0, DR_0_1, DR_0_2, DR_0_3, DR_0_4, DR_0_5, DO_1, DR_1_0, DR_1_1, DR_1_2, DA_2, DB_2, DA_3, DB_3, DA_4, DB_4, DA_5, DO_166, DR_166_0, DR_166_1, DG_166_2, DS_166_2, DR_166_3, DG_166_4, DS_166_4, DA_167, DB_167, DA_168, DB_168, DA_169, DB_169, DO_170, DR_170_0, DR_170_1, DR_170_2, DG_170_3, DS_170_3, DG_170_4, DS_170_4, DA_171, DB_171, DA_172, DB_172, DA_173, DB_173, DO_174, DG_174_0, DS_174_0, DG_174_1, DS_174_1, DG_174_2, DS_174_2, DG_174_3, DS_174_3, DR_174_4, DA_175, DB_175, DO_176, DR_176_0, DG_176_1, DS_176_1, DR_176_2, DA_177, DB_177, DA_178, DB_178, DO_st, DG_st_0, DS_st_0, DG_st_1, DS_st_1, DG_st_2, DS_st_2, DG_st_3, DS_st_3, DR_st_4, DG_st_5, DS_st_5, DR_st_6, DG_st_7, DS_st_7, DG_st_8, DS_st_8, DG_st_9, DS_st_9, DG_st_10, DS_st_10, DG_st_11, DS_st_11, DG_st_12, DS_st_12, DR_st_13, DA_st_1, DB_st_1, DA_st_2, DB_st_2, DA_st_3, DB_st_3, ifp, ifn, Option.bind_some, n_s, n_le, n_lt, n_eq, l8, l40, l64, g40, u40, u6, u3, u0, mul6, mul3, J_bit, cmp0, b2_0, zR_b, zR_0, zR_1, up2_eq, up2_ne, up2J_eq, up2J_ne, mkv_eq, n_m1]
      · simp (disch := first | assumption | omega | decide) only [J_Desk_passOverSteps_4, b2_t, DO_0, DR_0_0, DR_0_1, DR_0_2, DR_0_3, DR_0_4, DR_0_5, DO_1, DR_1_0, DR_1_1, DR_1_2, DA_2, DB_2, DA_3, DB_3, DA_4, DB_4, DA_5, DO_166, DR_166_0, DR_166_1, DG_166_2, DS_166_2, DR_166_3, DG_166_4, DS_166_4, DA_167, DB_167, DA_168, DB_168, DA_169, DB_169, DO_170, DR_170_0, DR_170_1, DR_170_2, DG_170_3, DS_170_3, DG_170_4, DS_170_4, DA_171, DB_171, DA_172, DB_172, DA_173, DB_173, DO_174, DG_174_0, DS_174_0, DG_174_1, DS_174_1, DG_174_2, DS_174_2, DG_174_3, DS_174_3, DR_174_4, DA_175, DB_175, DO_176, DR_176_0, DG_176_1, DS_176_1, DR_176_2, DA_177, DB_177, DA_178, DB_178, DO_st, DG_st_0, DS_st_0, DG_st_1, DS_st_1, DG_st_2, DS_st_2, DG_st_3, DS_st_3, DR_st_4, DG_st_5, DS_st_5, DR_st_6, DG_st_7, DS_st_7, DG_st_8, DS_st_8, DG_st_9, DS_st_9, DG_st_10, DS_st_10, DG_st_11, DS_st_11, DG_st_12, DS_st_12, DR_st_13, DA_st_1, DB_st_1, DA_st_2, DB_st_2, DA_st_3, DB_st_3, ifp, ifn, Option.bind_some, n_s, n_le, n_lt, n_eq, l8, l40, l64, g40, u40, u6, u3, u0, mul6, mul3, J_bit, cmp0, b2_0, zR_b, zR_0, zR_1, up2_eq, up2_ne, up2J_eq, up2J_ne, mkv_eq, n_m1]
    · cases m
      · rw [h3 rfl]; exact h1
      · rw [h2 rfl]; exact h1
theorem q_nextToBegin {Rk : Nat → Nat} (hJ : ∀ s, s < 40 → isB (J 167 s) (tk V s)) (hA : isB (J 166 4) A) (hR : isB (J 170 3) R) (hD : isB (J 170 4) D) (hk : ∀ s, s < 40 → A s = true → I 169 s = nI (Rk s) ∧ 1 ≤ Rk s ∧ Rk s ≤ 4100) (hN : 100 < N) : J_Desk_nextToBegin N b (z, dH b I J F) = some (mkv (nb (rdy V A R D) Rk 40), (z, dH b I J F)) := by
  rw [J_Desk_nextToBegin]
  refine lpx 40 (fun n (st : Int32 × Int32 × Int32) => J_Desk_nextToBegin_6 N n b st.1 st.2.1 st.2.2 (z, dH b I J F)) (fun k st => st = (mkv (nb (rdy V A R D) Rk k), (if nb (rdy V A R D) Rk k = 40 then nI 0 else nI (Rk (nb (rdy V A R D) Rk k))), nI k)) (fun c => c = some (mkv (nb (rdy V A R D) Rk 40), (z, dH b I J F))) ?_ ?_ N (-1, nI 0, nI 0) (by omega) rfl
  · rintro n k st hk' rfl
    have a1 := q_isReady (V := V) (A := A) (R := R) (D := D) (N := N) (b := b) (z := z) (I := I) (F := F) (J := J) (s := k) hJ hA hR hD hk'
    refine Or.inr ⟨_, ?_, rfl⟩
    cases e : rdy V A R D k
    · have e2 : nb (rdy V A R D) Rk (k + 1) = nb (rdy V A R D) Rk k := by rw [nb, if_neg (by simp [e])]
      simp (disch := first | assumption | omega | decide) only [J_Desk_nextToBegin_6, a1, e, e2, DO_0, DR_0_0, DR_0_1, DR_0_2, DR_0_3, DR_0_4, DR_0_5, DO_1, DR_1_0, DR_1_1, DR_1_2, DA_2, DB_2, DA_3, DB_3, DA_4, DB_4, DA_5, DO_166, DR_166_0, DR_166_1, DG_166_2, DS_166_2, DR_166_3, DG_166_4, DS_166_4, DA_167, DB_167, DA_168, DB_168, DA_169, DB_169, DO_170, DR_170_0, DR_170_1, DR_170_2, DG_170_3, DS_170_3, DG_170_4, DS_170_4, DA_171, DB_171, DA_172, DB_172, DA_173, DB_173, DO_174, DG_174_0, DS_174_0, DG_174_1, DS_174_1, DG_174_2, DS_174_2, DG_174_3, DS_174_3, DR_174_4, DA_175, DB_175, DO_176, DR_176_0, DG_176_1, DS_176_1, DR_176_2, DA_177, DB_177, DA_178, DB_178, DO_st, DG_st_0, DS_st_0, DG_st_1, DS_st_1, DG_st_2, DS_st_2, DG_st_3, DS_st_3, DR_st_4, DG_st_5, DS_st_5, DR_st_6, DG_st_7, DS_st_7, DG_st_8, DS_st_8, DG_st_9, DS_st_9, DG_st_10, DS_st_10, DG_st_11, DS_st_11, DG_st_12, DS_st_12, DR_st_13, DA_st_1, DB_st_1, DA_st_2, DB_st_2, DA_st_3, DB_st_3, ifp, ifn, Option.bind_some, n_s, n_le, n_lt, n_eq, l8, l40, l64, g40, u40, u6, u3, u0, mul6, mul3, J_bit, cmp0, b2_0, zR_b, zR_0, zR_1, up2_eq, up2_ne, up2J_eq, up2J_ne, mkv_eq, n_m1]
    · have e2 : A k = true := by simp [rdy] at e; exact e.1.1
      obtain ⟨a2, a3, a4⟩ := hk k hk' e2
      rcases nb_le (rd := rdy V A R D) (Rk := Rk) (n := k) (by omega) with ⟨h1, h2⟩ | ⟨h1, h2⟩
      · have e3 : nb (rdy V A R D) Rk (k + 1) = k := by rw [nb, if_pos ⟨e, Or.inl h1⟩]
        have e4 : k ≠ 40 := by omega
        simp (disch := first | assumption | omega | decide) only [J_Desk_nextToBegin_6, a1, e, e3, h1, a2, DO_0, DR_0_0, DR_0_1, DR_0_2, DR_0_3, DR_0_4, DR_0_5, DO_1, DR_1_0, DR_1_1, DR_1_2, DA_2, DB_2, DA_3, DB_3, DA_4, DB_4, DA_5, DO_166, DR_166_0, DR_166_1, DG_166_2, DS_166_2, DR_166_3, DG_166_4, DS_166_4, DA_167, DB_167, DA_168, DB_168, DA_169, DB_169, DO_170, DR_170_0, DR_170_1, DR_170_2, DG_170_3, DS_170_3, DG_170_4, DS_170_4, DA_171, DB_171, DA_172, DB_172, DA_173, DB_173, DO_174, DG_174_0, DS_174_0, DG_174_1, DS_174_1, DG_174_2, DS_174_2, DG_174_3, DS_174_3, DR_174_4, DA_175, DB_175, DO_176, DR_176_0, DG_176_1, DS_176_1, DR_176_2, DA_177, DB_177, DA_178, DB_178, DO_st, DG_st_0, DS_st_0, DG_st_1, DS_st_1, DG_st_2, DS_st_2, DG_st_3, DS_st_3, DR_st_4, DG_st_5, DS_st_5, DR_st_6, DG_st_7, DS_st_7, DG_st_8, DS_st_8, DG_st_9, DS_st_9, DG_st_10, DS_st_10, DG_st_11, DS_st_11, DG_st_12, DS_st_12, DR_st_13, DA_st_1, DB_st_1, DA_st_2, DB_st_2, DA_st_3, DB_st_3, ifp, ifn, Option.bind_some, n_s, n_le, n_lt, n_eq, l8, l40, l64, g40, u40, u6, u3, u0, mul6, mul3, J_bit, cmp0, b2_0, zR_b, zR_0, zR_1, up2_eq, up2_ne, up2J_eq, up2J_ne, mkv_eq, n_m1]
        simp only [mkv_n hk']
      · have e6 : A (nb (rdy V A R D) Rk k) = true := by simp [rdy] at h2; exact h2.1.1
        obtain ⟨c1, c2, c3⟩ := hk _ (by omega) e6
        by_cases q : Rk (nb (rdy V A R D) Rk k) < Rk k
        · have e3 : nb (rdy V A R D) Rk (k + 1) = k := by rw [nb, if_pos ⟨e, Or.inr q⟩]
          have e4 : k ≠ 40 := by omega
          have e5 : nb (rdy V A R D) Rk k ≠ 40 := by omega
          simp (disch := first | assumption | omega | decide) only [J_Desk_nextToBegin_6, a1, e, e3, a2, DO_0, DR_0_0, DR_0_1, DR_0_2, DR_0_3, DR_0_4, DR_0_5, DO_1, DR_1_0, DR_1_1, DR_1_2, DA_2, DB_2, DA_3, DB_3, DA_4, DB_4, DA_5, DO_166, DR_166_0, DR_166_1, DG_166_2, DS_166_2, DR_166_3, DG_166_4, DS_166_4, DA_167, DB_167, DA_168, DB_168, DA_169, DB_169, DO_170, DR_170_0, DR_170_1, DR_170_2, DG_170_3, DS_170_3, DG_170_4, DS_170_4, DA_171, DB_171, DA_172, DB_172, DA_173, DB_173, DO_174, DG_174_0, DS_174_0, DG_174_1, DS_174_1, DG_174_2, DS_174_2, DG_174_3, DS_174_3, DR_174_4, DA_175, DB_175, DO_176, DR_176_0, DG_176_1, DS_176_1, DR_176_2, DA_177, DB_177, DA_178, DB_178, DO_st, DG_st_0, DS_st_0, DG_st_1, DS_st_1, DG_st_2, DS_st_2, DG_st_3, DS_st_3, DR_st_4, DG_st_5, DS_st_5, DR_st_6, DG_st_7, DS_st_7, DG_st_8, DS_st_8, DG_st_9, DS_st_9, DG_st_10, DS_st_10, DG_st_11, DS_st_11, DG_st_12, DS_st_12, DR_st_13, DA_st_1, DB_st_1, DA_st_2, DB_st_2, DA_st_3, DB_st_3, ifp, ifn, Option.bind_some, n_s, n_le, n_lt, n_eq, l8, l40, l64, g40, u40, u6, u3, u0, mul6, mul3, J_bit, cmp0, b2_0, zR_b, zR_0, zR_1, up2_eq, up2_ne, up2J_eq, up2J_ne, mkv_eq, n_m1]
          simp only [mkv_n hk']
        · have e3 : nb (rdy V A R D) Rk (k + 1) = nb (rdy V A R D) Rk k := by rw [nb, if_neg (by rintro ⟨_, h | h⟩ <;> omega)]
          have e5 : nb (rdy V A R D) Rk k ≠ 40 := by omega
          simp (disch := first | assumption | omega | decide) only [J_Desk_nextToBegin_6, a1, e, e3, a2, DO_0, DR_0_0, DR_0_1, DR_0_2, DR_0_3, DR_0_4, DR_0_5, DO_1, DR_1_0, DR_1_1, DR_1_2, DA_2, DB_2, DA_3, DB_3, DA_4, DB_4, DA_5, DO_166, DR_166_0, DR_166_1, DG_166_2, DS_166_2, DR_166_3, DG_166_4, DS_166_4, DA_167, DB_167, DA_168, DB_168, DA_169, DB_169, DO_170, DR_170_0, DR_170_1, DR_170_2, DG_170_3, DS_170_3, DG_170_4, DS_170_4, DA_171, DB_171, DA_172, DB_172, DA_173, DB_173, DO_174, DG_174_0, DS_174_0, DG_174_1, DS_174_1, DG_174_2, DS_174_2, DG_174_3, DS_174_3, DR_174_4, DA_175, DB_175, DO_176, DR_176_0, DG_176_1, DS_176_1, DR_176_2, DA_177, DB_177, DA_178, DB_178, DO_st, DG_st_0, DS_st_0, DG_st_1, DS_st_1, DG_st_2, DS_st_2, DG_st_3, DS_st_3, DR_st_4, DG_st_5, DS_st_5, DR_st_6, DG_st_7, DS_st_7, DG_st_8, DS_st_8, DG_st_9, DS_st_9, DG_st_10, DS_st_10, DG_st_11, DS_st_11, DG_st_12, DS_st_12, DR_st_13, DA_st_1, DB_st_1, DA_st_2, DB_st_2, DA_st_3, DB_st_3, ifp, ifn, Option.bind_some, n_s, n_le, n_lt, n_eq, l8, l40, l64, g40, u40, u6, u3, u0, mul6, mul3, J_bit, cmp0, b2_0, zR_b, zR_0, zR_1, up2_eq, up2_ne, up2J_eq, up2J_ne, mkv_eq, n_m1]
  · rintro n st rfl
    simp (disch := first | assumption | omega | decide) only [J_Desk_nextToBegin_6, DO_0, DR_0_0, DR_0_1, DR_0_2, DR_0_3, DR_0_4, DR_0_5, DO_1, DR_1_0, DR_1_1, DR_1_2, DA_2, DB_2, DA_3, DB_3, DA_4, DB_4, DA_5, DO_166, DR_166_0, DR_166_1, DG_166_2, DS_166_2, DR_166_3, DG_166_4, DS_166_4, DA_167, DB_167, DA_168, DB_168, DA_169, DB_169, DO_170, DR_170_0, DR_170_1, DR_170_2, DG_170_3, DS_170_3, DG_170_4, DS_170_4, DA_171, DB_171, DA_172, DB_172, DA_173, DB_173, DO_174, DG_174_0, DS_174_0, DG_174_1, DS_174_1, DG_174_2, DS_174_2, DG_174_3, DS_174_3, DR_174_4, DA_175, DB_175, DO_176, DR_176_0, DG_176_1, DS_176_1, DR_176_2, DA_177, DB_177, DA_178, DB_178, DO_st, DG_st_0, DS_st_0, DG_st_1, DS_st_1, DG_st_2, DS_st_2, DG_st_3, DS_st_3, DR_st_4, DG_st_5, DS_st_5, DR_st_6, DG_st_7, DS_st_7, DG_st_8, DS_st_8, DG_st_9, DS_st_9, DG_st_10, DS_st_10, DG_st_11, DS_st_11, DG_st_12, DS_st_12, DR_st_13, DA_st_1, DB_st_1, DA_st_2, DB_st_2, DA_st_3, DB_st_3, ifp, ifn, Option.bind_some, n_s, n_le, n_lt, n_eq, l8, l40, l64, g40, u40, u6, u3, u0, mul6, mul3, J_bit, cmp0, b2_0, zR_b, zR_0, zR_1, up2_eq, up2_ne, up2J_eq, up2J_ne, mkv_eq, n_m1]
theorem q_nextEnd (hR : isB (J 170 3) R) (hN : 100 < N) : J_Crew_nextEnd N (b + 170) (z, dH b I J F) = some (ne R (I 173) 40, (z, dH b I J F)) := by
  rw [J_Crew_nextEnd]
  refine lpx 40 (fun n (st : Int32 × Int32) => J_Crew_nextEnd_4 N n (b + 170) st.1 st.2 (z, dH b I J F)) (fun k st => st = (ne R (I 173) k, nI k)) (fun c => c = some (ne R (I 173) 40, (z, dH b I J F))) ?_ ?_ N (-1, nI 0) (by omega) rfl
  · rintro n k st hk rfl
    refine Or.inr ⟨_, ?_, rfl⟩
    cases e : R k
    · simp (disch := first | assumption | omega | decide) only [J_Crew_nextEnd_4, J_isIn hR hk, e, ne, DO_0, DR_0_0, DR_0_1, DR_0_2, DR_0_3, DR_0_4, DR_0_5, DO_1, DR_1_0, DR_1_1, DR_1_2, DA_2, DB_2, DA_3, DB_3, DA_4, DB_4, DA_5, DO_166, DR_166_0, DR_166_1, DG_166_2, DS_166_2, DR_166_3, DG_166_4, DS_166_4, DA_167, DB_167, DA_168, DB_168, DA_169, DB_169, DO_170, DR_170_0, DR_170_1, DR_170_2, DG_170_3, DS_170_3, DG_170_4, DS_170_4, DA_171, DB_171, DA_172, DB_172, DA_173, DB_173, DO_174, DG_174_0, DS_174_0, DG_174_1, DS_174_1, DG_174_2, DS_174_2, DG_174_3, DS_174_3, DR_174_4, DA_175, DB_175, DO_176, DR_176_0, DG_176_1, DS_176_1, DR_176_2, DA_177, DB_177, DA_178, DB_178, DO_st, DG_st_0, DS_st_0, DG_st_1, DS_st_1, DG_st_2, DS_st_2, DG_st_3, DS_st_3, DR_st_4, DG_st_5, DS_st_5, DR_st_6, DG_st_7, DS_st_7, DG_st_8, DS_st_8, DG_st_9, DS_st_9, DG_st_10, DS_st_10, DG_st_11, DS_st_11, DG_st_12, DS_st_12, DR_st_13, DA_st_1, DB_st_1, DA_st_2, DB_st_2, DA_st_3, DB_st_3, ifp, ifn, Option.bind_some, n_s, n_le, n_lt, n_eq, l8, l40, l64, g40, u40, u6, u3, u0, mul6, mul3, J_bit, cmp0, b2_0, zR_b, zR_0, zR_1, up2_eq, up2_ne, up2J_eq, up2J_ne, mkv_eq, n_m1]
    · by_cases e1 : ne R (I 173) k = -1
      · simp (disch := first | assumption | omega | decide) only [J_Crew_nextEnd_4, J_Crew_nextEnd_36, J_isIn hR hk, e, ne, e1, DO_0, DR_0_0, DR_0_1, DR_0_2, DR_0_3, DR_0_4, DR_0_5, DO_1, DR_1_0, DR_1_1, DR_1_2, DA_2, DB_2, DA_3, DB_3, DA_4, DB_4, DA_5, DO_166, DR_166_0, DR_166_1, DG_166_2, DS_166_2, DR_166_3, DG_166_4, DS_166_4, DA_167, DB_167, DA_168, DB_168, DA_169, DB_169, DO_170, DR_170_0, DR_170_1, DR_170_2, DG_170_3, DS_170_3, DG_170_4, DS_170_4, DA_171, DB_171, DA_172, DB_172, DA_173, DB_173, DO_174, DG_174_0, DS_174_0, DG_174_1, DS_174_1, DG_174_2, DS_174_2, DG_174_3, DS_174_3, DR_174_4, DA_175, DB_175, DO_176, DR_176_0, DG_176_1, DS_176_1, DR_176_2, DA_177, DB_177, DA_178, DB_178, DO_st, DG_st_0, DS_st_0, DG_st_1, DS_st_1, DG_st_2, DS_st_2, DG_st_3, DS_st_3, DR_st_4, DG_st_5, DS_st_5, DR_st_6, DG_st_7, DS_st_7, DG_st_8, DS_st_8, DG_st_9, DS_st_9, DG_st_10, DS_st_10, DG_st_11, DS_st_11, DG_st_12, DS_st_12, DR_st_13, DA_st_1, DB_st_1, DA_st_2, DB_st_2, DA_st_3, DB_st_3, ifp, ifn, Option.bind_some, n_s, n_le, n_lt, n_eq, l8, l40, l64, g40, u40, u6, u3, u0, mul6, mul3, J_bit, cmp0, b2_0, zR_b, zR_0, zR_1, up2_eq, up2_ne, up2J_eq, up2J_ne, mkv_eq, n_m1]
      · by_cases e2 : ne R (I 173) k ≤ I 173 k
        · simp (disch := first | assumption | omega | decide) only [J_Crew_nextEnd_4, J_Crew_nextEnd_36, J_isIn hR hk, e, ne, DO_0, DR_0_0, DR_0_1, DR_0_2, DR_0_3, DR_0_4, DR_0_5, DO_1, DR_1_0, DR_1_1, DR_1_2, DA_2, DB_2, DA_3, DB_3, DA_4, DB_4, DA_5, DO_166, DR_166_0, DR_166_1, DG_166_2, DS_166_2, DR_166_3, DG_166_4, DS_166_4, DA_167, DB_167, DA_168, DB_168, DA_169, DB_169, DO_170, DR_170_0, DR_170_1, DR_170_2, DG_170_3, DS_170_3, DG_170_4, DS_170_4, DA_171, DB_171, DA_172, DB_172, DA_173, DB_173, DO_174, DG_174_0, DS_174_0, DG_174_1, DS_174_1, DG_174_2, DS_174_2, DG_174_3, DS_174_3, DR_174_4, DA_175, DB_175, DO_176, DR_176_0, DG_176_1, DS_176_1, DR_176_2, DA_177, DB_177, DA_178, DB_178, DO_st, DG_st_0, DS_st_0, DG_st_1, DS_st_1, DG_st_2, DS_st_2, DG_st_3, DS_st_3, DR_st_4, DG_st_5, DS_st_5, DR_st_6, DG_st_7, DS_st_7, DG_st_8, DS_st_8, DG_st_9, DS_st_9, DG_st_10, DS_st_10, DG_st_11, DS_st_11, DG_st_12, DS_st_12, DR_st_13, DA_st_1, DB_st_1, DA_st_2, DB_st_2, DA_st_3, DB_st_3, ifp, ifn, Option.bind_some, n_s, n_le, n_lt, n_eq, l8, l40, l64, g40, u40, u6, u3, u0, mul6, mul3, J_bit, cmp0, b2_0, zR_b, zR_0, zR_1, up2_eq, up2_ne, up2J_eq, up2J_ne, mkv_eq, n_m1]
        · simp (disch := first | assumption | omega | decide) only [J_Crew_nextEnd_4, J_Crew_nextEnd_36, J_isIn hR hk, e, ne, DO_0, DR_0_0, DR_0_1, DR_0_2, DR_0_3, DR_0_4, DR_0_5, DO_1, DR_1_0, DR_1_1, DR_1_2, DA_2, DB_2, DA_3, DB_3, DA_4, DB_4, DA_5, DO_166, DR_166_0, DR_166_1, DG_166_2, DS_166_2, DR_166_3, DG_166_4, DS_166_4, DA_167, DB_167, DA_168, DB_168, DA_169, DB_169, DO_170, DR_170_0, DR_170_1, DR_170_2, DG_170_3, DS_170_3, DG_170_4, DS_170_4, DA_171, DB_171, DA_172, DB_172, DA_173, DB_173, DO_174, DG_174_0, DS_174_0, DG_174_1, DS_174_1, DG_174_2, DS_174_2, DG_174_3, DS_174_3, DR_174_4, DA_175, DB_175, DO_176, DR_176_0, DG_176_1, DS_176_1, DR_176_2, DA_177, DB_177, DA_178, DB_178, DO_st, DG_st_0, DS_st_0, DG_st_1, DS_st_1, DG_st_2, DS_st_2, DG_st_3, DS_st_3, DR_st_4, DG_st_5, DS_st_5, DR_st_6, DG_st_7, DS_st_7, DG_st_8, DS_st_8, DG_st_9, DS_st_9, DG_st_10, DS_st_10, DG_st_11, DS_st_11, DG_st_12, DS_st_12, DR_st_13, DA_st_1, DB_st_1, DA_st_2, DB_st_2, DA_st_3, DB_st_3, ifp, ifn, Option.bind_some, n_s, n_le, n_lt, n_eq, l8, l40, l64, g40, u40, u6, u3, u0, mul6, mul3, J_bit, cmp0, b2_0, zR_b, zR_0, zR_1, up2_eq, up2_ne, up2J_eq, up2J_ne, mkv_eq, n_m1]
  · rintro n st rfl
    simp (disch := first | assumption | omega | decide) only [J_Crew_nextEnd_4, DO_0, DR_0_0, DR_0_1, DR_0_2, DR_0_3, DR_0_4, DR_0_5, DO_1, DR_1_0, DR_1_1, DR_1_2, DA_2, DB_2, DA_3, DB_3, DA_4, DB_4, DA_5, DO_166, DR_166_0, DR_166_1, DG_166_2, DS_166_2, DR_166_3, DG_166_4, DS_166_4, DA_167, DB_167, DA_168, DB_168, DA_169, DB_169, DO_170, DR_170_0, DR_170_1, DR_170_2, DG_170_3, DS_170_3, DG_170_4, DS_170_4, DA_171, DB_171, DA_172, DB_172, DA_173, DB_173, DO_174, DG_174_0, DS_174_0, DG_174_1, DS_174_1, DG_174_2, DS_174_2, DG_174_3, DS_174_3, DR_174_4, DA_175, DB_175, DO_176, DR_176_0, DG_176_1, DS_176_1, DR_176_2, DA_177, DB_177, DA_178, DB_178, DO_st, DG_st_0, DS_st_0, DG_st_1, DS_st_1, DG_st_2, DS_st_2, DG_st_3, DS_st_3, DR_st_4, DG_st_5, DS_st_5, DR_st_6, DG_st_7, DS_st_7, DG_st_8, DS_st_8, DG_st_9, DS_st_9, DG_st_10, DS_st_10, DG_st_11, DS_st_11, DG_st_12, DS_st_12, DR_st_13, DA_st_1, DB_st_1, DA_st_2, DB_st_2, DA_st_3, DB_st_3, ifp, ifn, Option.bind_some, n_s, n_le, n_lt, n_eq, l8, l40, l64, g40, u40, u6, u3, u0, mul6, mul3, J_bit, cmp0, b2_0, zR_b, zR_0, zR_1, up2_eq, up2_ne, up2J_eq, up2J_ne, mkv_eq, n_m1]
end CC
