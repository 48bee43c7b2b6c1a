/-! class and model side by side, while a build goes on: R the steps that run, D the steps that are done -/
def L1 (I P : Nat → Nat → Int32) : Prop := ∀ f, f < 64 → I 2 f = P 2 f ∧ I 3 f = P 1 f ∧ (P 1 f = 0 ∨ P 1 f = 1)
def L2 (I P : Nat → Nat → Int32) : Prop := ∀ s, s < 40 → I (6 + 4 * s) 1 = P 5 s ∧ I (6 + 4 * s) 2 = P 6 s ∧ I (6 + 4 * s) 9 = P 13 s ∧ I (6 + 4 * s) 10 = P 14 s ∧ I (6 + 4 * s) 11 = P 15 s ∧ I (6 + 4 * s) 12 = P 16 s
def L3 (V : Vw) (I P : Nat → Nat → Int32) : Prop := ∀ s, s < 40 → vth V s = true → I (6 + 4 * s) 8 = P 12 s ∧ (P 12 s = 0 ∨ P 12 s = 1) ∧ (P 12 s = 1 → OR1 V P s)
def L4 (V : Vw) (I P : Nat → Nat → Int32) (R : Nat → Bool) : Prop := ∀ s k, s < 40 → k < 6 → (R s = false ∨ vic V s ≤ k) → I (6 + 4 * s + 3) k = P 19 (6 * s + k)
def L5 (V : Vw) (I P : Nat → Nat → Int32) (R : Nat → Bool) : Prop := ∀ s, s < 40 → R s = true → (∀ k, k < vic V s → P 19 (6 * s + k) = I 2 (vin V s k) ∧ P 17 (6 * s + k) = nI (vin V s k)) ∧ P 24 s = hF V s (I 2) (I (6 + 4 * s) 1) (vic V s)
def L6 (I P : Nat → Nat → Int32) (R : Nat → Bool) (T : Nat) : Prop := ∀ s, s < 40 → R s = true → ∃ w e, w < 8 ∧ I 172 s = nI w ∧ P 25 s = nI w ∧ I 173 s = nI e ∧ P 23 s = nI e ∧ e ≤ T
def L7 (I P : Nat → Nat → Int32) : Prop := ∀ w, w < 8 → I 171 w = P 26 w ∧ (P 26 w = 0 ∨ P 26 w = 1)
def L8 (I P : Nat → Nat → Int32) (tl : Nat) : Prop := I 174 1 = nI tl ∧ P 0 28 = nI tl ∧ I 174 2 = P 0 30 ∧ ∀ k, k < tl → I 175 (5 * k) = P 27 k ∧ I 175 (5 * k + 1) = P 28 k ∧ I 175 (5 * k + 2) = P 29 k ∧ I 175 (5 * k + 3) = P 30 k ∧ I 175 (5 * k + 4) = P 31 k
def L9 (V : Vw) (A R D : Nat → Bool) : Prop := (∀ s, R s = true → D s = false) ∧ (∀ s, s < 40 → (R s || D s) = true → A s = true) ∧ ∀ s t, s < 40 → t < 40 → (R s || D s) = true → tk V s t = true → D t = true
def LK (V : Vw) (A R D : Nat → Bool) (T tl : Nat) (I P : Nat → Nat → Int32) : Prop := L1 I P ∧ L2 I P ∧ L3 V I P ∧ L4 V I P R ∧ L5 V I P R ∧ L6 I P R T ∧ L7 I P ∧ L8 I P tl ∧ L9 V A R D ∧ (∀ s, s < 40 → P 22 s = stV R D s) ∧ tl ≤ cnt 40 (fun s => R s || D s)
section LO
variable {V : Vw} {s t T tl : Nat} {I P : Nat → Nat → Int32} {A R D : Nat → Bool}
theorem hF_congr {c c' : Nat → Int32} {h : Int32} : ∀ {n : Nat}, (∀ k, k < n → c (vin V s k) = c' (vin V s k)) → hF V s c h n = hF V s c' h n
  | 0, _ => rfl
  | n + 1, h1 => by rw [hF, hF, hF_congr (n := n) (fun k hk => h1 k (by omega)), h1 n (by omega)]
theorem stI_17 {s' k : Nat} (hk : k < 6) : ∀ {n : Nat}, n ≤ 6 → stI V s P n 17 (6 * s' + k) = if s' = s ∧ k < n then nI (vin V s k) else P 17 (6 * s' + k)
  | 0, _ => by simp [stI]
  | n + 1, hn => by
    rw [stI, up2_ne (by omega)]
    by_cases q : s' = s ∧ k = n
    · obtain ⟨rfl, rfl⟩ := q
      rw [up2_eq, if_pos ⟨rfl, by omega⟩]
    · rw [up2_ne (by omega), stI_17 hk (by omega)]
      by_cases q2 : s' = s ∧ k < n
      · rw [if_pos q2, if_pos ⟨q2.1, by omega⟩]
      · rw [if_neg q2, if_neg (by omega)]
theorem stI_19 {s' k : Nat} (hk : k < 6) : ∀ {n : Nat}, n ≤ 6 → stI V s P n 19 (6 * s' + k) = if s' = s ∧ k < n then P 2 (vin V s k) else P 19 (6 * s' + k)
  | 0, _ => by simp [stI]
  | n + 1, hn => by
    rw [stI]
    by_cases q : s' = s ∧ k = n
    · obtain ⟨rfl, rfl⟩ := q
      rw [up2_eq, if_pos ⟨rfl, by omega⟩]
    · rw [up2_ne (by omega), up2_ne (by omega), stI_19 hk (by omega)]
      by_cases q2 : s' = s ∧ k < n
      · rw [if_pos q2, if_pos ⟨q2.1, by omega⟩]
      · rw [if_neg q2, if_neg (by omega)]
theorem rdy_s (h : rdy V A R D s = true) : A s = true ∧ R s = false ∧ D s = false ∧ ∀ t, t < 40 → tk V s t = true → D t = true := by
  simp only [rdy, Bool.and_eq_true, Bool.not_eq_true', Bool.or_eq_false_iff] at h
  obtain ⟨⟨h1, h2, h3⟩, h4⟩ := h
  refine ⟨h1, h2, h3, fun t ht hT => ?_⟩
  have := anyB_no.mp h4 t ht
  simpa [hT] using this
theorem LK_begin {k tm q : Nat} (hw : VW V) (h : LK V A R D T tl I P) (hs : s < 40) (hrd : rdy V A R D s = true) (hk : k < 8) (hT : tm + vdu V s ≤ T) : tl < 40 ∧ LK V A (fun t => R t || decide (t = s)) D T (tl + 1) (bgI (adI I s tm (vdu V s) k q tl) s k (tm + vdu V s)) (stM V (up2 P 31 tl (nI q)) s k tm tl) := by
  obtain ⟨h1, h2, h3, h4, h5, h6, h7, h8, h9, h10, h11⟩ := h
  obtain ⟨r1, r2, r3, r4⟩ := rdy_s hrd
  have a2 := hw.1 s hs
  have hc : cnt 40 (fun t => (R t || decide (t = s)) || D t) = cnt 40 (fun t => R t || D t) + 1 := cnt_add s hs (by simp [r2, r3]) (by simp) (fun j _ hj => by simp [hj])
  have hc2 := @cnt_le (fun t => (R t || decide (t = s)) || D t) 40
  have hl : tl < 40 := by omega
  have R2 : bgI (adI I s tm (vdu V s) k q tl) s k (tm + vdu V s) 2 = I 2 := by simp (disch := first | assumption | omega | decide) only [bgI, adI, up2_row]
  refine ⟨hl, fun f hf => ?_, fun s' hs' => ?_, fun s' hs' hth => ?_, fun s' j hs' hj hc' => ?_, fun s' hs' hR' => ?_, fun s' hs' hR' => ?_, fun w hw' => ?_, ⟨?_, ?_, ?_, fun j hj => ?_⟩, ⟨fun t ht => ?_, fun t ht hh => ?_, fun u t hu ht hh hT' => ?_⟩, fun s' hs' => ?_, ?_⟩
  · simp (disch := first | assumption | omega | decide) only [bgI, adI, stM, up2_ne, stI_ne]; exact h1 f hf
  · simp (disch := first | assumption | omega | decide) only [bgI, adI, stM, up2_ne, stI_ne]; exact h2 s' hs'
  · obtain ⟨g1, g2, g3⟩ := h3 s' hs' hth
    simp (disch := first | assumption | omega | decide) only [bgI, adI, stM, up2_ne, stI_ne]
    refine ⟨g1, g2, fun hd => ?_⟩
    obtain ⟨oi, oo, o1, o2, o3, o4, o5, o6⟩ := g3 hd
    have a3 := hw.1 s' hs'
    refine ⟨oi, oo, ?_, ?_, o3, o4, fun j hj => ?_, fun j hj => ?_⟩
    · simp (disch := first | assumption | omega | decide) only [up2_ne, stI_ne]; exact o1
    · simp (disch := first | assumption | omega | decide) only [up2_ne, stI_ne]; exact o2
    · simp (disch := first | assumption | omega | decide) only [up2_ne]
      rw [stI_17 (by omega) (by omega)]
      split
      · rename_i hh; rw [hh.1]
      · rw [up2_ne (by omega)]; exact o5 j hj
    · simp (disch := first | assumption | omega | decide) only [up2_ne, stI_ne]; exact o6 j hj
  · simp (disch := first | assumption | omega | decide) only [bgI, adI, stM, up2_ne]
    rw [stI_19 (by omega) (by omega)]
    by_cases q1 : s' = s
    · subst q1
      have q2 : vic V s' ≤ j := by rcases hc' with hh | hh; simp at hh; exact hh
      rw [if_neg (by omega), up2_ne (by omega)]
      exact h4 s' j hs' hj (Or.inr q2)
    · rw [if_neg (fun hh => q1 hh.1), up2_ne (by omega)]
      exact h4 s' j hs' hj (by rcases hc' with hh | hh; exact Or.inl (by simpa [q1] using hh); exact Or.inr hh)
  · have a3 := hw.1 s' hs'
    rw [R2]
    by_cases q1 : s' = s
    · subst q1
      refine ⟨fun j hj => ⟨?_, ?_⟩, ?_⟩
      · simp (disch := first | assumption | omega | decide) only [stM, up2_ne]
        rw [stI_19 (by omega) (by omega), if_pos ⟨rfl, hj⟩, up2_ne (by omega)]
        exact ((h1 _ (hw.2.1 s' j hs' hj)).1).symm
      · simp (disch := first | assumption | omega | decide) only [stM, up2_ne]
        rw [stI_17 (by omega) (by omega), if_pos ⟨rfl, hj⟩]
      · simp (disch := first | assumption | omega | decide) only [stM, bgI, adI, up2_ne, up2_eq, up2_row]
        rw [(h2 s' hs').1]
        exact hF_congr (fun j hj => ((h1 _ (hw.2.1 s' j hs' hj)).1).symm)
    · have hR0 : R s' = true := by simpa [q1] using hR'
      obtain ⟨g1, g2⟩ := h5 s' hs' hR0
      refine ⟨fun j hj => ⟨?_, ?_⟩, ?_⟩
      · simp (disch := first | assumption | omega | decide) only [stM, up2_ne]
        rw [stI_19 (by omega) (by omega), if_neg (fun hh => q1 hh.1), up2_ne (by omega)]
        exact (g1 j hj).1
      · simp (disch := first | assumption | omega | decide) only [stM, up2_ne]
        rw [stI_17 (by omega) (by omega), if_neg (fun hh => q1 hh.1), up2_ne (by omega)]
        exact (g1 j hj).2
      · simp (disch := first | assumption | omega | decide) only [stM, bgI, adI, up2_ne, stI_ne]
        exact g2
  · by_cases q1 : s' = s
    · subst q1
      refine ⟨k, tm + vdu V s', hk, ?_, ?_, ?_, ?_, hT⟩
      · simp (disch := first | assumption | omega | decide) only [bgI, up2_ne, up2_eq]
      · simp (disch := first | assumption | omega | decide) only [stM, up2_ne, up2_eq]
      · simp (disch := first | assumption | omega | decide) only [bgI, up2_ne, up2_eq]
      · simp (disch := first | assumption | omega | decide) only [stM, up2_ne, up2_eq]
    · have hR0 : R s' = true := by simpa [q1] using hR'
      obtain ⟨w, e, g1, g2, g3, g4, g5, g6⟩ := h6 s' hs' hR0
      refine ⟨w, e, g1, ?_, ?_, ?_, ?_, g6⟩
      · simp (disch := first | assumption | omega | decide) only [bgI, adI, up2_ne]; exact g2
      · simp (disch := first | assumption | omega | decide) only [stM, up2_ne, stI_ne]; exact g3
      · simp (disch := first | assumption | omega | decide) only [bgI, adI, up2_ne]; exact g4
      · simp (disch := first | assumption | omega | decide) only [stM, up2_ne, stI_ne]; exact g5
  · by_cases q1 : w = k
    · subst q1
      simp (disch := first | assumption | omega | decide) only [bgI, adI, stM, up2_ne, up2_eq]
      exact ⟨trivial, Or.inr trivial⟩
    · simp (disch := first | assumption | omega | decide) only [bgI, adI, stM, up2_ne, stI_ne]; exact h7 w hw'
  · simp (disch := first | assumption | omega | decide) only [bgI, adI, up2_ne, up2_eq]
  · simp (disch := first | assumption | omega | decide) only [stM, up2_ne, up2_eq]
  · simp (disch := first | assumption | omega | decide) only [bgI, adI, stM, up2_ne, up2_eq]
    rw [h8.2.2.1]
  · by_cases q1 : j = tl
    · subst q1
      simp (disch := first | assumption | omega | decide) only [bgI, adI, stM, up2_ne, up2_eq, stI_ne]
      simp
    · simp (disch := first | assumption | omega | decide) only [bgI, adI, stM, up2_ne, stI_ne]; exact h8.2.2.2 j (by omega)
  · by_cases q1 : t = s
    · rw [q1]; exact r3
    · exact h9.1 t (by simpa [q1] using ht)
  · by_cases q1 : t = s
    · rw [q1]; exact r1
    · exact h9.2.1 t ht (by simpa [q1] using hh)
  · by_cases q1 : u = s
    · subst q1; exact r4 t ht hT'
    · exact h9.2.2 u t hu ht (by simpa [q1] using hh) hT'
  · by_cases q1 : s' = s
    · subst q1
      simp (disch := first | assumption | omega | decide) only [stM, up2_ne, up2_eq]
      simp [stV]
    · simp (disch := first | assumption | omega | decide) only [stM, up2_ne, stI_ne]
      rw [h10 s' hs']; simp [stV, q1]
  · show tl + 1 ≤ cnt 40 (fun t => (R t || decide (t = s)) || D t)
    omega
theorem fl_en {h m : Int32} (h1 : L1 I P) : ∀ {k : Nat}, ∀ f, f < 64 → flI V s h m I k 2 f = enI V s h m P k 2 f ∧ flI V s h m I k 3 f = enI V s h m P k 1 f ∧ (enI V s h m P k 1 f = 0 ∨ enI V s h m P k 1 f = 1)
  | 0, f, hf => h1 f hf
  | k + 1, f, hf => by
    have ih := fl_en (h := h) (m := m) h1 (k := k) f hf
    rw [flI, enI]
    by_cases q : f = vou V s k
    · subst q
      simp (disch := first | assumption | omega | decide) only [up2_ne, up2_eq]
      exact ⟨trivial, trivial, Or.inr trivial⟩
    · simp (disch := first | assumption | omega | decide) only [up2_ne]; exact ih
theorem flI_out {h m : Int32} {f : Nat} : ∀ {k : Nat}, (∀ j, j < k → vou V s j ≠ f) → flI V s h m I k 2 f = I 2 f
  | 0, _ => rfl
  | k + 1, h1 => by
    have := h1 k (by omega)
    rw [flI, up2_ne (by omega), up2_ne (by omega), flI_out (k := k) (fun j hj => h1 j (by omega))]
theorem enI_18 {h m : Int32} {s' k : Nat} (hk : k < 3) : ∀ {n : Nat}, n ≤ 3 → enI V s h m P n 18 (3 * s' + k) = if s' = s ∧ k < n then nI (vou V s k) else P 18 (3 * s' + k)
  | 0, _ => by simp [enI]
  | n + 1, hn => by
    rw [enI]
    by_cases q : s' = s ∧ k = n
    · obtain ⟨rfl, rfl⟩ := q
      rw [up2_eq, if_pos ⟨rfl, by omega⟩]
    · rw [up2_ne (by omega), up2_ne (by omega), up2_ne (by omega), enI_18 hk (by omega)]
      by_cases q2 : s' = s ∧ k < n
      · rw [if_pos q2, if_pos ⟨q2.1, by omega⟩]
      · rw [if_neg q2, if_neg (by omega)]
theorem LK_end {w : Nat} (hw : VW V) (h : LK V A R D T tl I P) (hs : s < 40) (hR : R s = true) (hk : w < 8) (hv : I (6 + 4 * s) 5 = nI (vic V s)) : LK V A (fun t => R t && !decide (t = s)) (fun t => D t || decide (t = s)) T tl (up2 (mdI V s I) 171 w 0) (enM V P s w) := by
  obtain ⟨h1, h2, h3, h4, h5, h6, h7, h8, h9, h10, h11⟩ := h
  have a2 := hw.1 s hs
  obtain ⟨g51, g52⟩ := h5 s hs hR
  have L1' : L1 (mkI V s I (vic V s)) (up2 (up2 P 22 s 2) 26 w 0) := by
    intro f hf
    simp (disch := first | assumption | omega | decide) only [mkI_ne, up2_ne]; exact h1 f hf
  have fe := fl_en (V := V) (s := s) (h := P 24 s) (m := P 6 s) L1' (k := voc V s)
  have hD : D s = false := h9.1 s hR
  have out : ∀ s', s' < 40 → R s' = true → ∀ j, j < vic V s' → up2 (mdI V s I) 171 w 0 2 (vin V s' j) = I 2 (vin V s' j) := by
    intro s' hs' hR' j hj
    simp (disch := first | assumption | omega | decide) only [mdI, up2_ne]
    rw [flI_out, mkI_ne (by omega)]
    intro i hi q
    have e1 := (hw.2.2.1 s i hs hi).2
    rw [q] at e1
    have e2 := h9.2.2 s' s hs' hs (by simp [hR']) (tk_iff.mpr ⟨j, hj, e1⟩)
    rw [hD] at e2
    exact absurd e2 (by simp)
  refine ⟨fun f hf => ?_, fun s' hs' => ?_, fun s' hs' hth => ?_, fun s' j hs' hj hc' => ?_, fun s' hs' hR' => ?_, fun s' hs' hR' => ?_, fun w' hw' => ?_, ⟨?_, ?_, ?_, fun j hj => ?_⟩, ⟨fun t ht => ?_, fun t ht hh => ?_, fun u t hu ht hh hT' => ?_⟩, fun s' hs' => ?_, ?_⟩
  · have := fe f hf
    simp (disch := first | assumption | omega | decide) only [mdI, enM, up2_ne]
    rw [← g52, (h2 s hs).2.1]; exact this
  · by_cases q1 : s' = s
    · subst q1
      have := h2 s' hs'
      simp (disch := first | assumption | omega | decide) only [mdI, enM, up2_ne, up2_eq, flI_ne, mkI_ne, enI_ne, this]
      simp
    · have := h2 s' hs'
      simp (disch := first | assumption | omega | decide) only [mdI, enM, up2_ne, flI_ne, mkI_ne, enI_ne]
      exact this
  · have a3 := hw.1 s' hs'
    by_cases q1 : s' = s
    · subst q1
      refine ⟨?_, ?_, fun _ => ⟨vic V s', voc V s', ?_, ?_, Nat.le_refl _, Nat.le_refl _, fun j hj => ?_, fun j hj => ?_⟩⟩
      · simp (disch := first | assumption | omega | decide) only [mdI, enM, up2_ne, up2_eq]
      · right; simp (disch := first | assumption | omega | decide) only [enM, up2_ne, up2_eq]
      · simp (disch := first | assumption | omega | decide) only [enM, up2_ne, up2_eq]
      · simp (disch := first | assumption | omega | decide) only [enM, up2_ne, up2_eq]
      · simp (disch := first | assumption | omega | decide) only [enM, up2_ne, enI_ne]; exact (g51 j hj).2
      · simp (disch := first | assumption | omega | decide) only [enM, up2_ne]
        rw [enI_18 (by omega) (by omega), if_pos ⟨rfl, hj⟩]
    · obtain ⟨g1, g2, g3⟩ := h3 s' hs' hth
      simp (disch := first | assumption | omega | decide) only [mdI, enM, up2_ne, flI_ne, mkI_ne, enI_ne]
      refine ⟨g1, g2, fun hd => ?_⟩
      obtain ⟨oi, oo, o1, o2, o3, o4, o5, o6⟩ := g3 hd
      refine ⟨oi, oo, ?_, ?_, o3, o4, fun j hj => ?_, fun j hj => ?_⟩
      · simp (disch := first | assumption | omega | decide) only [up2_ne, enI_ne]; exact o1
      · simp (disch := first | assumption | omega | decide) only [up2_ne, enI_ne]; exact o2
      · simp (disch := first | assumption | omega | decide) only [up2_ne, enI_ne]; exact o5 j hj
      · simp (disch := first | assumption | omega | decide) only [up2_ne]
        rw [enI_18 (by omega) (by omega), if_neg (fun hh => q1 hh.1)]
        simp (disch := first | assumption | omega | decide) only [up2_ne]; exact o6 j hj
  · simp (disch := first | assumption | omega | decide) only [mdI, enM, up2_ne, flI_ne, enI_ne]
    by_cases q1 : s' = s
    · subst q1
      by_cases q2 : j < vic V s'
      · rw [(g51 j q2).1]
        simp [mkI, q2]
      · rw [show mkI V s' I (vic V s') (6 + 4 * s' + 3) j = I (6 + 4 * s' + 3) j by simp [mkI, q2]]
        exact h4 s' j hs' hj (Or.inr (by omega))
    · rw [mkI_ne (by omega)]
      exact h4 s' j hs' hj (by rcases hc' with hh | hh; exact Or.inl (by simpa [q1] using hh); exact Or.inr hh)
  · have q1 : s' ≠ s := by intro q; simp [q] at hR'
    have hR0 : R s' = true := by simp at hR'; exact hR'.1
    obtain ⟨g1, g2⟩ := h5 s' hs' hR0
    refine ⟨fun j hj => ⟨?_, ?_⟩, ?_⟩
    · rw [out s' hs' hR0 j hj]
      simp (disch := first | assumption | omega | decide) only [enM, up2_ne, enI_ne]
      exact (g1 j hj).1
    · simp (disch := first | assumption | omega | decide) only [enM, up2_ne, enI_ne]
      exact (g1 j hj).2
    · rw [hF_congr (out s' hs' hR0)]
      simp (disch := first | assumption | omega | decide) only [mdI, enM, up2_ne, flI_ne, mkI_ne, enI_ne]
      exact g2
  · have q1 : s' ≠ s := by intro q; simp [q] at hR'
    have hR0 : R s' = true := by simp at hR'; exact hR'.1
    obtain ⟨w', e, g1, g2, g3, g4, g5, g6⟩ := h6 s' hs' hR0
    refine ⟨w', e, g1, ?_, ?_, ?_, ?_, g6⟩
    · simp (disch := first | assumption | omega | decide) only [mdI, up2_ne, flI_ne, mkI_ne]; exact g2
    · simp (disch := first | assumption | omega | decide) only [enM, up2_ne, enI_ne]; exact g3
    · simp (disch := first | assumption | omega | decide) only [mdI, up2_ne, flI_ne, mkI_ne]; exact g4
    · simp (disch := first | assumption | omega | decide) only [enM, up2_ne, enI_ne]; exact g5
  · by_cases q1 : w' = w
    · subst q1
      simp (disch := first | assumption | omega | decide) only [enM, up2_ne, up2_eq, enI_ne]
      exact ⟨trivial, Or.inl trivial⟩
    · simp (disch := first | assumption | omega | decide) only [mdI, enM, up2_ne, flI_ne, mkI_ne, enI_ne]; exact h7 w' hw'
  · simp (disch := first | assumption | omega | decide) only [mdI, up2_ne, flI_ne, mkI_ne]; exact h8.1
  · simp (disch := first | assumption | omega | decide) only [enM, up2_ne, enI_ne]; exact h8.2.1
  · simp (disch := first | assumption | omega | decide) only [mdI, enM, up2_ne, flI_ne, mkI_ne, enI_ne]; exact h8.2.2.1
  · simp (disch := first | assumption | omega | decide) only [mdI, enM, up2_ne, flI_ne, mkI_ne, enI_ne]; exact h8.2.2.2 j hj
  · have q1 : t ≠ s := by intro q; simp [q] at ht
    have hR0 : R t = true := by simp at ht; exact ht.1
    simp [h9.1 t hR0, q1]
  · by_cases q1 : t = s
    · rw [q1]; exact h9.2.1 s hs (by simp [hR])
    · exact h9.2.1 t ht (by simpa [q1] using hh)
  · have : D t = true := by
      by_cases q1 : u = s
      · subst q1; exact h9.2.2 u t hu ht (by simp [hR]) hT'
      · exact h9.2.2 u t hu ht (by simpa [q1] using hh) hT'
    simp [this]
  · by_cases q1 : s' = s
    · subst q1
      simp (disch := first | assumption | omega | decide) only [enM, up2_ne, up2_eq, enI_ne]
      simp [stV]
    · simp (disch := first | assumption | omega | decide) only [enM, up2_ne, enI_ne]
      rw [h10 s' hs']; simp [stV, q1]
  · have : cnt 40 (fun t => (R t && !decide (t = s)) || (D t || decide (t = s))) = cnt 40 (fun t => R t || D t) := cnt_congr (fun t _ => by
      by_cases q1 : t = s
      · subst q1; simp [hR]
      · simp [q1])
    show tl ≤ cnt 40 (fun t => (R t && !decide (t = s)) || (D t || decide (t = s)))
    omega
end LO
