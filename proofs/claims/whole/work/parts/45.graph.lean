/-! walks -/
def wk (E : Nat → Nat → Bool) (t : Nat) : Nat → Nat → Bool
  | 0, s => decide (s = t)
  | d + 1, s => anyB 40 (fun u => E s u && wk E t d u)
section GR
variable {E : Nat → Nat → Bool} {s t u d e r : Nat}
theorem wk_s : wk E t (d + 1) s = true ↔ ∃ u, u < 40 ∧ E s u = true ∧ wk E t d u = true := by
  rw [wk, anyB_iff]; simp
theorem wk_0 : wk E t 0 s = true ↔ s = t := by simp [wk]
theorem wk_add (h2 : wk E r e t = true) : ∀ {d s : Nat}, wk E t d s = true → wk E r (d + e) s = true
  | 0, s, h => by
    have := wk_0.mp h
    subst this
    simpa using h2
  | d + 1, s, h => by
    obtain ⟨u, hu, h1, h3⟩ := wk_s.mp h
    rw [show d + 1 + e = d + e + 1 by omega]
    exact wk_s.mpr ⟨u, hu, h1, wk_add h2 h3⟩
theorem wk_mid : ∀ {d e s : Nat}, s < 40 → wk E t (d + e) s = true → ∃ u, u < 40 ∧ wk E u d s = true ∧ wk E t e u = true
  | 0, e, s, hs, h => ⟨s, hs, wk_0.mpr rfl, by simpa using h⟩
  | d + 1, e, s, hs, h => by
    rw [show d + 1 + e = d + e + 1 by omega] at h
    obtain ⟨u, hu, h1, h3⟩ := wk_s.mp h
    obtain ⟨v, hv, h4, h5⟩ := wk_mid hu h3
    exact ⟨v, hv, wk_s.mpr ⟨u, hu, h1, h4⟩, h5⟩
theorem least_ex {p : Nat → Bool} : ∀ d, p d = true → ∃ d0, d0 ≤ d ∧ p d0 = true ∧ ∀ j, j < d0 → p j = false := by
  intro d
  induction d using Nat.strongRecOn with
  | _ d ih =>
    intro h
    cases e : anyB d p with
    | true =>
      obtain ⟨k, hk, h2⟩ := anyB_iff.mp e
      obtain ⟨d0, h3, h4, h5⟩ := ih k hk h2
      exact ⟨d0, by omega, h4, h5⟩
    | false => exact ⟨d, Nat.le_refl _, h, fun j hj => anyB_no.mp e j hj⟩
theorem wk_bd (hs : s < 40) (h : wk E t d s = true) (hm : ∀ j, j < d → wk E t j s = false) : d < 40 := by
  have H : ∀ i, i ≤ d + 1 → i ≤ cnt 40 (fun u => anyB i (fun j => wk E t j u)) := by
    intro i
    induction i with
    | zero => intro _; exact Nat.zero_le _
    | succ i ih =>
      intro hi
      have h1 := ih (by omega)
      obtain ⟨u, hu, h2, h3⟩ := wk_mid (d := d - i) (e := i) hs (by rw [show d - i + i = d by omega]; exact h)
      have h4 : anyB i (fun j => wk E t j u) = false := by
        refine anyB_no.mpr (fun j hj => ?_)
        cases e : wk E t j u with
        | false => rfl
        | true =>
          have := wk_add e h2
          rw [hm (d - i + j) (by omega)] at this
          exact this.symm
      have h5 := cnt_lt (n := 40) (p := fun u => anyB i (fun j => wk E t j u)) (q := fun u => anyB (i + 1) (fun j => wk E t j u)) u (fun k _ hk => by simp [anyB, hk]) hu h4 (by simp [anyB, h3])
      omega
  have h1 := H (d + 1) (Nat.le_refl _)
  have h2 := @cnt_le (fun u => anyB (d + 1) (fun j => wk E t j u)) 40
  omega
theorem wk_short (hs : s < 40) (h : wk E t d s = true) : ∃ d0, d0 ≤ d ∧ d0 < 40 ∧ wk E t d0 s = true ∧ ∀ j, j < d0 → wk E t j s = false := by
  obtain ⟨d0, h1, h2, h3⟩ := least_ex (p := fun d => wk E t d s) d h
  exact ⟨d0, h1, wk_bd hs h2 h3, h2, h3⟩
theorem cyc_short (h : wk E s (d + 1) s = true) : ∃ d0, d0 < 40 ∧ d0 ≤ d ∧ wk E s (d0 + 1) s = true := by
  obtain ⟨u, hu, h1, h2⟩ := wk_s.mp h
  obtain ⟨d0, h3, h4, h5, _⟩ := wk_short hu h2
  exact ⟨d0, h4, h3, wk_s.mpr ⟨u, hu, h1, h5⟩⟩
def Ac (E : Nat → Nat → Bool) : Prop := ∀ s, s < 40 → ∀ d, wk E s (d + 1) s = false
def rc (E : Nat → Nat → Bool) (s : Nat) : Nat := cnt 40 (fun t => anyB 40 (fun d => wk E t (d + 1) s))
theorem rch (h : wk E t (d + 1) s = true) : anyB 40 (fun d => wk E t (d + 1) s) = true := by
  obtain ⟨u, hu, h1, h2⟩ := wk_s.mp h
  obtain ⟨d0, h3, h4, h5, _⟩ := wk_short hu h2
  exact anyB_iff.mpr ⟨d0, h4, wk_s.mpr ⟨u, hu, h1, h5⟩⟩
theorem rc_lt (ha : Ac E) (hu : u < 40) (h : E s u = true) : rc E u < rc E s := by
  refine cnt_lt u (fun t ht e => ?_) hu (anyB_no.mpr fun d hd => ha u hu d) (rch (d := 0) (wk_s.mpr ⟨u, hu, h, wk_0.mpr rfl⟩))
  obtain ⟨d, _, h2⟩ := anyB_iff.mp e
  exact rch (wk_s.mpr ⟨u, hu, h, h2⟩)
theorem stuck_cyc (U : Nat → Bool) (h : ∀ s, s < 40 → U s = true → ∃ t, t < 40 ∧ U t = true ∧ E s t = true) (ha : Ac E) : ∀ s, s < 40 → U s = false := by
  have H : ∀ n s, s < 40 → rc E s < n → U s = false := by
    intro n
    induction n with
    | zero => intro s _ h; omega
    | succ n ih =>
      intro s hs hn
      cases e : U s with
      | false => rfl
      | true =>
        obtain ⟨t, ht, h1, h2⟩ := h s hs e
        have := rc_lt ha ht h2
        rw [ih t ht (by omega)] at h1
        exact h1.symm
  intro s hs
  exact H (rc E s + 1) s hs (by omega)
theorem pos_ac (ps : Nat → Nat) (h : ∀ s t, s < 40 → t < 40 → E s t = true → ps t < ps s) : Ac E := by
  have H : ∀ d s t, s < 40 → wk E t d s = true → ps t + d ≤ ps s := by
    intro d
    induction d with
    | zero =>
      intro s t _ e
      have := wk_0.mp e
      subst this
      omega
    | succ d ih =>
      intro s t hs e
      obtain ⟨u, hu, h1, h2⟩ := wk_s.mp e
      have := ih u t hu h2
      have := h s u hs hu h1
      omega
  intro s hs d
  cases e : wk E s (d + 1) s with
  | false => rfl
  | true =>
    have := H (d + 1) s s hs e
    omega
/-- a set of steps that a first one leads to -/
def Lst (bs : Nat → Bool) (W : Nat → Nat → Bool) (A : Nat → Bool) : Prop := (∀ t, t < 40 → bs t = true → A t = true) ∧ (∀ s t, s < 40 → t < 40 → A s = true → W s t = true → A t = true) ∧ ∀ B : Nat → Bool, (∀ t, t < 40 → bs t = true → B t = true) → (∀ s t, s < 40 → t < 40 → B s = true → W s t = true → B t = true) → ∀ t, t < 40 → A t = true → B t = true
theorem Lst_u {bs : Nat → Bool} {W : Nat → Nat → Bool} {A B : Nat → Bool} (h1 : Lst bs W A) (h2 : Lst bs W B) : ∀ t, t < 40 → A t = B t := by
  intro t ht
  have a := h1.2.2 B h2.1 h2.2.1 t ht
  have b := h2.2.2 A h1.1 h1.2.1 t ht
  cases hA : A t <;> cases hB : B t <;> simp_all
/-- ranks: what is reached is no more than what is closed -/
theorem rank_le {Nd : Nat → Bool} {du R Q ps : Nat → Nat} {M : Nat} (hM : ∀ s, s < 40 → Nd s = true → ps s < M) (hps : ∀ s t, s < 40 → t < 40 → E s t = true → ps t < ps s) (hN : ∀ s t, E s t = true → Nd s = true) (hR : ∀ s, s < 40 → Nd s = true → R s ≤ du s ∨ ∃ t, t < 40 ∧ E t s = true ∧ R s ≤ R t + du s) (hQ1 : ∀ s, s < 40 → Nd s = true → du s ≤ Q s) (hQ2 : ∀ s t, s < 40 → t < 40 → Nd s = true → E t s = true → Q t + du s ≤ Q s) : ∀ s, s < 40 → Nd s = true → R s ≤ Q s := by
  have H : ∀ m s, s < 40 → Nd s = true → M ≤ ps s + m → R s ≤ Q s := by
    intro m
    induction m with
    | zero => intro s hs hn h; have := hM s hs hn; omega
    | succ m ih =>
      intro s hs hn h
      rcases hR s hs hn with h1 | ⟨t, ht, h1, h2⟩
      · have := hQ1 s hs hn; omega
      · have := hps t s ht hs h1
        have := ih t ht (hN t s h1) (by omega)
        have := hQ2 s t hs ht hn h1
        omega
  intro s hs hn
  exact H M s hs hn (by omega)
end GR
