/-! loops by fuel -/
theorem lpw {σ R : Type} (f : Nat → σ → R) (Inv : σ → Prop) (μ : σ → Nat) (Post : R → Prop) (step : ∀ n st, Inv st → Post (f (n + 1) st) ∨ ∃ st', f (n + 1) st = f n st' ∧ Inv st' ∧ μ st' < μ st) : ∀ n st, μ st < n → Inv st → Post (f n st) := by
  intro n
  induction n with
  | zero => intro st h; omega
  | succ n ih =>
    intro st h hi
    rcases step n st hi with hp | ⟨st', he, hi', hm⟩
    · exact hp
    · rw [he]; exact ih st' (by omega) hi'
theorem lpx {σ R : Type} (K : Nat) (f : Nat → σ → R) (Inv : Nat → σ → Prop) (Post : R → Prop) (step : ∀ n k st, k < K → Inv k st → Post (f (n + 1) st) ∨ ∃ st', f (n + 1) st = f n st' ∧ Inv (k + 1) st') (fin : ∀ n st, Inv K st → Post (f (n + 1) st)) : ∀ n st, K < n → Inv 0 st → Post (f n st) := by
  have H : ∀ m n k st, k + m = K → m < n → Inv k st → Post (f n st) := by
    intro m
    induction m with
    | zero =>
      intro n k st hk hn hi
      cases n with
      | zero => omega
      | succ n =>
        have e : k = K := by omega
        subst e
        exact fin n st hi
    | succ m ih =>
      intro n k st hk hn hi
      cases n with
      | zero => omega
      | succ n =>
        rcases step n k st (by omega) hi with hp | ⟨st', he, hi'⟩
        · exact hp
        · rw [he]; exact ih n (k + 1) st' (by omega) (by omega) hi'
  intro n st hn hi
  exact H K n 0 st (by omega) hn hi
/-! finite sets -/
def anyB : Nat → (Nat → Bool) → Bool
  | 0, _ => false
  | n + 1, p => anyB n p || p n
def cnt : Nat → (Nat → Bool) → Nat
  | 0, _ => 0
  | n + 1, p => cnt n p + (if p n = true then 1 else 0)
theorem anyB_iff {p : Nat → Bool} : ∀ {n : Nat}, anyB n p = true ↔ ∃ k, k < n ∧ p k = true
  | 0 => by simp [anyB]
  | n + 1 => by
    rw [anyB, Bool.or_eq_true, anyB_iff]
    constructor
    · rintro (⟨k, h1, h2⟩ | h)
      · exact ⟨k, by omega, h2⟩
      · exact ⟨n, by omega, h⟩
    · rintro ⟨k, h1, h2⟩
      by_cases e : k = n
      · subst e; exact Or.inr h2
      · exact Or.inl ⟨k, by omega, h2⟩
theorem anyB_no {p : Nat → Bool} {n : Nat} : anyB n p = false ↔ ∀ k, k < n → p k = false := by
  constructor
  · intro h k hk
    cases e : p k with
    | false => rfl
    | true => rw [anyB_iff.mpr ⟨k, hk, e⟩] at h; exact h
  · intro h
    cases e : anyB n p with
    | false => rfl
    | true =>
      obtain ⟨k, hk, h2⟩ := anyB_iff.mp e
      rw [h k hk] at h2; exact h2.symm
theorem anyB_congr {p q : Nat → Bool} : ∀ {n : Nat}, (∀ k, k < n → p k = q k) → anyB n p = anyB n q
  | 0, _ => rfl
  | n + 1, h => by rw [anyB, anyB, anyB_congr (fun k hk => h k (by omega)), h n (by omega)]
theorem cnt_le {p : Nat → Bool} : ∀ {n : Nat}, cnt n p ≤ n
  | 0 => Nat.le_refl _
  | n + 1 => by
    have := @cnt_le p n
    rw [cnt]; split <;> omega
theorem cnt_mono {p q : Nat → Bool} : ∀ {n : Nat}, (∀ k, k < n → p k = true → q k = true) → cnt n p ≤ cnt n q
  | 0, _ => Nat.le_refl _
  | n + 1, h => by
    have h1 := @cnt_mono p q n (fun k hk => h k (by omega))
    have h2 := h n (by omega)
    rw [cnt, cnt]
    cases hp : p n
    · simp; omega
    · simp [h2 hp]; omega
theorem cnt_congr {p q : Nat → Bool} {n : Nat} (h : ∀ k, k < n → p k = q k) : cnt n p = cnt n q :=
  Nat.le_antisymm (cnt_mono (fun k hk e => by rw [← h k hk]; exact e)) (cnt_mono (fun k hk e => by rw [h k hk]; exact e))
theorem cnt_lt {p q : Nat → Bool} : ∀ {n : Nat} (j : Nat), (∀ k, k < n → p k = true → q k = true) → j < n → p j = false → q j = true → cnt n p < cnt n q
  | 0, _, _, h, _, _ => by omega
  | n + 1, j, h, hj, hp, hq => by
    have h2 := h n (by omega)
    rw [cnt, cnt]
    by_cases e : j = n
    · subst e
      have h1 := @cnt_mono p q j (fun k hk => h k (by omega))
      simp [hp, hq]; omega
    · have h1 := @cnt_lt p q n j (fun k hk => h k (by omega)) (by omega) hp hq
      cases hp' : p n
      · simp; omega
      · simp [h2 hp']; omega
theorem cnt_full {p : Nat → Bool} {n : Nat} (h : n ≤ cnt n p) : ∀ k, k < n → p k = true := by
  intro k hk
  cases e : p k with
  | true => rfl
  | false =>
    have h1 := @cnt_lt p (fun _ => true) n k (fun _ _ _ => rfl) hk e rfl
    have h2 := @cnt_le (fun _ => true) n
    omega
theorem cnt_0 {p : Nat → Bool} : ∀ {n : Nat}, (∀ k, k < n → p k = false) → cnt n p = 0
  | 0, _ => rfl
  | n + 1, h => by rw [cnt, cnt_0 (fun k hk => h k (by omega)), h n (by omega)]; rfl
theorem cnt_add {p q : Nat → Bool} : ∀ {n : Nat} (j : Nat), j < n → p j = false → q j = true → (∀ k, k < n → k ≠ j → q k = p k) → cnt n q = cnt n p + 1
  | 0, _, h, _, _, _ => by omega
  | n + 1, j, hj, hp, hq, h => by
    rw [cnt, cnt]
    by_cases e : j = n
    · subst e
      have h1 := @cnt_congr q p j (fun k hk => h k (by omega) (by omega))
      simp [hp, hq]; omega
    · have h1 := @cnt_add p q n j (by omega) hp hq (fun k hk => h k (by omega))
      rw [h n (by omega) (by omega), h1]; omega
/-- sums, for measures -/
def sumB : Nat → (Nat → Nat) → Nat
  | 0, _ => 0
  | n + 1, p => sumB n p + p n
theorem sumB_mono {p q : Nat → Nat} : ∀ {n : Nat}, (∀ k, k < n → p k ≤ q k) → sumB n p ≤ sumB n q
  | 0, _ => Nat.le_refl _
  | n + 1, h => by
    have h1 := @sumB_mono p q n (fun k hk => h k (by omega))
    have h2 := h n (by omega)
    rw [sumB, sumB]; omega
theorem sumB_lt {p q : Nat → Nat} : ∀ {n : Nat} (j : Nat), (∀ k, k < n → p k ≤ q k) → j < n → p j < q j → sumB n p < sumB n q
  | 0, _, _, h, _ => by omega
  | n + 1, j, h, hj, hp => by
    have h2 := h n (by omega)
    rw [sumB, sumB]
    by_cases e : j = n
    · subst e
      have h1 := @sumB_mono p q j (fun k hk => h k (by omega))
      omega
    · have h1 := @sumB_lt p q n j (fun k hk => h k (by omega)) (by omega) hp
      omega
theorem sumB_le {p : Nat → Nat} {c : Nat} : ∀ {n : Nat}, (∀ k, k < n → p k ≤ c) → sumB n p ≤ n * c
  | 0, _ => by simp [sumB]
  | n + 1, h => by
    have h1 := @sumB_le p c n (fun k hk => h k (by omega))
    have h2 := h n (by omega)
    rw [sumB, Nat.succ_mul]; omega
