/-! sets of steps as the bits of a long -/
def tb (w : Int64) (t : Nat) : Bool := w.toBitVec.getLsbD t
theorem tb_ext {x y : Int64} (h : ∀ t, t < 64 → tb x t = tb y t) : x = y := by
  have : x.toBitVec = y.toBitVec := BitVec.eq_of_getLsbD_eq (fun i hi => h i hi)
  exact Int64.toBitVec_inj.mp this
theorem tb_and (x y : Int64) (t : Nat) : tb (x &&& y) t = (tb x t && tb y t) := by simp [tb, Int64.toBitVec_and]
theorem tb_or (x y : Int64) (t : Nat) : tb (x ||| y) t = (tb x t || tb y t) := by simp [tb, Int64.toBitVec_or]
theorem tb_not (x : Int64) {t : Nat} (ht : t < 64) : tb (x ^^^ (-1)) t = !tb x t := by
  have h1 : ((-1 : Int64)).toBitVec = BitVec.allOnes 64 := by decide
  simp [tb, Int64.toBitVec_xor, h1, ht]
theorem tb_0 (t : Nat) : tb 0 t = false := by
  have h1 : ((0 : Int64)).toBitVec = 0#64 := by decide
  simp [tb, h1]
def bitw (s : Nat) : Int64 := (1 : Int64) <<< ((nI s).toInt64 &&& 63)
theorem tb_bitw : ∀ s, s < 40 → ∀ t, t < 64 → tb (bitw s) t = decide (t = s) := by decide +kernel
/-- w is the set S of numbers below 40 -/
def isB (w : Int64) (S : Nat → Bool) : Prop := ∀ t, t < 64 → tb w t = (decide (t < 40) && S t)
theorem isB_or {x y : Int64} {S U : Nat → Bool} (h1 : isB x S) (h2 : isB y U) : isB (x ||| y) (fun t => S t || U t) := by
  intro t ht
  rw [tb_or, h1 t ht, h2 t ht]
  show _ = (decide (t < 40) && (S t || U t))
  cases decide (t < 40) <;> cases S t <;> cases U t <;> rfl
theorem isB_and {x y : Int64} {S U : Nat → Bool} (h1 : isB x S) (h2 : isB y U) : isB (x &&& y) (fun t => S t && U t) := by
  intro t ht
  rw [tb_and, h1 t ht, h2 t ht]
  show _ = (decide (t < 40) && (S t && U t))
  cases decide (t < 40) <;> cases S t <;> cases U t <;> rfl
theorem isB_diff {x y : Int64} {S U : Nat → Bool} (h1 : isB x S) (h2 : isB y U) : isB (x &&& (y ^^^ (-1))) (fun t => S t && !U t) := by
  intro t ht
  rw [tb_and, tb_not y ht, h1 t ht, h2 t ht]
  show _ = (decide (t < 40) && (S t && !U t))
  cases decide (t < 40) <;> cases S t <;> cases U t <;> rfl
theorem isB_bit {s : Nat} (hs : s < 40) : isB (bitw s) (fun t => decide (t = s)) := by
  intro t ht
  rw [tb_bitw s hs t ht]
  by_cases h : t = s
  · subst h; simp [hs]
  · simp [h]
theorem isB_0 : isB 0 (fun _ => false) := fun t _ => by rw [tb_0]; simp
theorem isB_eq {x y : Int64} {S U : Nat → Bool} (h1 : isB x S) (h2 : isB y U) : x = y ↔ ∀ t, t < 40 → S t = U t := by
  constructor
  · intro h t ht
    have a := h1 t (by omega)
    have c := h2 t (by omega)
    rw [h, c] at a
    simpa [ht] using a.symm
  · intro h
    refine tb_ext (fun t ht => ?_)
    rw [h1 t ht, h2 t ht]
    by_cases h4 : t < 40
    · rw [h t h4]
    · simp [h4]
theorem isB_z {x : Int64} {S : Nat → Bool} (h1 : isB x S) : x = 0 ↔ ∀ t, t < 40 → S t = false := isB_eq h1 isB_0
theorem isB_congr {x : Int64} {S U : Nat → Bool} (h1 : isB x S) (h : ∀ t, t < 40 → S t = U t) : isB x U := by
  intro t ht
  rw [h1 t ht]
  by_cases h4 : t < 40
  · rw [h t h4]
  · simp [h4]
theorem cmp0 (x y : Int64) : lg_cmp x y = 0 ↔ x = y := by
  unfold lg_cmp
  by_cases h1 : x > y
  · rw [if_pos h1]
    constructor
    · intro h; exact absurd h (by decide)
    · intro h
      subst h
      exact absurd h1 (by simp)
  · rw [if_neg h1]
    by_cases h2 : x = y
    · simp [h2]
    · simp [h2]
      
/-! small numbers -/
theorem n_le {a k : Nat} (ha : a < 2 ^ 31) (hk : k < 2 ^ 31) : (nI a ≤ nI k) = (a ≤ k) := propext (nI_leI ha hk)
theorem n_lt {a k : Nat} (ha : a < 2 ^ 31) (hk : k < 2 ^ 31) : (nI a < nI k) = (a < k) := propext (nI_ltI ha hk)
theorem n_eq {a k : Nat} (ha : a < 2 ^ 31) (hk : k < 2 ^ 31) : (nI a = nI k) = (a = k) := propext (nI_eq ha hk)
theorem n_s (k : Nat) : nI k + (1 : Int32) = nI (k + 1) := nI_1 k
/-- a maker: a step's number, or 40 for none -/
def mkv (t : Nat) : Int32 := if t < 40 then nI t else -1
theorem mkv_n {t : Nat} (h : t < 40) : mkv t = nI t := by simp [mkv, h]
theorem mkv_no {t : Nat} (h : 40 ≤ t) : mkv t = -1 := by simp [mkv]; omega
theorem nI_m1 {k : Nat} (h : k < 2 ^ 31) : ¬ nI k = -1 := by
  intro q
  have h1 := nI_pos' h
  rw [q] at h1
  exact absurd h1 (by decide)
theorem mkv_eq {t : Nat} : (mkv t = -1) = (40 ≤ t) := by
  apply propext
  by_cases h : t < 40
  · rw [mkv_n h]
    constructor
    · intro q; exact absurd q (nI_m1 (by omega))
    · intro q; omega
  · simp only [mkv, if_neg h, true_iff]; omega
def b2 (c : Bool) : Int32 := if c = true then 1 else 0
theorem b2_0 (c : Bool) : (b2 c = 0) = (c = false) := by cases c <;> simp [b2]
theorem b2_1 (c : Bool) : (b2 c = 1) = (c = true) := by cases c <;> simp [b2]
theorem b2_z (c : Bool) : b2 c = 0 ∨ b2 c = 1 := by cases c <;> simp [b2]
theorem b2_t : b2 true = 1 := rfl
theorem b2_f : b2 false = 0 := rfl
theorem b2_i (c d : Bool) : (b2 c = b2 d) = (c = d) := by cases c <;> cases d <;> simp [b2]
theorem zR_b (c : Bool) (h : Hp) : zR (b2 c) h = some (b2 c, h) := by cases c <;> rfl
theorem zR_0 (h : Hp) : zR 0 h = some (0, h) := rfl
theorem zR_1 (h : Hp) : zR 1 h = some (1, h) := rfl
theorem J_isIn {N s z : Nat} {w : Int64} {M : Nat → Option HE} {S : Nat → Bool} (h : isB w S) (hs : s < 40) : J_Desk_isIn N w (nI s) (z, M) = some (b2 (S s), (z, M)) := by
  simp only [J_Desk_isIn, J_Desk_bit, Option.bind_some, cmp0]
  have h1 := isB_z (isB_and h (isB_bit hs))
  show (if w &&& bitw s = 0 then some ((0 : Int32), (z, M)) else some (1, (z, M))) = _
  by_cases hS : S s = true
  · rw [if_neg (fun q => by have := h1.mp q s hs; simp [hS] at this), hS]
    rfl
  · rw [if_pos (h1.mpr (fun t ht => by by_cases e : t = s; subst e; simp [hS]; simp [e]))]
    simp [hS, b2]
theorem J_bit {N s z : Nat} {M : Nat → Option HE} : J_Desk_bit N (nI s) (z, M) = some (bitw s, (z, M)) := rfl
theorem l8 {k : Nat} (h : k < 2 ^ 31) : ((8 : Int32) ≤ nI k) = (8 ≤ k) := n_le (a := 8) (by decide) h
theorem l40 {k : Nat} (h : k < 2 ^ 31) : ((40 : Int32) ≤ nI k) = (40 ≤ k) := n_le (a := 40) (by decide) h
theorem l64 {k : Nat} (h : k < 2 ^ 31) : ((64 : Int32) ≤ nI k) = (64 ≤ k) := n_le (a := 64) (by decide) h
theorem g40 {k : Nat} (h : k < 2 ^ 31) : ((40 : Int32) < nI k) = (40 < k) := n_lt (a := 40) (by decide) h
theorem u40 {k : Nat} (h : k < 2 ^ 31) : (nI k < (40 : Int32)) = (k < 40) := n_lt (k := 40) h (by decide)
theorem u6 {k : Nat} (h : k < 2 ^ 31) : (nI k < (6 : Int32)) = (k < 6) := n_lt (k := 6) h (by decide)
theorem u3 {k : Nat} (h : k < 2 ^ 31) : (nI k < (3 : Int32)) = (k < 3) := n_lt (k := 3) h (by decide)
theorem u0 {k : Nat} (h : k < 2 ^ 31) : (nI k < (0 : Int32)) = False := by
  rw [show (nI k < (0 : Int32)) = (nI k < nI 0) from rfl, n_lt h (by decide)]
  simp
theorem mul6 (s k : Nat) : (6 : Int32) * nI s + nI k = nI (6 * s + k) := by
  show (Int32.ofNat 6) * Int32.ofNat s + Int32.ofNat k = _
  rw [← Int32.ofNat_mul, ← Int32.ofNat_add]; rfl
theorem mul3 (s k : Nat) : (3 : Int32) * nI s + nI k = nI (3 * s + k) := by
  show (Int32.ofNat 3) * Int32.ofNat s + Int32.ofNat k = _
  rw [← Int32.ofNat_mul, ← Int32.ofNat_add]; rfl
theorem n_add (a k : Nat) : nI a + nI k = nI (a + k) := by
  show Int32.ofNat a + Int32.ofNat k = _
  rw [← Int32.ofNat_add]; rfl
theorem n_m1 {k : Nat} (h : k < 2 ^ 31) : (nI k = (-1 : Int32)) = False := eq_false (nI_m1 h)
