/-! the constructors -/
def arrC (t n : Nat) : HE := bif Nat.beq t 2 then .inl (2, n, .inr (.inl (fun _ => 0))) else .inl (t, n, .inl (fun _ => 0))
def alC (h : Hp) (t n : Nat) : Option (Nat × Hp) := bif Nat.beq t 2 then nJ_ h t (nI n) else nI_ h t (nI n)
/-- new arrays, each put into a field: (field, type, length) -/
def runA {α : Type} (ci x : Nat) (K : Hp → Option α) : List (Nat × Nat × Nat) → Hp → Option α
  | [], h => K h
  | q :: r, h => (alC h q.2.1 q.2.2).bind fun p => (sF p.2 ci x q.1 (.ref p.1)).bind fun h2 => runA ci x K r h2
def setA : List (Nat × Nat × Nat) → Nat → List Value → List Value
  | [], _, fs => fs
  | q :: r, y, fs => setA r (y + 1) (fs.set q.1 (.ref y))
section IN
variable {x y z b N ci t n k j a : Nat} {M : Nat → Option HE} {fs : List Value} {v : Int32}
theorem hU_eq {e : HE} : hU M a e a = some e := by simp [hU]
theorem hU_ne {e : HE} {q : Nat} (h : q ≠ a) : hU M a e q = M q := by simp [hU, h]
theorem alC_e (hn : n ≤ 100000) : alC (y, M) t n = some (y, (y + 1, hU M y (arrC t n))) := by
  have h1 : ¬ (nI n < 0 ∨ 100000 < n) := by
    intro h
    rcases h with h | h
    · exact nI_pos (by omega) h
    · omega
  have h2 : (nI n).toNatClampNeg = n := nI_clamp (by omega)
  unfold alC arrC
  by_cases q : t = 2
  · subst q
    simp only [Nat.beq_refl, cond_true, nJ_, h2, if_neg h1]
  · have : Nat.beq t 2 = false := by
      cases e : Nat.beq t 2
      · rfl
      · exact absurd (Nat.eq_of_beq_eq_true e) q
    simp only [this, cond_false, nI_, h2, if_neg h1]
theorem sF_e {w : Value} (h : M x = some (.inr (ci, fs))) (hk : k < fs.length) : sF (y, M) ci x k w = some (y, hU M x (.inr (ci, fs.set k w))) := by
  simp only [sF, gO, h, if_true, Option.bind_some, hk]
theorem fR_e {r : Nat} (h : M x = some (.inr (ci, fs))) (hk : fs[k]? = some (.ref r)) : fR (y, M) ci x k = some r := by
  simp only [fR, gO, h, if_true, Option.bind_some, hk, vR]
theorem sI_e {g : Nat → Int32} (h : M a = some (.inl (t, n, .inl g))) (hj : j < n) (hn : n < 2 ^ 31) : sI (y, M) t a (nI j) v = some (y, hU M a (.inl (t, n, .inl (upd g j v)))) := by
  simp only [sI, gA, h, if_true, Option.bind_some, xI, iX_n hj hn]
theorem runA_ok {α : Type} {K : Hp → Option α} : ∀ (sp : List (Nat × Nat × Nat)) (y : Nat) (M : Nat → Option HE) (fs : List Value), M x = some (.inr (ci, fs)) → x < y → (∀ q ∈ sp, q.1 < fs.length ∧ q.2.2 ≤ 100000) → ∃ M', runA ci x K sp (y, M) = K (y + sp.length, M') ∧ M' x = some (.inr (ci, setA sp y fs)) ∧ (∀ i q, sp[i]? = some q → M' (y + i) = some (arrC q.2.1 q.2.2)) ∧ ∀ q, q ≠ x → (q < y ∨ y + sp.length ≤ q) → M' q = M q
  | [], y, M, fs, h, _, _ => ⟨M, rfl, h, fun i q hq => by simp at hq, fun _ _ _ => rfl⟩
  | s :: r, y, M, fs, h, hx, hq => by
    obtain ⟨q1, q2⟩ := hq s List.mem_cons_self
    have h1 : hU M y (arrC s.2.1 s.2.2) x = some (.inr (ci, fs)) := by rw [hU_ne (by omega)]; exact h
    obtain ⟨M', e1, e2, e3, e4⟩ := runA_ok (K := K) r (y + 1) (hU (hU M y (arrC s.2.1 s.2.2)) x (.inr (ci, fs.set s.1 (.ref y)))) (fs.set s.1 (.ref y)) hU_eq (by omega) (fun q hq' => by rw [List.length_set]; exact hq q (List.mem_cons_of_mem _ hq'))
    refine ⟨M', ?_, e2, fun i q hi => ?_, fun q q3 q4 => ?_⟩
    · simp only [runA, alC_e q2, Option.bind_some, sF_e h1 q1]
      rw [e1, List.length_cons]
      congr 2
      omega
    · cases i with
      | zero =>
        simp at hi
        subst hi
        rw [e4 (y + 0) (by omega) (by omega), hU_ne (by omega), Nat.add_zero, hU_eq]
      | succ i =>
        rw [List.getElem?_cons_succ] at hi
        have := e3 i q hi
        rw [show y + (i + 1) = y + 1 + i by omega]; exact this
    · rw [List.length_cons] at q4
      rw [e4 q q3 (by omega), hU_ne q3, hU_ne (by omega)]
theorem i_file (hM : M x = some (.inr (1, [.null, .null, .null]))) (hN : 100 < N) : ∃ M', J_File_init N x (x + 1, M) = some ((), (x + 4, M')) ∧ M' x = some (.inr (1, [.ref (x + 1), .ref (x + 2), .ref (x + 3)])) ∧ M' (x + 1) = some (arrC 0 64) ∧ M' (x + 2) = some (arrC 1 64) ∧ M' (x + 3) = some (.inl (0, 64, .inl (fun j => if j < 64 then -1 else 0))) ∧ ∀ q, q ≠ x → (q < x + 1 ∨ x + 4 ≤ q) → M' q = M q := by
  obtain ⟨M1, e1, e2, e3, e4⟩ := runA_ok (x := x) (ci := 1) (K := fun h => J_File_init_30 N N x (0 : Int32) h) [(0, 0, 64), (1, 1, 64), (2, 0, 64)] (x + 1) M _ hM (by omega) (by decide)
  have e1' : J_File_init N x (x + 1, M) = J_File_init_30 N N x (0 : Int32) (x + 4, M1) := e1
  rw [e1']
  have f2 : M1 x = some (.inr (1, [.ref (x + 1), .ref (x + 2), .ref (x + 3)])) := e2
  have f3 : M1 (x + 3) = some (arrC 0 64) := e3 2 _ rfl
  refine lpx 64 (fun n (st : Int32 × Hp) => J_File_init_30 N n x st.1 st.2) (fun k st => st = (nI k, (x + 4, hU M1 (x + 3) (.inl (0, 64, .inl (fun j => if j < k then -1 else 0)))))) (fun r => ∃ M', r = some ((), (x + 4, M')) ∧ M' x = some (.inr (1, [.ref (x + 1), .ref (x + 2), .ref (x + 3)])) ∧ M' (x + 1) = some (arrC 0 64) ∧ M' (x + 2) = some (arrC 1 64) ∧ M' (x + 3) = some (.inl (0, 64, .inl (fun j => if j < 64 then -1 else 0))) ∧ ∀ q, q ≠ x → (q < x + 1 ∨ x + 4 ≤ q) → M' q = M q) ?_ ?_ N (nI 0, (x + 4, M1)) (by omega) ?_
  · rintro n k st hk rfl
    refine Or.inr ⟨_, ?_, rfl⟩
    have g1 : fR (x + 4, hU M1 (x + 3) (.inl (0, 64, .inl (fun j => if j < k then -1 else 0)))) 1 x 2 = some (x + 3) := fR_e (by rw [hU_ne (by omega)]; exact f2) rfl
    have g2 := sI_e (y := x + 4) (t := 0) (v := (-1 : Int32)) (hU_eq (M := M1) (a := x + 3) (e := .inl (0, 64, .inl (fun j => if j < k then -1 else 0)))) hk (by decide)
    have g3 : hU (hU M1 (x + 3) (.inl (0, 64, .inl (fun j => if j < k then (-1 : Int32) else 0)))) (x + 3) (.inl (0, 64, .inl (upd (fun j => if j < k then (-1 : Int32) else 0) k (-1)))) = hU M1 (x + 3) (.inl (0, 64, .inl (fun j => if j < k + 1 then -1 else 0))) := by
      funext q
      by_cases h : q = x + 3
      · subst h
        rw [hU_eq, hU_eq]
        congr 5
        funext j
        simp only [upd]
        by_cases h1 : j = k
        · subst h1; simp
        · by_cases h2 : j < k
          · simp [h1, h2, show j < k + 1 by omega]
          · simp [h1, h2, show ¬ j < k + 1 by omega]
      · rw [hU_ne h, hU_ne h, hU_ne h]
    rw [g3] at g2
    simp (disch := first | assumption | omega | decide) only [J_File_init_30, ifp, ifn, Option.bind_some, n_s, n_le, n_lt, n_eq, l8, l40, l64, g40, u40, u6, u3, u0, mul6, mul3, J_bit, cmp0, b2_0, zR_b, zR_0, zR_1, up2_eq, up2_ne, up2J_eq, up2J_ne, mkv_eq, n_m1, g1, g2]
  · rintro n st rfl
    refine ⟨hU M1 (x + 3) (.inl (0, 64, .inl (fun j => if j < 64 then -1 else 0))), ?_, ?_, ?_, ?_, hU_eq, fun q q1 q2 => ?_⟩
    · simp (disch := first | assumption | omega | decide) only [J_File_init_30, ifp, ifn, Option.bind_some, n_s, n_le, n_lt, n_eq, l8, l40, l64, g40, u40, u6, u3, u0, mul6, mul3, J_bit, cmp0, b2_0, zR_b, zR_0, zR_1, up2_eq, up2_ne, up2J_eq, up2J_ne, mkv_eq, n_m1]
    · rw [hU_ne (by omega)]; exact f2
    · rw [hU_ne (by omega)]; exact e3 0 _ rfl
    · rw [hU_ne (by omega)]; exact e3 1 _ rfl
    · rw [hU_ne (by omega)]; exact e4 q q1 q2
  · have : hU M1 (x + 3) (.inl (0, 64, .inl (fun j => if j < 0 then (-1 : Int32) else 0))) = M1 := by
      funext q
      by_cases h : q = x + 3
      · subst h; rw [hU_eq, f3]; rfl
      · rw [hU_ne h]
    rw [this]
def stF (x : Nat) : List Value := [.int 0, .int 0, .int 0, .int 0, .ref (x + 1), .int 0, .ref (x + 2), .int 0, .int 0, .int 0, .int 0, .int 0, .int 0, .ref (x + 3)]
def dkF (z : Nat) (l : List Value) : List Value := .ref (z + 1) :: .ref (z + 5) :: l
/-- the loop that makes the steps -/
theorem i_steps {F0 : Nat → Option HE} {n0 : Nat} (h0 : F0 z = some (.inr (6, dkF z [.null, .null, .null, .null]))) (h5 : F0 (z + 5) = some (.inl (3, 40, .inr (.inr (.inr (.inr (fun _ => none))))))) (hn : 40 < n0) : ∃ n M', J_Desk_init_26 N n0 z (nI 0) (z + 6, F0) = J_Desk_init_26 N (n + 1) z (nI 40) (z + 166, M') ∧ M' z = some (.inr (6, dkF z [.null, .null, .null, .null])) ∧ M' (z + 5) = some (.inl (3, 40, .inr (.inr (.inr (.inr (fun k => if k < 40 then some (z + (6 + 4 * k)) else none)))))) ∧ (∀ s, s < 40 → M' (z + (6 + 4 * s)) = some (.inr (5, stF (z + (6 + 4 * s)))) ∧ M' (z + (6 + 4 * s) + 1) = some (arrC 0 6) ∧ M' (z + (6 + 4 * s) + 2) = some (arrC 0 3) ∧ M' (z + (6 + 4 * s) + 3) = some (arrC 0 6)) ∧ ∀ q, q ≠ z + 5 → (q < z + 6 ∨ z + 166 ≤ q) → M' q = F0 q := by
  refine lpx 40 (fun n (st : Int32 × Hp) => J_Desk_init_26 N n z st.1 st.2) (fun k st => ∃ M', st = (nI k, (z + (6 + 4 * k), M')) ∧ M' z = some (.inr (6, dkF z [.null, .null, .null, .null])) ∧ M' (z + 5) = some (.inl (3, 40, .inr (.inr (.inr (.inr (fun j => if j < k then some (z + (6 + 4 * j)) else none)))))) ∧ (∀ s, s < k → M' (z + (6 + 4 * s)) = some (.inr (5, stF (z + (6 + 4 * s)))) ∧ M' (z + (6 + 4 * s) + 1) = some (arrC 0 6) ∧ M' (z + (6 + 4 * s) + 2) = some (arrC 0 3) ∧ M' (z + (6 + 4 * s) + 3) = some (arrC 0 6)) ∧ ∀ q, q ≠ z + 5 → (q < z + 6 ∨ z + (6 + 4 * k) ≤ q) → M' q = F0 q) (fun r => ∃ n M', r = J_Desk_init_26 N (n + 1) z (nI 40) (z + 166, M') ∧ M' z = some (.inr (6, dkF z [.null, .null, .null, .null])) ∧ M' (z + 5) = some (.inl (3, 40, .inr (.inr (.inr (.inr (fun k => if k < 40 then some (z + (6 + 4 * k)) else none)))))) ∧ (∀ s, s < 40 → M' (z + (6 + 4 * s)) = some (.inr (5, stF (z + (6 + 4 * s)))) ∧ M' (z + (6 + 4 * s) + 1) = some (arrC 0 6) ∧ M' (z + (6 + 4 * s) + 2) = some (arrC 0 3) ∧ M' (z + (6 + 4 * s) + 3) = some (arrC 0 6)) ∧ ∀ q, q ≠ z + 5 → (q < z + 6 ∨ z + 166 ≤ q) → M' q = F0 q) ?_ ?_ n0 (nI 0, (z + 6, F0)) hn ⟨F0, rfl, h0, by rw [h5]; simp, fun s h => by omega, fun _ _ _ => rfl⟩
  · rintro n k st hk ⟨M, rfl, h1, h2, h3, h4⟩
    generalize hx : z + (6 + 4 * k) = x at *
    obtain ⟨M1, e1, e2, e3, e4⟩ := runA_ok (x := x) (ci := 5) (K := fun h => some ((), h)) [(4, 0, 6), (6, 0, 3), (13, 0, 6)] (x + 1) (hU M x (.inr (5, [.int 0, .int 0, .int 0, .int 0, .null, .int 0, .null, .int 0, .int 0, .int 0, .int 0, .int 0, .int 0, .null]))) _ hU_eq (by omega) (by decide)
    have e1' : J_Step_init N x (x + 1, hU M x (.inr (5, [.int 0, .int 0, .int 0, .int 0, .null, .int 0, .null, .int 0, .int 0, .int 0, .int 0, .int 0, .int 0, .null]))) = some ((), (x + 4, M1)) := e1
    have e2' : M1 x = some (.inr (5, stF x)) := e2
    have g0 : ∀ q, q ≠ x → (q < x + 1 ∨ x + 4 ≤ q) → M1 q = M q := fun q q1 q2 => by rw [e4 q q1 q2, hU_ne q1]
    have g1 : fR (x, M) 6 z 1 = some (z + 5) := fR_e h1 rfl
    have g2 : sR (x + 4, M1) 3 5 (z + 5) (nI k) x = some (x + 4, hU M1 (z + 5) (.inl (3, 40, .inr (.inr (.inr (.inr (fun j => if j < k + 1 then some (z + (6 + 4 * j)) else none))))))) := by
      have q5 : M1 (z + 5) = some (.inl (3, 40, .inr (.inr (.inr (.inr (fun j => if j < k then some (z + (6 + 4 * j)) else none)))))) := by rw [g0 _ (by omega) (by omega)]; exact h2
      simp only [sR, gA, q5, if_true, Option.bind_some, xR, iX_n hk (show 40 < 2 ^ 31 by decide), gO, e2']
      congr 10
      funext j
      simp only [va_up]
      by_cases h1 : j = k
      · subst h1; simp [hx]
      · by_cases h2 : j < k
        · simp [h1, h2, show j < k + 1 by omega]
        · simp [h1, h2, show ¬ j < k + 1 by omega]
    refine Or.inr ⟨(nI (k + 1), (x + 4, hU M1 (z + 5) (.inl (3, 40, .inr (.inr (.inr (.inr (fun j => if j < k + 1 then some (z + (6 + 4 * j)) else none)))))))), ?_, hU M1 (z + 5) (.inl (3, 40, .inr (.inr (.inr (.inr (fun j => if j < k + 1 then some (z + (6 + 4 * j)) else none)))))), ?_, ?_, hU_eq, fun s hs => ?_, fun q q1 q2 => ?_⟩
    · simp (disch := first | assumption | omega | decide) only [J_Desk_init_26, ifp, ifn, Option.bind_some, n_s, n_le, n_lt, n_eq, l8, l40, l64, g40, u40, u6, u3, u0, mul6, mul3, J_bit, cmp0, b2_0, zR_b, zR_0, zR_1, up2_eq, up2_ne, up2J_eq, up2J_ne, mkv_eq, n_m1, g1, nO_, e1', g2]
    · congr 2; omega
    · rw [hU_ne (by omega), g0 _ (by omega) (by omega)]; exact h1
    · by_cases q : s = k
      · subst q
        rw [hx]
        rw [hU_ne (by omega), hU_ne (by omega), hU_ne (by omega), hU_ne (by omega)]
        exact ⟨e2', e3 0 _ rfl, e3 1 _ rfl, e3 2 _ rfl⟩
      · rw [hU_ne (by omega), hU_ne (by omega), hU_ne (by omega), hU_ne (by omega), g0 _ (by omega) (by omega), g0 _ (by omega) (by omega), g0 _ (by omega) (by omega), g0 _ (by omega) (by omega)]
        exact h3 s (by omega)
    · rw [hU_ne q1, g0 _ (by omega) (by omega)]; exact h4 q q1 (by omega)
  · rintro n st ⟨M, rfl, h1, h2, h3, h4⟩
    exact ⟨n, M, rfl, h1, h2, h3, h4⟩
end IN
