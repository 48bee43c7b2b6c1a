def iI0 (o j : Nat) : Int32 := if o = 4 then (if j < 64 then -1 else 0) else 0
def mSp : List (Nat × Nat × Nat) := [(1, 1, 64), (2, 0, 64), (3, 0, 64), (4, 1, 40), (5, 0, 40), (6, 0, 40), (7, 0, 40), (8, 0, 40), (9, 0, 40), (10, 0, 240), (11, 0, 120), (12, 1, 40), (13, 0, 40), (14, 0, 40), (15, 0, 40), (16, 0, 40), (17, 0, 240), (18, 0, 120), (19, 0, 240), (20, 1, 40), (21, 0, 40), (22, 0, 40), (23, 0, 40), (24, 0, 40), (25, 0, 40), (26, 1, 8), (32, 0, 40), (33, 0, 40), (34, 0, 40), (35, 0, 40), (36, 0, 40), (38, 0, 40), (39, 0, 40)]
def mF0 : List Value := [.int 0, .null, .null, .null, .null, .null, .null, .null, .null, .null, .null, .null, .null, .null, .null, .null, .null, .null, .null, .null, .null, .null, .null, .null, .null, .null, .null, .int 0, .int 0, .int 0, .int 0, .int 0, .null, .null, .null, .null, .null, .int 0, .null, .null]
section IM
variable {x y z b N ci : Nat} {M F : Nat → Option HE} {fs : List Value}
theorem comp {α : Type} {K : Hp → Option α} {L fs0 : List Value} {sp : List (Nat × Nat × Nat)} {fld : Nat} (hM : M z = some (.inr (6, L))) (hz : z < y) (hf : fld < L.length) (hq : ∀ q ∈ sp, q.1 < fs0.length ∧ q.2.2 ≤ 100000) : ∃ M', ((nO_ (y, M) ci fs0).bind fun q6 => (runA ci q6.1 (fun h => some ((), h)) sp q6.2).bind fun q7 => (sF q7.2 6 z fld (.ref q6.1)).bind K) = K (y + 1 + sp.length, M') ∧ M' z = some (.inr (6, L.set fld (.ref y))) ∧ M' y = some (.inr (ci, setA sp (y + 1) fs0)) ∧ (∀ i q, sp[i]? = some q → M' (y + 1 + i) = some (arrC q.2.1 q.2.2)) ∧ ∀ q, q ≠ z → (q < y ∨ y + 1 + sp.length ≤ q) → M' q = M q := by
  obtain ⟨M1, e1, e2, e3, e4⟩ := runA_ok (x := y) (ci := ci) (K := fun h => some ((), h)) sp (y + 1) (hU M y (.inr (ci, fs0))) fs0 hU_eq (by omega) hq
  have h1 : M1 z = some (.inr (6, L)) := by rw [e4 z (by omega) (by omega), hU_ne (by omega)]; exact hM
  refine ⟨hU M1 z (.inr (6, L.set fld (.ref y))), ?_, hU_eq, ?_, fun i q hi => ?_, fun q q1 q2 => ?_⟩
  · simp only [nO_, Option.bind_some, e1, sF_e h1 hf]
  · rw [hU_ne (by omega)]; exact e2
  · rw [hU_ne (by omega)]; exact e3 i q hi
  · rw [hU_ne q1, e4 q (by omega) (by omega), hU_ne (by omega)]
theorem i_desk (hF : ∀ q, F q = none) (hN : 100 < N) : J_Desk_init N z (z + 1, hU F z (.inr (6, [.null, .null, .null, .null, .null, .null]))) = some ((), (z + 179, dH z iI0 (fun _ _ => 0) F)) := by
  -- the files
  obtain ⟨M1, a1, a2, a3, a4, a5, a6⟩ := i_file (x := z + 1) (N := N) (M := hU (hU F z (.inr (6, [.null, .null, .null, .null, .null, .null]))) (z + 1) (.inr (1, [.null, .null, .null]))) hU_eq hN
  have hz1 : M1 z = some (.inr (6, [.null, .null, .null, .null, .null, .null])) := by rw [a6 z (by omega) (by omega), hU_ne (by omega), hU_eq]
  have s1 := sF_e (y := z + 5) (k := 0) (w := .ref (z + 1)) hz1 (by decide)
  have n1 : nR_ (z + 5, hU M1 z (.inr (6, [.ref (z + 1), .null, .null, .null, .null, .null]))) 3 (40 : Int32) = some (z + 5, (z + 6, hU (hU M1 z (.inr (6, [.ref (z + 1), .null, .null, .null, .null, .null]))) (z + 5) (.inl (3, 40, .inr (.inr (.inr (.inr (fun _ => none)))))))) := rfl
  have s2 := sF_e (y := z + 6) (k := 1) (w := .ref (z + 5)) (M := hU (hU M1 z (.inr (6, [.ref (z + 1), .null, .null, .null, .null, .null]))) (z + 5) (.inl (3, 40, .inr (.inr (.inr (.inr (fun _ => none))))))) (x := z) (ci := 6) (fs := [.ref (z + 1), .null, .null, .null, .null, .null]) (by rw [hU_ne (by omega), hU_eq]) (by simp)
  obtain ⟨n2, M2, b1, b2', b3, b4, b5⟩ := i_steps (z := z) (N := N) (F0 := hU (hU (hU M1 z (.inr (6, [.ref (z + 1), .null, .null, .null, .null, .null]))) (z + 5) (.inl (3, 40, .inr (.inr (.inr (.inr (fun _ => none))))))) z (.inr (6, dkF z [.null, .null, .null, .null]))) (n0 := 41) hU_eq (by rw [hU_ne (by omega), hU_eq]) (by decide)
  have b1' : J_Desk_init_26 N 41 z (0 : Int32) (z + 6, hU (hU (hU M1 z (.inr (6, [.ref (z + 1), .null, .null, .null, .null, .null]))) (z + 5) (.inl (3, 40, .inr (.inr (.inr (.inr (fun _ => none))))))) z (.inr (6, dkF z [.null, .null, .null, .null]))) = _ := b1
  -- plan, crew, report, round
  obtain ⟨M6, f1, f2, f3, f4, f5⟩ : ∃ M6, J_Desk_init_26 N (n2 + 1) z (nI 40) (z + 166, M2) = some ((), (z + 179, M6)) ∧ M6 z = some (.inr (6, [.ref (z + 1), .ref (z + 5), .ref (z + 166), .ref (z + 170), .ref (z + 174), .ref (z + 176)])) ∧ (∀ o, 166 ≤ o → o < 179 → M6 (z + o) = some (cel z (dSh o) (iI0 o) (fun _ => 0))) ∧ (∀ q, q ≠ z → (q < z + 166 ∨ z + 179 ≤ q) → M6 q = M2 q) ∧ True := by
    have hb2 : M2 z = some (.inr (6, dkF z [.null, .null, .null, .null])) := b2'
    obtain ⟨M3, c1, c2, c3, c4, c5⟩ := comp (z := z) (y := z + 166) (ci := 2) (M := M2) (fs0 := [.null, .null, .int 0, .null, .long 0]) (sp := [(0, 2, 40), (1, 0, 40), (3, 0, 40)]) (fld := 2) (K := fun h8 => (nO_ h8 0 [.null, .null, .null, .long 0, .long 0]).bind fun q9 => (J_Crew_init N q9.1 q9.2).bind fun q10 => (sF q10.2 6 z 3 (.ref q9.1)).bind fun h11 => (nO_ h11 3 [.int 0, .int 0, .int 0, .int 0, .null]).bind fun q12 => (J_Rep_init N q12.1 q12.2).bind fun q13 => (sF q13.2 6 z 4 (.ref q12.1)).bind fun h14 => (nO_ h14 4 [.null, .int 0, .null]).bind fun q15 => (J_Round_init N q15.1 q15.2).bind fun q16 => (sF q16.2 6 z 5 (.ref q15.1)).bind fun h17 => some ((), h17)) hb2 (by omega) (by simp [dkF]) (by decide)
    obtain ⟨M4, d1, d2, d3, d4, d5⟩ := comp (z := z) (y := z + 170) (ci := 0) (M := M3) (fs0 := [.null, .null, .null, .long 0, .long 0]) (sp := [(0, 1, 8), (1, 0, 40), (2, 0, 40)]) (fld := 3) (K := fun h11 => (nO_ h11 3 [.int 0, .int 0, .int 0, .int 0, .null]).bind fun q12 => (J_Rep_init N q12.1 q12.2).bind fun q13 => (sF q13.2 6 z 4 (.ref q12.1)).bind fun h14 => (nO_ h14 4 [.null, .int 0, .null]).bind fun q15 => (J_Round_init N q15.1 q15.2).bind fun q16 => (sF q16.2 6 z 5 (.ref q15.1)).bind fun h17 => some ((), h17)) c2 (by omega) (by simp [dkF]) (by decide)
    obtain ⟨M5, e1, e2, e3, e4, e5⟩ := comp (z := z) (y := z + 174) (ci := 3) (M := M4) (fs0 := [.int 0, .int 0, .int 0, .int 0, .null]) (sp := [(4, 0, 200)]) (fld := 4) (K := fun h14 => (nO_ h14 4 [.null, .int 0, .null]).bind fun q15 => (J_Round_init N q15.1 q15.2).bind fun q16 => (sF q16.2 6 z 5 (.ref q15.1)).bind fun h17 => some ((), h17)) d2 (by omega) (by simp [dkF]) (by decide)
    obtain ⟨M6, f1, f2, f3, f4, f5⟩ := comp (z := z) (y := z + 176) (ci := 4) (M := M5) (fs0 := [.null, .int 0, .null]) (sp := [(0, 0, 40), (2, 2, 41)]) (fld := 5) (K := fun h17 => some ((), h17)) e2 (by omega) (by simp [dkF]) (by decide)
    have c1' : J_Desk_init_26 N (n2 + 1) z (nI 40) (z + 166, M2) = _ := c1
    refine ⟨M6, ?_, f2, fun o o1 o2 => ?_, fun q q1 q2 => ?_, trivial⟩
    · rw [c1']
      exact Eq.trans d1 (Eq.trans e1 f1)
    · rcases (show o = 166 ∨ o = 167 ∨ o = 168 ∨ o = 169 ∨ o = 170 ∨ o = 171 ∨ o = 172 ∨ o = 173 ∨ o = 174 ∨ o = 175 ∨ o = 176 ∨ o = 177 ∨ o = 178 by omega) with h | h | h | h | h | h | h | h | h | h | h | h | h <;> subst h
      · rw [f5 _ (by omega) (by omega), e5 _ (by omega) (by omega), d5 _ (by omega) (by omega), c3]; rfl
      · rw [f5 _ (by omega) (by omega), e5 _ (by omega) (by omega), d5 _ (by omega) (by omega)]; exact c4 0 _ rfl
      · rw [f5 _ (by omega) (by omega), e5 _ (by omega) (by omega), d5 _ (by omega) (by omega)]; exact c4 1 _ rfl
      · rw [f5 _ (by omega) (by omega), e5 _ (by omega) (by omega), d5 _ (by omega) (by omega)]; exact c4 2 _ rfl
      · rw [f5 _ (by omega) (by omega), e5 _ (by omega) (by omega), d3]; rfl
      · rw [f5 _ (by omega) (by omega), e5 _ (by omega) (by omega)]; exact d4 0 _ rfl
      · rw [f5 _ (by omega) (by omega), e5 _ (by omega) (by omega)]; exact d4 1 _ rfl
      · rw [f5 _ (by omega) (by omega), e5 _ (by omega) (by omega)]; exact d4 2 _ rfl
      · rw [f5 _ (by omega) (by omega), e3]; rfl
      · rw [f5 _ (by omega) (by omega)]; exact e4 0 _ rfl
      · rw [f3]; rfl
      · exact f4 0 _ rfl
      · exact f4 1 _ rfl
    · have k1 : q < z + 176 ∨ z + 176 + 1 + [((0 : Nat), (0 : Nat), (40 : Nat)), (2, 2, 41)].length ≤ q := by
        show q < z + 176 ∨ z + 176 + 1 + 2 ≤ q
        omega
      have k2 : q < z + 174 ∨ z + 174 + 1 + [((4 : Nat), (0 : Nat), (200 : Nat))].length ≤ q := by
        show q < z + 174 ∨ z + 174 + 1 + 1 ≤ q
        omega
      have k3 : q < z + 170 ∨ z + 170 + 1 + [((0 : Nat), (1 : Nat), (8 : Nat)), (1, 0, 40), (2, 0, 40)].length ≤ q := by
        show q < z + 170 ∨ z + 170 + 1 + 3 ≤ q
        omega
      have k4 : q < z + 166 ∨ z + 166 + 1 + [((0 : Nat), (2 : Nat), (40 : Nat)), (1, 0, 40), (3, 0, 40)].length ≤ q := by
        show q < z + 166 ∨ z + 166 + 1 + 3 ≤ q
        omega
      rw [f5 q q1 k1, e5 q q1 k2, d5 q q1 k3, c5 q q1 k4]
  have hM6 : M6 = dH z iI0 (fun _ _ => 0) F := by
    have g1 : ∀ q, q ≠ z → q ≠ z + 5 → (q < z + 6 ∨ z + 179 ≤ q) → M6 q = M1 q := fun q q1 q2 q3 => by
      rw [f4 q q1 (by omega), b5 q q2 (by omega), hU_ne q1, hU_ne q2, hU_ne q1]
    funext q
    show M6 q = dk z 179 dSh iI0 (fun _ _ => 0) F q
    by_cases hr : z ≤ q ∧ q < z + 179
    · obtain ⟨o, ho, rfl⟩ : ∃ o, o < 179 ∧ q = z + o := ⟨q - z, by omega, by omega⟩
      rw [dk_at ho]
      rcases (show o = 0 ∨ o = 1 ∨ o = 2 ∨ o = 3 ∨ o = 4 ∨ o = 5 ∨ (6 ≤ o ∧ o < 166) ∨ 166 ≤ o by omega) with h | h | h | h | h | h | h | h
      · subst h; exact f2
      · subst h; rw [g1 _ (by omega) (by omega) (by omega)]; exact a2
      · subst h; rw [g1 _ (by omega) (by omega) (by omega)]; exact a3
      · subst h; rw [g1 _ (by omega) (by omega) (by omega)]; exact a4
      · subst h; rw [g1 _ (by omega) (by omega) (by omega)]; exact a5
      · subst h; rw [f4 _ (by omega) (by omega), b3]; rfl
      · obtain ⟨s, i, hs, hi, rfl⟩ : ∃ s i, s < 40 ∧ i < 4 ∧ o = 6 + 4 * s + i := ⟨(o - 6) / 4, (o - 6) % 4, by omega, by omega, by omega⟩
        obtain ⟨c1, c2, c3, c4⟩ := b4 s hs
        have z1 : iI0 (6 + 4 * s + i) = fun _ => 0 := by funext j; simp only [iI0]; rw [if_neg (by omega)]
        rw [f4 _ (by omega) (by omega), dSh_st hs hi, z1]
        rcases (show i = 0 ∨ i = 1 ∨ i = 2 ∨ i = 3 by omega) with h | h | h | h <;> subst h
        · rw [show z + (6 + 4 * s + 0) = z + (6 + 4 * s) by omega, c1]; rfl
        · rw [show z + (6 + 4 * s + 1) = z + (6 + 4 * s) + 1 by omega, c2]; rfl
        · rw [show z + (6 + 4 * s + 2) = z + (6 + 4 * s) + 2 by omega, c3]; rfl
        · rw [show z + (6 + 4 * s + 3) = z + (6 + 4 * s) + 3 by omega, c4]; rfl
      · exact f3 o h (by omega)
    · rw [dk_out (by omega), g1 q (by omega) (by omega) (by omega), a6 q (by omega) (by omega), hU_ne (by omega), hU_ne (by omega)]
  rw [J_Desk_init]
  simp only [nO_, Option.bind_some]
  rw [a1]
  simp only [Option.bind_some]
  rw [show sF (z + 1 + 4, M1) 6 z 0 (.ref (z + 1)) = some (z + 5, hU M1 z (.inr (6, [.ref (z + 1), .null, .null, .null, .null, .null]))) from s1]
  simp only [Option.bind_some, n1]
  rw [show sF (z + 6, hU (hU M1 z (.inr (6, [.ref (z + 1), .null, .null, .null, .null, .null]))) (z + 5) (.inl (3, 40, .inr (.inr (.inr (.inr (fun _ => none))))))) 6 z 1 (.ref (z + 5)) = some (z + 6, hU (hU (hU M1 z (.inr (6, [.ref (z + 1), .null, .null, .null, .null, .null]))) (z + 5) (.inl (3, 40, .inr (.inr (.inr (.inr (fun _ => none))))))) z (.inr (6, dkF z [.null, .null, .null, .null]))) from s2]
  simp only [Option.bind_some, b1', f1, hM6]
def vk (m : Nat) (k : Nat) : Value := match k with
  | 0 => .int 0
  | 1 => .null
  | r + 2 => .ref (m + r)
def setK : List (Nat × Nat × Nat) → Nat → List Nat → List Nat
  | [], _, ks => ks
  | q :: r, y, ks => setK r (y + 1) (ks.set q.1 (y + 2))
theorem setA_map {m : Nat} : ∀ (sp : List (Nat × Nat × Nat)) (y : Nat) (ks : List Nat), setA sp (m + y) (ks.map (vk m)) = (setK sp y ks).map (vk m)
  | [], _, _ => rfl
  | q :: r, y, ks => by
    rw [setA, setK, ← setA_map r (y + 1) (ks.set q.1 (y + 2)), List.map_set]
    rfl
theorem flds_map {m : Nat} : ∀ (fk : List Nat) (j : Nat), (∀ f ∈ fk, f ≠ 1) → flds m (fun _ => 0) (fun _ => 0) j fk = fk.map (vk m)
  | [], _, _ => rfl
  | f :: r, j, h => by
    rw [flds, List.map_cons, flds_map r (j + 1) (fun g hg => h g (List.mem_cons_of_mem _ hg))]
    congr 1
    match f, h f List.mem_cons_self with
    | 0, _ => rfl
    | 1, h1 => exact absurd rfl h1
    | r + 2, _ => rfl
theorem mod_0 {m : Nat} : (.inr (7, setA mSp (m + 1) mF0) : HE) = cel m (mSh 0) (fun _ => 0) (fun _ => 0) := by
  have h1 : mF0 = [0, 1, 1, 1, 1, 1, 1, 1, 1, 1, 1, 1, 1, 1, 1, 1, 1, 1, 1, 1, 1, 1, 1, 1, 1, 1, 1, 0, 0, 0, 0, 0, 1, 1, 1, 1, 1, 0, 1, 1].map (vk m) := rfl
  have h2 : mSh 0 = .inr (7, [0, 3, 4, 5, 6, 7, 8, 9, 10, 11, 12, 13, 14, 15, 16, 17, 18, 19, 20, 21, 22, 23, 24, 25, 26, 27, 28, 0, 0, 0, 0, 0, 29, 30, 31, 32, 33, 0, 34, 35]) := rfl
  rw [h1, setA_map, h2]
  show _ = Sum.inr (7, flds m (fun _ => 0) (fun _ => 0) 0 _)
  rw [flds_map _ 0 (by decide)]
  have h3 : setK mSp 1 [0, 1, 1, 1, 1, 1, 1, 1, 1, 1, 1, 1, 1, 1, 1, 1, 1, 1, 1, 1, 1, 1, 1, 1, 1, 1, 1, 0, 0, 0, 0, 0, 1, 1, 1, 1, 1, 0, 1, 1] = [0, 3, 4, 5, 6, 7, 8, 9, 10, 11, 12, 13, 14, 15, 16, 17, 18, 19, 20, 21, 22, 23, 24, 25, 26, 27, 28, 0, 0, 0, 0, 0, 29, 30, 31, 32, 33, 0, 34, 35] := by decide
  rw [h3]
set_option maxHeartbeats 8000000 in
set_option maxRecDepth 100000 in
theorem i_mod {m : Nat} (hN : 100 < N) : ∃ P, J_Mod_init N m (m + 1, hU F m (.inr (7, mF0))) = some ((), (m + 34, mH m P F)) ∧ (∀ f, f < 64 → P 3 f = -1) ∧ ∀ o j, o ≠ 3 → P o j = 0 := by
  obtain ⟨M1, e1, e2, e3, e4⟩ := runA_ok (x := m) (ci := 7) (K := fun h => J_Mod_init_273 N N m (0 : Int32) h) mSp (m + 1) (hU F m (.inr (7, mF0))) mF0 hU_eq (by omega) (by decide)
  have e1' : J_Mod_init N m (m + 1, hU F m (.inr (7, mF0))) = J_Mod_init_273 N N m (0 : Int32) (m + 34, M1) := e1
  have hl : mSp.length = 33 := rfl
  have hM : M1 = mH m (fun _ _ => 0) F := by
    funext q
    show M1 q = dk m 34 mSh (fun _ _ => 0) (fun _ _ => 0) F q
    by_cases hr : m ≤ q ∧ q < m + 34
    · obtain ⟨o, ho, rfl⟩ : ∃ o, o < 34 ∧ q = m + o := ⟨q - m, by omega, by omega⟩
      rw [dk_at ho]
      cases o with
      | zero => rw [Nat.add_zero, e2, mod_0]
      | succ i =>
        have hd : ∀ i, i < 33 → mSp[i]?.map (fun q => (Sum.inl (q.2.1, q.2.2) : Shp)) = some (mSh (i + 1)) ∧ (mSp[i]?.map (fun q => Nat.blt q.2.1 2)) = some true := by decide
        obtain ⟨h1, h2⟩ := hd i (by omega)
        cases e : mSp[i]? with
        | none => rw [e] at h1; exact absurd h1 (by simp)
        | some q =>
          rw [e] at h1 h2
          simp only [Option.map_some, Option.some.injEq] at h1 h2
          have := e3 i q e
          rw [show m + (i + 1) = m + 1 + i by omega, this, ← h1]
          have h3 : q.2.1 < 2 := Nat.le_of_ble_eq_true h2
          rcases (show q.2.1 = 0 ∨ q.2.1 = 1 by omega) with h | h <;> rw [h] <;> rfl
    · rw [dk_out (by omega), e4 q (by omega) (by omega), hU_ne (by omega)]
  rw [e1', hM]
  refine lpx 64 (fun n (st : Int32 × Hp) => J_Mod_init_273 N n m st.1 st.2) (fun k st => ∃ P, st = (nI k, (m + 34, mH m P F)) ∧ (∀ f, f < k → P 3 f = -1) ∧ ∀ o j, o ≠ 3 → P o j = 0) (fun r => ∃ P, r = some ((), (m + 34, mH m P F)) ∧ (∀ f, f < 64 → P 3 f = -1) ∧ ∀ o j, o ≠ 3 → P o j = 0) ?_ ?_ N (nI 0, (m + 34, mH m (fun _ _ => 0) F)) (by omega) ⟨_, rfl, fun f h => by omega, fun _ _ _ => rfl⟩
  · rintro n k st hk ⟨P, rfl, h1, h2⟩
    refine Or.inr ⟨(nI (k + 1), (m + 34, mH m (up2 P 3 k (-1)) F)), ?_, _, rfl, fun f hf => ?_, fun o j ho => by rw [up2_ne (Or.inl ho)]; exact h2 o j ho⟩
    · simp (disch := first | assumption | omega | decide) only [J_Mod_init_273, MO_0, MG_0_0, MS_0_0, MR_0_1, MR_0_2, MR_0_3, MR_0_4, MR_0_5, MR_0_6, MR_0_7, MR_0_8, MR_0_9, MR_0_10, MR_0_11, MR_0_12, MR_0_13, MR_0_14, MR_0_15, MR_0_16, MR_0_17, MR_0_18, MR_0_19, MR_0_20, MR_0_21, MR_0_22, MR_0_23, MR_0_24, MR_0_25, MR_0_26, MG_0_27, MS_0_27, MG_0_28, MS_0_28, MG_0_29, MS_0_29, MG_0_30, MS_0_30, MG_0_31, MS_0_31, MR_0_32, MR_0_33, MR_0_34, MR_0_35, MR_0_36, MG_0_37, MS_0_37, MR_0_38, MR_0_39, MA_1, MB_1, MA_2, MB_2, MA_3, MB_3, MA_4, MB_4, MA_5, MB_5, MA_6, MB_6, MA_7, MB_7, MA_8, MB_8, MA_9, MB_9, MA_10, MB_10, MA_11, MB_11, MA_12, MB_12, MA_13, MB_13, MA_14, MB_14, MA_15, MB_15, MA_16, MB_16, MA_17, MB_17, MA_18, MB_18, MA_19, MB_19, MA_20, MB_20, MA_21, MB_21, MA_22, MB_22, MA_23, MB_23, MA_24, MB_24, MA_25, MB_25, MA_26, MB_26, MA_27, MB_27, MA_28, MB_28, MA_29, MB_29, MA_30, MB_30, MA_31, MB_31, MA_32, MB_32, MA_33, MB_33, ifp, ifn, Option.bind_some, n_s, n_le, n_lt, n_eq, l8, l40, l64, g40, u40, u6, u3, u0, mul6, mul3, J_bit, cmp0, b2_0, zR_b, zR_0, zR_1, up2_eq, up2_ne, up2J_eq, up2J_ne, mkv_eq, n_m1]
    · by_cases q : f = k
      · rw [q, up2_eq]
      · rw [up2_ne (by omega)]; exact h1 f (by omega)
  · rintro n st ⟨P, rfl, h1, h2⟩
    refine ⟨P, ?_, h1, h2⟩
    simp (disch := first | assumption | omega | decide) only [J_Mod_init_273, MO_0, MG_0_0, MS_0_0, MR_0_1, MR_0_2, MR_0_3, MR_0_4, MR_0_5, MR_0_6, MR_0_7, MR_0_8, MR_0_9, MR_0_10, MR_0_11, MR_0_12, MR_0_13, MR_0_14, MR_0_15, MR_0_16, MR_0_17, MR_0_18, MR_0_19, MR_0_20, MR_0_21, MR_0_22, MR_0_23, MR_0_24, MR_0_25, MR_0_26, MG_0_27, MS_0_27, MG_0_28, MS_0_28, MG_0_29, MS_0_29, MG_0_30, MS_0_30, MG_0_31, MS_0_31, MR_0_32, MR_0_33, MR_0_34, MR_0_35, MR_0_36, MG_0_37, MS_0_37, MR_0_38, MR_0_39, MA_1, MB_1, MA_2, MB_2, MA_3, MB_3, MA_4, MB_4, MA_5, MB_5, MA_6, MB_6, MA_7, MB_7, MA_8, MB_8, MA_9, MB_9, MA_10, MB_10, MA_11, MB_11, MA_12, MB_12, MA_13, MB_13, MA_14, MB_14, MA_15, MB_15, MA_16, MB_16, MA_17, MB_17, MA_18, MB_18, MA_19, MB_19, MA_20, MB_20, MA_21, MB_21, MA_22, MB_22, MA_23, MB_23, MA_24, MB_24, MA_25, MB_25, MA_26, MB_26, MA_27, MB_27, MA_28, MB_28, MA_29, MB_29, MA_30, MB_30, MA_31, MB_31, MA_32, MB_32, MA_33, MB_33, ifp, ifn, Option.bind_some, n_s, n_le, n_lt, n_eq, l8, l40, l64, g40, u40, u6, u3, u0, mul6, mul3, J_bit, cmp0, b2_0, zR_b, zR_0, zR_1, up2_eq, up2_ne, up2J_eq, up2J_ne, mkv_eq, n_m1]
def V0 : Vw := fun o _ => if o = 3 then 40 else 0
theorem PS_i {P : Nat → Nat → Int32} (h1 : ∀ f, f < 64 → P 3 f = -1) (h2 : ∀ o j, o ≠ 3 → P o j = 0) : PS V0 iI0 P ∧ RD iI0 P := by
  have z0 : ∀ o j, o ≠ 4 → iI0 o j = 0 := fun o j ho => by simp [iI0, ho]
  have th : ∀ s, vth V0 s = false := fun s => by simp [vth, V0]
  have c0 : ∀ s, vic V0 s = 0 := fun s => by simp [vic, V0]
  have o0 : ∀ s, voc V0 s = 0 := fun s => by simp [voc, V0]
  have d0 : ∀ s, vdu V0 s = 0 := fun s => by simp [vdu, V0]
  have k0 : ∀ f, vmk V0 f = 40 := fun f => by simp [vmk, V0]
  refine ⟨⟨⟨fun s hs => by rw [c0, o0, d0]; omega, fun s k hs hk => by rw [c0] at hk; omega, fun s k hs hk => by rw [o0] at hk; omega, fun f hf => by rw [k0]; omega, fun f hf h => by rw [k0] at h; omega, fun s hs h => by rw [th] at h; exact absurd h (by simp), fun s hs _ => ⟨c0 s, o0 s⟩⟩, ⟨fun s hs => ?_, fun s k hs hk => by rw [c0] at hk; omega, fun s k hs hk => by rw [o0] at hk; omega, fun f hf => ?_⟩, ⟨fun s hs h => by rw [th] at h; exact absurd h (by simp), fun s k hs h => by rw [th] at h; exact absurd h (by simp), fun s k hs h => by rw [th] at h; exact absurd h (by simp), fun f hf => by rw [h1 f hf, k0]; rfl, fun s hs => by rw [h2 _ _ (by omega), d0]; rfl⟩, fun s hs => ?_, fun f hf => ?_, fun s hs => ?_, fun s hs h => by rw [th] at h; exact absurd h (by simp), fun s k hs hk _ => ?_, fun s hs _ => z0 _ _ (by omega), ⟨0, by omega, by rw [z0 _ _ (by omega)]; rfl, by rw [h2 _ _ (by omega)]; rfl, by rw [z0 _ _ (by omega), h2 _ _ (by omega)], fun k hk => by omega⟩, by rw [z0 _ _ (by omega), h2 _ _ (by omega)], by rw [z0 _ _ (by omega), h2 _ _ (by omega)]⟩, ⟨0, by omega, by rw [z0 _ _ (by omega)]; rfl, by rw [h2 _ _ (by omega)]; rfl, fun i hi => by omega⟩⟩
  · rw [z0 _ _ (by omega), z0 _ _ (by omega), z0 _ _ (by omega), c0, o0, d0]; exact ⟨rfl, rfl, rfl⟩
  · rw [k0]; simp only [iI0, if_true, hf]; rfl
  · rw [z0 _ _ (by omega), h2 _ _ (by omega), th]; exact ⟨rfl, rfl⟩
  · rw [z0 _ _ (by omega), z0 _ _ (by omega), h2 _ _ (by omega), h2 _ _ (by omega)]; exact ⟨rfl, rfl, Or.inl rfl⟩
  · simp only [h2 5 s (by omega), h2 6 s (by omega), h2 13 s (by omega), h2 14 s (by omega), h2 15 s (by omega), h2 16 s (by omega), z0 (6 + 4 * s) 1 (by omega), z0 (6 + 4 * s) 2 (by omega), z0 (6 + 4 * s) 9 (by omega), z0 (6 + 4 * s) 10 (by omega), z0 (6 + 4 * s) 11 (by omega), z0 (6 + 4 * s) 12 (by omega)]
    simp
  · rw [z0 _ _ (by omega), h2 _ _ (by omega)]
end IM
