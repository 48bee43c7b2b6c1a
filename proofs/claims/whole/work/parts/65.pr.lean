/-! what class and model hold between two calls -/
def PS (V : Vw) (I P : Nat → Nat → Int32) : Prop := VW V ∧ CV V I ∧ MV V P ∧ (∀ s, s < 40 → I (6 + 4 * s) 0 = b2 (vth V s) ∧ P 4 s = b2 (vth V s)) ∧ L1 I P ∧ L2 I P ∧ L3 V I P ∧ L4 V I P (fun _ => false) ∧ (∀ s, s < 40 → vth V s = false → I (6 + 4 * s) 8 = 0) ∧ (∃ tl, tl ≤ 40 ∧ L8 I P tl) ∧ I 174 0 = P 0 29 ∧ I 174 3 = P 0 31
def RD (I P : Nat → Nat → Int32) : Prop := ∃ m, m ≤ 40 ∧ I 176 1 = nI m ∧ P 0 37 = nI m ∧ ∀ i, i < m → I 177 i = P 32 i
section PR
variable {V : Vw} {z b z2 c N s t T tl : Nat} {I P I' P' : Nat → Nat → Int32} {J : Nat → Nat → Int64} {F F2 : Nat → Option HE} {A R D : Nat → Bool} {Rk ps : Nat → Nat}
theorem PS_c (h : PS V I P) (hI : ∀ o k, o < 166 ∨ o = 174 ∨ o = 175 → I' o k = I o k) (hP : ∀ o k, (1 ≤ o ∧ o ≤ 19) ∨ (27 ≤ o ∧ o ≤ 31) → P' o k = P o k) (hP0 : ∀ k, 28 ≤ k → k ≤ 31 → P' 0 k = P 0 k) : PS V I' P' := by
  obtain ⟨h1, h2, h3, h4, h5, h6, h7, h8, h9, ⟨tl, h10, h11⟩, h12, h13⟩ := h
  have rI : ∀ o, o < 166 ∨ o = 174 ∨ o = 175 → I' o = I o := fun o ho => by funext k; exact hI o k ho
  have rP : ∀ o, (1 ≤ o ∧ o ≤ 19) ∨ (27 ≤ o ∧ o ≤ 31) → P' o = P o := fun o ho => by funext k; exact hP o k ho
  refine ⟨h1, CV_c h2 (fun o k ho => hI o k (by rcases ho with h | h <;> omega)), MV_c h3 (fun o ho => rP o (by omega)), fun s hs => ?_, fun f hf => ?_, fun s hs => ?_, fun s hs hth => ?_, fun s k hs hk hh => ?_, fun s hs hth => ?_, ⟨tl, h10, ?_, ?_, ?_, fun k hk => ?_⟩, ?_, ?_⟩
  · rw [hI _ _ (by omega), hP _ _ (by omega)]; exact h4 s hs
  · rw [hI _ _ (by omega), hI _ _ (by omega), hP _ _ (by omega), hP _ _ (by omega)]; exact h5 f hf
  · simp (disch := first | assumption | omega | decide) only [rI, rP]; exact h6 s hs
  · have := h7 s hs hth
    simp (disch := first | assumption | omega | decide) only [OR1, rI, rP] at this ⊢; exact this
  · simp (disch := first | assumption | omega | decide) only [rI, rP]; exact h8 s k hs hk hh
  · rw [hI _ _ (by omega)]; exact h9 s hs hth
  · rw [hI _ _ (by omega)]; exact h11.1
  · rw [hP0 _ (by omega) (by omega)]; exact h11.2.1
  · rw [hI _ _ (by omega), hP0 _ (by omega) (by omega)]; exact h11.2.2.1
  · simp (disch := first | assumption | omega | decide) only [rI, rP]; exact h11.2.2.2 k hk
  · rw [hI _ _ (by omega), hP0 _ (by omega) (by omega)]; exact h12
  · rw [hI _ _ (by omega), hP0 _ (by omega) (by omega)]; exact h13
theorem RD_c (h : RD I P) (hI : ∀ o k, o = 176 ∨ o = 177 → I' o k = I o k) (hP : ∀ k, P' 32 k = P 32 k) (hP0 : P' 0 37 = P 0 37) : RD I' P' := by
  obtain ⟨m, h1, h2, h3, h4⟩ := h
  refine ⟨m, h1, by rw [hI _ _ (by omega)]; exact h2, by rw [hP0]; exact h3, fun i hi => by rw [hI _ _ (by omega), hP]; exact h4 i hi⟩
theorem Lin_c (h : Lin V A D I ps) (h1 : ∀ k, I' 166 k = I 166 k) (h2 : ∀ k, I' 168 k = I 168 k) : Lin V A D I' ps := by
  have e1 : I' 166 = I 166 := by funext k; exact h1 k
  have e2 : I' 168 = I 168 := by funext k; exact h2 k
  simp only [Lin, e1, e2]; exact h
theorem Lin_ac (h : Lin V A A I ps) : Ac (Ed V A) := by
  refine pos_ac ps (fun s t hs ht hE => ?_)
  simp only [Ed, Bool.and_eq_true] at hE
  exact ((h.2.2.2 s hs hE.1).2.2 t ht hE.2).2
theorem stk_no {Pl : Nat → Bool} (hcl : clo (tk V) A) (h1 : inS Pl A) (h2 : Stk V A Pl) (h3 : ∃ s, s < 40 ∧ A s = true ∧ Pl s = false) : ¬ ∀ s, s < 40 → A s = true → ∀ d, 1 ≤ d → d ≤ 40 → wk (Ed V A) s d s = false := by
  intro hno
  have ha : Ac (Ed V A) := by
    intro s hs d
    cases e : wk (Ed V A) s (d + 1) s
    · rfl
    · obtain ⟨d0, g1, g2, g3⟩ := cyc_short e
      obtain ⟨u, hu, g4, g5⟩ := wk_s.mp e
      have hA : A s = true := by simp [Ed] at g4; exact g4.1
      rw [hno s hs hA (d0 + 1) (by omega) (by omega)] at g3
      exact g3.symm
  obtain ⟨s, hs, g1, g2⟩ := h3
  have := stuck_cyc (E := Ed V A) (fun s => A s && !Pl s) (fun s hs hU => by
    simp only [Bool.and_eq_true, Bool.not_eq_true'] at hU
    obtain ⟨t, ht, k1, k2⟩ := h2 s hs hU.1 hU.2
    exact ⟨t, ht, by simp [hcl s t hs ht hU.1 k1, k2], by simp [Ed, hU.1, k1]⟩) ha s hs
  simp [g1, g2] at this
theorem G_u {G G' : Nat} (h1 : ∀ s, s < 40 → A s = true → Rk s ≤ G) (h2 : G = 0 ∨ ∃ s, s < 40 ∧ A s = true ∧ Rk s = G) (h1' : ∀ s, s < 40 → A s = true → Rk s ≤ G') (h2' : G' = 0 ∨ ∃ s, s < 40 ∧ A s = true ∧ Rk s = G') : G = G' := by
  have a : G ≤ G' := by
    rcases h2 with h | ⟨s, hs, hA, h⟩
    · omega
    · have := h1' s hs hA; omega
  have b : G' ≤ G := by
    rcases h2' with h | ⟨s, hs, hA, h⟩
    · omega
    · have := h1 s hs hA; omega
  omega
theorem b_isFile {f : Nat} {M : Nat → Option HE} (hf : f < 64) : J_Desk_isFile N (nI f) (z, M) = some (1, (z, M)) := by
  simp (disch := first | assumption | omega | decide) only [J_Desk_isFile, ifp, ifn, Option.bind_some, n_s, n_le, n_lt, n_eq, l8, l40, l64, g40, u40, u6, u3, u0, mul6, mul3, J_bit, cmp0, b2_0, zR_b, zR_0, zR_1, up2_eq, up2_ne, up2J_eq, up2J_ne, mkv_eq, n_m1]
theorem p_isFile {f : Nat} {M : Nat → Option HE} (hf : f < 64) : J_Mod_isFile N (nI f) (z, M) = some (1, (z, M)) := by
  simp (disch := first | assumption | omega | decide) only [J_Mod_isFile, ifp, ifn, Option.bind_some, n_s, n_le, n_lt, n_eq, l8, l40, l64, g40, u40, u6, u3, u0, mul6, mul3, J_bit, cmp0, b2_0, zR_b, zR_0, zR_1, up2_eq, up2_ne, up2J_eq, up2J_ne, mkv_eq, n_m1]
theorem le8 {k : Nat} (h : k < 2 ^ 31) : (nI k ≤ (8 : Int32)) = (k ≤ 8) := n_le (k := 8) h (by decide)
theorem lt1 {k : Nat} (h : k < 2 ^ 31) : (nI k < (1 : Int32)) = (k < 1) := n_lt (k := 1) h (by decide)
/-- the part of a build behind the refusals -/
theorem build_run {wk : Nat} {x : Nat → Bool} (hS : PS V I P) (hRD : RD I P) (hJ : ∀ s, s < 40 → isB (J 167 s) (tk V s)) (hA : isB (J 166 4) A) (hP20 : ∀ s, s < 40 → P 20 s = b2 (A s)) (hAt : ∀ s, s < 40 → A s = true → vth V s = true) (hL : Lin V A A I ps) (h00 : P 0 0 = 0) (hwk : wk ≤ 8) (hN : 1000000 < N) : ∃ I1 I' J' P1 P' tm, J_Plan_rankSteps N (b + 166) (b + 5) (z, dH b I J F) = some ((), (z, dH b I1 J F)) ∧ ((J_Rep_open N (b + 174) (b + 166) (z, dH b I1 J F)).bind fun q16 => (isO q16.2 6 b).bind fun _ => (J_Desk_makeNeeded N b (nI wk) q16.2).bind fun q17 => some ((Sum.inr q17.1 : Nat ⊕ Int32), q17.2)) = some (.inr (nI tm), (z, dH b I' J' F)) ∧ J_Mod_order N c (z2, mH c P F2) = some ((), (z2, mH c P1 F2)) ∧ J_Mod_build_86 N N c (nI wk) 0 (z2, mH c (up2 (up2 (up2 (up2 (up2 P1 0 28 0) 0 29 0) 0 30 0) 0 31 0) 0 27 0) F2) = some (nI tm, (z2, mH c P' F2)) ∧ P' 0 0 = 0 ∧ PS V I' P' ∧ RD I' P' := by
  obtain ⟨h1, h2, h3, h4, h5, h6, h7, h8, h9, h10, h11, h12⟩ := hS
  obtain ⟨Rc, I1, a1, a2, a3, a4⟩ := q_rankSteps (V := V) (A := A) (ps := ps) (N := N) (z := z) (b := b) (I := I) (J := J) (F := F) h1 h2 hJ hL (by omega)
  have hps : ∀ s, s < 40 → A s = true → ps s < 40 ∧ ∀ t, t < 40 → tk V s t = true → A t = true ∧ ps t < ps s := fun s hs hAs => ⟨by have := (hL.2.2.2 s hs hAs).1; have := @cnt_le A 40; omega, (hL.2.2.2 s hs hAs).2.2⟩
  obtain ⟨P1, b1, b2', b3⟩ := p_order (V := V) (A := A) (ps := ps) (Rc := Rc) (N := N) (z := z2) (b := c) (P := P) (F := F2) h1 h3 hP20 hAt (fun s hs => (a3 s hs).2) hps a2 hN
  -- the report is opened
  have L1' : Lin V A A (up2 (up2 (up2 I1 174 0 (nI (cnt 40 A))) 174 1 0) 174 2 0) ps := Lin_c (Lin_c hL (fun k => a4 166 k (by omega)) (fun k => a4 168 k (by omega))) (fun k => by simp (disch := first | assumption | omega | decide) only [up2_ne]) (fun k => by simp (disch := first | assumption | omega | decide) only [up2_ne])
  obtain ⟨G, c1, c2, c3, c4⟩ := q_greatest (V := V) (A := A) (ps := ps) (R := Rc) (N := N) (z := z) (b := b) (I := up2 (up2 (up2 I1 174 0 (nI (cnt 40 A))) 174 1 0) 174 2 0) (J := J) (F := F) L1' (fun s hs => by simp (disch := first | assumption | omega | decide) only [up2_ne]; exact a3 s hs) (by omega)
  have e166 : I1 166 2 = nI (cnt 40 A) := by rw [a4 _ _ (by omega)]; exact hL.2.1
  have d1 : J_Rep_open N (b + 174) (b + 166) (z, dH b I1 J F) = some ((), (z, dH b (up2 (up2 (up2 (up2 I1 174 0 (nI (cnt 40 A))) 174 1 0) 174 2 0) 174 3 (nI G)) J F)) := by
    simp (disch := first | assumption | omega | decide) only [J_Rep_open, e166, c1, DO_0, DR_0_0, DR_0_1, DR_0_2, DR_0_3, DR_0_4, DR_0_5, DO_1, DR_1_0, DR_1_1, DR_1_2, DA_2, DB_2, DA_3, DB_3, DA_4, DB_4, DA_5, DO_166, DR_166_0, DR_166_1, DG_166_2, DS_166_2, DR_166_3, DG_166_4, DS_166_4, DA_167, DB_167, DA_168, DB_168, DA_169, DB_169, DO_170, DR_170_0, DR_170_1, DR_170_2, DG_170_3, DS_170_3, DG_170_4, DS_170_4, DA_171, DB_171, DA_172, DB_172, DA_173, DB_173, DO_174, DG_174_0, DS_174_0, DG_174_1, DS_174_1, DG_174_2, DS_174_2, DG_174_3, DS_174_3, DR_174_4, DA_175, DB_175, DO_176, DR_176_0, DG_176_1, DS_176_1, DR_176_2, DA_177, DB_177, DA_178, DB_178, DO_st, DG_st_0, DS_st_0, DG_st_1, DS_st_1, DG_st_2, DS_st_2, DG_st_3, DS_st_3, DR_st_4, DG_st_5, DS_st_5, DR_st_6, DG_st_7, DS_st_7, DG_st_8, DS_st_8, DG_st_9, DS_st_9, DG_st_10, DS_st_10, DG_st_11, DS_st_11, DG_st_12, DS_st_12, DR_st_13, DA_st_1, DB_st_1, DA_st_2, DB_st_2, DA_st_3, DB_st_3, ifp, ifn, Option.bind_some, n_s, n_le, n_lt, n_eq, l8, l40, l64, g40, u40, u6, u3, u0, mul6, mul3, J_bit, cmp0, b2_0, zR_b, zR_0, zR_1, up2_eq, up2_ne, up2J_eq, up2J_ne, mkv_eq, n_m1]
  obtain ⟨I4, f1, f2, f3⟩ := q_comeIn (N := N) (z := z) (b := b) (I := up2 (up2 (up2 (up2 I1 174 0 (nI (cnt 40 A))) 174 1 0) 174 2 0) 174 3 (nI G)) (J := J) (F := F) (by omega)
  obtain ⟨P6, G', g1, g2, g3, g4, g5, g6, g7, g8, g9⟩ := p_init (A := A) (Rk := Rc) (N := N) (z2 := z2) (c := c) (P := up2 (up2 (up2 (up2 (up2 P1 0 28 0) 0 29 0) 0 30 0) 0 31 0) 0 27 0) (F2 := F2) (x2 := nI wk) (fun s hs => by simp (disch := first | assumption | omega | decide) only [up2_ne]; rw [b2' 20 (by omega)]; exact hP20 s hs) (fun s hs => by simp (disch := first | assumption | omega | decide) only [up2_ne]; exact b3 s hs) (fun s hs => (a3 s hs).2) (by simp (disch := first | assumption | omega | decide) only [up2_ne, up2_eq]; rfl) (by simp (disch := first | assumption | omega | decide) only [up2_ne, up2_eq]; rfl) (by omega)
  have hG : G = G' := G_u c3 c4 g7 g8
  have hI4 : ∀ o k, o ≠ 169 → o ≠ 171 → o ≠ 174 → I4 o k = I o k := fun o k o1 o2 o3 => by
    rw [f3 o k o2]
    simp (disch := first | assumption | omega | decide) only [up2_ne]
    exact a4 o k o1
  have hP6 : ∀ o k, o ≠ 21 → o ≠ 22 → o ≠ 26 → o ≠ 0 → P6 o k = P o k := fun o k o1 o2 o3 o4 => by
    rw [g9 o k o2 o3 (by omega)]
    simp (disch := first | assumption | omega | decide) only [up2_ne]
    rw [b2' o o1]
  have hP60 : ∀ k, k = 0 ∨ k = 37 → P6 0 k = P 0 k := fun k hk => by
    rw [g9 0 k (by omega) (by omega) (by omega)]
    simp (disch := first | assumption | omega | decide) only [up2_ne]
    rw [b2' 0 (by omega)]
  have E : Env V A Rc I4 P6 (up2J (up2J J 170 3 0) 170 4 0) := by
    refine ⟨h1, CV_c h2 (fun o k ho => hI4 o k (by rcases ho with h | h <;> omega) (by rcases ho with h | h <;> omega) (by rcases ho with h | h <;> omega)), MV_c h3 (fun o ho => by funext k; exact hP6 o k (by omega) (by omega) (by omega) (by omega)), fun s hs => ?_, ?_, fun s hs => ?_, hAt, fun s hs hAs => ⟨?_, ?_, ?_, (a3 s hs).2⟩, fun s hs => ?_⟩
    · rw [up2J_ne (by omega), up2J_ne (by omega)]; exact hJ s hs
    · rw [up2J_ne (by omega), up2J_ne (by omega)]; exact hA
    · rw [hP6 _ _ (by omega) (by omega) (by omega) (by omega)]; exact hP20 s hs
    · rw [f3 _ _ (by omega)]
      simp (disch := first | assumption | omega | decide) only [up2_ne]
      exact (a3 s hs).1
    · rw [g9 _ _ (by omega) (by omega) (by omega)]
      simp (disch := first | assumption | omega | decide) only [up2_ne]
      rw [b3 s hs, hAs]; rfl
    · have := a2.1 s hs
      have := h1.2.2.2.2.2.1 s hs (hAt s hs hAs)
      omega
    · rw [hI4 _ _ (by omega) (by omega) (by omega)]; exact (h4 s hs).1
  have K : LK V A (fun _ => false) (fun _ => false) 0 0 I4 P6 := by
    refine ⟨fun f hf => ?_, fun s hs => ?_, fun s hs hth => ?_, fun s k hs hk hh => ?_, fun s hs hR => absurd hR (by simp), fun s hs hR => absurd hR (by simp), fun w hw => ?_, ⟨?_, ?_, ?_, fun k hk => by omega⟩, ⟨fun s h => absurd h (by simp), fun s hs h => absurd h (by simp), fun s t _ _ h => absurd h (by simp)⟩, fun s hs => ?_, Nat.zero_le _⟩
    · simp (disch := first | assumption | omega | decide) only [hI4, hP6]; exact h5 f hf
    · simp (disch := first | assumption | omega | decide) only [hI4, hP6]; exact h6 s hs
    · have := h7 s hs hth
      simp (disch := first | assumption | omega | decide) only [OR1, hI4, hP6] at this ⊢; exact this
    · simp (disch := first | assumption | omega | decide) only [hI4, hP6]; exact h8 s k hs hk hh
    · rw [f2 w hw, g3 w hw]; exact ⟨rfl, Or.inl rfl⟩
    · rw [f3 _ _ (by omega)]; simp (disch := first | assumption | omega | decide) only [up2_ne, up2_eq]; rfl
    · rw [g9 _ _ (by omega) (by omega) (by omega)]; simp (disch := first | assumption | omega | decide) only [up2_ne, up2_eq]; rfl
    · rw [f3 _ _ (by omega), g9 _ _ (by omega) (by omega) (by omega)]; simp (disch := first | assumption | omega | decide) only [up2_ne, up2_eq]
    · rw [g2 s hs]; simp [stV]
  obtain ⟨I', J', P', R', D', tl', tm, m1, m2, m3, m4, m5, m6⟩ := lk_main (V := V) (A := A) (Rk := Rc) (N := N) (z := z) (b := b) (z2 := z2) (c := c) (F := F) (F2 := F2) (wk := wk) E K (by rw [up2J_ne (by omega), up2J_eq]; exact isB_0) (by rw [up2J_eq]; exact isB_0) (by rw [g9 _ _ (by omega) (by omega) (by omega)]; simp (disch := first | assumption | omega | decide) only [up2_eq]; rfl) hwk (by omega)
  have m1' : J_Desk_makeNeeded_11 N N b (nI wk) (0 : Int32) (0 : Int32) (z, dH b I4 (up2J (up2J J 170 3 0) 170 4 0) F) = _ := m1
  have g1' : J_Mod_build_86 N N c (nI wk) 0 (z2, mH c (up2 (up2 (up2 (up2 (up2 P1 0 28 0) 0 29 0) 0 30 0) 0 31 0) 0 27 0) F2) = _ := g1
  refine ⟨I1, I', J', P1, P', tm, a1, ?_, b1, by rw [g1', m2], ?_, ?_, ?_⟩
  · rw [d1]
    simp (disch := first | assumption | omega | decide) only [J_Desk_makeNeeded, f1, m1', DO_0, DR_0_0, DR_0_1, DR_0_2, DR_0_3, DR_0_4, DR_0_5, DO_1, DR_1_0, DR_1_1, DR_1_2, DA_2, DB_2, DA_3, DB_3, DA_4, DB_4, DA_5, DO_166, DR_166_0, DR_166_1, DG_166_2, DS_166_2, DR_166_3, DG_166_4, DS_166_4, DA_167, DB_167, DA_168, DB_168, DA_169, DB_169, DO_170, DR_170_0, DR_170_1, DR_170_2, DG_170_3, DS_170_3, DG_170_4, DS_170_4, DA_171, DB_171, DA_172, DB_172, DA_173, DB_173, DO_174, DG_174_0, DS_174_0, DG_174_1, DS_174_1, DG_174_2, DS_174_2, DG_174_3, DS_174_3, DR_174_4, DA_175, DB_175, DO_176, DR_176_0, DG_176_1, DS_176_1, DR_176_2, DA_177, DB_177, DA_178, DB_178, DO_st, DG_st_0, DS_st_0, DG_st_1, DS_st_1, DG_st_2, DS_st_2, DG_st_3, DS_st_3, DR_st_4, DG_st_5, DS_st_5, DR_st_6, DG_st_7, DS_st_7, DG_st_8, DS_st_8, DG_st_9, DS_st_9, DG_st_10, DS_st_10, DG_st_11, DS_st_11, DG_st_12, DS_st_12, DR_st_13, DA_st_1, DB_st_1, DA_st_2, DB_st_2, DA_st_3, DB_st_3, ifp, ifn, Option.bind_some, n_s, n_le, n_lt, n_eq, l8, l40, l64, g40, u40, u6, u3, u0, mul6, mul3, J_bit, cmp0, b2_0, zR_b, zR_0, zR_1, up2_eq, up2_ne, up2J_eq, up2J_ne, mkv_eq, n_m1]
  · rw [m6.2 0 (by omega), hP60 0 (by omega)]; exact h00
  · obtain ⟨k1, k2, k3, k4, k5, k6, k7, k8, k9, k10, k11⟩ := m3
    obtain ⟨e1, e2, e3, e4, e5, e6, e7, e8, e9⟩ := Env_f (J' := up2J (up2J J 170 3 0) 170 4 0) E m5 m6 (fun _ _ _ => rfl)
    refine ⟨e1, e2, e3, fun s hs => ⟨e9 s hs, ?_⟩, k1, k2, k3, fun s k hs hk _ => k4 s k hs hk (Or.inl (m4 s hs)), fun s hs hth => ?_, ⟨tl', ?_, k8⟩, ?_, ?_⟩
    · rw [m6.1 4 s (by omega), hP6 _ _ (by omega) (by omega) (by omega) (by omega)]; exact (h4 s hs).2
    · have q : I4 (6 + 4 * s) 0 = 0 := by
        rw [hI4 _ _ (by omega) (by omega) (by omega), (h4 s hs).1, hth]; rfl
      rw [m5.2.2.2.2 s hs q, hI4 _ _ (by omega) (by omega) (by omega)]
      exact h9 s hs hth
    · have := @cnt_le (fun s => R' s || D' s) 40
      omega
    · rw [m5.2.2.1, m6.2 29 (by omega), g4, f3 _ _ (by omega)]; simp (disch := first | assumption | omega | decide) only [up2_ne, up2_eq]
    · rw [m5.2.2.2.1, m6.2 31 (by omega), g5, f3 _ _ (by omega), ← hG]; simp (disch := first | assumption | omega | decide) only [up2_eq]
  · refine RD_c hRD (fun o k ho => ?_) (fun k => ?_) ?_
    · rw [m5.2.1 o k (by omega), hI4 _ _ (by omega) (by omega) (by omega)]
    · rw [m6.1 32 k (by omega), hP6 _ _ (by omega) (by omega) (by omega) (by omega)]
    · rw [m6.2 37 (by omega), hP60 37 (by omega)]
end PR
