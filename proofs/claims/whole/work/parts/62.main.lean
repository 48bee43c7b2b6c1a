def frC (I I' : Nat → Nat → Int32) : Prop := (∀ o k, stC o k → I' o k = I o k) ∧ (∀ o k, o = 166 ∨ o = 168 ∨ o = 169 ∨ o = 176 ∨ o = 177 → I' o k = I o k) ∧ I' 174 0 = I 174 0 ∧ I' 174 3 = I 174 3 ∧ ∀ s, s < 40 → I (6 + 4 * s) 0 = 0 → I' (6 + 4 * s) 8 = I (6 + 4 * s) 8
def frM (P P' : Nat → Nat → Int32) : Prop := (∀ o k, (3 ≤ o ∧ o ≤ 11) ∨ o = 20 ∨ o = 21 ∨ o = 32 → P' o k = P o k) ∧ ∀ k, k = 0 ∨ k = 29 ∨ k = 31 ∨ k = 37 → P' 0 k = P 0 k
def qW (V : Vw) (P : Nat → Nat → Int32) (s : Nat) : Nat := whyV V (fun f => decide (P 1 f = 1)) (P 2) (fun k => P 19 (6 * s + k)) (decide (P 12 s = 1)) (otM P s) s
section MA
variable {V : Vw} {z b z2 c N s t T tl : Nat} {I P : Nat → Nat → Int32} {J : Nat → Nat → Int64} {F F2 : Nat → Option HE} {A R D : Nat → Bool} {Rk : Nat → Nat}
theorem frC_r : frC I I := ⟨fun _ _ _ => rfl, fun _ _ _ => rfl, rfl, rfl, fun _ _ _ => rfl⟩
theorem frM_r : frM P P := ⟨fun _ _ _ => rfl, fun _ _ => rfl⟩
theorem frC_t {I' I'' : Nat → Nat → Int32} (h : frC I I') (h' : frC I' I'') : frC I I'' := ⟨fun o k x => by rw [h'.1 o k x, h.1 o k x], fun o k x => by rw [h'.2.1 o k x, h.2.1 o k x], by rw [h'.2.2.1, h.2.2.1], by rw [h'.2.2.2.1, h.2.2.2.1], fun s hs h0 => by rw [h'.2.2.2.2 s hs (by rw [h.1 _ _ (by right; omega)]; exact h0), h.2.2.2.2 s hs h0]⟩
theorem frM_t {P' P'' : Nat → Nat → Int32} (h : frM P P') (h' : frM P' P'') : frM P P'' := ⟨fun o k x => by rw [h'.1 o k x, h.1 o k x], fun k x => by rw [h'.2 k x, h.2 k x]⟩
theorem frC_V {I' : Nat → Nat → Int32} (h : frC I I') (hc : CV V I) : CV V I' := CV_c hc h.1
theorem frM_V {P' : Nat → Nat → Int32} (h : frM P P') (hm : MV V P) : MV V P' := MV_c hm (fun o ho => by funext k; exact h.1 o k (by rcases ho with h | h | h | h | h | h <;> omega))
theorem frM_row {P' : Nat → Nat → Int32} (h : ∀ o, o ≠ 22 → P' o = P o) : frM P P' := ⟨fun o k x => by rw [h o (by omega)], fun k x => by rw [h 0 (by omega)]⟩
theorem whyV_lt {Fi : Nat → Bool} {Co mc : Nat → Int32} {md ot : Bool} : whyV V Fi Co mc md ot s < 100 := by
  unfold whyV
  split
  · omega
  · split
    · omega
    · split
      · omega
      · split <;> omega
theorem qW_lt : qW V P s < 100 := whyV_lt
theorem b2_d {x : Int32} (h : x = 0 ∨ x = 1) : x = b2 (decide (x = 1)) := by
  rcases h with h | h <;> subst h <;> rfl
theorem cw_why (hw : VW V) (hc : CV V I) (hm : MV V P) (h : LK V A R D T tl I P) (hs : s < 40) (hth : vth V s = true) (hR : R s = false) (hN : 100 < N) (J' : Nat → Nat → Int64) : J_Step_whyDue N (b + (6 + 4 * s)) (b + 1) (z, dH b I J' F) = some (nI (qW V P s), (z, dH b I J' F)) := by
  obtain ⟨h1, h2, h3, h4, _⟩ := h
  obtain ⟨g1, g2, g3⟩ := h3 s hs hth
  rw [q_why (V := V) (Fi := fun f => decide (P 1 f = 1)) (md := decide (P 12 s = 1)) hw hc (fun f hf => by rw [(h1 f hf).2.1]; exact b2_d (h1 f hf).2.2) hs (by omega) (by rw [g1]; exact b2_d g2)]
  congr 3
  have e1 : otC I s = otM P s := by
    have := h2 s hs
    simp only [otC, otM, this, (hc.1 s hs).1, (hc.1 s hs).2.1, (hm.1 s hs hth).1, (hm.1 s hs hth).2]
  have e2 : idS V (fun f => decide (P 1 f = 1)) (I 2) (I (6 + 4 * s + 3)) s = idS V (fun f => decide (P 1 f = 1)) (P 2) (fun k => P 19 (6 * s + k)) s := by
    refine anyB_congr (fun k hk => ?_)
    have := (hw.1 s hs).1
    simp only [idF, (h1 _ (hw.2.1 s k hs hk)).1, h4 s k hs (by omega) (Or.inl hR)]
  simp only [qW, whyV, e1, e2]
theorem mw_why (hw : VW V) (hm : MV V P) (h : LK V A R D T tl I P) (hs : s < 40) (hth : vth V s = true) (hN : 100 < N) (P' : Nat → Nat → Int32) (hP : ∀ o, o ≠ 22 → P' o = P o) : J_Mod_why N c (nI s) (z2, mH c P' F2) = some (nI (qW V P s), (z2, mH c P' F2)) := by
  obtain ⟨h1, h2, h3, h4, _⟩ := h
  obtain ⟨g1, g2, g3⟩ := h3 s hs hth
  have hm' : MV V P' := frM_V (frM_row hP) hm
  have e1 : OR1 V P' s = OR1 V P s := by simp only [OR1, hP 15 (by omega), hP 16 (by omega), hP 17 (by omega), hP 18 (by omega)]
  rw [p_why (V := V) (Fi := fun f => decide (P 1 f = 1)) (md := decide (P 12 s = 1)) hw hm' (fun f hf => by rw [hP 1 (by omega)]; exact b2_d (h1 f hf).2.2) hs hth (by rw [hP 12 (by omega)]; exact b2_d g2) (fun hd => by rw [e1]; exact g3 (by simpa using hd)) hN]
  simp only [qW, otM, hP 2 (by omega), hP 19 (by omega), hP 5 (by omega), hP 6 (by omega), hP 8 (by omega), hP 9 (by omega), hP 13 (by omega), hP 14 (by omega), hP 15 (by omega), hP 16 (by omega)]
theorem swp_L9 {q : Nat → Nat} (h : L9 V A R D) : ∀ n, n ≤ 40 → L9 V A R (swp (fun D s => rdy V A R D s && decide (q s = 0)) D n)
  | 0, _ => h
  | n + 1, hn => by
    have ih := swp_L9 (q := q) h n (by omega)
    rw [swp]
    split
    · rename_i e
      have e1 : rdy V A R (swp (fun D s => rdy V A R D s && decide (q s = 0)) D n) n = true := by simp only [Bool.and_eq_true] at e; exact e.1
      obtain ⟨r1, r2, r3, r4⟩ := rdy_s e1
      obtain ⟨i1, i2, i3⟩ := ih
      refine ⟨fun s hs => ?_, fun s hs hh => ?_, fun s t hs ht hh hT => ?_⟩
      · have : s ≠ n := by intro q; rw [q, r2] at hs; exact absurd hs (by simp)
        simp [i1 s hs, this]
      · by_cases q1 : s = n
        · rw [q1]; exact r1
        · exact i2 s hs (by simpa [q1] using hh)
      · by_cases q1 : s = n
        · subst q1; simp [r4 t ht hT]
        · simp [i3 s t hs ht (by simpa [q1] using hh) hT]
    · exact ih
theorem itr_L9 {q : Nat → Nat} : ∀ n D, L9 V A R D → L9 V A R (itr (fun D s => rdy V A R D s && decide (q s = 0)) n D) ∧ ∀ t, D t = true → itr (fun D s => rdy V A R D s && decide (q s = 0)) n D t = true
  | 0, D, h => ⟨h, fun _ h => h⟩
  | n + 1, D, h => by
    rw [itr]
    split
    · have := itr_L9 (q := q) n _ (swp_L9 (q := q) h 40 (by omega))
      exact ⟨this.1, fun t ht => this.2 t (swp_in ht)⟩
    · exact ⟨h, fun _ h => h⟩
theorem LK_pass {D' : Nat → Bool} {P' : Nat → Nat → Int32} (h : LK V A R D T tl I P) (h9 : L9 V A R D') (hD : ∀ t, D t = true → D' t = true) (hP : ∀ o, o ≠ 22 → P' o = P o) (hS : ∀ s, s < 40 → P' 22 s = stV R D' s) : LK V A R D' T tl I P' := by
  obtain ⟨h1, h2, h3, h4, h5, h6, h7, h8, _, _, h11⟩ := h
  have hc : cnt 40 (fun s => R s || D s) ≤ cnt 40 (fun s => R s || D' s) := cnt_mono (fun k _ e => by
    rcases Bool.or_eq_true _ _ ▸ e with e | e
    · simp [e]
    · simp [hD k e])
  refine ⟨?_, ?_, ?_, ?_, ?_, ?_, ?_, ?_, h9, hS, by omega⟩
  · simp only [L1, hP 1 (by omega), hP 2 (by omega)]; exact h1
  · simp only [L2, hP 5 (by omega), hP 6 (by omega), hP 13 (by omega), hP 14 (by omega), hP 15 (by omega), hP 16 (by omega)]; exact h2
  · simp only [L3, OR1, hP 12 (by omega), hP 15 (by omega), hP 16 (by omega), hP 17 (by omega), hP 18 (by omega)]; exact h3
  · simp only [L4, hP 19 (by omega)]; exact h4
  · simp only [L5, hP 19 (by omega), hP 17 (by omega), hP 24 (by omega)]; exact h5
  · simp only [L6, hP 25 (by omega), hP 23 (by omega)]; exact h6
  · simp only [L7, hP 26 (by omega)]; exact h7
  · simp only [L8, hP 0 (by omega), hP 27 (by omega), hP 28 (by omega), hP 29 (by omega), hP 30 (by omega), hP 31 (by omega)]; exact h8
theorem fr_begin {k e tm du q tl' : Nat} : frC I (bgI (adI I s tm du k q tl') s k e) := by
  refine ⟨fun o j h => ?_, fun o j h => ?_, ?_, ?_, fun s' hs' _ => ?_⟩
  · rcases h with h | h <;> simp (disch := first | assumption | omega | decide) only [bgI, adI, up2_ne]
  · rcases h with h | h | h | h | h <;> simp (disch := first | assumption | omega | decide) only [bgI, adI, up2_ne]
  · simp (disch := first | assumption | omega | decide) only [bgI, adI, up2_ne]
  · simp (disch := first | assumption | omega | decide) only [bgI, adI, up2_ne]
  · simp (disch := first | assumption | omega | decide) only [bgI, adI, up2_ne]
theorem fr_stM {w tm tl' q : Nat} : frM P (stM V (up2 P 31 tl' (nI q)) s w tm tl') := by
  refine ⟨fun o j h => ?_, fun j h => ?_⟩
  · rcases h with h | h | h | h <;> simp (disch := first | assumption | omega | decide) only [stM, up2_ne, stI_ne]
  · rcases h with h | h | h | h <;> simp (disch := first | assumption | omega | decide) only [stM, up2_ne, stI_ne]
theorem fr_mdI {w : Nat} (hs : s < 40) (h0 : ¬ I (6 + 4 * s) 0 = 0) : frC I (up2 (mdI V s I) 171 w 0) := by
  refine ⟨fun o j h => ?_, fun o j h => ?_, ?_, ?_, fun s' hs' h1 => ?_⟩
  · rcases h with h | h <;> simp (disch := first | assumption | omega | decide) only [mdI, up2_ne, flI_ne, mkI_ne]
  · rcases h with h | h | h | h | h <;> simp (disch := first | assumption | omega | decide) only [mdI, up2_ne, flI_ne, mkI_ne]
  · simp (disch := first | assumption | omega | decide) only [mdI, up2_ne, flI_ne, mkI_ne]
  · simp (disch := first | assumption | omega | decide) only [mdI, up2_ne, flI_ne, mkI_ne]
  · have : s' ≠ s := by intro q; rw [q] at h1; exact h0 h1
    simp (disch := first | assumption | omega | decide) only [mdI, up2_ne, flI_ne, mkI_ne]
theorem fr_enM {w : Nat} : frM P (enM V P s w) := by
  refine ⟨fun o j h => ?_, fun j h => ?_⟩
  · rcases h with h | h | h | h <;> simp (disch := first | assumption | omega | decide) only [enM, up2_ne, enI_ne]
  · rcases h with h | h | h | h <;> simp (disch := first | assumption | omega | decide) only [enM, up2_ne, enI_ne]
end MA
