theorem lpx2 {σ τ Q S : Type} (K : Nat) (f : Nat → σ → Q) (g : Nat → τ → S) (Inv : Nat → σ → τ → Prop) (Post : Q → S → Prop) (step : ∀ n m k a c, k < K → Inv k a c → Post (f (n + 1) a) (g (m + 1) c) ∨ ∃ a' c', f (n + 1) a = f n a' ∧ g (m + 1) c = g m c' ∧ Inv (k + 1) a' c') (fin : ∀ n m a c, Inv K a c → Post (f (n + 1) a) (g (m + 1) c)) : ∀ n m a c, K < n → K < m → Inv 0 a c → Post (f n a) (g m c) := by
  have H : ∀ j n m k a c, k + j = K → j < n → j < m → Inv k a c → Post (f n a) (g m c) := by
    intro j
    induction j with
    | zero =>
      intro n m k a c hk hn hm hi
      cases n with
      | zero => omega
      | succ n =>
        cases m with
        | zero => omega
        | succ m =>
          have e : k = K := by omega
          subst e
          exact fin n m a c hi
    | succ j ih =>
      intro n m k a c hk hn hm hi
      cases n with
      | zero => omega
      | succ n =>
        cases m with
        | zero => omega
        | succ m =>
          rcases step n m k a c (by omega) hi with hp | ⟨a', c', he, he2, hi'⟩
          · exact hp
          · rw [he, he2]; exact ih n m (k + 1) a' c' (by omega) (by omega) (by omega) hi'
  intro n m a c hn hm hi
  exact H K n m 0 a c (by omega) hn hm hi
theorem mul5 (k : Nat) : nI k * (5 : Int32) = nI (5 * k) := by
  show Int32.ofNat k * Int32.ofNat 5 = _
  rw [← Int32.ofNat_mul, Nat.mul_comm]; rfl
theorem n_p2 (k : Nat) : nI k + (2 : Int32) = nI (k + 2) := n_add k 2
theorem n_p3 (k : Nat) : nI k + (3 : Int32) = nI (k + 3) := n_add k 3
theorem n_p4 (k : Nat) : nI k + (4 : Int32) = nI (k + 4) := n_add k 4
theorem n_ad (a k : Nat) : nI (a + k) - nI a = nI k := by rw [n_sub (by omega)]; congr 1; omega
def adI (I : Nat → Nat → Int32) (s tm du k q tl : Nat) : Nat → Nat → Int32 := up2 (up2 (up2 (up2 (up2 (up2 (up2 I 175 (5 * tl) (nI s)) 175 (5 * tl + 1) (nI tm)) 175 (5 * tl + 2) (nI (tm + du))) 175 (5 * tl + 3) (nI k)) 175 (5 * tl + 4) (nI q)) 174 1 (nI (tl + 1))) 174 2 (I 174 2 + nI du)
def bgI (I : Nat → Nat → Int32) (s k e : Nat) : Nat → Nat → Int32 := up2 (up2 (up2 I 171 k 1) 172 s (nI k)) 173 s (nI e)
def stI (V : Vw) (s : Nat) (P : Nat → Nat → Int32) : Nat → Nat → Nat → Int32
  | 0 => P
  | k + 1 => up2 (up2 (stI V s P k) 17 (6 * s + k) (nI (vin V s k))) 19 (6 * s + k) (P 2 (vin V s k))
def stM (V : Vw) (P : Nat → Nat → Int32) (s w tm tl : Nat) : Nat → Nat → Int32 := up2 (up2 (up2 (up2 (up2 (up2 (up2 (up2 (up2 (up2 (up2 (stI V s P (vic V s)) 27 tl (nI s)) 28 tl (nI tm)) 29 tl (nI (tm + vdu V s))) 30 tl (nI w)) 0 28 (nI (tl + 1))) 0 30 (P 0 30 + nI (vdu V s))) 24 s (hF V s (P 2) (P 5 s) (vic V s))) 22 s 1) 23 s (nI (tm + vdu V s))) 25 s (nI w)) 26 w 1
def enI (V : Vw) (s : Nat) (h m : Int32) (P : Nat → Nat → Int32) : Nat → Nat → Nat → Int32
  | 0 => P
  | k + 1 => up2 (up2 (up2 (enI V s h m P k) 1 (vou V s k) 1) 2 (vou V s k) ((h + nI k) &&& m)) 18 (3 * s + k) (nI (vou V s k))
def enM (V : Vw) (P : Nat → Nat → Int32) (s w : Nat) : Nat → Nat → Int32 := up2 (up2 (up2 (up2 (up2 (enI V s (P 24 s) (P 6 s) (up2 (up2 P 22 s 2) 26 w 0) (voc V s)) 12 s 1) 13 s (P 5 s)) 14 s (P 6 s)) 15 s (nI (vic V s))) 16 s (nI (voc V s))
section OP
variable {V : Vw} {z b N s t : Nat} {I P : Nat → Nat → Int32} {J : Nat → Nat → Int64} {F : Nat → Option HE}
theorem stI_ne {o j : Nat} (h1 : o ≠ 17) (h2 : o ≠ 19) : ∀ {k : Nat}, stI V s P k o j = P o j
  | 0 => rfl
  | k + 1 => by rw [stI, up2_ne (Or.inl h2), up2_ne (Or.inl h1), stI_ne h1 h2]
theorem enI_ne {h m : Int32} {o j : Nat} (h1 : o ≠ 1) (h2 : o ≠ 2) (h3 : o ≠ 18) : ∀ {k : Nat}, enI V s h m P k o j = P o j
  | 0 => rfl
  | k + 1 => by rw [enI, up2_ne (Or.inl h3), up2_ne (Or.inl h2), up2_ne (Or.inl h1), enI_ne h1 h2 h3]
theorem q_add {tm du k q tl : Nat} (ht : I 174 1 = nI tl) (hl : tl < 40) : J_Rep_add N (b + 174) (nI s) (nI tm) (nI (tm + du)) (nI k) (nI q) (z, dH b I J F) = some ((), (z, dH b (adI I s tm du k q tl) J F)) := by
  simp (disch := first | assumption | omega | decide) only [J_Rep_add, ht, mul5, n_p2, n_p3, n_p4, n_ad, DO_0, DR_0_0, DR_0_1, DR_0_2, DR_0_3, DR_0_4, DR_0_5, DO_1, DR_1_0, DR_1_1, DR_1_2, DA_2, DB_2, DA_3, DB_3, DA_4, DB_4, DA_5, DO_166, DR_166_0, DR_166_1, DG_166_2, DS_166_2, DR_166_3, DG_166_4, DS_166_4, DA_167, DB_167, DA_168, DB_168, DA_169, DB_169, DO_170, DR_170_0, DR_170_1, DR_170_2, DG_170_3, DS_170_3, DG_170_4, DS_170_4, DA_171, DB_171, DA_172, DB_172, DA_173, DB_173, DO_174, DG_174_0, DS_174_0, DG_174_1, DS_174_1, DG_174_2, DS_174_2, DG_174_3, DS_174_3, DR_174_4, DA_175, DB_175, DO_176, DR_176_0, DG_176_1, DS_176_1, DR_176_2, DA_177, DB_177, DA_178, DB_178, DO_st, DG_st_0, DS_st_0, DG_st_1, DS_st_1, DG_st_2, DS_st_2, DG_st_3, DS_st_3, DR_st_4, DG_st_5, DS_st_5, DR_st_6, DG_st_7, DS_st_7, DG_st_8, DS_st_8, DG_st_9, DS_st_9, DG_st_10, DS_st_10, DG_st_11, DS_st_11, DG_st_12, DS_st_12, DR_st_13, DA_st_1, DB_st_1, DA_st_2, DB_st_2, DA_st_3, DB_st_3, ifp, ifn, Option.bind_some, n_s, n_le, n_lt, n_eq, l8, l40, l64, g40, u40, u6, u3, u0, mul6, mul3, J_bit, cmp0, b2_0, zR_b, zR_0, zR_1, up2_eq, up2_ne, up2J_eq, up2J_ne, mkv_eq, n_m1]
  rfl
theorem q_begin {k e : Nat} (hs : s < 40) (hk : k < 8) : J_Crew_begin N (b + 170) (nI s) (nI k) (nI e) (z, dH b I J F) = some ((), (z, dH b (bgI I s k e) (up2J J 170 3 (J 170 3 ||| bitw s)) F)) := by
  simp (disch := first | assumption | omega | decide) only [J_Crew_begin, DO_0, DR_0_0, DR_0_1, DR_0_2, DR_0_3, DR_0_4, DR_0_5, DO_1, DR_1_0, DR_1_1, DR_1_2, DA_2, DB_2, DA_3, DB_3, DA_4, DB_4, DA_5, DO_166, DR_166_0, DR_166_1, DG_166_2, DS_166_2, DR_166_3, DG_166_4, DS_166_4, DA_167, DB_167, DA_168, DB_168, DA_169, DB_169, DO_170, DR_170_0, DR_170_1, DR_170_2, DG_170_3, DS_170_3, DG_170_4, DS_170_4, DA_171, DB_171, DA_172, DB_172, DA_173, DB_173, DO_174, DG_174_0, DS_174_0, DG_174_1, DS_174_1, DG_174_2, DS_174_2, DG_174_3, DS_174_3, DR_174_4, DA_175, DB_175, DO_176, DR_176_0, DG_176_1, DS_176_1, DR_176_2, DA_177, DB_177, DA_178, DB_178, DO_st, DG_st_0, DS_st_0, DG_st_1, DS_st_1, DG_st_2, DS_st_2, DG_st_3, DS_st_3, DR_st_4, DG_st_5, DS_st_5, DR_st_6, DG_st_7, DS_st_7, DG_st_8, DS_st_8, DG_st_9, DS_st_9, DG_st_10, DS_st_10, DG_st_11, DS_st_11, DG_st_12, DS_st_12, DR_st_13, DA_st_1, DB_st_1, DA_st_2, DB_st_2, DA_st_3, DB_st_3, ifp, ifn, Option.bind_some, n_s, n_le, n_lt, n_eq, l8, l40, l64, g40, u40, u6, u3, u0, mul6, mul3, J_bit, cmp0, b2_0, zR_b, zR_0, zR_1, up2_eq, up2_ne, up2J_eq, up2J_ne, mkv_eq, n_m1]
  rfl
theorem q_end {w : Nat} (hs : s < 40) (hk : w < 8) (h1 : I 172 s = nI w) : J_Crew_end N (b + 170) (nI s) (z, dH b I J F) = some ((), (z, dH b (up2 I 171 w 0) (up2J (up2J J 170 3 (J 170 3 &&& (bitw s ^^^ (-1)))) 170 4 (J 170 4 ||| bitw s)) F)) := by
  simp (disch := first | assumption | omega | decide) only [J_Crew_end, h1, DO_0, DR_0_0, DR_0_1, DR_0_2, DR_0_3, DR_0_4, DR_0_5, DO_1, DR_1_0, DR_1_1, DR_1_2, DA_2, DB_2, DA_3, DB_3, DA_4, DB_4, DA_5, DO_166, DR_166_0, DR_166_1, DG_166_2, DS_166_2, DR_166_3, DG_166_4, DS_166_4, DA_167, DB_167, DA_168, DB_168, DA_169, DB_169, DO_170, DR_170_0, DR_170_1, DR_170_2, DG_170_3, DS_170_3, DG_170_4, DS_170_4, DA_171, DB_171, DA_172, DB_172, DA_173, DB_173, DO_174, DG_174_0, DS_174_0, DG_174_1, DS_174_1, DG_174_2, DS_174_2, DG_174_3, DS_174_3, DR_174_4, DA_175, DB_175, DO_176, DR_176_0, DG_176_1, DS_176_1, DR_176_2, DA_177, DB_177, DA_178, DB_178, DO_st, DG_st_0, DS_st_0, DG_st_1, DS_st_1, DG_st_2, DS_st_2, DG_st_3, DS_st_3, DR_st_4, DG_st_5, DS_st_5, DR_st_6, DG_st_7, DS_st_7, DG_st_8, DS_st_8, DG_st_9, DS_st_9, DG_st_10, DS_st_10, DG_st_11, DS_st_11, DG_st_12, DS_st_12, DR_st_13, DA_st_1, DB_st_1, DA_st_2, DB_st_2, DA_st_3, DB_st_3, ifp, ifn, Option.bind_some, n_s, n_le, n_lt, n_eq, l8, l40, l64, g40, u40, u6, u3, u0, mul6, mul3, J_bit, cmp0, b2_0, zR_b, zR_0, zR_1, up2_eq, up2_ne, up2J_eq, up2J_ne, mkv_eq, n_m1]
theorem p_start {w tm tl : Nat} (hw : VW V) (hm : MV V P) (hs : s < 40) (hth : vth V s = true) (hk : w < 8) (hl : tl < 40) (h28 : P 0 28 = nI tl) (h27 : P 0 27 = nI tm) (hN : 100 < N) : J_Mod_start N b (nI s) (nI w) (z, mH b P F) = some ((), (z, mH b (stM V P s w tm tl) F)) := by
  have a1 := hm.1 s hs hth
  have a2 := hw.1 s hs
  have a3 := hm.2.2.2.2 s hs
  simp (disch := first | assumption | omega | decide) only [J_Mod_start, MO_0, MG_0_0, MS_0_0, MR_0_1, MR_0_2, MR_0_3, MR_0_4, MR_0_5, MR_0_6, MR_0_7, MR_0_8, MR_0_9, MR_0_10, MR_0_11, MR_0_12, MR_0_13, MR_0_14, MR_0_15, MR_0_16, MR_0_17, MR_0_18, MR_0_19, MR_0_20, MR_0_21, MR_0_22, MR_0_23, MR_0_24, MR_0_25, MR_0_26, MG_0_27, MS_0_27, MG_0_28, MS_0_28, MG_0_29, MS_0_29, MG_0_30, MS_0_30, MG_0_31, MS_0_31, MR_0_32, MR_0_33, MR_0_34, MR_0_35, MR_0_36, MG_0_37, MS_0_37, MR_0_38, MR_0_39, MA_1, MB_1, MA_2, MB_2, MA_3, MB_3, MA_4, MB_4, MA_5, MB_5, MA_6, MB_6, MA_7, MB_7, MA_8, MB_8, MA_9, MB_9, MA_10, MB_10, MA_11, MB_11, MA_12, MB_12, MA_13, MB_13, MA_14, MB_14, MA_15, MB_15, MA_16, MB_16, MA_17, MB_17, MA_18, MB_18, MA_19, MB_19, MA_20, MB_20, MA_21, MB_21, MA_22, MB_22, MA_23, MB_23, MA_24, MB_24, MA_25, MB_25, MA_26, MB_26, MA_27, MB_27, MA_28, MB_28, MA_29, MB_29, MA_30, MB_30, MA_31, MB_31, MA_32, MB_32, MA_33, MB_33, ifp, ifn, Option.bind_some, n_s, n_le, n_lt, n_eq, l8, l40, l64, g40, u40, u6, u3, u0, mul6, mul3, J_bit, cmp0, b2_0, zR_b, zR_0, zR_1, up2_eq, up2_ne, up2J_eq, up2J_ne, mkv_eq, n_m1]
  refine lpx (vic V s) (fun n (st : Int32 × Int32 × Hp) => J_Mod_start_10 N n b (nI s) (nI w) st.1 st.2.1 st.2.2) (fun k st => st = (hF V s (P 2) (P 5 s) k, nI k, (z, mH b (stI V s P k) F))) (fun r => r = some ((), (z, mH b (stM V P s w tm tl) F))) ?_ ?_ N (P 5 s, nI 0, (z, mH b P F)) (by omega) rfl
  · rintro n k st hk' rfl
    have a4 := hw.2.1 s k hs hk'
    refine Or.inr ⟨_, ?_, rfl⟩
    simp (disch := first | assumption | omega | decide) only [J_Mod_start_10, a1, hm.2.1 s k hs hth hk', stI_ne, hF, stI, MO_0, MG_0_0, MS_0_0, MR_0_1, MR_0_2, MR_0_3, MR_0_4, MR_0_5, MR_0_6, MR_0_7, MR_0_8, MR_0_9, MR_0_10, MR_0_11, MR_0_12, MR_0_13, MR_0_14, MR_0_15, MR_0_16, MR_0_17, MR_0_18, MR_0_19, MR_0_20, MR_0_21, MR_0_22, MR_0_23, MR_0_24, MR_0_25, MR_0_26, MG_0_27, MS_0_27, MG_0_28, MS_0_28, MG_0_29, MS_0_29, MG_0_30, MS_0_30, MG_0_31, MS_0_31, MR_0_32, MR_0_33, MR_0_34, MR_0_35, MR_0_36, MG_0_37, MS_0_37, MR_0_38, MR_0_39, MA_1, MB_1, MA_2, MB_2, MA_3, MB_3, MA_4, MB_4, MA_5, MB_5, MA_6, MB_6, MA_7, MB_7, MA_8, MB_8, MA_9, MB_9, MA_10, MB_10, MA_11, MB_11, MA_12, MB_12, MA_13, MB_13, MA_14, MB_14, MA_15, MB_15, MA_16, MB_16, MA_17, MB_17, MA_18, MB_18, MA_19, MB_19, MA_20, MB_20, MA_21, MB_21, MA_22, MB_22, MA_23, MB_23, MA_24, MB_24, MA_25, MB_25, MA_26, MB_26, MA_27, MB_27, MA_28, MB_28, MA_29, MB_29, MA_30, MB_30, MA_31, MB_31, MA_32, MB_32, MA_33, MB_33, ifp, ifn, Option.bind_some, n_s, n_le, n_lt, n_eq, l8, l40, l64, g40, u40, u6, u3, u0, mul6, mul3, J_bit, cmp0, b2_0, zR_b, zR_0, zR_1, up2_eq, up2_ne, up2J_eq, up2J_ne, mkv_eq, n_m1]
  · rintro n st rfl
    simp (disch := first | assumption | omega | decide) only [J_Mod_start_10, a1, a3, stI_ne, h28, h27, n_add, MO_0, MG_0_0, MS_0_0, MR_0_1, MR_0_2, MR_0_3, MR_0_4, MR_0_5, MR_0_6, MR_0_7, MR_0_8, MR_0_9, MR_0_10, MR_0_11, MR_0_12, MR_0_13, MR_0_14, MR_0_15, MR_0_16, MR_0_17, MR_0_18, MR_0_19, MR_0_20, MR_0_21, MR_0_22, MR_0_23, MR_0_24, MR_0_25, MR_0_26, MG_0_27, MS_0_27, MG_0_28, MS_0_28, MG_0_29, MS_0_29, MG_0_30, MS_0_30, MG_0_31, MS_0_31, MR_0_32, MR_0_33, MR_0_34, MR_0_35, MR_0_36, MG_0_37, MS_0_37, MR_0_38, MR_0_39, MA_1, MB_1, MA_2, MB_2, MA_3, MB_3, MA_4, MB_4, MA_5, MB_5, MA_6, MB_6, MA_7, MB_7, MA_8, MB_8, MA_9, MB_9, MA_10, MB_10, MA_11, MB_11, MA_12, MB_12, MA_13, MB_13, MA_14, MB_14, MA_15, MB_15, MA_16, MB_16, MA_17, MB_17, MA_18, MB_18, MA_19, MB_19, MA_20, MB_20, MA_21, MB_21, MA_22, MB_22, MA_23, MB_23, MA_24, MB_24, MA_25, MB_25, MA_26, MB_26, MA_27, MB_27, MA_28, MB_28, MA_29, MB_29, MA_30, MB_30, MA_31, MB_31, MA_32, MB_32, MA_33, MB_33, ifp, ifn, Option.bind_some, n_s, n_le, n_lt, n_eq, l8, l40, l64, g40, u40, u6, u3, u0, mul6, mul3, J_bit, cmp0, b2_0, zR_b, zR_0, zR_1, up2_eq, up2_ne, up2J_eq, up2J_ne, mkv_eq, n_m1]
    rfl
theorem p_end {w : Nat} (hw : VW V) (hm : MV V P) (hs : s < 40) (hth : vth V s = true) (hk : w < 8) (h25 : P 25 s = nI w) (hN : 100 < N) : J_Mod_end N b (nI s) (z, mH b P F) = some ((), (z, mH b (enM V P s w) F)) := by
  have a1 := hm.1 s hs hth
  have a2 := hw.1 s hs
  simp (disch := first | assumption | omega | decide) only [J_Mod_end, h25, MO_0, MG_0_0, MS_0_0, MR_0_1, MR_0_2, MR_0_3, MR_0_4, MR_0_5, MR_0_6, MR_0_7, MR_0_8, MR_0_9, MR_0_10, MR_0_11, MR_0_12, MR_0_13, MR_0_14, MR_0_15, MR_0_16, MR_0_17, MR_0_18, MR_0_19, MR_0_20, MR_0_21, MR_0_22, MR_0_23, MR_0_24, MR_0_25, MR_0_26, MG_0_27, MS_0_27, MG_0_28, MS_0_28, MG_0_29, MS_0_29, MG_0_30, MS_0_30, MG_0_31, MS_0_31, MR_0_32, MR_0_33, MR_0_34, MR_0_35, MR_0_36, MG_0_37, MS_0_37, MR_0_38, MR_0_39, MA_1, MB_1, MA_2, MB_2, MA_3, MB_3, MA_4, MB_4, MA_5, MB_5, MA_6, MB_6, MA_7, MB_7, MA_8, MB_8, MA_9, MB_9, MA_10, MB_10, MA_11, MB_11, MA_12, MB_12, MA_13, MB_13, MA_14, MB_14, MA_15, MB_15, MA_16, MB_16, MA_17, MB_17, MA_18, MB_18, MA_19, MB_19, MA_20, MB_20, MA_21, MB_21, MA_22, MB_22, MA_23, MB_23, MA_24, MB_24, MA_25, MB_25, MA_26, MB_26, MA_27, MB_27, MA_28, MB_28, MA_29, MB_29, MA_30, MB_30, MA_31, MB_31, MA_32, MB_32, MA_33, MB_33, ifp, ifn, Option.bind_some, n_s, n_le, n_lt, n_eq, l8, l40, l64, g40, u40, u6, u3, u0, mul6, mul3, J_bit, cmp0, b2_0, zR_b, zR_0, zR_1, up2_eq, up2_ne, up2J_eq, up2J_ne, mkv_eq, n_m1]
  refine lpx (voc V s) (fun n (st : Int32 × Hp) => J_Mod_end_21 N n b (nI s) st.1 st.2) (fun k st => st = (nI k, (z, mH b (enI V s (P 24 s) (P 6 s) (up2 (up2 P 22 s 2) 26 w 0) k) F))) (fun r => r = some ((), (z, mH b (enM V P s w) F))) ?_ ?_ N (nI 0, (z, mH b (up2 (up2 P 22 s 2) 26 w 0) F)) (by omega) rfl
  · rintro n k st hk' rfl
    have a4 := (hw.2.2.1 s k hs hk').1
    refine Or.inr ⟨_, ?_, rfl⟩
    simp (disch := first | assumption | omega | decide) only [J_Mod_end_21, a1, hm.2.2.1 s k hs hth hk', enI_ne, enI, MO_0, MG_0_0, MS_0_0, MR_0_1, MR_0_2, MR_0_3, MR_0_4, MR_0_5, MR_0_6, MR_0_7, MR_0_8, MR_0_9, MR_0_10, MR_0_11, MR_0_12, MR_0_13, MR_0_14, MR_0_15, MR_0_16, MR_0_17, MR_0_18, MR_0_19, MR_0_20, MR_0_21, MR_0_22, MR_0_23, MR_0_24, MR_0_25, MR_0_26, MG_0_27, MS_0_27, MG_0_28, MS_0_28, MG_0_29, MS_0_29, MG_0_30, MS_0_30, MG_0_31, MS_0_31, MR_0_32, MR_0_33, MR_0_34, MR_0_35, MR_0_36, MG_0_37, MS_0_37, MR_0_38, MR_0_39, MA_1, MB_1, MA_2, MB_2, MA_3, MB_3, MA_4, MB_4, MA_5, MB_5, MA_6, MB_6, MA_7, MB_7, MA_8, MB_8, MA_9, MB_9, MA_10, MB_10, MA_11, MB_11, MA_12, MB_12, MA_13, MB_13, MA_14, MB_14, MA_15, MB_15, MA_16, MB_16, MA_17, MB_17, MA_18, MB_18, MA_19, MB_19, MA_20, MB_20, MA_21, MB_21, MA_22, MB_22, MA_23, MB_23, MA_24, MB_24, MA_25, MB_25, MA_26, MB_26, MA_27, MB_27, MA_28, MB_28, MA_29, MB_29, MA_30, MB_30, MA_31, MB_31, MA_32, MB_32, MA_33, MB_33, ifp, ifn, Option.bind_some, n_s, n_le, n_lt, n_eq, l8, l40, l64, g40, u40, u6, u3, u0, mul6, mul3, J_bit, cmp0, b2_0, zR_b, zR_0, zR_1, up2_eq, up2_ne, up2J_eq, up2J_ne, mkv_eq, n_m1]
  · rintro n st rfl
    simp (disch := first | assumption | omega | decide) only [J_Mod_end_21, a1, enI_ne, MO_0, MG_0_0, MS_0_0, MR_0_1, MR_0_2, MR_0_3, MR_0_4, MR_0_5, MR_0_6, MR_0_7, MR_0_8, MR_0_9, MR_0_10, MR_0_11, MR_0_12, MR_0_13, MR_0_14, MR_0_15, MR_0_16, MR_0_17, MR_0_18, MR_0_19, MR_0_20, MR_0_21, MR_0_22, MR_0_23, MR_0_24, MR_0_25, MR_0_26, MG_0_27, MS_0_27, MG_0_28, MS_0_28, MG_0_29, MS_0_29, MG_0_30, MS_0_30, MG_0_31, MS_0_31, MR_0_32, MR_0_33, MR_0_34, MR_0_35, MR_0_36, MG_0_37, MS_0_37, MR_0_38, MR_0_39, MA_1, MB_1, MA_2, MB_2, MA_3, MB_3, MA_4, MB_4, MA_5, MB_5, MA_6, MB_6, MA_7, MB_7, MA_8, MB_8, MA_9, MB_9, MA_10, MB_10, MA_11, MB_11, MA_12, MB_12, MA_13, MB_13, MA_14, MB_14, MA_15, MB_15, MA_16, MB_16, MA_17, MB_17, MA_18, MB_18, MA_19, MB_19, MA_20, MB_20, MA_21, MB_21, MA_22, MB_22, MA_23, MB_23, MA_24, MB_24, MA_25, MB_25, MA_26, MB_26, MA_27, MB_27, MA_28, MB_28, MA_29, MB_29, MA_30, MB_30, MA_31, MB_31, MA_32, MB_32, MA_33, MB_33, ifp, ifn, Option.bind_some, n_s, n_le, n_lt, n_eq, l8, l40, l64, g40, u40, u6, u3, u0, mul6, mul3, J_bit, cmp0, b2_0, zR_b, zR_0, zR_1, up2_eq, up2_ne, up2J_eq, up2J_ne, mkv_eq, n_m1]
    rfl
end OP
