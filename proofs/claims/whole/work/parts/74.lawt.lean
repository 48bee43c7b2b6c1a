section LB
variable {xs : Nat → Int32} {L z : Nat}
theorem law_exit {k : Nat} (hL : L ≤ 2560) (hk : 5 * k ≤ L) : (Int32.ofNat L - (5 : Int32) < nI (5 * k)) = (L < 5 * k + 5) := by
  show (nI L - nI 5 < nI (5 * k)) = _
  by_cases h : 5 ≤ L
  · rw [n_sub h, n_lt (by omega) (by omega)]
    exact propext ⟨fun h => by omega, fun h => by omega⟩
  · have hk0 : k = 0 := by omega
    subst hk0
    rcases (show L = 0 ∨ L = 1 ∨ L = 2 ∨ L = 3 ∨ L = 4 by omega) with h | h | h | h | h <;> subst h <;> decide
set_option maxHeartbeats 4000000 in
set_option maxRecDepth 100000 in
theorem law_loop {N : Nat} (hN : 1000000 < N) (hL : L ≤ 2560) {y0 : Nat} {V0' : Vw} {I0 P0 : Nat → Nat → Int32} {J0 : Nat → Nat → Int64} {F0 : Nat → Option HE} {g0 : Nat → Int64} (hS : PS V0' I0 P0) (hRD : RD I0 P0) (hF : F0 (z + 213) = some (.inl (2, 1, .inr (.inl g0)))) : ∃ hf, J_Law_law_23 N xs L 600 z (z + 179) (z + 213) (nI 0) (y0, dH z I0 J0 (mH (z + 179) P0 F0)) = some (1, hf) := by
  refine lpx (L / 5) (fun n (st : Int32 × Hp) => J_Law_law_23 N xs L n z (z + 179) (z + 213) st.1 st.2) (fun k st => ∃ y V I J P F g, st = (nI (5 * k), (y, dH z I J (mH (z + 179) P F))) ∧ PS V I P ∧ RD I P ∧ F (z + 213) = some (.inl (2, 1, .inr (.inl g)))) (fun r => ∃ hf, r = some (1, hf)) ?_ ?_ 600 (nI 0, (y0, dH z I0 J0 (mH (z + 179) P0 F0))) (by omega) ⟨y0, V0', I0, J0, P0, F0, g0, rfl, hS, hRD, hF⟩
  · rintro n k st hk ⟨y, V, I, J, P, F, g, rfl, hS, hRD, hF⟩
    have hk5 : 5 * k + 5 ≤ L := by omega
    have hex : (Int32.ofNat L - (5 : Int32) < nI (5 * k)) = False := by rw [law_exit hL (by omega)]; exact eq_false (by omega)
    have X0 : iX (nI (5 * k)) L = some (5 * k) := iX_n (by omega) (by omega)
    have X1 : iX (nI (5 * k) + 1) L = some (5 * k + 1) := by rw [n_s]; exact iX_n (by omega) (by omega)
    have X2 : iX (nI (5 * k) + 2) L = some (5 * k + 2) := by rw [n_p2]; exact iX_n (by omega) (by omega)
    have X3 : iX (nI (5 * k) + 3) L = some (5 * k + 3) := by rw [n_p3]; exact iX_n (by omega) (by omega)
    have X4 : iX (nI (5 * k) + 4) L = some (5 * k + 4) := by rw [n_p4]; exact iX_n (by omega) (by omega)
    have X5 : nI (5 * k) + 5 = nI (5 * (k + 1)) := by rw [n_p5]; congr 1
    have i6 : isO (y, dH z I J (mH (z + 179) P F)) 6 z = some () := DO_0
    refine Or.inr ?_
    by_cases q0 : xs (5 * k) &&& (15 : Int32) = (0 : Int32)
    · obtain ⟨v, V', I', P', M1, a1, a2, a3, a4, a5⟩ := lift2 (z := z) (y := y) (I := I) (P := P) (J := J) (F := F) (f := J_Desk_step N z (xs (5 * k + 1)) (xs (5 * k + 2)) (xs (5 * k + 3)) (xs (5 * k + 4))) (g := J_Mod_step N (z + 179) (xs (5 * k + 1)) (xs (5 * k + 2)) (xs (5 * k + 3)) (xs (5 * k + 4))) (fun F1 F2 => o_step (V := V) (z := y) (b := z) (z2 := y) (c := z + 179) (N := N) (J := J) (F := F1) (F2 := F2) hS hRD (xs (5 * k + 1)) (xs (5 * k + 2)) (xs (5 * k + 3)) (xs (5 * k + 4)))
      refine ⟨(nI (5 * (k + 1)), (y, dH z I' J (mH (z + 179) P' F))), ?_, y, V', I', J, P', F, g, rfl, a4, a5, hF⟩
      simp only [J_Law_law_23, hex, X0, X1, X2, X3, X4, X5, Option.bind_some, i6, eq_true q0, a1, a2, a3, if_true, if_false, eq_self]
    by_cases q1 : xs (5 * k) &&& (15 : Int32) = (1 : Int32)
    · obtain ⟨v, V', I', P', M1, a1, a2, a3, a4, a5⟩ := lift2 (z := z) (y := y) (I := I) (P := P) (J := J) (F := F) (f := J_Desk_input N z (xs (5 * k + 1)) (xs (5 * k + 2))) (g := J_Mod_input N (z + 179) (xs (5 * k + 1)) (xs (5 * k + 2))) (fun F1 F2 => o_input (V := V) (z := y) (b := z) (z2 := y) (c := z + 179) (N := N) (J := J) (F := F1) (F2 := F2) hS hRD (xs (5 * k + 1)) (xs (5 * k + 2)))
      refine ⟨(nI (5 * (k + 1)), (y, dH z I' J (mH (z + 179) P' F))), ?_, y, V', I', J, P', F, g, rfl, a4, a5, hF⟩
      simp only [J_Law_law_23, hex, X0, X1, X2, X3, X4, X5, Option.bind_some, i6, q0, eq_true q1, a1, a2, a3, if_true, if_false, eq_self]
    by_cases q2 : xs (5 * k) &&& (15 : Int32) = (2 : Int32)
    · obtain ⟨v, V', I', P', M1, a1, a2, a3, a4, a5⟩ := lift2 (z := z) (y := y) (I := I) (P := P) (J := J) (F := F) (f := J_Desk_output N z (xs (5 * k + 1)) (xs (5 * k + 2))) (g := J_Mod_output N (z + 179) (xs (5 * k + 1)) (xs (5 * k + 2))) (fun F1 F2 => o_output (V := V) (z := y) (b := z) (z2 := y) (c := z + 179) (N := N) (J := J) (F := F1) (F2 := F2) hS hRD (xs (5 * k + 1)) (xs (5 * k + 2)))
      refine ⟨(nI (5 * (k + 1)), (y, dH z I' J (mH (z + 179) P' F))), ?_, y, V', I', J, P', F, g, rfl, a4, a5, hF⟩
      simp only [J_Law_law_23, hex, X0, X1, X2, X3, X4, X5, Option.bind_some, i6, q0, q1, eq_true q2, a1, a2, a3, if_true, if_false, eq_self]
    by_cases q3 : xs (5 * k) &&& (15 : Int32) = (3 : Int32)
    · obtain ⟨v, V', I', P', M1, a1, a2, a3, a4, a5⟩ := lift2 (z := z) (y := y) (I := I) (P := P) (J := J) (F := F) (f := J_Desk_drop N z (xs (5 * k + 1))) (g := J_Mod_drop N (z + 179) (xs (5 * k + 1))) (fun F1 F2 => o_drop (V := V) (z := y) (b := z) (z2 := y) (c := z + 179) (N := N) (J := J) (F := F1) (F2 := F2) hS hRD (xs (5 * k + 1)) (by omega))
      refine ⟨(nI (5 * (k + 1)), (y, dH z I' J (mH (z + 179) P' F))), ?_, y, V', I', J, P', F, g, rfl, a4, a5, hF⟩
      simp only [J_Law_law_23, hex, X0, X1, X2, X3, X4, X5, Option.bind_some, i6, q0, q1, q2, eq_true q3, a1, a2, a3, if_true, if_false, eq_self]
    by_cases q4 : xs (5 * k) &&& (15 : Int32) = (4 : Int32)
    · obtain ⟨v, V', I', P', M1, a1, a2, a3, a4, a5⟩ := lift2 (z := z) (y := y) (I := I) (P := P) (J := J) (F := F) (f := J_Desk_source N z (xs (5 * k + 1)) (xs (5 * k + 2))) (g := J_Mod_source N (z + 179) (xs (5 * k + 1)) (xs (5 * k + 2))) (fun F1 F2 => o_source (V := V) (z := y) (b := z) (z2 := y) (c := z + 179) (N := N) (J := J) (F := F1) (F2 := F2) hS hRD (xs (5 * k + 1)) (xs (5 * k + 2)))
      refine ⟨(nI (5 * (k + 1)), (y, dH z I' J (mH (z + 179) P' F))), ?_, y, V', I', J, P', F, g, rfl, a4, a5, hF⟩
      simp only [J_Law_law_23, hex, X0, X1, X2, X3, X4, X5, Option.bind_some, i6, q0, q1, q2, q3, eq_true q4, a1, a2, a3, if_true, if_false, eq_self]
    by_cases q5 : xs (5 * k) &&& (15 : Int32) = (5 : Int32)
    · obtain ⟨v, V', I', P', M1, a1, a2, a3, a4, a5⟩ := lift2 (z := z) (y := y) (I := I) (P := P) (J := J) (F := F) (f := J_Desk_spoil N z (xs (5 * k + 1))) (g := J_Mod_spoil N (z + 179) (xs (5 * k + 1))) (fun F1 F2 => o_spoil (V := V) (z := y) (b := z) (z2 := y) (c := z + 179) (N := N) (J := J) (F := F1) (F2 := F2) hS hRD (xs (5 * k + 1)))
      refine ⟨(nI (5 * (k + 1)), (y, dH z I' J (mH (z + 179) P' F))), ?_, y, V', I', J, P', F, g, rfl, a4, a5, hF⟩
      simp only [J_Law_law_23, hex, X0, X1, X2, X3, X4, X5, Option.bind_some, i6, q0, q1, q2, q3, q4, eq_true q5, a1, a2, a3, if_true, if_false, eq_self]
    by_cases q6 : xs (5 * k) &&& (15 : Int32) = (6 : Int32)
    · obtain ⟨kd, y1, M1, y2, I2, J2, P2, F2, v, a1, a2, a3, a4, a5, a6, g2, a7, a8⟩ := t_build (N := N) (z := z) (y := y) (J := J) hS hRD hF hN (xs (5 * k + 1)) (xs (5 * k + 2))
      have a9 : isO (y2, dH z I2 J2 (mH (z + 179) P2 F2)) 7 (z + 179) = some () := is_m
      have b1 := thr_m (N := N) (z := z) (y := y2) (I := I2) (J := J2) (P := P2) (F := F2)
      rw [a6] at b1
      refine ⟨(nI (5 * (k + 1)), (y2, dH z I2 J2 (mH (z + 179) P2 F2))), ?_, y2, V, I2, J2, P2, F2, g2, rfl, a4, a5, a7⟩
      by_cases e : kd = 0
      · have b3 := out_g (y := y2) (I := I2) (J := J2) (P := P2) a7
        rw [a8 e] at b3
        simp only [J_Law_law_23, hex, X0, X1, X2, X5, Option.bind_some, q0, q1, q2, q3, q4, q5, eq_true q6, a1, a2, a3, a9, b1, b3, e, cmp0, if_true, if_false, eq_self]
      · simp only [J_Law_law_23, hex, X0, X1, X2, X5, Option.bind_some, q0, q1, q2, q3, q4, q5, eq_true q6, a1, a2, a3, a9, b1, e, if_true, if_false, eq_self]
    by_cases q7 : xs (5 * k) &&& (15 : Int32) = (7 : Int32)
    · obtain ⟨v, V', I', P', M1, a1, a2, a3, a4, a5⟩ := lift2 (z := z) (y := y) (I := I) (P := P) (J := J) (F := F) (f := J_Desk_count N z (xs (5 * k + 1))) (g := J_Mod_count N (z + 179) (xs (5 * k + 1))) (fun F1 F2 => o_count (V := V) (z := y) (b := z) (z2 := y) (c := z + 179) (N := N) (J := J) (F := F1) (F2 := F2) hS hRD (xs (5 * k + 1)) (by omega))
      refine ⟨(nI (5 * (k + 1)), (y, dH z I' J (mH (z + 179) P' F))), ?_, y, V', I', J, P', F, g, rfl, a4, a5, hF⟩
      simp only [J_Law_law_23, hex, X0, X1, X2, X3, X4, X5, Option.bind_some, i6, q0, q1, q2, q3, q4, q5, q6, eq_true q7, a1, a2, a3, if_true, if_false, eq_self]
    by_cases q8 : xs (5 * k) &&& (15 : Int32) = (8 : Int32)
    · obtain ⟨kd, y1, M1, y2, I2, J2, P2, F2, v, a1, a2, a3, a4, a5, a6, g2, a7, a8⟩ := t_begun (N := N) (z := z) (y := y) (J := J) hS hRD hF (xs (5 * k + 1)) (xs (5 * k + 2))
      have a9 : isO (y2, dH z I2 J2 (mH (z + 179) P2 F2)) 7 (z + 179) = some () := is_m
      have b1 := thr_m (N := N) (z := z) (y := y2) (I := I2) (J := J2) (P := P2) (F := F2)
      rw [a6] at b1
      refine ⟨(nI (5 * (k + 1)), (y2, dH z I2 J2 (mH (z + 179) P2 F2))), ?_, y2, V, I2, J2, P2, F2, g2, rfl, a4, a5, a7⟩
      by_cases e : kd = 0
      · have b3 := out_g (y := y2) (I := I2) (J := J2) (P := P2) a7
        rw [a8 e] at b3
        simp only [J_Law_law_23, hex, X0, X1, X2, X5, Option.bind_some, q0, q1, q2, q3, q4, q5, q6, q7, eq_true q8, a1, a2, a3, a9, b1, b3, e, cmp0, if_true, if_false, eq_self]
      · simp only [J_Law_law_23, hex, X0, X1, X2, X5, Option.bind_some, q0, q1, q2, q3, q4, q5, q6, q7, eq_true q8, a1, a2, a3, a9, b1, e, if_true, if_false, eq_self]
    by_cases q9 : xs (5 * k) &&& (15 : Int32) = (9 : Int32)
    · obtain ⟨kd, y1, M1, y2, I2, J2, P2, F2, v, a1, a2, a3, a4, a5, a6, g2, a7, a8⟩ := t_cycle (N := N) (z := z) (y := y) (J := J) hS hRD hF (xs (5 * k + 1))
      have a9 : isO (y2, dH z I2 J2 (mH (z + 179) P2 F2)) 7 (z + 179) = some () := is_m
      have b1 := thr_m (N := N) (z := z) (y := y2) (I := I2) (J := J2) (P := P2) (F := F2)
      rw [a6] at b1
      refine ⟨(nI (5 * (k + 1)), (y2, dH z I2 J2 (mH (z + 179) P2 F2))), ?_, y2, V, I2, J2, P2, F2, g2, rfl, a4, a5, a7⟩
      by_cases e : kd = 0
      · have b3 := out_g (y := y2) (I := I2) (J := J2) (P := P2) a7
        rw [a8 e] at b3
        simp only [J_Law_law_23, hex, X0, X1, X2, X5, Option.bind_some, q0, q1, q2, q3, q4, q5, q6, q7, q8, eq_true q9, a1, a2, a3, a9, b1, b3, e, cmp0, if_true, if_false, eq_self]
      · simp only [J_Law_law_23, hex, X0, X1, X2, X5, Option.bind_some, q0, q1, q2, q3, q4, q5, q6, q7, q8, eq_true q9, a1, a2, a3, a9, b1, e, if_true, if_false, eq_self]
    by_cases q10 : xs (5 * k) &&& (15 : Int32) = (10 : Int32)
    · obtain ⟨kd, y1, M1, y2, I2, J2, P2, F2, v, a1, a2, a3, a4, a5, a6, g2, a7, a8⟩ := t_content (N := N) (z := z) (y := y) (J := J) hS hRD hF (xs (5 * k + 1))
      have a9 : isO (y2, dH z I2 J2 (mH (z + 179) P2 F2)) 7 (z + 179) = some () := is_m
      have b1 := thr_m (N := N) (z := z) (y := y2) (I := I2) (J := J2) (P := P2) (F := F2)
      rw [a6] at b1
      refine ⟨(nI (5 * (k + 1)), (y2, dH z I2 J2 (mH (z + 179) P2 F2))), ?_, y2, V, I2, J2, P2, F2, g2, rfl, a4, a5, a7⟩
      by_cases e : kd = 0
      · have b3 := out_g (y := y2) (I := I2) (J := J2) (P := P2) a7
        rw [a8 e] at b3
        simp only [J_Law_law_23, hex, X0, X1, X2, X5, Option.bind_some, q0, q1, q2, q3, q4, q5, q6, q7, q8, q9, eq_true q10, a1, a2, a3, a9, b1, b3, e, cmp0, if_true, if_false, eq_self]
      · simp only [J_Law_law_23, hex, X0, X1, X2, X5, Option.bind_some, q0, q1, q2, q3, q4, q5, q6, q7, q8, q9, eq_true q10, a1, a2, a3, a9, b1, e, if_true, if_false, eq_self]
    by_cases q11 : xs (5 * k) &&& (15 : Int32) = (11 : Int32)
    · obtain ⟨v, V', I', P', M1, a1, a2, a3, a4, a5⟩ := lift2 (z := z) (y := y) (I := I) (P := P) (J := J) (F := F) (f := J_Desk_reason N z (xs (5 * k + 1))) (g := J_Mod_reason N (z + 179) (xs (5 * k + 1))) (fun F1 F2 => o_reason (V := V) (z := y) (b := z) (z2 := y) (c := z + 179) (N := N) (J := J) (F := F1) (F2 := F2) hS hRD (xs (5 * k + 1)) (by omega))
      refine ⟨(nI (5 * (k + 1)), (y, dH z I' J (mH (z + 179) P' F))), ?_, y, V', I', J, P', F, g, rfl, a4, a5, hF⟩
      simp only [J_Law_law_23, hex, X0, X1, X2, X3, X4, X5, Option.bind_some, i6, q0, q1, q2, q3, q4, q5, q6, q7, q8, q9, q10, eq_true q11, a1, a2, a3, if_true, if_false, eq_self]
    · refine ⟨(nI (5 * (k + 1)), (y, dH z I J (mH (z + 179) P F))), ?_, y, V, I, J, P, F, g, rfl, hS, hRD, hF⟩
      simp only [J_Law_law_23, hex, X0, X5, Option.bind_some, q0, q1, q2, q3, q4, q5, q6, q7, q8, q9, q10, q11, if_false]
  · rintro n st ⟨y, V, I, J, P, F, g, rfl, hS, hRD, hF⟩
    have hex : (Int32.ofNat L - (5 : Int32) < nI (5 * (L / 5))) = True := by rw [law_exit hL (by omega)]; exact eq_true (by omega)
    refine ⟨(y, dH z I J (mH (z + 179) P F)), ?_⟩
    simp only [J_Law_law_23, hex, if_true]
end LB
theorem ex_N : ∃ N : Nat, 1000000 < N := ⟨_, Nat.lt_succ_self 1000000⟩
theorem law_abs {N : Nat} {xs : Nat → Int32} {L z m o : Nat} {h h1 h2 h3 h4 h5 : Hp} {u v : Unit} (e1 : nO_ h 6 [.null, .null, .null, .null, .null, .null] = some (z, h1)) (e2 : J_Desk_init N z h1 = some (u, h2)) (e3 : nO_ h2 7 [.int 0, .null, .null, .null, .null, .null, .null, .null, .null, .null, .null, .null, .null, .null, .null, .null, .null, .null, .null, .null, .null, .null, .null, .null, .null, .null, .null, .int 0, .int 0, .int 0, .int 0, .int 0, .null, .null, .null, .null, .null, .int 0, .null, .null] = some (m, h3)) (e4 : J_Mod_init N m h3 = some (v, h4)) (e5 : nJ_ h4 2 (1 : Int32) = some (o, h5)) : J_Law_law N xs L h = J_Law_law_23 N xs L 600 z m o (0 : Int32) h5 := by
  rw [J_Law_law, e1, Option.bind_some, e2, Option.bind_some, e3, Option.bind_some, e4, Option.bind_some, e5, Option.bind_some]
theorem law_e0 {y : Nat} {M : Nat → Option HE} : nJ_ (y, M) 2 (1 : Int32) = some (y, (y + 1, hU M y (.inl (2, 1, .inr (.inl (fun _ => 0)))))) := alC_e (t := 2) (n := 1) (by decide)
theorem law_e1 {z : Nat} {P : Nat → Nat → Int32} : hU (mH (z + 179) P (dH z iI0 (fun _ _ => 0) (fun _ => none))) (z + 213) (.inl (2, 1, .inr (.inl (fun _ => 0)))) = dH z iI0 (fun _ _ => 0) (mH (z + 179) P (hU (fun _ => none) (z + 213) (.inl (2, 1, .inr (.inl (fun _ => 0)))))) := by
  rw [← h_comm]
  show hU (dk z 179 dSh iI0 (fun _ _ => 0) (dk (z + 179) 34 mSh P (fun _ _ => 0) (fun _ => none))) (z + 213) _ = dk z 179 dSh iI0 (fun _ _ => 0) (dk (z + 179) 34 mSh P (fun _ _ => 0) _)
  rw [dk_hO (by omega), dk_hO (by omega)]
theorem law_e2 {h : Hp} : nO_ h 7 [.int 0, .null, .null, .null, .null, .null, .null, .null, .null, .null, .null, .null, .null, .null, .null, .null, .null, .null, .null, .null, .null, .null, .null, .null, .null, .null, .null, .int 0, .int 0, .int 0, .int 0, .int 0, .null, .null, .null, .null, .null, .int 0, .null, .null] = some (h.1, (h.1 + 1, hU h.2 h.1 (.inr (7, mF0)))) := by
  rw [nO_, mF0]
theorem law_pre {N : Nat} {P : Nat → Nat → Int32} (xs : Nat → Int32) (L z : Nat) (a1 : J_Desk_init N z (z + 1, hU (fun _ => none) z (.inr (6, [.null, .null, .null, .null, .null, .null]))) = some ((), (z + 179, dH z iI0 (fun _ _ => 0) (fun _ => none)))) (b1 : J_Mod_init N (z + 179) (z + 179 + 1, hU (dH z iI0 (fun _ _ => 0) (fun _ => none)) (z + 179) (.inr (7, mF0))) = some ((), (z + 179 + 34, mH (z + 179) P (dH z iI0 (fun _ _ => 0) (fun _ => none))))) : J_Law_law N xs L (z, fun _ => none) = J_Law_law_23 N xs L 600 z (z + 179) (z + 213) (0 : Int32) (z + 213 + 1, dH z iI0 (fun _ _ => 0) (mH (z + 179) P (hU (fun _ => none) (z + 213) (.inl (2, 1, .inr (.inl (fun _ => 0))))))) := by
  have h34 : z + 179 + 34 = z + 213 := Nat.add_assoc z 179 34
  rw [h34] at b1
  have e5 := law_e0 (y := z + 213) (M := mH (z + 179) P (dH z iI0 (fun _ _ => 0) (fun _ => none)))
  rw [law_e1] at e5
  exact law_abs (nO_.eq_1 _ _ _) a1 law_e2 b1 e5
theorem law_true (xs : Nat → Int32) (L z : Nat) (hL : L ≤ 2560) : ∃ (N : Nat) (hf : Hp), J_Law_law N xs L (z, fun _ => none) = some (1, hf) := by
  obtain ⟨N, hN⟩ := ex_N
  refine ⟨N, ?_⟩
  have a1 := i_desk (z := z) (N := N) (F := fun _ => none) (fun _ => rfl) (by omega)
  obtain ⟨P, b1, b2', b3⟩ := i_mod (N := N) (m := z + 179) (F := dH z iI0 (fun _ _ => 0) (fun _ => none)) (by omega)
  obtain ⟨c1, c2⟩ := PS_i b2' b3
  obtain ⟨hf, d1⟩ := law_loop (xs := xs) (L := L) (z := z) (N := N) hN hL (y0 := z + 213 + 1) (J0 := fun _ _ => 0) (F0 := hU (fun _ => none) (z + 213) (.inl (2, 1, .inr (.inl (fun _ => 0))))) (g0 := fun _ => 0) c1 c2 hU_eq
  refine ⟨hf, ?_⟩
  rw [law_pre xs L z a1 b1]
  rw [show nI 0 = (0 : Int32) from rfl] at d1
  exact d1
