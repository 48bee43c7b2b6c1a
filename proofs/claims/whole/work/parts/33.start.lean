set_option maxHeartbeats 8000000 in
set_option maxRecDepth 100000 in
theorem whole_start {p : Program} {e : Env} {s : State} {m : MethodId} {below : List Frame} {meth : Method} {c : Code} (l : Launch) (hfl : l.flags = flags0) {b L : Nat} {xs : Nat → Int32} (hJ0 : ∃ (N : Nat) (hf : Hp), J_Law_law N xs L (s.heap.size, fun _ => none) = some (1, hf)) (C0 : lw_At p s m meth c b L xs) : W p l e room_1 s m #[Value.ref b] below meth c s.heap [] 0 0 (lw_Z below #[Value.ref b] s) (entryFrame m ([Value.ref b] : List Value).toArray 7) := by
  obtain ⟨N, hf, hJ⟩ := hJ0
  obtain ⟨hx, hb, hr, hml, ho, hts0, hX, hbl, hlocks, hgv⟩ := C0
  have hfl2 := flat_of_before _ hgv
  have hts : ∀ w ∈ wsG, w.before #[Value.ref b] s = true := fun w hw => hts0 w (wsG_in w hw)
  have hA0 : ∀ a : Nat, a < s.heap.size → ¬ (fun q : Nat => s.heap.size ≤ q) a := fun a h => Nat.not_le.mpr h
  have hbA : ¬ (fun q : Nat => s.heap.size ≤ q) b := hA0 b hbl
  obtain ⟨cX0, iX0, hKnX0⟩ := u_known (C := RX0) (T := TX0) (N := 5) (n := 5) hts wiX0 (hts _ wm_123)
  obtain ⟨cX1, iX1, hKnX1⟩ := u_known (C := RX1) (T := TX1) (N := 3) (n := 3) hts wiX1 (hts _ wm_57)
  obtain ⟨cX2, iX2, hKnX2⟩ := u_known (C := RX2) (T := TX2) (N := 5) (n := 5) hts wiX2 (hts _ wm_106)
  obtain ⟨cX3, iX3, hKnX3⟩ := u_known (C := RX3) (T := TX3) (N := 5) (n := 5) hts wiX3 (hts _ wm_139)
  obtain ⟨cX4, iX4, hKnX4⟩ := u_known (C := RX4) (T := TX4) (N := 3) (n := 3) hts wiX4 (hts _ wm_155)
  obtain ⟨cX5, iX5, hKnX5⟩ := u_known (C := RX5) (T := TX5) (N := 14) (n := 14) hts wiX5 (hts _ wm_72)
  obtain ⟨cX6, iX6, hKnX6⟩ := u_known (C := RX6) (T := TX6) (N := 6) (n := 6) hts wiX6 (hts _ wm_49)
  obtain ⟨cX7, iX7, hKnX7⟩ := u_known (C := RX7) (T := TX7) (N := 40) (n := 40) hts wiX7 (hts _ wm_528)
  obtain ⟨D, hKc⟩ : ∃ D : va_G, ∀ (k : Nat) (q : vw_C), vwCl[k]? = some q → u_Kn s q.1 q.2.1 q.2.2 (D.1 k) (D.2 k) := by
    refine ⟨(fun k => match k with | 0 => cX0  | 1 => cX1  | 2 => cX2  | 3 => cX3  | 4 => cX4  | 5 => cX5  | 6 => cX6 | _ => cX7, fun k => match k with | 0 => iX0  | 1 => iX1  | 2 => iX2  | 3 => iX3  | 4 => iX4  | 5 => iX5  | 6 => iX6 | _ => iX7), ?_⟩
    intro k q hq
    match k, hq with
    | 0, hq => cases hq; exact hKnX0
    | 1, hq => cases hq; exact hKnX1
    | 2, hq => cases hq; exact hKnX2
    | 3, hq => cases hq; exact hKnX3
    | 4, hq => cases hq; exact hKnX4
    | 5, hq => cases hq; exact hKnX5
    | 6, hq => cases hq; exact hKnX6
    | 7, hq => cases hq; exact hKnX7
    | k + 8, hq => simp [vwCl] at hq
  have prim : ∀ ty : FieldType, (∀ c : ClassId, s.vm.findClass ("[" ++ ty.toString) = some c → va_RA s c ty) → (Cond.arrayClass ty).before #[Value.ref b] s = true → ∃ c : ClassId, ArrOfT s c ty ∧ va_RA s c ty := by
    intro ty hra h
    obtain ⟨cA, kA, comp, h1, h2, h3⟩ := Cond.arrayClass_spec h
    exact ⟨cA, fun n z => ⟨fun k h => (by cases h), kA, h2, comp, h3⟩, hra _ h1⟩
  obtain ⟨aI, hAI⟩ := prim .int (fun _ h => h) (hts _ wm_69)
  obtain ⟨aZ, hAZ⟩ := prim .boolean (fun _ h => h) (hts _ wm_70)
  obtain ⟨aJ, hAJ⟩ := prim .long (fun _ h => h) (hts _ wm_121)
  have hover := hts0 _ (List.mem_of_getElem? (a := Cond.arrayOver (.object "BuildDesk$Step")) (i := 75) (by decide +kernel))
  obtain ⟨comp, aS, kS, h1, h2, h3, h4, h5⟩ := Cond.arrayOver_spec hover
  have hAS : ArrOfT s aS (.object "BuildDesk$Step") ∧ va_RA s aS (.object "BuildDesk$Step") := ⟨fun n z => ⟨fun k h => (by cases h), kS, h3, comp, h4⟩, kS, comp, h3, h4, h1, h5⟩
  have hK : va_K D vwCl [(aI, .int), (aZ, .boolean), (aJ, .long), (aS, .object "BuildDesk$Step")] s := by
    refine ⟨hKc, fun k q hq => ?_⟩
    match k, hq with
    | 0, hq => cases hq; exact hAI
    | 1, hq => cases hq; exact hAZ
    | 2, hq => cases hq; exact hAJ
    | 3, hq => cases hq; exact hAS
    | k + 4, hq => simp at hq
  generalize htys : [(aI, FieldType.int), (aZ, FieldType.boolean), (aJ, FieldType.long), (aS, FieldType.object "BuildDesk$Step")] = tys at hK
  have hT : tys.map (fun q => q.2) = tyS := by rw [← htys]; rfl
  have hN : nwS s := by
    refine ⟨fun w hw => va_Nw.of (nwL_t w hw) (hts0 w ?_), fun C hC => ?_⟩
    · rw [nwL_at] at hw
      obtain ⟨i, -, hi⟩ := List.mem_filterMap.mp hw
      exact List.mem_of_getElem? hi
    · simp only [aoL, List.mem_cons, List.not_mem_nil, or_false] at hC
      subst hC
      exact va_AO.of hover
  have hth : thS (fun q : Nat => s.heap.size ≤ q) s := by
    refine ⟨?_, ?_, ?_, ?_, ?_⟩
    · exact List.forall_mem_cons.mpr ⟨va_Nw.of rfl (hts0 _ (List.mem_of_getElem? (i := 365) (by decide +kernel))), List.forall_mem_cons.mpr ⟨va_Nw.of rfl (hts0 _ (List.mem_of_getElem? (i := 367) (by decide +kernel))), List.forall_mem_cons.mpr ⟨va_Nw.of rfl (hts0 _ (List.mem_of_getElem? (i := 369) (by decide +kernel))), fun _ h => absurd h List.not_mem_nil⟩⟩⟩
    · intro c t g1 g2
      have hv := Cond.holds_not_iff.mp (hfl2 (.not (.castable "java/lang/IllegalStateException" "java/lang/IllegalArgumentException")) (by decide +kernel))
      simp only [Cond.value, g1, g2] at hv
      exact Option.some.inj hv
    · have key : ∀ (k : Nat) (tx : String), (Cond.stringRef RX6 k tx).before #[Value.ref b] s = true → ∃ a : Nat, vk_R RX6 k tx a s := by
        intro k tx h
        obtain ⟨_, _, _, a, _, _, _, _, _, hev⟩ := Cond.stringRef_spec hKnX6.2.1 h
        exact ⟨a, vk_R.of h hev⟩
      exact List.forall_mem_cons.mpr ⟨key 90 "no such file" (hts0 _ (List.mem_of_getElem? (i := 402) (by decide +kernel))), List.forall_mem_cons.mpr ⟨key 95 "workers are 1 to 8" (hts0 _ (List.mem_of_getElem? (i := 429) (by decide +kernel))), List.forall_mem_cons.mpr ⟨key 115 "steps wait for one another" (hts0 _ (List.mem_of_getElem? (i := 482) (by decide +kernel))), List.forall_mem_cons.mpr ⟨key 121 "a source has no content" (hts0 _ (List.mem_of_getElem? (i := 503) (by decide +kernel))), List.forall_mem_cons.mpr ⟨key 155 "nothing such began" (hts0 _ (List.mem_of_getElem? (i := 609) (by decide +kernel))), List.forall_mem_cons.mpr ⟨key 165 "no such step of a round" (hts0 _ (List.mem_of_getElem? (i := 627) (by decide +kernel))), List.forall_mem_cons.mpr ⟨key 174 "no content" (hts0 _ (List.mem_of_getElem? (i := 636) (by decide +kernel))), fun _ h => absurd h List.not_mem_nil⟩⟩⟩⟩⟩⟩⟩
    · exact lsS.of (hts0 _ (List.mem_of_getElem? (i := 388) (by decide +kernel))) (hfl2 _ (by decide +kernel)) hA0
    · exact lsS.of (hts0 _ (List.mem_of_getElem? (i := 390) (by decide +kernel))) (hfl2 _ (by decide +kernel)) hA0
  have X : Cx p s m #[Value.ref b] meth c D vwCl tys cL_law 7 RL wsG := ⟨⟨hx, hb, hml, ho, hts⟩, hK, hlocks, hT⟩
  have I : In D vwCl tys (fun q : Nat => s.heap.size ≤ q) s (s.heap.size, fun _ => none) s.heap [] := ⟨⟨rfl, fun a e h => by cases h⟩, va_S.rf, fun _ h => h⟩
  generalize hh : ((s.heap.size, fun _ => none) : Hp) = h at hJ I
  have hl := lv_entry ([.ref b]) (n := 7) (Nat.le_of_ble_eq_true rfl)
  rw [lg_entry_eq]
  generalize (lg_sl ([.ref b]) ++ List.replicate (7 - (lg_sl ([.ref b])).length) Slot.unset).toArray = ls at hl ⊢
  have hl : lv_has ls 7 [(0, .ref b)] := hl
  rw [J_Law_law] at hJ
  obtain ⟨q1, e9, hJ⟩ := rp_b hJ
  refine rp_new X I e9 rfl wiX6 tyX6 tyX6_ok wm_48 wm_49 wm_33 (by decide +kernel) (Nat.le_of_ble_eq_true rfl) (Nat.le_of_ble_eq_true rfl) dL_law_0 (fun H I => ?_)
  refine lv_dup hx hb dL_law_3 rfl ?_
  obtain ⟨q2, e9, hJ⟩ := rp_b hJ
  refine rp_callI (As := []) (rest := [.ref q1.1]) X hN I (c_Desk_init hT e9) (cwI 0 hts (gdC wm_52) rfl rfl rfl (hts _ wm_33) (hts _ wm_50) (hts _ wm_51) rfl (by decide +kernel) ⟨Nat.le_of_ble_eq_true rfl, Nat.le_of_ble_eq_true rfl⟩) rfl hl.1 rfl (Nat.le_of_ble_eq_true rfl) dL_law_4 ⟨(Nat.le_of_ble_eq_true rfl), (Nat.le_of_ble_eq_true rfl)⟩ (fun H locs I => ?_)
  refine lv_astore_n (lv' := [(1, .ref q1.1), (0, .ref b)]) hx hb dL_law_7 rfl hl (by decide) rfl (fun ls hl => ?_)
  obtain ⟨q3, e9, hJ⟩ := rp_b hJ
  refine rp_new X I e9 rfl wiX7 tyX7 tyX7_ok wm_527 wm_528 wm_40 (by decide +kernel) (Nat.le_of_ble_eq_true rfl) (Nat.le_of_ble_eq_true rfl) dL_law_8 (fun H I => ?_)
  refine lv_dup hx hb dL_law_11 rfl ?_
  obtain ⟨q4, e9, hJ⟩ := rp_b hJ
  refine rp_callI (As := []) (rest := [.ref q3.1]) X hN I (c_Mod_init hT e9) (cwI 0 hts (gdC wm_531) rfl rfl rfl (hts _ wm_40) (hts _ wm_529) (hts _ wm_530) rfl (by decide +kernel) ⟨Nat.le_of_ble_eq_true rfl, Nat.le_of_ble_eq_true rfl⟩) rfl hl.1 rfl (Nat.le_of_ble_eq_true rfl) dL_law_12 ⟨(Nat.le_of_ble_eq_true rfl), (Nat.le_of_ble_eq_true rfl)⟩ (fun H locs I => ?_)
  refine lv_astore_n (lv' := [(2, .ref q3.1), (1, .ref q1.1), (0, .ref b)]) hx hb dL_law_15 rfl hl (by decide) rfl (fun ls hl => ?_)
  refine lv_iconst (v := 1) hx hb dL_law_16 (by decide) ?_
  obtain ⟨q5, e9, hJ⟩ := rp_b hJ
  refine rp_newJ (K := 1) (ty := .long) X I e9 (by decide) rfl rfl (by decide) wm_121 rfl (fun _ z => z) (Nat.le_of_ble_eq_true rfl) (Nat.le_of_ble_eq_true rfl) dL_law_17 (fun H I => ?_)
  refine lv_astore_n (lv' := [(3, .ref q5.1), (2, .ref q3.1), (1, .ref q1.1), (0, .ref b)]) hx hb dL_law_19 rfl hl (by decide) rfl (fun ls hl => ?_)
  refine lv_iconst (v := 0) hx hb dL_law_20 (by decide) ?_
  refine lv_istore (lv' := [(4, .int (0 : Int32)), (3, .ref q5.1), (2, .ref q3.1), (1, .ref q1.1), (0, .ref b)]) hx hb dL_law_21 hl (by decide) rfl (fun ls hl => ?_)
  exact w_Law_law_23 hfl X hN hth hr hX hbl hbA 600 _ _ (Nat.le_of_ble_eq_true rfl) (Nat.le_of_ble_eq_true rfl) _ _ _ _ _ _ _ _ hJ I (lv_sub hl [4, 3, 2, 1, 0] rfl)
