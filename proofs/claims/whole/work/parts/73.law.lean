theorem dk_comm {b n b' n' : Nat} {sh sh' : Nat → Shp} {I I' : Nat → Nat → Int32} {J J' : Nat → Nat → Int64} {F : Nat → Option HE} (h : b + n ≤ b') : dk b n sh I J (dk b' n' sh' I' J' F) = dk b' n' sh' I' J' (dk b n sh I J F) := by
  funext q
  simp only [dk]
  by_cases h1 : b ≤ q ∧ q < b + n
  · rw [if_pos h1, if_neg (show ¬ (b' ≤ q ∧ q < b' + n') by omega), if_pos h1]
  · rw [if_neg h1, if_neg h1]
theorem dk_hO {b n a : Nat} {sh : Nat → Shp} {I : Nat → Nat → Int32} {J : Nat → Nat → Int64} {F : Nat → Option HE} {e : HE} (h : a < b ∨ b + n ≤ a) : hU (dk b n sh I J F) a e = dk b n sh I J (hU F a e) := by
  funext q
  simp only [dk, hU]
  by_cases h1 : b ≤ q ∧ q < b + n
  · rw [if_pos h1, if_pos h1, if_neg (show ¬ q = a by omega)]
  · rw [if_neg h1, if_neg h1]
theorem dk_inj {b n : Nat} {sh : Nat → Shp} {I I' : Nat → Nat → Int32} {J J' : Nat → Nat → Int64} {F : Nat → Option HE} (h : dk b n sh I J F = dk b n sh I' J' F) (G : Nat → Option HE) : dk b n sh I J G = dk b n sh I' J' G := by
  funext q
  have h1 := congrFun h q
  simp only [dk] at h1 ⊢
  by_cases h2 : b ≤ q ∧ q < b + n
  · rw [if_pos h2, if_pos h2] at h1 ⊢; exact h1
  · rw [if_neg h2, if_neg h2]
theorem n_p5 (k : Nat) : nI k + (5 : Int32) = nI (k + 5) := n_add k 5
section LA
variable {V : Vw} {z y N : Nat} {I P : Nat → Nat → Int32} {J : Nat → Nat → Int64} {F : Nat → Option HE}
theorem h_comm : dH z I J (mH (z + 179) P F) = mH (z + 179) P (dH z I J F) := dk_comm (by omega)
theorem is_m : isO (y, dH z I J (mH (z + 179) P F)) 7 (z + 179) = some () := by rw [h_comm]; exact MO_0
theorem some_inj {α : Type} {x w : α} (h : some x = some w) : x = w := Option.some.inj h
theorem lift2 {f g : Hp → Option (Int32 × Hp)} (h : ∀ F1 F2, ∃ v V' I' P', f (y, dH z I J F1) = some (v, (y, dH z I' J F1)) ∧ g (y, mH (z + 179) P F2) = some (v, (y, mH (z + 179) P' F2)) ∧ PS V' I' P' ∧ RD I' P') : ∃ v V' I' P' M1, f (y, dH z I J (mH (z + 179) P F)) = some (v, (y, M1)) ∧ isO (y, M1) 7 (z + 179) = some () ∧ g (y, M1) = some (v, (y, dH z I' J (mH (z + 179) P' F))) ∧ PS V' I' P' ∧ RD I' P' := by
  obtain ⟨v, V', I', P', a1, a2, a3, a4⟩ := h (mH (z + 179) P F) F
  obtain ⟨v2, V2, I2, P2, b1, b2', b3, b4⟩ := h (mH (z + 179) P F) (dH z I' J F)
  have e := some_inj (a1.symm.trans b1)
  have e1 : v = v2 := congrArg (fun q : Int32 × Hp => q.1) e
  have e2 : dH z I' J (mH (z + 179) P F) = dH z I2 J (mH (z + 179) P F) := congrArg (fun q : Int32 × Hp => q.2.2) e
  have e3 : dH z I' J (mH (z + 179) P2 F) = dH z I2 J (mH (z + 179) P2 F) := dk_inj e2 _
  refine ⟨v, V2, I2, P2, _, a1, is_m, ?_, b3, b4⟩
  rw [h_comm, b2', e1, ← e3, h_comm]
theorem lift3 {f : Hp → Option ((Nat ⊕ Int32) × Hp)} {g : Hp → Option (Int32 × Hp)} {c : Nat} {h0 h1 : Hp} (h : ∀ z2 F2, ∃ P', PS V I P' ∧ RD I P' ∧ ((∃ v, f h0 = some (.inr v, h0) ∧ g (z2, mH c P F2) = some (v, (z2, mH c P' F2)) ∧ P' 0 0 = 0) ∨ (f h0 = some (.inl 2, h1) ∧ (∃ v, g (z2, mH c P F2) = some (v, (z2, mH c P' F2))) ∧ P' 0 0 = 1))) : (∃ v, f h0 = some (.inr v, h0) ∧ ∀ z2 F2, ∃ P', PS V I P' ∧ RD I P' ∧ g (z2, mH c P F2) = some (v, (z2, mH c P' F2)) ∧ P' 0 0 = 0) ∨ (f h0 = some (.inl 2, h1) ∧ ∀ z2 F2, ∃ v P', PS V I P' ∧ RD I P' ∧ g (z2, mH c P F2) = some (v, (z2, mH c P' F2)) ∧ P' 0 0 = 1) := by
  obtain ⟨P0, _, _, q⟩ := h 0 (fun _ => none)
  rcases q with ⟨v, a1, _, _⟩ | ⟨a1, _, _⟩
  · refine Or.inl ⟨v, a1, fun z2 F2 => ?_⟩
    obtain ⟨P', b1, b2', b3⟩ := h z2 F2
    rcases b3 with ⟨w, c1, c2, c3⟩ | ⟨c1, _, _⟩
    · have e := some_inj (a1.symm.trans c1)
      have e1 : v = w := by injection e with e1 _; injection e1
      exact ⟨P', b1, b2', by rw [e1]; exact c2, c3⟩
    · have e := some_inj (a1.symm.trans c1)
      injection e with e1 _
      cases e1
  · refine Or.inr ⟨a1, fun z2 F2 => ?_⟩
    obtain ⟨P', b1, b2', b3⟩ := h z2 F2
    rcases b3 with ⟨w, c1, c2, c3⟩ | ⟨c1, ⟨w, c2⟩, c3⟩
    · have e := some_inj (a1.symm.trans c1)
      injection e with e1 _
      cases e1
    · exact ⟨w, P', b1, b2', c2, c3⟩
theorem lift4 {f : Hp → Option ((Nat ⊕ Int32) × Hp)} {g : Hp → Option (Int32 × Hp)} {c : Nat} {G : Nat → Option HE} (h : ∀ z2 F2, ∃ I' J' P', PS V I' P' ∧ RD I' P' ∧ ((∃ v, f (y, dH z I J G) = some (.inr v, (y, dH z I' J' G)) ∧ g (z2, mH c P F2) = some (v, (z2, mH c P' F2)) ∧ P' 0 0 = 0) ∨ (f (y, dH z I J G) = some (.inl 0, (y + 1, dH z I' J' G)) ∧ (∃ v, g (z2, mH c P F2) = some (v, (z2, mH c P' F2))) ∧ P' 0 0 = 1) ∨ (f (y, dH z I J G) = some (.inl 1, (y + 1, dH z I' J' G)) ∧ (∃ v, g (z2, mH c P F2) = some (v, (z2, mH c P' F2))) ∧ P' 0 0 = 2))) : ∃ I1 J1, (∃ v, f (y, dH z I J G) = some (.inr v, (y, dH z I1 J1 G)) ∧ ∀ z2 F2, ∃ I2 J2 P', (∀ K, dH z I1 J1 K = dH z I2 J2 K) ∧ PS V I2 P' ∧ RD I2 P' ∧ g (z2, mH c P F2) = some (v, (z2, mH c P' F2)) ∧ P' 0 0 = 0) ∨ (∃ k : Nat, k < 2 ∧ f (y, dH z I J G) = some (.inl k, (y + 1, dH z I1 J1 G)) ∧ ∀ z2 F2, ∃ v I2 J2 P', (∀ K, dH z I1 J1 K = dH z I2 J2 K) ∧ PS V I2 P' ∧ RD I2 P' ∧ g (z2, mH c P F2) = some (v, (z2, mH c P' F2)) ∧ P' 0 0 = nI (k + 1)) := by
  obtain ⟨I1, J1, P0, _, _, q⟩ := h 0 (fun _ => none)
  refine ⟨I1, J1, ?_⟩
  rcases q with ⟨v, a1, _, _⟩ | ⟨a1, _, _⟩ | ⟨a1, _, _⟩
  · refine Or.inl ⟨v, a1, fun z2 F2 => ?_⟩
    obtain ⟨I2, J2, P', b1, b2', b3⟩ := h z2 F2
    rcases b3 with ⟨w, c1, c2, c3⟩ | ⟨c1, _, _⟩ | ⟨c1, _, _⟩
    · have e := some_inj (a1.symm.trans c1)
      have e2 : dH z I1 J1 G = dH z I2 J2 G := congrArg (fun q : (Nat ⊕ Int32) × Hp => q.2.2) e
      have e1 : v = w := by injection e with e1 _; injection e1
      exact ⟨I2, J2, P', fun K => dk_inj e2 K, b1, b2', by rw [e1]; exact c2, c3⟩
    · have e := some_inj (a1.symm.trans c1)
      injection e with e1 _
      cases e1
    · have e := some_inj (a1.symm.trans c1)
      injection e with e1 _
      cases e1
  · refine Or.inr ⟨0, by omega, a1, fun z2 F2 => ?_⟩
    obtain ⟨I2, J2, P', b1, b2', b3⟩ := h z2 F2
    rcases b3 with ⟨w, c1, c2, c3⟩ | ⟨c1, ⟨w, c2⟩, c3⟩ | ⟨c1, _, _⟩
    · have e := some_inj (a1.symm.trans c1)
      injection e with e1 _
      cases e1
    · have e := some_inj (a1.symm.trans c1)
      have e2 : dH z I1 J1 G = dH z I2 J2 G := congrArg (fun q : (Nat ⊕ Int32) × Hp => q.2.2) e
      exact ⟨w, I2, J2, P', fun K => dk_inj e2 K, b1, b2', c2, c3⟩
    · have e := some_inj (a1.symm.trans c1)
      injection e with e1 _
      injection e1 with e1
      exact absurd e1 (by decide)
  · refine Or.inr ⟨1, by omega, a1, fun z2 F2 => ?_⟩
    obtain ⟨I2, J2, P', b1, b2', b3⟩ := h z2 F2
    rcases b3 with ⟨w, c1, c2, c3⟩ | ⟨c1, _, _⟩ | ⟨c1, ⟨w, c2⟩, c3⟩
    · have e := some_inj (a1.symm.trans c1)
      injection e with e1 _
      cases e1
    · have e := some_inj (a1.symm.trans c1)
      injection e with e1 _
      injection e1 with e1
      exact absurd e1 (by decide)
    · have e := some_inj (a1.symm.trans c1)
      have e2 : dH z I1 J1 G = dH z I2 J2 G := congrArg (fun q : (Nat ⊕ Int32) × Hp => q.2.2) e
      exact ⟨w, I2, J2, P', fun K => dk_inj e2 K, b1, b2', c2, c3⟩
/-- the law's own long -/
theorem out_s {g : Nat → Int64} {v : Int64} (hF : F (z + 213) = some (.inl (2, 1, .inr (.inl g)))) : ∃ F', sJ (y, dH z I J (mH (z + 179) P F)) 2 (z + 213) (0 : Int32) v = some (y, dH z I J (mH (z + 179) P F')) ∧ ∃ g', F' (z + 213) = some (.inl (2, 1, .inr (.inl g'))) ∧ g' 0 = v := by
  refine ⟨hU F (z + 213) (.inl (2, 1, .inr (.inl (vp_updL g 0 v)))), ?_, vp_updL g 0 v, hU_eq, by simp [vp_updL]⟩
  have h1 : dH z I J (mH (z + 179) P F) (z + 213) = some (.inl (2, 1, .inr (.inl g))) := by
    show dk z 179 dSh I J (dk (z + 179) 34 mSh P (fun _ _ => 0) F) (z + 213) = _
    rw [dk_out (by omega), dk_out (by omega)]; exact hF
  have h2 : iX (0 : Int32) 1 = some 0 := rfl
  simp only [sJ, gA, h1, if_true, Option.bind_some, xJ, h2]
  rw [show hU (dH z I J (mH (z + 179) P F)) (z + 213) (.inl (2, 1, .inr (.inl (vp_updL g 0 v)))) = dH z I J (mH (z + 179) P (hU F (z + 213) (.inl (2, 1, .inr (.inl (vp_updL g 0 v)))))) from by
    show hU (dk z 179 dSh I J (dk (z + 179) 34 mSh P (fun _ _ => 0) F)) (z + 213) _ = dk z 179 dSh I J (dk (z + 179) 34 mSh P (fun _ _ => 0) _)
    rw [dk_hO (by omega), dk_hO (by omega)]]
theorem out_g {g : Nat → Int64} (hF : F (z + 213) = some (.inl (2, 1, .inr (.inl g)))) : aJ (y, dH z I J (mH (z + 179) P F)) 2 (z + 213) (0 : Int32) = some (g 0) := by
  have h1 : dH z I J (mH (z + 179) P F) (z + 213) = some (.inl (2, 1, .inr (.inl g))) := by
    show dk z 179 dSh I J (dk (z + 179) 34 mSh P (fun _ _ => 0) F) (z + 213) = _
    rw [dk_out (by omega), dk_out (by omega)]; exact hF
  have h2 : iX (0 : Int32) 1 = some 0 := rfl
  simp only [aJ, gA, h1, if_true, Option.bind_some, xJ, h2]
theorem thr_m : J_Mod_thrown N (z + 179) (y, dH z I J (mH (z + 179) P F)) = some (P 0 0, (y, dH z I J (mH (z + 179) P F))) := by
  rw [h_comm, J_Mod_thrown, MG_0_0]; rfl
/-- what a call that may throw gives the law: its kind, the model's answer and its kind, and the long -/
def Thr (V : Vw) (z : Nat) (w : Hp → Option (Int32 × Hp)) (g : Hp → Option (Int32 × Hp)) (h : Hp) : Prop := ∃ k y1 M1 y2 I2 J2 P2 F2 v, w h = some (k, (y1, M1)) ∧ isO (y1, M1) 7 (z + 179) = some () ∧ g (y1, M1) = some (v, (y2, dH z I2 J2 (mH (z + 179) P2 F2))) ∧ PS V I2 P2 ∧ RD I2 P2 ∧ P2 0 0 = k ∧ ∃ g2, F2 (z + 213) = some (.inl (2, 1, .inr (.inl g2))) ∧ (k = 0 → g2 0 = v.toInt64)
theorem t_build {g0 : Nat → Int64} (hS : PS V I P) (hRD : RD I P) (hF : F (z + 213) = some (.inl (2, 1, .inr (.inl g0)))) (hN : 1000000 < N) (x1 x2 : Int32) : Thr V z (J_Law_build N z x1 x2 (z + 213)) (J_Mod_build N (z + 179) x1 x2) (y, dH z I J (mH (z + 179) P F)) := by
  obtain ⟨I1, J1, q⟩ := lift4 (V := V) (z := z) (y := y) (I := I) (P := P) (J := J) (f := J_Desk_build N z x1 x2) (g := J_Mod_build N (z + 179) x1 x2) (c := z + 179) (G := mH (z + 179) P F) (fun z2 F2 => o_build (V := V) (z := y) (b := z) (z2 := z2) (c := z + 179) (N := N) (J := J) (F := mH (z + 179) P F) (F2 := F2) hS hRD x1 x2 hN)
  rcases q with ⟨v, a1, a2⟩ | ⟨k, hk, a1, a2⟩
  · obtain ⟨F', b1, g', b2', b3⟩ := out_s (I := I1) (J := J1) (P := P) (y := y) (v := v.toInt64) hF
    obtain ⟨I2, J2, P', c1, c2, c3, c4, c5⟩ := a2 y (dH z I1 J1 F')
    refine ⟨0, y, dH z I1 J1 (mH (z + 179) P F'), y, I2, J2, P', F', v, ?_, is_m, ?_, c2, c3, c5, g', b2', fun _ => b3⟩
    · simp only [J_Law_build, DO_0, Option.bind_some, a1, b1]
    · rw [h_comm, c4, ← c1, h_comm]
  · obtain ⟨w, I2, J2, P', c1, c2, c3, c4, c5⟩ := a2 (y + 1) (dH z I1 J1 F)
    refine ⟨nI (k + 1), y + 1, dH z I1 J1 (mH (z + 179) P F), y + 1, I2, J2, P', F, w, ?_, is_m, ?_, c2, c3, c5, g0, hF, fun h => ?_⟩
    · simp only [J_Law_build, DO_0, Option.bind_some, a1]
      rcases (show k = 0 ∨ k = 1 by omega) with h | h <;> subst h <;> rfl
    · rw [h_comm, c4, ← c1, h_comm]
    · exact absurd h (nI_ne0 (by omega) (by omega))
theorem t_begun {g0 : Nat → Int64} (hS : PS V I P) (hRD : RD I P) (hF : F (z + 213) = some (.inl (2, 1, .inr (.inl g0)))) (x1 x2 : Int32) : Thr V z (J_Law_begun N z x1 x2 (z + 213)) (J_Mod_begun N (z + 179) x1 x2) (y, dH z I J (mH (z + 179) P F)) := by
  rcases lift3 (V := V) (I := I) (P := P) (f := J_Desk_begun N z x1 x2) (g := J_Mod_begun N (z + 179) x1 x2) (c := z + 179) (h0 := (y, dH z I J (mH (z + 179) P F))) (h1 := (y + 1, dH z I J (mH (z + 179) P F))) (fun z2 F2 => o_begun (V := V) (z := y) (b := z) (z2 := z2) (c := z + 179) (N := N) (J := J) (F := mH (z + 179) P F) (F2 := F2) hS hRD x1 x2) with ⟨v, a1, a2⟩ | ⟨a1, a2⟩
  · obtain ⟨F', b1, g', b2', b3⟩ := out_s (I := I) (J := J) (P := P) (y := y) (v := v.toInt64) hF
    obtain ⟨P', c2, c3, c4, c5⟩ := a2 y (dH z I J F')
    refine ⟨0, y, dH z I J (mH (z + 179) P F'), y, I, J, P', F', v, ?_, is_m, ?_, c2, c3, c5, g', b2', fun _ => b3⟩
    · simp only [J_Law_begun, DO_0, Option.bind_some, a1, b1]
    · rw [h_comm, c4, h_comm]
  · obtain ⟨w, P', c2, c3, c4, c5⟩ := a2 (y + 1) (dH z I J F)
    refine ⟨1, y + 1, dH z I J (mH (z + 179) P F), y + 1, I, J, P', F, w, ?_, is_m, ?_, c2, c3, c5, g0, hF, fun h => absurd h (by decide)⟩
    · simp only [J_Law_begun, DO_0, Option.bind_some, a1]
      rfl
    · rw [h_comm, c4, h_comm]
theorem t_cycle {g0 : Nat → Int64} (hS : PS V I P) (hRD : RD I P) (hF : F (z + 213) = some (.inl (2, 1, .inr (.inl g0)))) (x1 : Int32) : Thr V z (J_Law_cycle N z x1 (z + 213)) (J_Mod_cycle N (z + 179) x1) (y, dH z I J (mH (z + 179) P F)) := by
  rcases lift3 (V := V) (I := I) (P := P) (f := J_Desk_cycle N z x1) (g := J_Mod_cycle N (z + 179) x1) (c := z + 179) (h0 := (y, dH z I J (mH (z + 179) P F))) (h1 := (y + 1, dH z I J (mH (z + 179) P F))) (fun z2 F2 => o_cycle (V := V) (z := y) (b := z) (z2 := z2) (c := z + 179) (N := N) (J := J) (F := mH (z + 179) P F) (F2 := F2) hS hRD x1) with ⟨v, a1, a2⟩ | ⟨a1, a2⟩
  · obtain ⟨F', b1, g', b2', b3⟩ := out_s (I := I) (J := J) (P := P) (y := y) (v := v.toInt64) hF
    obtain ⟨P', c2, c3, c4, c5⟩ := a2 y (dH z I J F')
    refine ⟨0, y, dH z I J (mH (z + 179) P F'), y, I, J, P', F', v, ?_, is_m, ?_, c2, c3, c5, g', b2', fun _ => b3⟩
    · simp only [J_Law_cycle, DO_0, Option.bind_some, a1, b1]
    · rw [h_comm, c4, h_comm]
  · obtain ⟨w, P', c2, c3, c4, c5⟩ := a2 (y + 1) (dH z I J F)
    refine ⟨1, y + 1, dH z I J (mH (z + 179) P F), y + 1, I, J, P', F, w, ?_, is_m, ?_, c2, c3, c5, g0, hF, fun h => absurd h (by decide)⟩
    · simp only [J_Law_cycle, DO_0, Option.bind_some, a1]
      rfl
    · rw [h_comm, c4, h_comm]
theorem t_content {g0 : Nat → Int64} (hS : PS V I P) (hRD : RD I P) (hF : F (z + 213) = some (.inl (2, 1, .inr (.inl g0)))) (x1 : Int32) : Thr V z (J_Law_content N z x1 (z + 213)) (J_Mod_content N (z + 179) x1) (y, dH z I J (mH (z + 179) P F)) := by
  rcases lift3 (V := V) (I := I) (P := P) (f := J_Desk_content N z x1) (g := J_Mod_content N (z + 179) x1) (c := z + 179) (h0 := (y, dH z I J (mH (z + 179) P F))) (h1 := (y + 1, dH z I J (mH (z + 179) P F))) (fun z2 F2 => o_content (V := V) (z := y) (b := z) (z2 := z2) (c := z + 179) (N := N) (J := J) (F := mH (z + 179) P F) (F2 := F2) hS hRD x1) with ⟨v, a1, a2⟩ | ⟨a1, a2⟩
  · obtain ⟨F', b1, g', b2', b3⟩ := out_s (I := I) (J := J) (P := P) (y := y) (v := v.toInt64) hF
    obtain ⟨P', c2, c3, c4, c5⟩ := a2 y (dH z I J F')
    refine ⟨0, y, dH z I J (mH (z + 179) P F'), y, I, J, P', F', v, ?_, is_m, ?_, c2, c3, c5, g', b2', fun _ => b3⟩
    · simp only [J_Law_content, DO_0, Option.bind_some, a1, b1]
    · rw [h_comm, c4, h_comm]
  · obtain ⟨w, P', c2, c3, c4, c5⟩ := a2 (y + 1) (dH z I J F)
    refine ⟨1, y + 1, dH z I J (mH (z + 179) P F), y + 1, I, J, P', F, w, ?_, is_m, ?_, c2, c3, c5, g0, hF, fun h => absurd h (by decide)⟩
    · simp only [J_Law_content, DO_0, Option.bind_some, a1]
      rfl
    · rw [h_comm, c4, h_comm]
end LA
