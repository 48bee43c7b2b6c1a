section GW
variable {p : Program} {l : Launch} {e : Env} {s : State} {m : MethodId} {args : Array Value} {below : List Frame} {meth : Method} {c : Code} {D : va_G} {tys : List (ClassId × FieldType)} {A : Nat → Prop}
def rmX6_init : Room := { frames := 2, cells := 600, slots := 6000, locals := 41 }
def J_Desk_init_26 (N : Nat)  : Nat → Nat → Int32 → Hp → Option (Unit × Hp)
  | 0, _, _, _ => none
  | n + 1, x0, x1, h =>
  if (40 : Int32) ≤ x1 then
  ((nO_ h 2 [.null, .null, .int 0, .null, .long 0]).bind fun q6 =>
  (J_Plan_init N q6.1 q6.2).bind fun q7 =>
 (sF q7.2 6 x0 2 (.ref q6.1)).bind fun h8 =>
  (nO_ h8 0 [.null, .null, .null, .long 0, .long 0]).bind fun q9 =>
  (J_Crew_init N q9.1 q9.2).bind fun q10 =>
 (sF q10.2 6 x0 3 (.ref q9.1)).bind fun h11 =>
  (nO_ h11 3 [.int 0, .int 0, .int 0, .int 0, .null]).bind fun q12 =>
  (J_Rep_init N q12.1 q12.2).bind fun q13 =>
 (sF q13.2 6 x0 4 (.ref q12.1)).bind fun h14 =>
  (nO_ h14 4 [.null, .int 0, .null]).bind fun q15 =>
  (J_Round_init N q15.1 q15.2).bind fun q16 =>
 (sF q16.2 6 x0 5 (.ref q15.1)).bind fun h17 =>
  some ((), h17))
  else
  ((fR h 6 x0 1).bind fun v18 =>
  (nO_ h 5 [.int 0, .int 0, .int 0, .int 0, .null, .int 0, .null, .int 0, .int 0, .int 0, .int 0, .int 0, .int 0, .null]).bind fun q19 =>
  (J_Step_init N q19.1 q19.2).bind fun q20 =>
 (sR q20.2 3 5 v18 x1 q19.1).bind fun h21 =>
  (J_Desk_init_26 N n) x0 (x1 + (1 : Int32)) h21)
def J_Desk_init (N : Nat) (x0 : Nat) (h : Hp) : Option (Unit × Hp) :=
  (nO_ h 1 [.null, .null, .null]).bind fun q1 =>
  (J_File_init N q1.1 q1.2).bind fun q2 =>
 (sF q2.2 6 x0 0 (.ref q1.1)).bind fun h3 =>
  (nR_ h3 3 (40 : Int32)).bind fun q4 =>
  (sF q4.2 6 x0 1 (.ref q4.1)).bind fun h5 =>
  J_Desk_init_26 N 41 x0 (0 : Int32) h5
set_option maxHeartbeats 4000000 in
set_option maxRecDepth 100000 in
theorem w_Desk_init_26 (X : Cx p s m args meth c D vwCl tys cX6_init 2 RX6 wsG) (hN : nwS s) (hr : meth.sig.returnType = none) (hinit : meth.name = "<init>") {res : (Unit × Hp)} {N : Nat}   : ∀ (n : Nat) (cells slots : Nat) (_ : cells + 4 * n + 13 ≤ 600) (_ : slots + 29 * n + 510 ≤ 6000) (x0 : Nat) (x1 : Int32)  (h : Hp) (H : Heap) (locs : List Loc) (ls : Array Slot), J_Desk_init_26 N n x0 x1 h = some res → In D vwCl tys A s h H locs → lv_has ls 2 [(0, .ref x0), (1, .int x1)] → W p l e rmX6_init s m args below meth c H locs cells slots (MQ below (Qr D vwCl tys A none res.2) args s 600 6000 A) (F0 m 26 ls []) := by
  have hx := X.1.1
  have hb := X.1.2.1
  have hml := X.1.2.2.1
  have ho := X.1.2.2.2.1
  have hts := X.1.2.2.2.2
  have hK := X.2.1
  have hT := X.2.2.2
  intro n
  induction n with
  | zero =>
    intro cells slots hc hs x0 x1  h H locs ls hJ I hl
    exact nomatch (show (none : Option (Unit × Hp)) = some res from hJ)
  | succ n k26 =>
    intro cells slots hc hs x0 x1  h H locs ls hJ I hl
    rw [J_Desk_init_26] at hJ
    refine lv_iload_n hx hb dX6_init_26 rfl (lv_at hl 1 rfl) ?_
    refine lv_bipush (v := 40) hx hb dX6_init_27 (by decide) ?_
    refine lv_icmp_ge (tgt := 51) hx hb dX6_init_29 (by decide) (fun c9 => ?_) (fun c9 => ?_)
    · rw [if_pos c9] at hJ
      refine lv_aload_n hx hb dX6_init_51 rfl (lv_at hl 0 rfl) ?_
      obtain ⟨q6, e9, hJ⟩ := rp_b hJ
      refine rp_new X I e9 rfl wiX2 tyX2 tyX2_ok wm_105 wm_106 wm_36 (by decide +kernel) (by show _ ≤ (600 : Nat); (try simp only [rmX0_init, rmX1_init, rmX2_init, rmX3_init, rmX4_init, rmX5_init]); omega) (by show _ ≤ (6000 : Nat); (try simp only [rmX0_init, rmX1_init, rmX2_init, rmX3_init, rmX4_init, rmX5_init]); omega) dX6_init_52 (fun H I => ?_)
      refine lv_dup hx hb dX6_init_55 rfl ?_
      obtain ⟨q7, e9, hJ⟩ := rp_b hJ
      refine rp_callIN (As := []) (rest := [.ref q6.1, .ref x0]) X hN I (c_Plan_init hT e9) ⟨(va_cnB (host := "BuildDesk") 0 hts (gdC wm_108) rfl rfl rfl (hN.1 _ (by decide +kernel)) (hts _ wm_36) (by decide +kernel) ⟨Nat.le_of_ble_eq_true rfl, Nat.le_of_ble_eq_true rfl⟩), rfl, hts _ wm_107⟩ rfl hl.1 rfl (Nat.le_of_ble_eq_true rfl) dX6_init_56 ⟨(by show _ ≤ (600 : Nat); (try simp only [rmX0_init, rmX1_init, rmX2_init, rmX3_init, rmX4_init, rmX5_init]); omega), (by show _ ≤ (6000 : Nat); (try simp only [rmX0_init, rmX1_init, rmX2_init, rmX3_init, rmX4_init, rmX5_init]); omega)⟩ (fun H locs I => ?_)
      obtain ⟨h8, e9, hJ⟩ := rp_b hJ
      refine rp_putF (ty := (.object "BuildDesk$Plan")) X I e9 rfl wiX6 tyX6 tyX6_ok nmX6 (by decide) wm_168 rfl hinit rfl (by decide +kernel) rfl rfl dX6_init_59 (fun H locs I => ?_)
      refine lv_aload_n hx hb dX6_init_62 rfl (lv_at hl 0 rfl) ?_
      obtain ⟨q9, e9, hJ⟩ := rp_b hJ
      refine rp_new X I e9 rfl wiX0 tyX0 tyX0_ok wm_122 wm_123 wm_37 (by decide +kernel) (by show _ ≤ (600 : Nat); (try simp only [rmX0_init, rmX1_init, rmX2_init, rmX3_init, rmX4_init, rmX5_init]); omega) (by show _ ≤ (6000 : Nat); (try simp only [rmX0_init, rmX1_init, rmX2_init, rmX3_init, rmX4_init, rmX5_init]); omega) dX6_init_63 (fun H I => ?_)
      refine lv_dup hx hb dX6_init_66 rfl ?_
      obtain ⟨q10, e9, hJ⟩ := rp_b hJ
      refine rp_callIN (As := []) (rest := [.ref q9.1, .ref x0]) X hN I (c_Crew_init hT e9) ⟨(va_cnB (host := "BuildDesk") 0 hts (gdC wm_125) rfl rfl rfl (hN.1 _ (by decide +kernel)) (hts _ wm_37) (by decide +kernel) ⟨Nat.le_of_ble_eq_true rfl, Nat.le_of_ble_eq_true rfl⟩), rfl, hts _ wm_124⟩ rfl hl.1 rfl (Nat.le_of_ble_eq_true rfl) dX6_init_67 ⟨(by show _ ≤ (600 : Nat); (try simp only [rmX0_init, rmX1_init, rmX2_init, rmX3_init, rmX4_init, rmX5_init]); omega), (by show _ ≤ (6000 : Nat); (try simp only [rmX0_init, rmX1_init, rmX2_init, rmX3_init, rmX4_init, rmX5_init]); omega)⟩ (fun H locs I => ?_)
      obtain ⟨h11, e9, hJ⟩ := rp_b hJ
      refine rp_putF (ty := (.object "BuildDesk$Crew")) X I e9 rfl wiX6 tyX6 tyX6_ok nmX6 (by decide) wm_169 rfl hinit rfl (by decide +kernel) rfl rfl dX6_init_70 (fun H locs I => ?_)
      refine lv_aload_n hx hb dX6_init_73 rfl (lv_at hl 0 rfl) ?_
      obtain ⟨q12, e9, hJ⟩ := rp_b hJ
      refine rp_new X I e9 rfl wiX3 tyX3 tyX3_ok wm_138 wm_139 wm_38 (by decide +kernel) (by show _ ≤ (600 : Nat); (try simp only [rmX0_init, rmX1_init, rmX2_init, rmX3_init, rmX4_init, rmX5_init]); omega) (by show _ ≤ (6000 : Nat); (try simp only [rmX0_init, rmX1_init, rmX2_init, rmX3_init, rmX4_init, rmX5_init]); omega) dX6_init_74 (fun H I => ?_)
      refine lv_dup hx hb dX6_init_77 rfl ?_
      obtain ⟨q13, e9, hJ⟩ := rp_b hJ
      refine rp_callIN (As := []) (rest := [.ref q12.1, .ref x0]) X hN I (c_Rep_init hT e9) ⟨(va_cnB (host := "BuildDesk") 0 hts (gdC wm_141) rfl rfl rfl (hN.1 _ (by decide +kernel)) (hts _ wm_38) (by decide +kernel) ⟨Nat.le_of_ble_eq_true rfl, Nat.le_of_ble_eq_true rfl⟩), rfl, hts _ wm_140⟩ rfl hl.1 rfl (Nat.le_of_ble_eq_true rfl) dX6_init_78 ⟨(by show _ ≤ (600 : Nat); (try simp only [rmX0_init, rmX1_init, rmX2_init, rmX3_init, rmX4_init, rmX5_init]); omega), (by show _ ≤ (6000 : Nat); (try simp only [rmX0_init, rmX1_init, rmX2_init, rmX3_init, rmX4_init, rmX5_init]); omega)⟩ (fun H locs I => ?_)
      obtain ⟨h14, e9, hJ⟩ := rp_b hJ
      refine rp_putF (ty := (.object "BuildDesk$Report")) X I e9 rfl wiX6 tyX6 tyX6_ok nmX6 (by decide) wm_170 rfl hinit rfl (by decide +kernel) rfl rfl dX6_init_81 (fun H locs I => ?_)
      refine lv_aload_n hx hb dX6_init_84 rfl (lv_at hl 0 rfl) ?_
      obtain ⟨q15, e9, hJ⟩ := rp_b hJ
      refine rp_new X I e9 rfl wiX4 tyX4 tyX4_ok wm_154 wm_155 wm_39 (by decide +kernel) (by show _ ≤ (600 : Nat); (try simp only [rmX0_init, rmX1_init, rmX2_init, rmX3_init, rmX4_init, rmX5_init]); omega) (by show _ ≤ (6000 : Nat); (try simp only [rmX0_init, rmX1_init, rmX2_init, rmX3_init, rmX4_init, rmX5_init]); omega) dX6_init_85 (fun H I => ?_)
      refine lv_dup hx hb dX6_init_88 rfl ?_
      obtain ⟨q16, e9, hJ⟩ := rp_b hJ
      refine rp_callIN (As := []) (rest := [.ref q15.1, .ref x0]) X hN I (c_Round_init hT e9) ⟨(va_cnB (host := "BuildDesk") 0 hts (gdC wm_157) rfl rfl rfl (hN.1 _ (by decide +kernel)) (hts _ wm_39) (by decide +kernel) ⟨Nat.le_of_ble_eq_true rfl, Nat.le_of_ble_eq_true rfl⟩), rfl, hts _ wm_156⟩ rfl hl.1 rfl (Nat.le_of_ble_eq_true rfl) dX6_init_89 ⟨(by show _ ≤ (600 : Nat); (try simp only [rmX0_init, rmX1_init, rmX2_init, rmX3_init, rmX4_init, rmX5_init]); omega), (by show _ ≤ (6000 : Nat); (try simp only [rmX0_init, rmX1_init, rmX2_init, rmX3_init, rmX4_init, rmX5_init]); omega)⟩ (fun H locs I => ?_)
      obtain ⟨h17, e9, hJ⟩ := rp_b hJ
      refine rp_putF (ty := (.object "BuildDesk$Round")) X I e9 rfl wiX6 tyX6 tyX6_ok nmX6 (by decide) wm_171 rfl hinit rfl (by decide +kernel) rfl rfl dX6_init_92 (fun H locs I => ?_)
      refine W.widen (k := 600) (n := 6000) (by show _ ≤ (600 : Nat); (try simp only [rmX0_init, rmX1_init, rmX2_init, rmX3_init, rmX4_init, rmX5_init]); omega) (by show _ ≤ (6000 : Nat); (try simp only [rmX0_init, rmX1_init, rmX2_init, rmX3_init, rmX4_init, rmX5_init]); omega) ?_
      exact rp_vret X hr hJ I dX6_init_95
    · rw [if_neg c9] at hJ
      refine lv_aload_n hx hb dX6_init_32 rfl (lv_at hl 0 rfl) ?_
      obtain ⟨v18, e9, hJ⟩ := rp_b hJ
      obtain ⟨f9, g9, e9⟩ := fR_s e9
      refine rp_get X I g9 e9 rfl wiX6 (by decide) wm_167 dX6_init_33 ?_
      refine lv_iload_n hx hb dX6_init_36 rfl (lv_at hl 1 rfl) ?_
      obtain ⟨q19, e9, hJ⟩ := rp_b hJ
      refine rp_new X I e9 rfl wiX5 tyX5 tyX5_ok wm_71 wm_72 wm_35 (by decide +kernel) (by show _ ≤ (600 : Nat); (try simp only [rmX0_init, rmX1_init, rmX2_init, rmX3_init, rmX4_init, rmX5_init]); omega) (by show _ ≤ (6000 : Nat); (try simp only [rmX0_init, rmX1_init, rmX2_init, rmX3_init, rmX4_init, rmX5_init]); omega) dX6_init_37 (fun H I => ?_)
      refine lv_dup hx hb dX6_init_40 rfl ?_
      obtain ⟨q20, e9, hJ⟩ := rp_b hJ
      refine rp_callIN (As := []) (rest := [.ref q19.1, .int x1, .ref v18]) X hN I (c_Step_init hT e9) ⟨(va_cnB (host := "BuildDesk") 0 hts (gdC wm_74) rfl rfl rfl (hN.1 _ (by decide +kernel)) (hts _ wm_35) (by decide +kernel) ⟨Nat.le_of_ble_eq_true rfl, Nat.le_of_ble_eq_true rfl⟩), rfl, hts _ wm_73⟩ rfl hl.1 rfl (Nat.le_of_ble_eq_true rfl) dX6_init_41 ⟨(by show _ ≤ (600 : Nat); (try simp only [rmX0_init, rmX1_init, rmX2_init, rmX3_init, rmX4_init, rmX5_init]); omega), (by show _ ≤ (6000 : Nat); (try simp only [rmX0_init, rmX1_init, rmX2_init, rmX3_init, rmX4_init, rmX5_init]); omega)⟩ (fun H locs I => ?_)
      obtain ⟨h21, e9, hJ⟩ := rp_b hJ
      refine rp_aast X I e9 rfl rfl dX6_init_44 (fun H locs I => ?_)
      refine lv_iinc (v := (x1 + (1 : Int32))) (lv' := [(1, .int (x1 + (1 : Int32))), (0, .ref x0)]) hx hb dX6_init_45 hl (k := 1) rfl rfl (by decide) rfl (fun ls hl => ?_)
      refine lv_goto (tgt := 26) hx hb dX6_init_48 (by decide) ?_
      exact k26 _ _ (by (try simp only [rmX0_init, rmX1_init, rmX2_init, rmX3_init, rmX4_init, rmX5_init]); omega) (by (try simp only [rmX0_init, rmX1_init, rmX2_init, rmX3_init, rmX4_init, rmX5_init]); omega) _ _ _ _ _ _ hJ I (lv_sub hl [1, 0] rfl)
set_option maxHeartbeats 4000000 in
set_option maxRecDepth 100000 in
theorem c_Desk_init {l : Launch} {D : va_G} {tys : List (ClassId × FieldType)} {A : Nat → Prop} (hT : tys.map (fun q => q.2) = tyS) {N : Nat} {x0 : Nat} {h : Hp} {res : (Unit × Hp)} (hJ : J_Desk_init N x0 h = some res) : Ct l D vwCl tys A yX6_init (Cond.code yX6_init cX6_init 2 none :: wsG) rmX6_init [.ref x0] h none res.2 := by
  refine Met.ofW (cc := cX6_init) (maxL := 2) (ret := none) (by decide) rfl ?_
  intro p e s m args below meth c s₁ B hml hv
  obtain ⟨rfl, hA, hR, hK, hN⟩ := hv
  have hr := B.returns
  have hts : ∀ w ∈ wsG, w.before [.ref x0].toArray s = true := fun w hw => atoms_spec (ws := Cond.code yX6_init cX6_init 2 none :: wsG) B.pre w (List.mem_cons_of_mem _ hw)
  have X : Cx p s m [.ref x0].toArray meth c D vwCl tys cX6_init 2 RX6 wsG := ⟨⟨B.exec, B.bytes, hml, findClass_of_methodNamed B.named, hts⟩, hK, B.notSynchronized, hT⟩
  have hinit : meth.name = "<init>" := (name_of_methodNamed B.named B.method).1
  have hx := B.exec
  have hb := B.bytes
  have I : In D vwCl tys A s h s.heap [] := ⟨hR, va_S.rf, hA⟩
  have hl := lv_entry [.ref x0] (n := 2) (Nat.le_of_ble_eq_true rfl)
  rw [lg_entry_eq]
  generalize (lg_sl [.ref x0] ++ List.replicate (2 - (lg_sl [.ref x0]).length) Slot.unset).toArray = ls at hl ⊢
  have hl : lv_has ls 2 [(0, .ref x0)] := hl
  have ho := X.1.2.2.2.1
  rw [J_Desk_init] at hJ
  refine lv_aload_n hx hb dX6_init_0 rfl (lv_at hl 0 rfl) ?_
  refine W.objInit hx hb ho (hts _ wm_53) (hts _ wm_54) (hts _ wm_55) rfl (by rw [hml]; exact hl.1) rfl dX6_init_1 (Nat.le_of_ble_eq_true rfl) (Nat.le_of_ble_eq_true rfl) ?_
  refine W.eq (g2 := F0 m 4 ls []) rfl ?_
  refine lv_aload_n hx hb dX6_init_4 rfl (lv_at hl 0 rfl) ?_
  obtain ⟨q1, e9, hJ⟩ := rp_b hJ
  refine rp_new X I e9 rfl wiX1 tyX1 tyX1_ok wm_56 wm_57 wm_34 (by decide +kernel) (Nat.le_of_ble_eq_true rfl) (Nat.le_of_ble_eq_true rfl) dX6_init_5 (fun H I => ?_)
  refine lv_dup hx hb dX6_init_8 rfl ?_
  obtain ⟨q2, e9, hJ⟩ := rp_b hJ
  refine rp_callI (As := []) (rest := [.ref q1.1, .ref x0]) X hN I (c_File_init hT e9) (cwI 0 hts (gdC wm_60) rfl rfl rfl (hts _ wm_34) (hts _ wm_58) (hts _ wm_59) rfl (by decide +kernel) ⟨Nat.le_of_ble_eq_true rfl, Nat.le_of_ble_eq_true rfl⟩) rfl hl.1 rfl (Nat.le_of_ble_eq_true rfl) dX6_init_9 ⟨(Nat.le_of_ble_eq_true rfl), (Nat.le_of_ble_eq_true rfl)⟩ (fun H locs I => ?_)
  obtain ⟨h3, e9, hJ⟩ := rp_b hJ
  refine rp_putF (ty := (.object "BuildDesk$FileTable")) X I e9 rfl wiX6 tyX6 tyX6_ok nmX6 (by decide) wm_166 rfl hinit rfl (by decide +kernel) rfl rfl dX6_init_12 (fun H locs I => ?_)
  refine lv_aload_n hx hb dX6_init_15 rfl (lv_at hl 0 rfl) ?_
  refine lv_bipush (v := 40) hx hb dX6_init_16 (by decide) ?_
  obtain ⟨q4, e9, hJ⟩ := rp_b hJ
  refine rp_newR (K := 40) X I e9 (by decide) wm_71 (hN.2 _ (by decide +kernel)) rfl (Nat.le_of_ble_eq_true rfl) (Nat.le_of_ble_eq_true rfl) dX6_init_18 (fun H I => ?_)
  obtain ⟨h5, e9, hJ⟩ := rp_b hJ
  refine rp_putF (ty := (.array (.object "BuildDesk$Step"))) X I e9 rfl wiX6 tyX6 tyX6_ok nmX6 (by decide) wm_167 rfl hinit rfl (by decide +kernel) rfl rfl dX6_init_21 (fun H locs I => ?_)
  refine lv_iconst (v := 0) hx hb dX6_init_24 (by decide) ?_
  refine lv_istore_n (lv' := [(1, .int (0 : Int32)), (0, .ref x0)]) hx hb dX6_init_25 rfl hl (by decide) rfl (fun ls hl => ?_)
  exact w_Desk_init_26 X hN hr hinit 41 _ _ (by (try simp only [rmX0_init, rmX1_init, rmX2_init, rmX3_init, rmX4_init, rmX5_init]); omega) (by (try simp only [rmX0_init, rmX1_init, rmX2_init, rmX3_init, rmX4_init, rmX5_init]); omega) _ _ _ _ _ _ hJ I (lv_sub hl [1, 0] rfl)
end GW
