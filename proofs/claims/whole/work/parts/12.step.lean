section GW
variable {p : Program} {l : Launch} {e : Env} {s : State} {m : MethodId} {args : Array Value} {below : List Frame} {meth : Method} {c : Code} {D : va_G} {tys : List (ClassId × FieldType)} {A : Nat → Prop}
def rmX5_waitsFor : Room := { frames := 1, cells := 0, slots := 0, locals := 21 }
def J_Step_waitsFor_5 (N : Nat)  : Nat → Nat → Nat → Int64 → Int32 → Hp → Option (Int64 × Hp)
  | 0, _, _, _, _, _ => none
  | n + 1, x0, x1, x2, x4, h =>
  (fI h 5 x0 5).bind fun v1 =>
  if v1 ≤ x4 then
  (some (x2, h))
  else
  ((fR h 5 x0 4).bind fun v2 =>
  (aI h 0 v2 x4).bind fun v3 =>
  (isO h 1 x1).bind fun _ =>
  (J_File_makerOf N x1 v3 h).bind fun q4 =>
 if q4.1 = (-1 : Int32) then
  ((J_Step_waitsFor_5 N n) x0 x1 x2 (x4 + (1 : Int32)) q4.2)
  else
  ((J_Desk_bit N q4.1 q4.2).bind fun q5 =>
 (J_Step_waitsFor_5 N n) x0 x1 (x2 ||| q5.1) (x4 + (1 : Int32)) q5.2))
def J_Step_waitsFor (N : Nat) (x0 : Nat) (x1 : Nat) (h : Hp) : Option (Int64 × Hp) :=
  J_Step_waitsFor_5 N N x0 x1 (0 : Int64) (0 : Int32) h
set_option maxHeartbeats 4000000 in
set_option maxRecDepth 100000 in
theorem w_Step_waitsFor_5 (X : Cx p s m args meth c D vwCl tys cX5_waitsFor 6 RX5 wsG) (hN : nwS s) (hr : meth.sig.returnType = (some .long)) {res : (Int64 × Hp)} {N : Nat}   : ∀ (n : Nat) (x0 : Nat) (x1 : Nat) (x2 : Int64) (x4 : Int32)  (h : Hp) (H : Heap) (locs : List Loc) (ls : Array Slot), J_Step_waitsFor_5 N n x0 x1 x2 x4 h = some res → In D vwCl tys A s h H locs → lv_has ls 6 [(0, .ref x0), (1, .ref x1), (2, .long x2), (4, .int x4)] → W p l e rmX5_waitsFor s m args below meth c H locs 0 0 (MQ below (Qr D vwCl tys A (some (.long res.1)) res.2) args s 0 0 A) (F0 m 5 ls []) := by
  have hx := X.1.1
  have hb := X.1.2.1
  have hml := X.1.2.2.1
  have ho := X.1.2.2.2.1
  have hts := X.1.2.2.2.2
  have hK := X.2.1
  have hT := X.2.2.2
  intro n
  induction n with
  | zero =>
    intro x0 x1 x2 x4  h H locs ls hJ I hl
    exact nomatch (show (none : Option (Int64 × Hp)) = some res from hJ)
  | succ n k5 =>
    intro x0 x1 x2 x4  h H locs ls hJ I hl
    rw [J_Step_waitsFor_5] at hJ
    refine lv_iload hx hb dX5_waitsFor_5 (lv_at hl 3 rfl) ?_
    refine lv_aload_n hx hb dX5_waitsFor_7 rfl (lv_at hl 0 rfl) ?_
    obtain ⟨v1, e9, hJ⟩ := rp_b hJ
    obtain ⟨f9, g9, e9⟩ := fI_s e9
    refine rp_get X I g9 e9 rfl wiX5 (by decide) wm_81 dX5_waitsFor_8 ?_
    refine lv_icmp_ge (tgt := 47) hx hb dX5_waitsFor_11 (by decide) (fun c9 => ?_) (fun c9 => ?_)
    · rw [if_pos c9] at hJ
      refine lv_lload_n hx hb dX5_waitsFor_47 rfl (lv_at hl 2 rfl) ?_
      exact rp_lret X hr hJ I dX5_waitsFor_48
    · rw [if_neg c9] at hJ
      refine lv_aload_n hx hb dX5_waitsFor_14 rfl (lv_at hl 1 rfl) ?_
      refine lv_aload_n hx hb dX5_waitsFor_15 rfl (lv_at hl 0 rfl) ?_
      obtain ⟨v2, e9, hJ⟩ := rp_b hJ
      obtain ⟨f9, g9, e9⟩ := fR_s e9
      refine rp_get X I g9 e9 rfl wiX5 (by decide) wm_80 dX5_waitsFor_16 ?_
      refine lv_iload hx hb dX5_waitsFor_19 (lv_at hl 3 rfl) ?_
      obtain ⟨v3, e9, hJ⟩ := rp_b hJ
      refine rp_iald X I e9 rfl dX5_waitsFor_21 ?_
      obtain ⟨u9, i9, hJ⟩ := rp_b hJ
      obtain ⟨f9, i9⟩ := isO_s i9
      obtain ⟨q4, e9, hJ⟩ := rp_b hJ
      refine rp_callV (As := [.int v3]) (rest := []) X hN I (c_File_makerOf hT e9) (cwV 1 hts (gdV wm_350 wm_212 wm_213 wm_34 wm_214) rfl rfl rfl (by decide +kernel) ⟨Nat.le_of_ble_eq_true rfl, Nat.le_of_ble_eq_true rfl⟩) i9 rfl rfl hl.1 rfl (Nat.le_of_ble_eq_true rfl) dX5_waitsFor_22 ⟨(Nat.le_of_ble_eq_true rfl), (Nat.le_of_ble_eq_true rfl)⟩ (fun H locs I => ?_)
      refine W.cs (cells' := 0) (slots' := 0) rfl rfl ?_
      refine lv_istore (lv' := [(5, .int q4.1), (0, .ref x0), (1, .ref x1), (2, .long x2), (4, .int x4)]) hx hb dX5_waitsFor_25 hl (by decide) rfl (fun ls hl => ?_)
      refine lv_iload hx hb dX5_waitsFor_27 (lv_at hl 0 rfl) ?_
      refine lv_iconst (v := -1) hx hb dX5_waitsFor_29 (by decide) ?_
      refine lv_icmp_eq (tgt := 41) hx hb dX5_waitsFor_30 (by decide) (fun c9 => ?_) (fun c9 => ?_)
      · rw [if_pos c9] at hJ
        refine lv_iinc (v := (x4 + (1 : Int32))) (lv' := [(4, .int (x4 + (1 : Int32))), (5, .int q4.1), (0, .ref x0), (1, .ref x1), (2, .long x2)]) hx hb dX5_waitsFor_41 hl (k := 4) rfl rfl (by decide) rfl (fun ls hl => ?_)
        refine lv_goto (tgt := 5) hx hb dX5_waitsFor_44 (by decide) ?_
        exact k5 _ _ _ _ _ _ _ _ hJ I (lv_sub hl [2, 3, 4, 0] rfl)
      · rw [if_neg c9] at hJ
        refine lv_lload_n hx hb dX5_waitsFor_33 rfl (lv_at hl 3 rfl) ?_
        refine lv_iload hx hb dX5_waitsFor_34 (lv_at hl 0 rfl) ?_
        obtain ⟨q5, e9, hJ⟩ := rp_b hJ
        refine rp_callSN (As := [.int q4.1]) (rest := [.long x2]) X hN I (c_Desk_bit hT e9) ⟨(va_cnB (host := "BuildDesk") 1 hts (gdC wm_352) rfl rfl rfl (hN.1 _ (by decide +kernel)) (hts _ wm_33) (by decide +kernel) ⟨Nat.le_of_ble_eq_true rfl, Nat.le_of_ble_eq_true rfl⟩), hts _ wm_351, trivial⟩ rfl hl.1 rfl (Nat.le_of_ble_eq_true rfl) dX5_waitsFor_36 ⟨(Nat.le_of_ble_eq_true rfl), (Nat.le_of_ble_eq_true rfl)⟩ (fun H locs I => ?_)
        refine W.cs (cells' := 0) (slots' := 0) rfl rfl ?_
        refine lv_lor hx hb dX5_waitsFor_39 ?_
        refine lv_lstore_n (lv' := [(2, .long (x2 ||| q5.1)), (5, .int q4.1), (0, .ref x0), (1, .ref x1), (4, .int x4)]) hx hb dX5_waitsFor_40 rfl hl (by decide) rfl (fun ls hl => ?_)
        refine lv_iinc (v := (x4 + (1 : Int32))) (lv' := [(4, .int (x4 + (1 : Int32))), (2, .long (x2 ||| q5.1)), (5, .int q4.1), (0, .ref x0), (1, .ref x1)]) hx hb dX5_waitsFor_41 hl (k := 4) rfl rfl (by decide) rfl (fun ls hl => ?_)
        refine lv_goto (tgt := 5) hx hb dX5_waitsFor_44 (by decide) ?_
        exact k5 _ _ _ _ _ _ _ _ hJ I (lv_sub hl [3, 4, 1, 0] rfl)
set_option maxHeartbeats 4000000 in
set_option maxRecDepth 100000 in
theorem c_Step_waitsFor {l : Launch} {D : va_G} {tys : List (ClassId × FieldType)} {A : Nat → Prop} (hT : tys.map (fun q => q.2) = tyS) {N : Nat} {x0 : Nat} {x1 : Nat} {h : Hp} {res : (Int64 × Hp)} (hJ : J_Step_waitsFor N x0 x1 h = some res) : Ct l D vwCl tys A yX5_waitsFor (Cond.code yX5_waitsFor cX5_waitsFor 6 (some .long) :: wsG) rmX5_waitsFor [.ref x0, .ref x1] h (some (.long res.1)) res.2 := by
  refine Met.ofW (cc := cX5_waitsFor) (maxL := 6) (ret := (some .long)) (by decide) rfl ?_
  intro p e s m args below meth c s₁ B hml hv
  obtain ⟨rfl, hA, hR, hK, hN⟩ := hv
  have hr := B.returns
  have hts : ∀ w ∈ wsG, w.before [.ref x0, .ref x1].toArray s = true := fun w hw => atoms_spec (ws := Cond.code yX5_waitsFor cX5_waitsFor 6 (some .long) :: wsG) B.pre w (List.mem_cons_of_mem _ hw)
  have X : Cx p s m [.ref x0, .ref x1].toArray meth c D vwCl tys cX5_waitsFor 6 RX5 wsG := ⟨⟨B.exec, B.bytes, hml, findClass_of_methodNamed B.named, hts⟩, hK, B.notSynchronized, hT⟩
  have hx := B.exec
  have hb := B.bytes
  have I : In D vwCl tys A s h s.heap [] := ⟨hR, va_S.rf, hA⟩
  have hl := lv_entry [.ref x0, .ref x1] (n := 6) (Nat.le_of_ble_eq_true rfl)
  rw [lg_entry_eq]
  generalize (lg_sl [.ref x0, .ref x1] ++ List.replicate (6 - (lg_sl [.ref x0, .ref x1]).length) Slot.unset).toArray = ls at hl ⊢
  have hl : lv_has ls 6 [(0, .ref x0), (1, .ref x1)] := hl
  have ho := X.1.2.2.2.1
  rw [J_Step_waitsFor] at hJ
  refine lv_lconst (v := 0) hx hb dX5_waitsFor_0 (by decide) ?_
  refine lv_lstore_n (lv' := [(2, .long (0 : Int64)), (0, .ref x0), (1, .ref x1)]) hx hb dX5_waitsFor_1 rfl hl (by decide) rfl (fun ls hl => ?_)
  refine lv_iconst (v := 0) hx hb dX5_waitsFor_2 (by decide) ?_
  refine lv_istore (lv' := [(4, .int (0 : Int32)), (2, .long (0 : Int64)), (0, .ref x0), (1, .ref x1)]) hx hb dX5_waitsFor_3 hl (by decide) rfl (fun ls hl => ?_)
  exact w_Step_waitsFor_5 X hN hr N _ _ _ _ _ _ _ _ hJ I (lv_sub hl [2, 3, 1, 0] rfl)
def rmX5_init : Room := { frames := 1, cells := 3, slots := 15, locals := 20 }
def J_Step_init (N : Nat) (x0 : Nat) (h : Hp) : Option (Unit × Hp) :=
  (nI_ h 0 (6 : Int32)).bind fun q1 =>
  (sF q1.2 5 x0 4 (.ref q1.1)).bind fun h2 =>
  (nI_ h2 0 (3 : Int32)).bind fun q3 =>
  (sF q3.2 5 x0 6 (.ref q3.1)).bind fun h4 =>
  (nI_ h4 0 (6 : Int32)).bind fun q5 =>
  (sF q5.2 5 x0 13 (.ref q5.1)).bind fun h6 =>
  some ((), h6)
set_option maxHeartbeats 4000000 in
set_option maxRecDepth 100000 in
theorem c_Step_init {l : Launch} {D : va_G} {tys : List (ClassId × FieldType)} {A : Nat → Prop} (hT : tys.map (fun q => q.2) = tyS) {N : Nat} {x0 : Nat} {h : Hp} {res : (Unit × Hp)} (hJ : J_Step_init N x0 h = some res) : Ct l D vwCl tys A yX5_init (Cond.code yX5_init cX5_init 1 none :: wsG) rmX5_init [.ref x0] h none res.2 := by
  refine Met.ofW (cc := cX5_init) (maxL := 1) (ret := none) (by decide) rfl ?_
  intro p e s m args below meth c s₁ B hml hv
  obtain ⟨rfl, hA, hR, hK, hN⟩ := hv
  have hr := B.returns
  have hts : ∀ w ∈ wsG, w.before [.ref x0].toArray s = true := fun w hw => atoms_spec (ws := Cond.code yX5_init cX5_init 1 none :: wsG) B.pre w (List.mem_cons_of_mem _ hw)
  have X : Cx p s m [.ref x0].toArray meth c D vwCl tys cX5_init 1 RX5 wsG := ⟨⟨B.exec, B.bytes, hml, findClass_of_methodNamed B.named, hts⟩, hK, B.notSynchronized, hT⟩
  have hinit : meth.name = "<init>" := (name_of_methodNamed B.named B.method).1
  have hx := B.exec
  have hb := B.bytes
  have I : In D vwCl tys A s h s.heap [] := ⟨hR, va_S.rf, hA⟩
  have hl := lv_entry [.ref x0] (n := 1) (Nat.le_of_ble_eq_true rfl)
  rw [lg_entry_eq]
  generalize (lg_sl [.ref x0] ++ List.replicate (1 - (lg_sl [.ref x0]).length) Slot.unset).toArray = ls at hl ⊢
  have hl : lv_has ls 1 [(0, .ref x0)] := hl
  have ho := X.1.2.2.2.1
  rw [J_Step_init] at hJ
  refine lv_aload_n hx hb dX5_init_0 rfl (lv_at hl 0 rfl) ?_
  refine W.objInit hx hb ho (hts _ wm_75) (hts _ wm_54) (hts _ wm_55) rfl (by rw [hml]; exact hl.1) rfl dX5_init_1 (Nat.le_of_ble_eq_true rfl) (Nat.le_of_ble_eq_true rfl) ?_
  refine W.eq (g2 := F0 m 4 ls []) rfl ?_
  refine lv_aload_n hx hb dX5_init_4 rfl (lv_at hl 0 rfl) ?_
  refine lv_bipush (v := 6) hx hb dX5_init_5 (by decide) ?_
  obtain ⟨q1, e9, hJ⟩ := rp_b hJ
  refine rp_newI (K := 6) (ty := .int) X I e9 (by decide) rfl rfl (by decide) wm_69 rfl (fun _ z => z) (Nat.le_of_ble_eq_true rfl) (Nat.le_of_ble_eq_true rfl) dX5_init_7 (fun H I => ?_)
  obtain ⟨h2, e9, hJ⟩ := rp_b hJ
  refine rp_putF (ty := (.array .int)) X I e9 rfl wiX5 tyX5 tyX5_ok nmX5 (by decide) wm_80 rfl hinit rfl (by decide +kernel) rfl rfl dX5_init_9 (fun H locs I => ?_)
  refine lv_aload_n hx hb dX5_init_12 rfl (lv_at hl 0 rfl) ?_
  refine lv_iconst (v := 3) hx hb dX5_init_13 (by decide) ?_
  obtain ⟨q3, e9, hJ⟩ := rp_b hJ
  refine rp_newI (K := 3) (ty := .int) X I e9 (by decide) rfl rfl (by decide) wm_69 rfl (fun _ z => z) (Nat.le_of_ble_eq_true rfl) (Nat.le_of_ble_eq_true rfl) dX5_init_14 (fun H I => ?_)
  obtain ⟨h4, e9, hJ⟩ := rp_b hJ
  refine rp_putF (ty := (.array .int)) X I e9 rfl wiX5 tyX5 tyX5_ok nmX5 (by decide) wm_82 rfl hinit rfl (by decide +kernel) rfl rfl dX5_init_16 (fun H locs I => ?_)
  refine lv_aload_n hx hb dX5_init_19 rfl (lv_at hl 0 rfl) ?_
  refine lv_bipush (v := 6) hx hb dX5_init_20 (by decide) ?_
  obtain ⟨q5, e9, hJ⟩ := rp_b hJ
  refine rp_newI (K := 6) (ty := .int) X I e9 (by decide) rfl rfl (by decide) wm_69 rfl (fun _ z => z) (Nat.le_of_ble_eq_true rfl) (Nat.le_of_ble_eq_true rfl) dX5_init_22 (fun H I => ?_)
  obtain ⟨h6, e9, hJ⟩ := rp_b hJ
  refine rp_putF (ty := (.array .int)) X I e9 rfl wiX5 tyX5 tyX5_ok nmX5 (by decide) wm_89 rfl hinit rfl (by decide +kernel) rfl rfl dX5_init_24 (fun H locs I => ?_)
  refine W.widen (k := 3) (n := 15) (Nat.le_of_ble_eq_true rfl) (Nat.le_of_ble_eq_true rfl) ?_
  exact rp_vret X hr hJ I dX5_init_27
def rmX5_tell : Room := { frames := 0, cells := 0, slots := 0, locals := 0 }
def J_Step_tell (N : Nat) (x0 : Nat) (x1 : Int32) (x2 : Int32) (x3 : Int32) (h : Hp) : Option (Unit × Hp) :=
  (sZ h 5 x0 0 (1 : Int32)).bind fun h1 =>
  (sF h1 5 x0 1 (.int x1)).bind fun h2 =>
  (sF h2 5 x0 2 (.int x2)).bind fun h3 =>
  (sF h3 5 x0 3 (.int x3)).bind fun h4 =>
  some ((), h4)
set_option maxHeartbeats 4000000 in
set_option maxRecDepth 100000 in
theorem c_Step_tell {l : Launch} {D : va_G} {tys : List (ClassId × FieldType)} {A : Nat → Prop} (hT : tys.map (fun q => q.2) = tyS) {N : Nat} {x0 : Nat} {x1 : Int32} {x2 : Int32} {x3 : Int32} {h : Hp} {res : (Unit × Hp)} (hJ : J_Step_tell N x0 x1 x2 x3 h = some res) : Ct l D vwCl tys A yX5_tell (Cond.code yX5_tell cX5_tell 4 none :: wsG) rmX5_tell [.ref x0, .int x1, .int x2, .int x3] h none res.2 := by
  refine Met.ofW (cc := cX5_tell) (maxL := 4) (ret := none) (by decide) rfl ?_
  intro p e s m args below meth c s₁ B hml hv
  obtain ⟨rfl, hA, hR, hK, hN⟩ := hv
  have hr := B.returns
  have hts : ∀ w ∈ wsG, w.before [.ref x0, .int x1, .int x2, .int x3].toArray s = true := fun w hw => atoms_spec (ws := Cond.code yX5_tell cX5_tell 4 none :: wsG) B.pre w (List.mem_cons_of_mem _ hw)
  have X : Cx p s m [.ref x0, .int x1, .int x2, .int x3].toArray meth c D vwCl tys cX5_tell 4 RX5 wsG := ⟨⟨B.exec, B.bytes, hml, findClass_of_methodNamed B.named, hts⟩, hK, B.notSynchronized, hT⟩
  have hx := B.exec
  have hb := B.bytes
  have I : In D vwCl tys A s h s.heap [] := ⟨hR, va_S.rf, hA⟩
  have hl := lv_entry [.ref x0, .int x1, .int x2, .int x3] (n := 4) (Nat.le_of_ble_eq_true rfl)
  rw [lg_entry_eq]
  generalize (lg_sl [.ref x0, .int x1, .int x2, .int x3] ++ List.replicate (4 - (lg_sl [.ref x0, .int x1, .int x2, .int x3]).length) Slot.unset).toArray = ls at hl ⊢
  have hl : lv_has ls 4 [(0, .ref x0), (1, .int x1), (2, .int x2), (3, .int x3)] := hl
  have ho := X.1.2.2.2.1
  rw [J_Step_tell] at hJ
  refine lv_aload_n hx hb dX5_tell_0 rfl (lv_at hl 0 rfl) ?_
  refine lv_iconst (v := 1) hx hb dX5_tell_1 (by decide) ?_
  obtain ⟨h1, e9, hJ⟩ := rp_b hJ
  obtain ⟨z9, e9⟩ := sZ_s e9
  refine rp_put (ty := .boolean) X I e9 rfl wiX5 tyX5 tyX5_ok nmX5 (by decide) wm_76 rfl (by decide +kernel) (rp_nz z9) (rp_fz z9) dX5_tell_2 (fun H locs I => ?_)
  refine lv_aload_n hx hb dX5_tell_5 rfl (lv_at hl 0 rfl) ?_
  refine lv_iload_n hx hb dX5_tell_6 rfl (lv_at hl 1 rfl) ?_
  obtain ⟨h2, e9, hJ⟩ := rp_b hJ
  refine rp_put (ty := .int) X I e9 rfl wiX5 tyX5 tyX5_ok nmX5 (by decide) wm_77 rfl (by decide +kernel) rfl rfl dX5_tell_7 (fun H locs I => ?_)
  refine lv_aload_n hx hb dX5_tell_10 rfl (lv_at hl 0 rfl) ?_
  refine lv_iload_n hx hb dX5_tell_11 rfl (lv_at hl 2 rfl) ?_
  obtain ⟨h3, e9, hJ⟩ := rp_b hJ
  refine rp_put (ty := .int) X I e9 rfl wiX5 tyX5 tyX5_ok nmX5 (by decide) wm_78 rfl (by decide +kernel) rfl rfl dX5_tell_12 (fun H locs I => ?_)
  refine lv_aload_n hx hb dX5_tell_15 rfl (lv_at hl 0 rfl) ?_
  refine lv_iload_n hx hb dX5_tell_16 rfl (lv_at hl 3 rfl) ?_
  obtain ⟨h4, e9, hJ⟩ := rp_b hJ
  refine rp_put (ty := .int) X I e9 rfl wiX5 tyX5 tyX5_ok nmX5 (by decide) wm_79 rfl (by decide +kernel) rfl rfl dX5_tell_17 (fun H locs I => ?_)
  exact rp_vret X hr hJ I dX5_tell_20
def rmX5_addInput : Room := { frames := 0, cells := 0, slots := 0, locals := 0 }
def J_Step_addInput (N : Nat) (x0 : Nat) (x1 : Int32) (h : Hp) : Option (Int32 × Hp) :=
  (fI h 5 x0 5).bind fun v1 =>
  if v1 < (6 : Int32) then
  ((fR h 5 x0 4).bind fun v2 =>
  (fI h 5 x0 5).bind fun v3 =>
  (sI h 0 v2 v3 x1).bind fun h4 =>
  (fI h4 5 x0 5).bind fun v5 =>
  (sF h4 5 x0 5 (.int (v5 + (1 : Int32)))).bind fun h6 =>
  some ((1 : Int32), h6))
  else
  (some ((0 : Int32), h))
set_option maxHeartbeats 4000000 in
set_option maxRecDepth 100000 in
theorem c_Step_addInput {l : Launch} {D : va_G} {tys : List (ClassId × FieldType)} {A : Nat → Prop} (hT : tys.map (fun q => q.2) = tyS) {N : Nat} {x0 : Nat} {x1 : Int32} {h : Hp} {res : (Int32 × Hp)} (hJ : J_Step_addInput N x0 x1 h = some res) : Ct l D vwCl tys A yX5_addInput (Cond.code yX5_addInput cX5_addInput 2 (some .boolean) :: wsG) rmX5_addInput [.ref x0, .int x1] h (some (.int res.1)) res.2 := by
  refine Met.ofW (cc := cX5_addInput) (maxL := 2) (ret := (some .boolean)) (by decide) rfl ?_
  intro p e s m args below meth c s₁ B hml hv
  obtain ⟨rfl, hA, hR, hK, hN⟩ := hv
  have hr := B.returns
  have hts : ∀ w ∈ wsG, w.before [.ref x0, .int x1].toArray s = true := fun w hw => atoms_spec (ws := Cond.code yX5_addInput cX5_addInput 2 (some .boolean) :: wsG) B.pre w (List.mem_cons_of_mem _ hw)
  have X : Cx p s m [.ref x0, .int x1].toArray meth c D vwCl tys cX5_addInput 2 RX5 wsG := ⟨⟨B.exec, B.bytes, hml, findClass_of_methodNamed B.named, hts⟩, hK, B.notSynchronized, hT⟩
  have hx := B.exec
  have hb := B.bytes
  have I : In D vwCl tys A s h s.heap [] := ⟨hR, va_S.rf, hA⟩
  have hl := lv_entry [.ref x0, .int x1] (n := 2) (Nat.le_of_ble_eq_true rfl)
  rw [lg_entry_eq]
  generalize (lg_sl [.ref x0, .int x1] ++ List.replicate (2 - (lg_sl [.ref x0, .int x1]).length) Slot.unset).toArray = ls at hl ⊢
  have hl : lv_has ls 2 [(0, .ref x0), (1, .int x1)] := hl
  have ho := X.1.2.2.2.1
  rw [J_Step_addInput] at hJ
  refine lv_aload_n hx hb dX5_addInput_0 rfl (lv_at hl 0 rfl) ?_
  obtain ⟨v1, e9, hJ⟩ := rp_b hJ
  obtain ⟨f9, g9, e9⟩ := fI_s e9
  refine rp_get X I g9 e9 rfl wiX5 (by decide) wm_81 dX5_addInput_1 ?_
  refine lv_bipush (v := 6) hx hb dX5_addInput_4 (by decide) ?_
  refine lv_icmp_lt (tgt := 11) hx hb dX5_addInput_6 (by decide) (fun c9 => ?_) (fun c9 => ?_)
  · rw [if_pos c9] at hJ
    refine lv_aload_n hx hb dX5_addInput_11 rfl (lv_at hl 0 rfl) ?_
    obtain ⟨v2, e9, hJ⟩ := rp_b hJ
    obtain ⟨f9, g9, e9⟩ := fR_s e9
    refine rp_get X I g9 e9 rfl wiX5 (by decide) wm_80 dX5_addInput_12 ?_
    refine lv_aload_n hx hb dX5_addInput_15 rfl (lv_at hl 0 rfl) ?_
    obtain ⟨v3, e9, hJ⟩ := rp_b hJ
    obtain ⟨f9, g9, e9⟩ := fI_s e9
    refine rp_get X I g9 e9 rfl wiX5 (by decide) wm_81 dX5_addInput_16 ?_
    refine lv_iload_n hx hb dX5_addInput_19 rfl (lv_at hl 1 rfl) ?_
    obtain ⟨h4, e9, hJ⟩ := rp_b hJ
    refine rp_iast X I e9 rfl dX5_addInput_20 (fun H locs I => ?_)
    refine lv_aload_n hx hb dX5_addInput_21 rfl (lv_at hl 0 rfl) ?_
    refine lv_dup hx hb dX5_addInput_22 rfl ?_
    obtain ⟨v5, e9, hJ⟩ := rp_b hJ
    obtain ⟨f9, g9, e9⟩ := fI_s e9
    refine rp_get X I g9 e9 rfl wiX5 (by decide) wm_81 dX5_addInput_23 ?_
    refine lv_iconst (v := 1) hx hb dX5_addInput_26 (by decide) ?_
    refine lv_iadd hx hb dX5_addInput_27 ?_
    obtain ⟨h6, e9, hJ⟩ := rp_b hJ
    refine rp_put (ty := .int) X I e9 rfl wiX5 tyX5 tyX5_ok nmX5 (by decide) wm_81 rfl (by decide +kernel) rfl rfl dX5_addInput_28 (fun H locs I => ?_)
    refine lv_iconst (v := 1) hx hb dX5_addInput_31 (by decide) ?_
    exact rp_zret X hr (Or.inr rfl) hJ I dX5_addInput_32
  · rw [if_neg c9] at hJ
    refine lv_iconst (v := 0) hx hb dX5_addInput_9 (by decide) ?_
    exact rp_zret X hr (Or.inl rfl) hJ I dX5_addInput_10
def rmX5_addOutput : Room := { frames := 0, cells := 0, slots := 0, locals := 0 }
def J_Step_addOutput (N : Nat) (x0 : Nat) (x1 : Int32) (h : Hp) : Option (Int32 × Hp) :=
  (fI h 5 x0 7).bind fun v1 =>
  if v1 < (3 : Int32) then
  ((fR h 5 x0 6).bind fun v2 =>
  (fI h 5 x0 7).bind fun v3 =>
  (sI h 0 v2 v3 x1).bind fun h4 =>
  (fI h4 5 x0 7).bind fun v5 =>
  (sF h4 5 x0 7 (.int (v5 + (1 : Int32)))).bind fun h6 =>
  some ((1 : Int32), h6))
  else
  (some ((0 : Int32), h))
set_option maxHeartbeats 4000000 in
set_option maxRecDepth 100000 in
theorem c_Step_addOutput {l : Launch} {D : va_G} {tys : List (ClassId × FieldType)} {A : Nat → Prop} (hT : tys.map (fun q => q.2) = tyS) {N : Nat} {x0 : Nat} {x1 : Int32} {h : Hp} {res : (Int32 × Hp)} (hJ : J_Step_addOutput N x0 x1 h = some res) : Ct l D vwCl tys A yX5_addOutput (Cond.code yX5_addOutput cX5_addOutput 2 (some .boolean) :: wsG) rmX5_addOutput [.ref x0, .int x1] h (some (.int res.1)) res.2 := by
  refine Met.ofW (cc := cX5_addOutput) (maxL := 2) (ret := (some .boolean)) (by decide) rfl ?_
  intro p e s m args below meth c s₁ B hml hv
  obtain ⟨rfl, hA, hR, hK, hN⟩ := hv
  have hr := B.returns
  have hts : ∀ w ∈ wsG, w.before [.ref x0, .int x1].toArray s = true := fun w hw => atoms_spec (ws := Cond.code yX5_addOutput cX5_addOutput 2 (some .boolean) :: wsG) B.pre w (List.mem_cons_of_mem _ hw)
  have X : Cx p s m [.ref x0, .int x1].toArray meth c D vwCl tys cX5_addOutput 2 RX5 wsG := ⟨⟨B.exec, B.bytes, hml, findClass_of_methodNamed B.named, hts⟩, hK, B.notSynchronized, hT⟩
  have hx := B.exec
  have hb := B.bytes
  have I : In D vwCl tys A s h s.heap [] := ⟨hR, va_S.rf, hA⟩
  have hl := lv_entry [.ref x0, .int x1] (n := 2) (Nat.le_of_ble_eq_true rfl)
  rw [lg_entry_eq]
  generalize (lg_sl [.ref x0, .int x1] ++ List.replicate (2 - (lg_sl [.ref x0, .int x1]).length) Slot.unset).toArray = ls at hl ⊢
  have hl : lv_has ls 2 [(0, .ref x0), (1, .int x1)] := hl
  have ho := X.1.2.2.2.1
  rw [J_Step_addOutput] at hJ
  refine lv_aload_n hx hb dX5_addOutput_0 rfl (lv_at hl 0 rfl) ?_
  obtain ⟨v1, e9, hJ⟩ := rp_b hJ
  obtain ⟨f9, g9, e9⟩ := fI_s e9
  refine rp_get X I g9 e9 rfl wiX5 (by decide) wm_83 dX5_addOutput_1 ?_
  refine lv_iconst (v := 3) hx hb dX5_addOutput_4 (by decide) ?_
  refine lv_icmp_lt (tgt := 10) hx hb dX5_addOutput_5 (by decide) (fun c9 => ?_) (fun c9 => ?_)
  · rw [if_pos c9] at hJ
    refine lv_aload_n hx hb dX5_addOutput_10 rfl (lv_at hl 0 rfl) ?_
    obtain ⟨v2, e9, hJ⟩ := rp_b hJ
    obtain ⟨f9, g9, e9⟩ := fR_s e9
    refine rp_get X I g9 e9 rfl wiX5 (by decide) wm_82 dX5_addOutput_11 ?_
    refine lv_aload_n hx hb dX5_addOutput_14 rfl (lv_at hl 0 rfl) ?_
    obtain ⟨v3, e9, hJ⟩ := rp_b hJ
    obtain ⟨f9, g9, e9⟩ := fI_s e9
    refine rp_get X I g9 e9 rfl wiX5 (by decide) wm_83 dX5_addOutput_15 ?_
    refine lv_iload_n hx hb dX5_addOutput_18 rfl (lv_at hl 1 rfl) ?_
    obtain ⟨h4, e9, hJ⟩ := rp_b hJ
    refine rp_iast X I e9 rfl dX5_addOutput_19 (fun H locs I => ?_)
    refine lv_aload_n hx hb dX5_addOutput_20 rfl (lv_at hl 0 rfl) ?_
    refine lv_dup hx hb dX5_addOutput_21 rfl ?_
    obtain ⟨v5, e9, hJ⟩ := rp_b hJ
    obtain ⟨f9, g9, e9⟩ := fI_s e9
    refine rp_get X I g9 e9 rfl wiX5 (by decide) wm_83 dX5_addOutput_22 ?_
    refine lv_iconst (v := 1) hx hb dX5_addOutput_25 (by decide) ?_
    refine lv_iadd hx hb dX5_addOutput_26 ?_
    obtain ⟨h6, e9, hJ⟩ := rp_b hJ
    refine rp_put (ty := .int) X I e9 rfl wiX5 tyX5 tyX5_ok nmX5 (by decide) wm_83 rfl (by decide +kernel) rfl rfl dX5_addOutput_27 (fun H locs I => ?_)
    refine lv_iconst (v := 1) hx hb dX5_addOutput_30 (by decide) ?_
    exact rp_zret X hr (Or.inr rfl) hJ I dX5_addOutput_31
  · rw [if_neg c9] at hJ
    refine lv_iconst (v := 0) hx hb dX5_addOutput_8 (by decide) ?_
    exact rp_zret X hr (Or.inl rfl) hJ I dX5_addOutput_9
def rmX5_leave : Room := { frames := 1, cells := 0, slots := 0, locals := 22 }
def J_Step_leave_2 (N : Nat)  : Nat → Nat → Nat → Int32 → Hp → Option (Unit × Hp)
  | 0, _, _, _, _ => none
  | n + 1, x0, x1, x2, h =>
  (fI h 5 x0 7).bind fun v1 =>
  if v1 ≤ x2 then
  ((sZ h 5 x0 0 (0 : Int32)).bind fun h2 =>
  (sZ h2 5 x0 8 (0 : Int32)).bind fun h3 =>
  (sF h3 5 x0 5 (.int (0 : Int32))).bind fun h4 =>
  (sF h4 5 x0 7 (.int (0 : Int32))).bind fun h5 =>
  some ((), h5))
  else
  ((fR h 5 x0 6).bind fun v6 =>
  (aI h 0 v6 x2).bind fun v7 =>
  (isO h 1 x1).bind fun _ =>
  (J_File_setMaker N x1 v7 (-1 : Int32) h).bind fun q8 =>
 (J_Step_leave_2 N n) x0 x1 (x2 + (1 : Int32)) q8.2)
def J_Step_leave (N : Nat) (x0 : Nat) (x1 : Nat) (h : Hp) : Option (Unit × Hp) :=
  J_Step_leave_2 N N x0 x1 (0 : Int32) h
set_option maxHeartbeats 4000000 in
set_option maxRecDepth 100000 in
theorem w_Step_leave_2 (X : Cx p s m args meth c D vwCl tys cX5_leave 3 RX5 wsG) (hN : nwS s) (hr : meth.sig.returnType = none) {res : (Unit × Hp)} {N : Nat}   : ∀ (n : Nat) (x0 : Nat) (x1 : Nat) (x2 : Int32)  (h : Hp) (H : Heap) (locs : List Loc) (ls : Array Slot), J_Step_leave_2 N n x0 x1 x2 h = some res → In D vwCl tys A s h H locs → lv_has ls 3 [(0, .ref x0), (1, .ref x1), (2, .int x2)] → W p l e rmX5_leave s m args below meth c H locs 0 0 (MQ below (Qr D vwCl tys A none res.2) args s 0 0 A) (F0 m 2 ls []) := by
  have hx := X.1.1
  have hb := X.1.2.1
  have hml := X.1.2.2.1
  have ho := X.1.2.2.2.1
  have hts := X.1.2.2.2.2
  have hK := X.2.1
  have hT := X.2.2.2
  intro n
  induction n with
  | zero =>
    intro x0 x1 x2  h H locs ls hJ I hl
    exact nomatch (show (none : Option (Unit × Hp)) = some res from hJ)
  | succ n k2 =>
    intro x0 x1 x2  h H locs ls hJ I hl
    rw [J_Step_leave_2] at hJ
    refine lv_iload_n hx hb dX5_leave_2 rfl (lv_at hl 2 rfl) ?_
    refine lv_aload_n hx hb dX5_leave_3 rfl (lv_at hl 0 rfl) ?_
    obtain ⟨v1, e9, hJ⟩ := rp_b hJ
    obtain ⟨f9, g9, e9⟩ := fI_s e9
    refine rp_get X I g9 e9 rfl wiX5 (by decide) wm_83 dX5_leave_4 ?_
    refine lv_icmp_ge (tgt := 27) hx hb dX5_leave_7 (by decide) (fun c9 => ?_) (fun c9 => ?_)
    · rw [if_pos c9] at hJ
      refine lv_aload_n hx hb dX5_leave_27 rfl (lv_at hl 0 rfl) ?_
      refine lv_iconst (v := 0) hx hb dX5_leave_28 (by decide) ?_
      obtain ⟨h2, e9, hJ⟩ := rp_b hJ
      obtain ⟨z9, e9⟩ := sZ_s e9
      refine rp_put (ty := .boolean) X I e9 rfl wiX5 tyX5 tyX5_ok nmX5 (by decide) wm_76 rfl (by decide +kernel) (rp_nz z9) (rp_fz z9) dX5_leave_29 (fun H locs I => ?_)
      refine lv_aload_n hx hb dX5_leave_32 rfl (lv_at hl 0 rfl) ?_
      refine lv_iconst (v := 0) hx hb dX5_leave_33 (by decide) ?_
      obtain ⟨h3, e9, hJ⟩ := rp_b hJ
      obtain ⟨z9, e9⟩ := sZ_s e9
      refine rp_put (ty := .boolean) X I e9 rfl wiX5 tyX5 tyX5_ok nmX5 (by decide) wm_84 rfl (by decide +kernel) (rp_nz z9) (rp_fz z9) dX5_leave_34 (fun H locs I => ?_)
      refine lv_aload_n hx hb dX5_leave_37 rfl (lv_at hl 0 rfl) ?_
      refine lv_iconst (v := 0) hx hb dX5_leave_38 (by decide) ?_
      obtain ⟨h4, e9, hJ⟩ := rp_b hJ
      refine rp_put (ty := .int) X I e9 rfl wiX5 tyX5 tyX5_ok nmX5 (by decide) wm_81 rfl (by decide +kernel) rfl rfl dX5_leave_39 (fun H locs I => ?_)
      refine lv_aload_n hx hb dX5_leave_42 rfl (lv_at hl 0 rfl) ?_
      refine lv_iconst (v := 0) hx hb dX5_leave_43 (by decide) ?_
      obtain ⟨h5, e9, hJ⟩ := rp_b hJ
      refine rp_put (ty := .int) X I e9 rfl wiX5 tyX5 tyX5_ok nmX5 (by decide) wm_83 rfl (by decide +kernel) rfl rfl dX5_leave_44 (fun H locs I => ?_)
      exact rp_vret X hr hJ I dX5_leave_47
    · rw [if_neg c9] at hJ
      refine lv_aload_n hx hb dX5_leave_10 rfl (lv_at hl 1 rfl) ?_
      refine lv_aload_n hx hb dX5_leave_11 rfl (lv_at hl 0 rfl) ?_
      obtain ⟨v6, e9, hJ⟩ := rp_b hJ
      obtain ⟨f9, g9, e9⟩ := fR_s e9
      refine rp_get X I g9 e9 rfl wiX5 (by decide) wm_82 dX5_leave_12 ?_
      refine lv_iload_n hx hb dX5_leave_15 rfl (lv_at hl 2 rfl) ?_
      obtain ⟨v7, e9, hJ⟩ := rp_b hJ
      refine rp_iald X I e9 rfl dX5_leave_16 ?_
      refine lv_iconst (v := -1) hx hb dX5_leave_17 (by decide) ?_
      obtain ⟨u9, i9, hJ⟩ := rp_b hJ
      obtain ⟨f9, i9⟩ := isO_s i9
      obtain ⟨q8, e9, hJ⟩ := rp_b hJ
      refine rp_callV (As := [.int v7, .int (-1 : Int32)]) (rest := []) X hN I (c_File_setMaker hT e9) (cwV 2 hts (gdV wm_231 wm_220 wm_221 wm_34 wm_222) rfl rfl rfl (by decide +kernel) ⟨Nat.le_of_ble_eq_true rfl, Nat.le_of_ble_eq_true rfl⟩) i9 rfl rfl hl.1 rfl (Nat.le_of_ble_eq_true rfl) dX5_leave_18 ⟨(Nat.le_of_ble_eq_true rfl), (Nat.le_of_ble_eq_true rfl)⟩ (fun H locs I => ?_)
      refine W.cs (cells' := 0) (slots' := 0) rfl rfl ?_
      refine lv_iinc (v := (x2 + (1 : Int32))) (lv' := [(2, .int (x2 + (1 : Int32))), (0, .ref x0), (1, .ref x1)]) hx hb dX5_leave_21 hl (k := 2) rfl rfl (by decide) rfl (fun ls hl => ?_)
      refine lv_goto (tgt := 2) hx hb dX5_leave_24 (by decide) ?_
      exact k2 _ _ _ _ _ _ _ hJ I (lv_sub hl [1, 2, 0] rfl)
set_option maxHeartbeats 4000000 in
set_option maxRecDepth 100000 in
theorem c_Step_leave {l : Launch} {D : va_G} {tys : List (ClassId × FieldType)} {A : Nat → Prop} (hT : tys.map (fun q => q.2) = tyS) {N : Nat} {x0 : Nat} {x1 : Nat} {h : Hp} {res : (Unit × Hp)} (hJ : J_Step_leave N x0 x1 h = some res) : Ct l D vwCl tys A yX5_leave (Cond.code yX5_leave cX5_leave 3 none :: wsG) rmX5_leave [.ref x0, .ref x1] h none res.2 := by
  refine Met.ofW (cc := cX5_leave) (maxL := 3) (ret := none) (by decide) rfl ?_
  intro p e s m args below meth c s₁ B hml hv
  obtain ⟨rfl, hA, hR, hK, hN⟩ := hv
  have hr := B.returns
  have hts : ∀ w ∈ wsG, w.before [.ref x0, .ref x1].toArray s = true := fun w hw => atoms_spec (ws := Cond.code yX5_leave cX5_leave 3 none :: wsG) B.pre w (List.mem_cons_of_mem _ hw)
  have X : Cx p s m [.ref x0, .ref x1].toArray meth c D vwCl tys cX5_leave 3 RX5 wsG := ⟨⟨B.exec, B.bytes, hml, findClass_of_methodNamed B.named, hts⟩, hK, B.notSynchronized, hT⟩
  have hx := B.exec
  have hb := B.bytes
  have I : In D vwCl tys A s h s.heap [] := ⟨hR, va_S.rf, hA⟩
  have hl := lv_entry [.ref x0, .ref x1] (n := 3) (Nat.le_of_ble_eq_true rfl)
  rw [lg_entry_eq]
  generalize (lg_sl [.ref x0, .ref x1] ++ List.replicate (3 - (lg_sl [.ref x0, .ref x1]).length) Slot.unset).toArray = ls at hl ⊢
  have hl : lv_has ls 3 [(0, .ref x0), (1, .ref x1)] := hl
  have ho := X.1.2.2.2.1
  rw [J_Step_leave] at hJ
  refine lv_iconst (v := 0) hx hb dX5_leave_0 (by decide) ?_
  refine lv_istore_n (lv' := [(2, .int (0 : Int32)), (0, .ref x0), (1, .ref x1)]) hx hb dX5_leave_1 rfl hl (by decide) rfl (fun ls hl => ?_)
  exact w_Step_leave_2 X hN hr N _ _ _ _ _ _ _ hJ I (lv_sub hl [1, 2, 0] rfl)
def rmX5_lacksSource : Room := { frames := 1, cells := 0, slots := 0, locals := 21 }
def J_Step_lacksSource_2 (N : Nat)  : Nat → Nat → Nat → Int32 → Hp → Option (Int32 × Hp)
  | 0, _, _, _, _ => none
  | n + 1, x0, x1, x2, h =>
  (fI h 5 x0 5).bind fun v1 =>
  if v1 ≤ x2 then
  (some ((0 : Int32), h))
  else
  ((fR h 5 x0 4).bind fun v2 =>
  (aI h 0 v2 x2).bind fun v3 =>
  (isO h 1 x1).bind fun _ =>
  (J_File_lacksSource N x1 v3 h).bind fun q4 =>
 if q4.1 = 0 then
  ((J_Step_lacksSource_2 N n) x0 x1 (x2 + (1 : Int32)) q4.2)
  else
  (some ((1 : Int32), q4.2)))
def J_Step_lacksSource (N : Nat) (x0 : Nat) (x1 : Nat) (h : Hp) : Option (Int32 × Hp) :=
  J_Step_lacksSource_2 N N x0 x1 (0 : Int32) h
set_option maxHeartbeats 4000000 in
set_option maxRecDepth 100000 in
theorem w_Step_lacksSource_2 (X : Cx p s m args meth c D vwCl tys cX5_lacksSource 3 RX5 wsG) (hN : nwS s) (hr : meth.sig.returnType = (some .boolean)) {res : (Int32 × Hp)} {N : Nat}   : ∀ (n : Nat) (x0 : Nat) (x1 : Nat) (x2 : Int32)  (h : Hp) (H : Heap) (locs : List Loc) (ls : Array Slot), J_Step_lacksSource_2 N n x0 x1 x2 h = some res → In D vwCl tys A s h H locs → lv_has ls 3 [(0, .ref x0), (1, .ref x1), (2, .int x2)] → W p l e rmX5_lacksSource s m args below meth c H locs 0 0 (MQ below (Qr D vwCl tys A (some (.int res.1)) res.2) args s 0 0 A) (F0 m 2 ls []) := by
  have hx := X.1.1
  have hb := X.1.2.1
  have hml := X.1.2.2.1
  have ho := X.1.2.2.2.1
  have hts := X.1.2.2.2.2
  have hK := X.2.1
  have hT := X.2.2.2
  intro n
  induction n with
  | zero =>
    intro x0 x1 x2  h H locs ls hJ I hl
    exact nomatch (show (none : Option (Int32 × Hp)) = some res from hJ)
  | succ n k2 =>
    intro x0 x1 x2  h H locs ls hJ I hl
    rw [J_Step_lacksSource_2] at hJ
    refine lv_iload_n hx hb dX5_lacksSource_2 rfl (lv_at hl 2 rfl) ?_
    refine lv_aload_n hx hb dX5_lacksSource_3 rfl (lv_at hl 0 rfl) ?_
    obtain ⟨v1, e9, hJ⟩ := rp_b hJ
    obtain ⟨f9, g9, e9⟩ := fI_s e9
    refine rp_get X I g9 e9 rfl wiX5 (by decide) wm_81 dX5_lacksSource_4 ?_
    refine lv_icmp_ge (tgt := 31) hx hb dX5_lacksSource_7 (by decide) (fun c9 => ?_) (fun c9 => ?_)
    · rw [if_pos c9] at hJ
      refine lv_iconst (v := 0) hx hb dX5_lacksSource_31 (by decide) ?_
      exact rp_zret X hr (Or.inl rfl) hJ I dX5_lacksSource_32
    · rw [if_neg c9] at hJ
      refine lv_aload_n hx hb dX5_lacksSource_10 rfl (lv_at hl 1 rfl) ?_
      refine lv_aload_n hx hb dX5_lacksSource_11 rfl (lv_at hl 0 rfl) ?_
      obtain ⟨v2, e9, hJ⟩ := rp_b hJ
      obtain ⟨f9, g9, e9⟩ := fR_s e9
      refine rp_get X I g9 e9 rfl wiX5 (by decide) wm_80 dX5_lacksSource_12 ?_
      refine lv_iload_n hx hb dX5_lacksSource_15 rfl (lv_at hl 2 rfl) ?_
      obtain ⟨v3, e9, hJ⟩ := rp_b hJ
      refine rp_iald X I e9 rfl dX5_lacksSource_16 ?_
      obtain ⟨u9, i9, hJ⟩ := rp_b hJ
      obtain ⟨f9, i9⟩ := isO_s i9
      obtain ⟨q4, e9, hJ⟩ := rp_b hJ
      refine rp_callV (As := [.int v3]) (rest := []) X hN I (c_File_lacksSource hT e9) (cwV 1 hts (gdV wm_404 wm_396 wm_397 wm_34 wm_398) rfl rfl rfl (by decide +kernel) ⟨Nat.le_of_ble_eq_true rfl, Nat.le_of_ble_eq_true rfl⟩) i9 rfl rfl hl.1 rfl (Nat.le_of_ble_eq_true rfl) dX5_lacksSource_17 ⟨(Nat.le_of_ble_eq_true rfl), (Nat.le_of_ble_eq_true rfl)⟩ (fun H locs I => ?_)
      refine W.cs (cells' := 0) (slots' := 0) rfl rfl ?_
      refine lv_if_eq (tgt := 25) hx hb dX5_lacksSource_20 (by decide) (fun c9 => ?_) (fun c9 => ?_)
      · rw [if_pos c9] at hJ
        refine lv_iinc (v := (x2 + (1 : Int32))) (lv' := [(2, .int (x2 + (1 : Int32))), (0, .ref x0), (1, .ref x1)]) hx hb dX5_lacksSource_25 hl (k := 2) rfl rfl (by decide) rfl (fun ls hl => ?_)
        refine lv_goto (tgt := 2) hx hb dX5_lacksSource_28 (by decide) ?_
        exact k2 _ _ _ _ _ _ _ hJ I (lv_sub hl [1, 2, 0] rfl)
      · rw [if_neg c9] at hJ
        refine lv_iconst (v := 1) hx hb dX5_lacksSource_23 (by decide) ?_
        exact rp_zret X hr (Or.inr rfl) hJ I dX5_lacksSource_24
set_option maxHeartbeats 4000000 in
set_option maxRecDepth 100000 in
theorem c_Step_lacksSource {l : Launch} {D : va_G} {tys : List (ClassId × FieldType)} {A : Nat → Prop} (hT : tys.map (fun q => q.2) = tyS) {N : Nat} {x0 : Nat} {x1 : Nat} {h : Hp} {res : (Int32 × Hp)} (hJ : J_Step_lacksSource N x0 x1 h = some res) : Ct l D vwCl tys A yX5_lacksSource (Cond.code yX5_lacksSource cX5_lacksSource 3 (some .boolean) :: wsG) rmX5_lacksSource [.ref x0, .ref x1] h (some (.int res.1)) res.2 := by
  refine Met.ofW (cc := cX5_lacksSource) (maxL := 3) (ret := (some .boolean)) (by decide) rfl ?_
  intro p e s m args below meth c s₁ B hml hv
  obtain ⟨rfl, hA, hR, hK, hN⟩ := hv
  have hr := B.returns
  have hts : ∀ w ∈ wsG, w.before [.ref x0, .ref x1].toArray s = true := fun w hw => atoms_spec (ws := Cond.code yX5_lacksSource cX5_lacksSource 3 (some .boolean) :: wsG) B.pre w (List.mem_cons_of_mem _ hw)
  have X : Cx p s m [.ref x0, .ref x1].toArray meth c D vwCl tys cX5_lacksSource 3 RX5 wsG := ⟨⟨B.exec, B.bytes, hml, findClass_of_methodNamed B.named, hts⟩, hK, B.notSynchronized, hT⟩
  have hx := B.exec
  have hb := B.bytes
  have I : In D vwCl tys A s h s.heap [] := ⟨hR, va_S.rf, hA⟩
  have hl := lv_entry [.ref x0, .ref x1] (n := 3) (Nat.le_of_ble_eq_true rfl)
  rw [lg_entry_eq]
  generalize (lg_sl [.ref x0, .ref x1] ++ List.replicate (3 - (lg_sl [.ref x0, .ref x1]).length) Slot.unset).toArray = ls at hl ⊢
  have hl : lv_has ls 3 [(0, .ref x0), (1, .ref x1)] := hl
  have ho := X.1.2.2.2.1
  rw [J_Step_lacksSource] at hJ
  refine lv_iconst (v := 0) hx hb dX5_lacksSource_0 (by decide) ?_
  refine lv_istore_n (lv' := [(2, .int (0 : Int32)), (0, .ref x0), (1, .ref x1)]) hx hb dX5_lacksSource_1 rfl hl (by decide) rfl (fun ls hl => ?_)
  exact w_Step_lacksSource_2 X hN hr N _ _ _ _ _ _ _ hJ I (lv_sub hl [1, 2, 0] rfl)
def rmX5_isToldOtherwise : Room := { frames := 0, cells := 0, slots := 0, locals := 0 }
def J_Step_isToldOtherwise (N : Nat) (x0 : Nat) (h : Hp) : Option (Int32 × Hp) :=
  (fI h 5 x0 1).bind fun v1 =>
  (fI h 5 x0 9).bind fun v2 =>
  if v1 = v2 then
  ((fI h 5 x0 2).bind fun v3 =>
  (fI h 5 x0 10).bind fun v4 =>
  if v3 = v4 then
  ((fI h 5 x0 5).bind fun v5 =>
  (fI h 5 x0 11).bind fun v6 =>
  if v5 = v6 then
  ((fI h 5 x0 7).bind fun v7 =>
  (fI h 5 x0 12).bind fun v8 =>
  if v7 = v8 then
  (some ((0 : Int32), h))
  else
  (some ((1 : Int32), h)))
  else
  (some ((1 : Int32), h)))
  else
  (some ((1 : Int32), h)))
  else
  (some ((1 : Int32), h))
set_option maxHeartbeats 4000000 in
set_option maxRecDepth 100000 in
theorem c_Step_isToldOtherwise {l : Launch} {D : va_G} {tys : List (ClassId × FieldType)} {A : Nat → Prop} (hT : tys.map (fun q => q.2) = tyS) {N : Nat} {x0 : Nat} {h : Hp} {res : (Int32 × Hp)} (hJ : J_Step_isToldOtherwise N x0 h = some res) : Ct l D vwCl tys A yX5_isToldOtherwise (Cond.code yX5_isToldOtherwise cX5_isToldOtherwise 1 (some .boolean) :: wsG) rmX5_isToldOtherwise [.ref x0] h (some (.int res.1)) res.2 := by
  refine Met.ofW (cc := cX5_isToldOtherwise) (maxL := 1) (ret := (some .boolean)) (by decide) rfl ?_
  intro p e s m args below meth c s₁ B hml hv
  obtain ⟨rfl, hA, hR, hK, hN⟩ := hv
  have hr := B.returns
  have hts : ∀ w ∈ wsG, w.before [.ref x0].toArray s = true := fun w hw => atoms_spec (ws := Cond.code yX5_isToldOtherwise cX5_isToldOtherwise 1 (some .boolean) :: wsG) B.pre w (List.mem_cons_of_mem _ hw)
  have X : Cx p s m [.ref x0].toArray meth c D vwCl tys cX5_isToldOtherwise 1 RX5 wsG := ⟨⟨B.exec, B.bytes, hml, findClass_of_methodNamed B.named, hts⟩, hK, B.notSynchronized, hT⟩
  have hx := B.exec
  have hb := B.bytes
  have I : In D vwCl tys A s h s.heap [] := ⟨hR, va_S.rf, hA⟩
  have hl := lv_entry [.ref x0] (n := 1) (Nat.le_of_ble_eq_true rfl)
  rw [lg_entry_eq]
  generalize (lg_sl [.ref x0] ++ List.replicate (1 - (lg_sl [.ref x0]).length) Slot.unset).toArray = ls at hl ⊢
  have hl : lv_has ls 1 [(0, .ref x0)] := hl
  have ho := X.1.2.2.2.1
  rw [J_Step_isToldOtherwise] at hJ
  refine lv_aload_n hx hb dX5_isToldOtherwise_0 rfl (lv_at hl 0 rfl) ?_
  obtain ⟨v1, e9, hJ⟩ := rp_b hJ
  obtain ⟨f9, g9, e9⟩ := fI_s e9
  refine rp_get X I g9 e9 rfl wiX5 (by decide) wm_77 dX5_isToldOtherwise_1 ?_
  refine lv_aload_n hx hb dX5_isToldOtherwise_4 rfl (lv_at hl 0 rfl) ?_
  obtain ⟨v2, e9, hJ⟩ := rp_b hJ
  obtain ⟨f9, g9, e9⟩ := fI_s e9
  refine rp_get X I g9 e9 rfl wiX5 (by decide) wm_85 dX5_isToldOtherwise_5 ?_
  refine lv_icmp_ne (tgt := 44) hx hb dX5_isToldOtherwise_8 (by decide) (fun c9 => ?_) (fun c9 => ?_)
  · rw [if_neg c9] at hJ
    refine lv_iconst (v := 1) hx hb dX5_isToldOtherwise_44 (by decide) ?_
    refine lv_goto (tgt := 49) hx hb dX5_isToldOtherwise_45 (by decide) ?_
    exact rp_zret X hr (Or.inr rfl) hJ I dX5_isToldOtherwise_49
  · rw [if_pos c9] at hJ
    refine lv_aload_n hx hb dX5_isToldOtherwise_11 rfl (lv_at hl 0 rfl) ?_
    obtain ⟨v3, e9, hJ⟩ := rp_b hJ
    obtain ⟨f9, g9, e9⟩ := fI_s e9
    refine rp_get X I g9 e9 rfl wiX5 (by decide) wm_78 dX5_isToldOtherwise_12 ?_
    refine lv_aload_n hx hb dX5_isToldOtherwise_15 rfl (lv_at hl 0 rfl) ?_
    obtain ⟨v4, e9, hJ⟩ := rp_b hJ
    obtain ⟨f9, g9, e9⟩ := fI_s e9
    refine rp_get X I g9 e9 rfl wiX5 (by decide) wm_86 dX5_isToldOtherwise_16 ?_
    refine lv_icmp_ne (tgt := 44) hx hb dX5_isToldOtherwise_19 (by decide) (fun c9 => ?_) (fun c9 => ?_)
    · rw [if_neg c9] at hJ
      refine lv_iconst (v := 1) hx hb dX5_isToldOtherwise_44 (by decide) ?_
      refine lv_goto (tgt := 49) hx hb dX5_isToldOtherwise_45 (by decide) ?_
      exact rp_zret X hr (Or.inr rfl) hJ I dX5_isToldOtherwise_49
    · rw [if_pos c9] at hJ
      refine lv_aload_n hx hb dX5_isToldOtherwise_22 rfl (lv_at hl 0 rfl) ?_
      obtain ⟨v5, e9, hJ⟩ := rp_b hJ
      obtain ⟨f9, g9, e9⟩ := fI_s e9
      refine rp_get X I g9 e9 rfl wiX5 (by decide) wm_81 dX5_isToldOtherwise_23 ?_
      refine lv_aload_n hx hb dX5_isToldOtherwise_26 rfl (lv_at hl 0 rfl) ?_
      obtain ⟨v6, e9, hJ⟩ := rp_b hJ
      obtain ⟨f9, g9, e9⟩ := fI_s e9
      refine rp_get X I g9 e9 rfl wiX5 (by decide) wm_87 dX5_isToldOtherwise_27 ?_
      refine lv_icmp_ne (tgt := 44) hx hb dX5_isToldOtherwise_30 (by decide) (fun c9 => ?_) (fun c9 => ?_)
      · rw [if_neg c9] at hJ
        refine lv_iconst (v := 1) hx hb dX5_isToldOtherwise_44 (by decide) ?_
        refine lv_goto (tgt := 49) hx hb dX5_isToldOtherwise_45 (by decide) ?_
        exact rp_zret X hr (Or.inr rfl) hJ I dX5_isToldOtherwise_49
      · rw [if_pos c9] at hJ
        refine lv_aload_n hx hb dX5_isToldOtherwise_33 rfl (lv_at hl 0 rfl) ?_
        obtain ⟨v7, e9, hJ⟩ := rp_b hJ
        obtain ⟨f9, g9, e9⟩ := fI_s e9
        refine rp_get X I g9 e9 rfl wiX5 (by decide) wm_83 dX5_isToldOtherwise_34 ?_
        refine lv_aload_n hx hb dX5_isToldOtherwise_37 rfl (lv_at hl 0 rfl) ?_
        obtain ⟨v8, e9, hJ⟩ := rp_b hJ
        obtain ⟨f9, g9, e9⟩ := fI_s e9
        refine rp_get X I g9 e9 rfl wiX5 (by decide) wm_88 dX5_isToldOtherwise_38 ?_
        refine lv_icmp_eq (tgt := 48) hx hb dX5_isToldOtherwise_41 (by decide) (fun c9 => ?_) (fun c9 => ?_)
        · rw [if_pos c9] at hJ
          refine lv_iconst (v := 0) hx hb dX5_isToldOtherwise_48 (by decide) ?_
          exact rp_zret X hr (Or.inl rfl) hJ I dX5_isToldOtherwise_49
        · rw [if_neg c9] at hJ
          refine lv_iconst (v := 1) hx hb dX5_isToldOtherwise_44 (by decide) ?_
          refine lv_goto (tgt := 49) hx hb dX5_isToldOtherwise_45 (by decide) ?_
          exact rp_zret X hr (Or.inr rfl) hJ I dX5_isToldOtherwise_49
def rmX5_outputLacks : Room := { frames := 1, cells := 0, slots := 0, locals := 21 }
def J_Step_outputLacks_2 (N : Nat)  : Nat → Nat → Nat → Int32 → Hp → Option (Int32 × Hp)
  | 0, _, _, _, _ => none
  | n + 1, x0, x1, x2, h =>
  (fI h 5 x0 7).bind fun v1 =>
  if v1 ≤ x2 then
  (some ((0 : Int32), h))
  else
  ((fR h 5 x0 6).bind fun v2 =>
  (aI h 0 v2 x2).bind fun v3 =>
  (isO h 1 x1).bind fun _ =>
  (J_File_isFilled N x1 v3 h).bind fun q4 =>
 if q4.1 = 0 then
  (some ((1 : Int32), q4.2))
  else
  ((J_Step_outputLacks_2 N n) x0 x1 (x2 + (1 : Int32)) q4.2))
def J_Step_outputLacks (N : Nat) (x0 : Nat) (x1 : Nat) (h : Hp) : Option (Int32 × Hp) :=
  J_Step_outputLacks_2 N N x0 x1 (0 : Int32) h
set_option maxHeartbeats 4000000 in
set_option maxRecDepth 100000 in
theorem w_Step_outputLacks_2 (X : Cx p s m args meth c D vwCl tys cX5_outputLacks 3 RX5 wsG) (hN : nwS s) (hr : meth.sig.returnType = (some .boolean)) {res : (Int32 × Hp)} {N : Nat}   : ∀ (n : Nat) (x0 : Nat) (x1 : Nat) (x2 : Int32)  (h : Hp) (H : Heap) (locs : List Loc) (ls : Array Slot), J_Step_outputLacks_2 N n x0 x1 x2 h = some res → In D vwCl tys A s h H locs → lv_has ls 3 [(0, .ref x0), (1, .ref x1), (2, .int x2)] → W p l e rmX5_outputLacks s m args below meth c H locs 0 0 (MQ below (Qr D vwCl tys A (some (.int res.1)) res.2) args s 0 0 A) (F0 m 2 ls []) := by
  have hx := X.1.1
  have hb := X.1.2.1
  have hml := X.1.2.2.1
  have ho := X.1.2.2.2.1
  have hts := X.1.2.2.2.2
  have hK := X.2.1
  have hT := X.2.2.2
  intro n
  induction n with
  | zero =>
    intro x0 x1 x2  h H locs ls hJ I hl
    exact nomatch (show (none : Option (Int32 × Hp)) = some res from hJ)
  | succ n k2 =>
    intro x0 x1 x2  h H locs ls hJ I hl
    rw [J_Step_outputLacks_2] at hJ
    refine lv_iload_n hx hb dX5_outputLacks_2 rfl (lv_at hl 2 rfl) ?_
    refine lv_aload_n hx hb dX5_outputLacks_3 rfl (lv_at hl 0 rfl) ?_
    obtain ⟨v1, e9, hJ⟩ := rp_b hJ
    obtain ⟨f9, g9, e9⟩ := fI_s e9
    refine rp_get X I g9 e9 rfl wiX5 (by decide) wm_83 dX5_outputLacks_4 ?_
    refine lv_icmp_ge (tgt := 31) hx hb dX5_outputLacks_7 (by decide) (fun c9 => ?_) (fun c9 => ?_)
    · rw [if_pos c9] at hJ
      refine lv_iconst (v := 0) hx hb dX5_outputLacks_31 (by decide) ?_
      exact rp_zret X hr (Or.inl rfl) hJ I dX5_outputLacks_32
    · rw [if_neg c9] at hJ
      refine lv_aload_n hx hb dX5_outputLacks_10 rfl (lv_at hl 1 rfl) ?_
      refine lv_aload_n hx hb dX5_outputLacks_11 rfl (lv_at hl 0 rfl) ?_
      obtain ⟨v2, e9, hJ⟩ := rp_b hJ
      obtain ⟨f9, g9, e9⟩ := fR_s e9
      refine rp_get X I g9 e9 rfl wiX5 (by decide) wm_82 dX5_outputLacks_12 ?_
      refine lv_iload_n hx hb dX5_outputLacks_15 rfl (lv_at hl 2 rfl) ?_
      obtain ⟨v3, e9, hJ⟩ := rp_b hJ
      refine rp_iald X I e9 rfl dX5_outputLacks_16 ?_
      obtain ⟨u9, i9, hJ⟩ := rp_b hJ
      obtain ⟨f9, i9⟩ := isO_s i9
      obtain ⟨q4, e9, hJ⟩ := rp_b hJ
      refine rp_callV (As := [.int v3]) (rest := []) X hN I (c_File_isFilled hT e9) (cwV 1 hts (gdV wm_273 wm_274 wm_275 wm_34 wm_276) rfl rfl rfl (by decide +kernel) ⟨Nat.le_of_ble_eq_true rfl, Nat.le_of_ble_eq_true rfl⟩) i9 rfl rfl hl.1 rfl (Nat.le_of_ble_eq_true rfl) dX5_outputLacks_17 ⟨(Nat.le_of_ble_eq_true rfl), (Nat.le_of_ble_eq_true rfl)⟩ (fun H locs I => ?_)
      refine W.cs (cells' := 0) (slots' := 0) rfl rfl ?_
      refine lv_if_ne (tgt := 25) hx hb dX5_outputLacks_20 (by decide) (fun c9 => ?_) (fun c9 => ?_)
      · rw [if_neg c9] at hJ
        refine lv_iinc (v := (x2 + (1 : Int32))) (lv' := [(2, .int (x2 + (1 : Int32))), (0, .ref x0), (1, .ref x1)]) hx hb dX5_outputLacks_25 hl (k := 2) rfl rfl (by decide) rfl (fun ls hl => ?_)
        refine lv_goto (tgt := 2) hx hb dX5_outputLacks_28 (by decide) ?_
        exact k2 _ _ _ _ _ _ _ hJ I (lv_sub hl [1, 2, 0] rfl)
      · rw [if_pos c9] at hJ
        refine lv_iconst (v := 1) hx hb dX5_outputLacks_23 (by decide) ?_
        exact rp_zret X hr (Or.inr rfl) hJ I dX5_outputLacks_24
set_option maxHeartbeats 4000000 in
set_option maxRecDepth 100000 in
theorem c_Step_outputLacks {l : Launch} {D : va_G} {tys : List (ClassId × FieldType)} {A : Nat → Prop} (hT : tys.map (fun q => q.2) = tyS) {N : Nat} {x0 : Nat} {x1 : Nat} {h : Hp} {res : (Int32 × Hp)} (hJ : J_Step_outputLacks N x0 x1 h = some res) : Ct l D vwCl tys A yX5_outputLacks (Cond.code yX5_outputLacks cX5_outputLacks 3 (some .boolean) :: wsG) rmX5_outputLacks [.ref x0, .ref x1] h (some (.int res.1)) res.2 := by
  refine Met.ofW (cc := cX5_outputLacks) (maxL := 3) (ret := (some .boolean)) (by decide) rfl ?_
  intro p e s m args below meth c s₁ B hml hv
  obtain ⟨rfl, hA, hR, hK, hN⟩ := hv
  have hr := B.returns
  have hts : ∀ w ∈ wsG, w.before [.ref x0, .ref x1].toArray s = true := fun w hw => atoms_spec (ws := Cond.code yX5_outputLacks cX5_outputLacks 3 (some .boolean) :: wsG) B.pre w (List.mem_cons_of_mem _ hw)
  have X : Cx p s m [.ref x0, .ref x1].toArray meth c D vwCl tys cX5_outputLacks 3 RX5 wsG := ⟨⟨B.exec, B.bytes, hml, findClass_of_methodNamed B.named, hts⟩, hK, B.notSynchronized, hT⟩
  have hx := B.exec
  have hb := B.bytes
  have I : In D vwCl tys A s h s.heap [] := ⟨hR, va_S.rf, hA⟩
  have hl := lv_entry [.ref x0, .ref x1] (n := 3) (Nat.le_of_ble_eq_true rfl)
  rw [lg_entry_eq]
  generalize (lg_sl [.ref x0, .ref x1] ++ List.replicate (3 - (lg_sl [.ref x0, .ref x1]).length) Slot.unset).toArray = ls at hl ⊢
  have hl : lv_has ls 3 [(0, .ref x0), (1, .ref x1)] := hl
  have ho := X.1.2.2.2.1
  rw [J_Step_outputLacks] at hJ
  refine lv_iconst (v := 0) hx hb dX5_outputLacks_0 (by decide) ?_
  refine lv_istore_n (lv' := [(2, .int (0 : Int32)), (0, .ref x0), (1, .ref x1)]) hx hb dX5_outputLacks_1 rfl hl (by decide) rfl (fun ls hl => ?_)
  exact w_Step_outputLacks_2 X hN hr N _ _ _ _ _ _ _ hJ I (lv_sub hl [1, 2, 0] rfl)
def rmX5_inputDiffers : Room := { frames := 1, cells := 0, slots := 0, locals := 21 }
def J_Step_inputDiffers_2 (N : Nat)  : Nat → Nat → Nat → Int32 → Hp → Option (Int32 × Hp)
  | 0, _, _, _, _ => none
  | n + 1, x0, x1, x2, h =>
  (fI h 5 x0 5).bind fun v1 =>
  if v1 ≤ x2 then
  (some ((0 : Int32), h))
  else
  ((fR h 5 x0 4).bind fun v2 =>
  (aI h 0 v2 x2).bind fun v3 =>
  (isO h 1 x1).bind fun _ =>
  (J_File_isFilled N x1 v3 h).bind fun q4 =>
 if q4.1 = 0 then
  (some ((1 : Int32), q4.2))
  else
  ((isO q4.2 1 x1).bind fun _ =>
  (J_File_contentOf N x1 v3 q4.2).bind fun q5 =>
 (fR q5.2 5 x0 13).bind fun v6 =>
  (aI q5.2 0 v6 x2).bind fun v7 =>
  if q5.1 = v7 then
  ((J_Step_inputDiffers_2 N n) x0 x1 (x2 + (1 : Int32)) q5.2)
  else
  (some ((1 : Int32), q5.2))))
def J_Step_inputDiffers (N : Nat) (x0 : Nat) (x1 : Nat) (h : Hp) : Option (Int32 × Hp) :=
  J_Step_inputDiffers_2 N N x0 x1 (0 : Int32) h
set_option maxHeartbeats 4000000 in
set_option maxRecDepth 100000 in
theorem w_Step_inputDiffers_2 (X : Cx p s m args meth c D vwCl tys cX5_inputDiffers 4 RX5 wsG) (hN : nwS s) (hr : meth.sig.returnType = (some .boolean)) {res : (Int32 × Hp)} {N : Nat}   : ∀ (n : Nat) (x0 : Nat) (x1 : Nat) (x2 : Int32)  (h : Hp) (H : Heap) (locs : List Loc) (ls : Array Slot), J_Step_inputDiffers_2 N n x0 x1 x2 h = some res → In D vwCl tys A s h H locs → lv_has ls 4 [(0, .ref x0), (1, .ref x1), (2, .int x2)] → W p l e rmX5_inputDiffers s m args below meth c H locs 0 0 (MQ below (Qr D vwCl tys A (some (.int res.1)) res.2) args s 0 0 A) (F0 m 2 ls []) := by
  have hx := X.1.1
  have hb := X.1.2.1
  have hml := X.1.2.2.1
  have ho := X.1.2.2.2.1
  have hts := X.1.2.2.2.2
  have hK := X.2.1
  have hT := X.2.2.2
  intro n
  induction n with
  | zero =>
    intro x0 x1 x2  h H locs ls hJ I hl
    exact nomatch (show (none : Option (Int32 × Hp)) = some res from hJ)
  | succ n k2 =>
    intro x0 x1 x2  h H locs ls hJ I hl
    rw [J_Step_inputDiffers_2] at hJ
    refine lv_iload_n hx hb dX5_inputDiffers_2 rfl (lv_at hl 2 rfl) ?_
    refine lv_aload_n hx hb dX5_inputDiffers_3 rfl (lv_at hl 0 rfl) ?_
    obtain ⟨v1, e9, hJ⟩ := rp_b hJ
    obtain ⟨f9, g9, e9⟩ := fI_s e9
    refine rp_get X I g9 e9 rfl wiX5 (by decide) wm_81 dX5_inputDiffers_4 ?_
    refine lv_icmp_ge (tgt := 47) hx hb dX5_inputDiffers_7 (by decide) (fun c9 => ?_) (fun c9 => ?_)
    · rw [if_pos c9] at hJ
      refine lv_iconst (v := 0) hx hb dX5_inputDiffers_47 (by decide) ?_
      exact rp_zret X hr (Or.inl rfl) hJ I dX5_inputDiffers_48
    · rw [if_neg c9] at hJ
      refine lv_aload_n hx hb dX5_inputDiffers_10 rfl (lv_at hl 0 rfl) ?_
      obtain ⟨v2, e9, hJ⟩ := rp_b hJ
      obtain ⟨f9, g9, e9⟩ := fR_s e9
      refine rp_get X I g9 e9 rfl wiX5 (by decide) wm_80 dX5_inputDiffers_11 ?_
      refine lv_iload_n hx hb dX5_inputDiffers_14 rfl (lv_at hl 2 rfl) ?_
      obtain ⟨v3, e9, hJ⟩ := rp_b hJ
      refine rp_iald X I e9 rfl dX5_inputDiffers_15 ?_
      refine lv_istore_n (lv' := [(3, .int v3), (0, .ref x0), (1, .ref x1), (2, .int x2)]) hx hb dX5_inputDiffers_16 rfl hl (by decide) rfl (fun ls hl => ?_)
      refine lv_aload_n hx hb dX5_inputDiffers_17 rfl (lv_at hl 2 rfl) ?_
      refine lv_iload_n hx hb dX5_inputDiffers_18 rfl (lv_at hl 0 rfl) ?_
      obtain ⟨u9, i9, hJ⟩ := rp_b hJ
      obtain ⟨f9, i9⟩ := isO_s i9
      obtain ⟨q4, e9, hJ⟩ := rp_b hJ
      refine rp_callV (As := [.int v3]) (rest := []) X hN I (c_File_isFilled hT e9) (cwV 1 hts (gdV wm_273 wm_274 wm_275 wm_34 wm_276) rfl rfl rfl (by decide +kernel) ⟨Nat.le_of_ble_eq_true rfl, Nat.le_of_ble_eq_true rfl⟩) i9 rfl rfl hl.1 rfl (Nat.le_of_ble_eq_true rfl) dX5_inputDiffers_19 ⟨(Nat.le_of_ble_eq_true rfl), (Nat.le_of_ble_eq_true rfl)⟩ (fun H locs I => ?_)
      refine W.cs (cells' := 0) (slots' := 0) rfl rfl ?_
      refine lv_if_eq (tgt := 39) hx hb dX5_inputDiffers_22 (by decide) (fun c9 => ?_) (fun c9 => ?_)
      · rw [if_pos c9] at hJ
        refine lv_iconst (v := 1) hx hb dX5_inputDiffers_39 (by decide) ?_
        exact rp_zret X hr (Or.inr rfl) hJ I dX5_inputDiffers_40
      · rw [if_neg c9] at hJ
        refine lv_aload_n hx hb dX5_inputDiffers_25 rfl (lv_at hl 2 rfl) ?_
        refine lv_iload_n hx hb dX5_inputDiffers_26 rfl (lv_at hl 0 rfl) ?_
        obtain ⟨u9, i9, hJ⟩ := rp_b hJ
        obtain ⟨f9, i9⟩ := isO_s i9
        obtain ⟨q5, e9, hJ⟩ := rp_b hJ
        refine rp_callV (As := [.int v3]) (rest := []) X hN I (c_File_contentOf hT e9) (cwV 1 hts (gdV wm_280 wm_281 wm_282 wm_34 wm_283) rfl rfl rfl (by decide +kernel) ⟨Nat.le_of_ble_eq_true rfl, Nat.le_of_ble_eq_true rfl⟩) i9 rfl rfl hl.1 rfl (Nat.le_of_ble_eq_true rfl) dX5_inputDiffers_27 ⟨(Nat.le_of_ble_eq_true rfl), (Nat.le_of_ble_eq_true rfl)⟩ (fun H locs I => ?_)
        refine W.cs (cells' := 0) (slots' := 0) rfl rfl ?_
        refine lv_aload_n hx hb dX5_inputDiffers_30 rfl (lv_at hl 1 rfl) ?_
        obtain ⟨v6, e9, hJ⟩ := rp_b hJ
        obtain ⟨f9, g9, e9⟩ := fR_s e9
        refine rp_get X I g9 e9 rfl wiX5 (by decide) wm_89 dX5_inputDiffers_31 ?_
        refine lv_iload_n hx hb dX5_inputDiffers_34 rfl (lv_at hl 3 rfl) ?_
        obtain ⟨v7, e9, hJ⟩ := rp_b hJ
        refine rp_iald X I e9 rfl dX5_inputDiffers_35 ?_
        refine lv_icmp_eq (tgt := 41) hx hb dX5_inputDiffers_36 (by decide) (fun c9 => ?_) (fun c9 => ?_)
        · rw [if_pos c9] at hJ
          refine lv_iinc (v := (x2 + (1 : Int32))) (lv' := [(2, .int (x2 + (1 : Int32))), (3, .int v3), (0, .ref x0), (1, .ref x1)]) hx hb dX5_inputDiffers_41 hl (k := 3) rfl rfl (by decide) rfl (fun ls hl => ?_)
          refine lv_goto (tgt := 2) hx hb dX5_inputDiffers_44 (by decide) ?_
          exact k2 _ _ _ _ _ _ _ hJ I (lv_sub hl [2, 3, 0] rfl)
        · rw [if_neg c9] at hJ
          refine lv_iconst (v := 1) hx hb dX5_inputDiffers_39 (by decide) ?_
          exact rp_zret X hr (Or.inr rfl) hJ I dX5_inputDiffers_40
set_option maxHeartbeats 4000000 in
set_option maxRecDepth 100000 in
theorem c_Step_inputDiffers {l : Launch} {D : va_G} {tys : List (ClassId × FieldType)} {A : Nat → Prop} (hT : tys.map (fun q => q.2) = tyS) {N : Nat} {x0 : Nat} {x1 : Nat} {h : Hp} {res : (Int32 × Hp)} (hJ : J_Step_inputDiffers N x0 x1 h = some res) : Ct l D vwCl tys A yX5_inputDiffers (Cond.code yX5_inputDiffers cX5_inputDiffers 4 (some .boolean) :: wsG) rmX5_inputDiffers [.ref x0, .ref x1] h (some (.int res.1)) res.2 := by
  refine Met.ofW (cc := cX5_inputDiffers) (maxL := 4) (ret := (some .boolean)) (by decide) rfl ?_
  intro p e s m args below meth c s₁ B hml hv
  obtain ⟨rfl, hA, hR, hK, hN⟩ := hv
  have hr := B.returns
  have hts : ∀ w ∈ wsG, w.before [.ref x0, .ref x1].toArray s = true := fun w hw => atoms_spec (ws := Cond.code yX5_inputDiffers cX5_inputDiffers 4 (some .boolean) :: wsG) B.pre w (List.mem_cons_of_mem _ hw)
  have X : Cx p s m [.ref x0, .ref x1].toArray meth c D vwCl tys cX5_inputDiffers 4 RX5 wsG := ⟨⟨B.exec, B.bytes, hml, findClass_of_methodNamed B.named, hts⟩, hK, B.notSynchronized, hT⟩
  have hx := B.exec
  have hb := B.bytes
  have I : In D vwCl tys A s h s.heap [] := ⟨hR, va_S.rf, hA⟩
  have hl := lv_entry [.ref x0, .ref x1] (n := 4) (Nat.le_of_ble_eq_true rfl)
  rw [lg_entry_eq]
  generalize (lg_sl [.ref x0, .ref x1] ++ List.replicate (4 - (lg_sl [.ref x0, .ref x1]).length) Slot.unset).toArray = ls at hl ⊢
  have hl : lv_has ls 4 [(0, .ref x0), (1, .ref x1)] := hl
  have ho := X.1.2.2.2.1
  rw [J_Step_inputDiffers] at hJ
  refine lv_iconst (v := 0) hx hb dX5_inputDiffers_0 (by decide) ?_
  refine lv_istore_n (lv' := [(2, .int (0 : Int32)), (0, .ref x0), (1, .ref x1)]) hx hb dX5_inputDiffers_1 rfl hl (by decide) rfl (fun ls hl => ?_)
  exact w_Step_inputDiffers_2 X hN hr N _ _ _ _ _ _ _ hJ I (lv_sub hl [1, 2, 0] rfl)
def rmX5_whyDue : Room := { frames := 2, cells := 0, slots := 0, locals := 44 }
def J_Step_whyDue (N : Nat) (x0 : Nat) (x1 : Nat) (h : Hp) : Option (Int32 × Hp) :=
  (fI h 5 x0 8).bind fun v1 =>
  if v1 = 0 then
  (some ((1 : Int32), h))
  else
  ((isO h 5 x0).bind fun _ =>
  (J_Step_isToldOtherwise N x0 h).bind fun q2 =>
 if q2.1 = 0 then
  ((isO q2.2 5 x0).bind fun _ =>
  (J_Step_outputLacks N x0 x1 q2.2).bind fun q3 =>
 if q3.1 = 0 then
  ((isO q3.2 5 x0).bind fun _ =>
  (J_Step_inputDiffers N x0 x1 q3.2).bind fun q4 =>
 if q4.1 = 0 then
  (some ((0 : Int32), q4.2))
  else
  (some ((4 : Int32), q4.2)))
  else
  (some ((3 : Int32), q3.2)))
  else
  (some ((2 : Int32), q2.2)))
set_option maxHeartbeats 4000000 in
set_option maxRecDepth 100000 in
theorem c_Step_whyDue {l : Launch} {D : va_G} {tys : List (ClassId × FieldType)} {A : Nat → Prop} (hT : tys.map (fun q => q.2) = tyS) {N : Nat} {x0 : Nat} {x1 : Nat} {h : Hp} {res : (Int32 × Hp)} (hJ : J_Step_whyDue N x0 x1 h = some res) : Ct l D vwCl tys A yX5_whyDue (Cond.code yX5_whyDue cX5_whyDue 2 (some .int) :: wsG) rmX5_whyDue [.ref x0, .ref x1] h (some (.int res.1)) res.2 := by
  refine Met.ofW (cc := cX5_whyDue) (maxL := 2) (ret := (some .int)) (by decide) rfl ?_
  intro p e s m args below meth c s₁ B hml hv
  obtain ⟨rfl, hA, hR, hK, hN⟩ := hv
  have hr := B.returns
  have hts : ∀ w ∈ wsG, w.before [.ref x0, .ref x1].toArray s = true := fun w hw => atoms_spec (ws := Cond.code yX5_whyDue cX5_whyDue 2 (some .int) :: wsG) B.pre w (List.mem_cons_of_mem _ hw)
  have X : Cx p s m [.ref x0, .ref x1].toArray meth c D vwCl tys cX5_whyDue 2 RX5 wsG := ⟨⟨B.exec, B.bytes, hml, findClass_of_methodNamed B.named, hts⟩, hK, B.notSynchronized, hT⟩
  have hx := B.exec
  have hb := B.bytes
  have I : In D vwCl tys A s h s.heap [] := ⟨hR, va_S.rf, hA⟩
  have hl := lv_entry [.ref x0, .ref x1] (n := 2) (Nat.le_of_ble_eq_true rfl)
  rw [lg_entry_eq]
  generalize (lg_sl [.ref x0, .ref x1] ++ List.replicate (2 - (lg_sl [.ref x0, .ref x1]).length) Slot.unset).toArray = ls at hl ⊢
  have hl : lv_has ls 2 [(0, .ref x0), (1, .ref x1)] := hl
  have ho := X.1.2.2.2.1
  rw [J_Step_whyDue] at hJ
  refine lv_aload_n hx hb dX5_whyDue_0 rfl (lv_at hl 0 rfl) ?_
  obtain ⟨v1, e9, hJ⟩ := rp_b hJ
  obtain ⟨f9, g9, e9⟩ := fI_s e9
  refine rp_get X I g9 e9 rfl wiX5 (by decide) wm_84 dX5_whyDue_1 ?_
  refine lv_if_ne (tgt := 9) hx hb dX5_whyDue_4 (by decide) (fun c9 => ?_) (fun c9 => ?_)
  · rw [if_neg c9] at hJ
    refine lv_aload_n hx hb dX5_whyDue_9 rfl (lv_at hl 0 rfl) ?_
    obtain ⟨u9, i9, hJ⟩ := rp_b hJ
    obtain ⟨f9, i9⟩ := isO_s i9
    obtain ⟨q2, e9, hJ⟩ := rp_b hJ
    refine rp_callV (As := []) (rest := []) X hN I (c_Step_isToldOtherwise hT e9) (cwV 0 hts (gdV wm_267 wm_268 wm_3 wm_35 wm_269) rfl rfl rfl (by decide +kernel) ⟨Nat.le_of_ble_eq_true rfl, Nat.le_of_ble_eq_true rfl⟩) i9 rfl rfl hl.1 rfl (Nat.le_of_ble_eq_true rfl) dX5_whyDue_10 ⟨(Nat.le_of_ble_eq_true rfl), (Nat.le_of_ble_eq_true rfl)⟩ (fun H locs I => ?_)
    refine W.cs (cells' := 0) (slots' := 0) rfl rfl ?_
    refine lv_if_eq (tgt := 18) hx hb dX5_whyDue_13 (by decide) (fun c9 => ?_) (fun c9 => ?_)
    · rw [if_pos c9] at hJ
      refine lv_aload_n hx hb dX5_whyDue_18 rfl (lv_at hl 0 rfl) ?_
      refine lv_aload_n hx hb dX5_whyDue_19 rfl (lv_at hl 1 rfl) ?_
      obtain ⟨u9, i9, hJ⟩ := rp_b hJ
      obtain ⟨f9, i9⟩ := isO_s i9
      obtain ⟨q3, e9, hJ⟩ := rp_b hJ
      refine rp_callV (As := [.ref x1]) (rest := []) X hN I (c_Step_outputLacks hT e9) (cwV 1 hts (gdV wm_270 wm_271 wm_4 wm_35 wm_272) rfl rfl rfl (by decide +kernel) ⟨Nat.le_of_ble_eq_true rfl, Nat.le_of_ble_eq_true rfl⟩) i9 rfl rfl hl.1 rfl (Nat.le_of_ble_eq_true rfl) dX5_whyDue_20 ⟨(Nat.le_of_ble_eq_true rfl), (Nat.le_of_ble_eq_true rfl)⟩ (fun H locs I => ?_)
      refine W.cs (cells' := 0) (slots' := 0) rfl rfl ?_
      refine lv_if_eq (tgt := 28) hx hb dX5_whyDue_23 (by decide) (fun c9 => ?_) (fun c9 => ?_)
      · rw [if_pos c9] at hJ
        refine lv_aload_n hx hb dX5_whyDue_28 rfl (lv_at hl 0 rfl) ?_
        refine lv_aload_n hx hb dX5_whyDue_29 rfl (lv_at hl 1 rfl) ?_
        obtain ⟨u9, i9, hJ⟩ := rp_b hJ
        obtain ⟨f9, i9⟩ := isO_s i9
        obtain ⟨q4, e9, hJ⟩ := rp_b hJ
        refine rp_callV (As := [.ref x1]) (rest := []) X hN I (c_Step_inputDiffers hT e9) (cwV 1 hts (gdV wm_277 wm_278 wm_5 wm_35 wm_279) rfl rfl rfl (by decide +kernel) ⟨Nat.le_of_ble_eq_true rfl, Nat.le_of_ble_eq_true rfl⟩) i9 rfl rfl hl.1 rfl (Nat.le_of_ble_eq_true rfl) dX5_whyDue_30 ⟨(Nat.le_of_ble_eq_true rfl), (Nat.le_of_ble_eq_true rfl)⟩ (fun H locs I => ?_)
        refine W.cs (cells' := 0) (slots' := 0) rfl rfl ?_
        refine lv_if_eq (tgt := 40) hx hb dX5_whyDue_33 (by decide) (fun c9 => ?_) (fun c9 => ?_)
        · rw [if_pos c9] at hJ
          refine lv_iconst (v := 0) hx hb dX5_whyDue_40 (by decide) ?_
          exact rp_iret X hr hJ I dX5_whyDue_41
        · rw [if_neg c9] at hJ
          refine lv_iconst (v := 4) hx hb dX5_whyDue_36 (by decide) ?_
          refine lv_goto (tgt := 41) hx hb dX5_whyDue_37 (by decide) ?_
          exact rp_iret X hr hJ I dX5_whyDue_41
      · rw [if_neg c9] at hJ
        refine lv_iconst (v := 3) hx hb dX5_whyDue_26 (by decide) ?_
        exact rp_iret X hr hJ I dX5_whyDue_27
    · rw [if_neg c9] at hJ
      refine lv_iconst (v := 2) hx hb dX5_whyDue_16 (by decide) ?_
      exact rp_iret X hr hJ I dX5_whyDue_17
  · rw [if_pos c9] at hJ
    refine lv_iconst (v := 1) hx hb dX5_whyDue_7 (by decide) ?_
    exact rp_iret X hr hJ I dX5_whyDue_8
def rmX5_make : Room := { frames := 1, cells := 0, slots := 0, locals := 22 }
def J_Step_make_51 (N : Nat)  : Nat → Nat → Nat → Int32 → Int32 → Hp → Option (Unit × Hp)
  | 0, _, _, _, _, _ => none
  | n + 1, x0, x1, x2, x3, h =>
  (fI h 5 x0 7).bind fun v3 =>
  if v3 ≤ x3 then
  ((sZ h 5 x0 8 (1 : Int32)).bind fun h4 =>
  (fI h4 5 x0 1).bind fun v5 =>
  (sF h4 5 x0 9 (.int v5)).bind fun h6 =>
  (fI h6 5 x0 2).bind fun v7 =>
  (sF h6 5 x0 10 (.int v7)).bind fun h8 =>
  (fI h8 5 x0 5).bind fun v9 =>
  (sF h8 5 x0 11 (.int v9)).bind fun h10 =>
  (fI h10 5 x0 7).bind fun v11 =>
  (sF h10 5 x0 12 (.int v11)).bind fun h12 =>
  some ((), h12))
  else
  ((fR h 5 x0 6).bind fun v13 =>
  (aI h 0 v13 x3).bind fun v14 =>
  (fI h 5 x0 2).bind fun v15 =>
  (isO h 1 x1).bind fun _ =>
  (J_File_fill N x1 v14 ((x2 + x3) &&& v15) h).bind fun q16 =>
 (J_Step_make_51 N n) x0 x1 x2 (x3 + (1 : Int32)) q16.2)
def J_Step_make_7 (N : Nat)  : Nat → Nat → Nat → Int32 → Int32 → Hp → Option (Unit × Hp)
  | 0, _, _, _, _, _ => none
  | n + 1, x0, x1, x2, x3, h =>
  (fI h 5 x0 5).bind fun v2 =>
  if v2 ≤ x3 then
  (J_Step_make_51 N N x0 x1 x2 (0 : Int32) h)
  else
  ((fR h 5 x0 4).bind fun v17 =>
  (aI h 0 v17 x3).bind fun v18 =>
  (isO h 1 x1).bind fun _ =>
  (J_File_contentOf N x1 v18 h).bind fun q19 =>
 (fR q19.2 5 x0 13).bind fun v20 =>
  (sI q19.2 0 v20 x3 q19.1).bind fun h21 =>
  (J_Step_make_7 N n) x0 x1 ((x2 ^^^ q19.1) * (16777619 : Int32)) (x3 + (1 : Int32)) h21)
def J_Step_make (N : Nat) (x0 : Nat) (x1 : Nat) (h : Hp) : Option (Unit × Hp) :=
  (fI h 5 x0 1).bind fun v1 =>
  J_Step_make_7 N N x0 x1 v1 (0 : Int32) h
set_option maxHeartbeats 4000000 in
set_option maxRecDepth 100000 in
theorem w_Step_make_51 (X : Cx p s m args meth c D vwCl tys cX5_make 5 RX5 wsG) (hN : nwS s) (hr : meth.sig.returnType = none) {res : (Unit × Hp)} {N : Nat}   : ∀ (n : Nat) (x0 : Nat) (x1 : Nat) (x2 : Int32) (x3 : Int32)  (h : Hp) (H : Heap) (locs : List Loc) (ls : Array Slot), J_Step_make_51 N n x0 x1 x2 x3 h = some res → In D vwCl tys A s h H locs → lv_has ls 5 [(0, .ref x0), (1, .ref x1), (2, .int x2), (3, .int x3)] → W p l e rmX5_make s m args below meth c H locs 0 0 (MQ below (Qr D vwCl tys A none res.2) args s 0 0 A) (F0 m 51 ls []) := by
  have hx := X.1.1
  have hb := X.1.2.1
  have hml := X.1.2.2.1
  have ho := X.1.2.2.2.1
  have hts := X.1.2.2.2.2
  have hK := X.2.1
  have hT := X.2.2.2
  intro n
  induction n with
  | zero =>
    intro x0 x1 x2 x3  h H locs ls hJ I hl
    exact nomatch (show (none : Option (Unit × Hp)) = some res from hJ)
  | succ n k51 =>
    intro x0 x1 x2 x3  h H locs ls hJ I hl
    rw [J_Step_make_51] at hJ
    refine lv_iload_n hx hb dX5_make_51 rfl (lv_at hl 3 rfl) ?_
    refine lv_aload_n hx hb dX5_make_52 rfl (lv_at hl 0 rfl) ?_
    obtain ⟨v3, e9, hJ⟩ := rp_b hJ
    obtain ⟨f9, g9, e9⟩ := fI_s e9
    refine rp_get X I g9 e9 rfl wiX5 (by decide) wm_83 dX5_make_53 ?_
    refine lv_icmp_ge (tgt := 83) hx hb dX5_make_56 (by decide) (fun c9 => ?_) (fun c9 => ?_)
    · rw [if_pos c9] at hJ
      refine lv_aload_n hx hb dX5_make_83 rfl (lv_at hl 0 rfl) ?_
      refine lv_iconst (v := 1) hx hb dX5_make_84 (by decide) ?_
      obtain ⟨h4, e9, hJ⟩ := rp_b hJ
      obtain ⟨z9, e9⟩ := sZ_s e9
      refine rp_put (ty := .boolean) X I e9 rfl wiX5 tyX5 tyX5_ok nmX5 (by decide) wm_84 rfl (by decide +kernel) (rp_nz z9) (rp_fz z9) dX5_make_85 (fun H locs I => ?_)
      refine lv_aload_n hx hb dX5_make_88 rfl (lv_at hl 0 rfl) ?_
      refine lv_aload_n hx hb dX5_make_89 rfl (lv_at hl 0 rfl) ?_
      obtain ⟨v5, e9, hJ⟩ := rp_b hJ
      obtain ⟨f9, g9, e9⟩ := fI_s e9
      refine rp_get X I g9 e9 rfl wiX5 (by decide) wm_77 dX5_make_90 ?_
      obtain ⟨h6, e9, hJ⟩ := rp_b hJ
      refine rp_put (ty := .int) X I e9 rfl wiX5 tyX5 tyX5_ok nmX5 (by decide) wm_85 rfl (by decide +kernel) rfl rfl dX5_make_93 (fun H locs I => ?_)
      refine lv_aload_n hx hb dX5_make_96 rfl (lv_at hl 0 rfl) ?_
      refine lv_aload_n hx hb dX5_make_97 rfl (lv_at hl 0 rfl) ?_
      obtain ⟨v7, e9, hJ⟩ := rp_b hJ
      obtain ⟨f9, g9, e9⟩ := fI_s e9
      refine rp_get X I g9 e9 rfl wiX5 (by decide) wm_78 dX5_make_98 ?_
      obtain ⟨h8, e9, hJ⟩ := rp_b hJ
      refine rp_put (ty := .int) X I e9 rfl wiX5 tyX5 tyX5_ok nmX5 (by decide) wm_86 rfl (by decide +kernel) rfl rfl dX5_make_101 (fun H locs I => ?_)
      refine lv_aload_n hx hb dX5_make_104 rfl (lv_at hl 0 rfl) ?_
      refine lv_aload_n hx hb dX5_make_105 rfl (lv_at hl 0 rfl) ?_
      obtain ⟨v9, e9, hJ⟩ := rp_b hJ
      obtain ⟨f9, g9, e9⟩ := fI_s e9
      refine rp_get X I g9 e9 rfl wiX5 (by decide) wm_81 dX5_make_106 ?_
      obtain ⟨h10, e9, hJ⟩ := rp_b hJ
      refine rp_put (ty := .int) X I e9 rfl wiX5 tyX5 tyX5_ok nmX5 (by decide) wm_87 rfl (by decide +kernel) rfl rfl dX5_make_109 (fun H locs I => ?_)
      refine lv_aload_n hx hb dX5_make_112 rfl (lv_at hl 0 rfl) ?_
      refine lv_aload_n hx hb dX5_make_113 rfl (lv_at hl 0 rfl) ?_
      obtain ⟨v11, e9, hJ⟩ := rp_b hJ
      obtain ⟨f9, g9, e9⟩ := fI_s e9
      refine rp_get X I g9 e9 rfl wiX5 (by decide) wm_83 dX5_make_114 ?_
      obtain ⟨h12, e9, hJ⟩ := rp_b hJ
      refine rp_put (ty := .int) X I e9 rfl wiX5 tyX5 tyX5_ok nmX5 (by decide) wm_88 rfl (by decide +kernel) rfl rfl dX5_make_117 (fun H locs I => ?_)
      exact rp_vret X hr hJ I dX5_make_120
    · rw [if_neg c9] at hJ
      refine lv_aload_n hx hb dX5_make_59 rfl (lv_at hl 1 rfl) ?_
      refine lv_aload_n hx hb dX5_make_60 rfl (lv_at hl 0 rfl) ?_
      obtain ⟨v13, e9, hJ⟩ := rp_b hJ
      obtain ⟨f9, g9, e9⟩ := fR_s e9
      refine rp_get X I g9 e9 rfl wiX5 (by decide) wm_82 dX5_make_61 ?_
      refine lv_iload_n hx hb dX5_make_64 rfl (lv_at hl 3 rfl) ?_
      obtain ⟨v14, e9, hJ⟩ := rp_b hJ
      refine rp_iald X I e9 rfl dX5_make_65 ?_
      refine lv_iload_n hx hb dX5_make_66 rfl (lv_at hl 2 rfl) ?_
      refine lv_iload_n hx hb dX5_make_67 rfl (lv_at hl 3 rfl) ?_
      refine lv_iadd hx hb dX5_make_68 ?_
      refine lv_aload_n hx hb dX5_make_69 rfl (lv_at hl 0 rfl) ?_
      obtain ⟨v15, e9, hJ⟩ := rp_b hJ
      obtain ⟨f9, g9, e9⟩ := fI_s e9
      refine rp_get X I g9 e9 rfl wiX5 (by decide) wm_78 dX5_make_70 ?_
      refine lv_iand hx hb dX5_make_73 ?_
      obtain ⟨u9, i9, hJ⟩ := rp_b hJ
      obtain ⟨f9, i9⟩ := isO_s i9
      obtain ⟨q16, e9, hJ⟩ := rp_b hJ
      refine rp_callV (As := [.int v14, .int ((x2 + x3) &&& v15)]) (rest := []) X hN I (c_File_fill hT e9) (cwV 2 hts (gdV wm_439 wm_237 wm_238 wm_34 wm_239) rfl rfl rfl (by decide +kernel) ⟨Nat.le_of_ble_eq_true rfl, Nat.le_of_ble_eq_true rfl⟩) i9 rfl rfl hl.1 rfl (Nat.le_of_ble_eq_true rfl) dX5_make_74 ⟨(Nat.le_of_ble_eq_true rfl), (Nat.le_of_ble_eq_true rfl)⟩ (fun H locs I => ?_)
      refine W.cs (cells' := 0) (slots' := 0) rfl rfl ?_
      refine lv_iinc (v := (x3 + (1 : Int32))) (lv' := [(3, .int (x3 + (1 : Int32))), (0, .ref x0), (1, .ref x1), (2, .int x2)]) hx hb dX5_make_77 hl (k := 3) rfl rfl (by decide) rfl (fun ls hl => ?_)
      refine lv_goto (tgt := 51) hx hb dX5_make_80 (by decide) ?_
      exact k51 _ _ _ _ _ _ _ _ hJ I (lv_sub hl [1, 2, 3, 0] rfl)
set_option maxHeartbeats 4000000 in
set_option maxRecDepth 100000 in
theorem w_Step_make_7 (X : Cx p s m args meth c D vwCl tys cX5_make 5 RX5 wsG) (hN : nwS s) (hr : meth.sig.returnType = none) {res : (Unit × Hp)} {N : Nat}   : ∀ (n : Nat) (x0 : Nat) (x1 : Nat) (x2 : Int32) (x3 : Int32)  (h : Hp) (H : Heap) (locs : List Loc) (ls : Array Slot), J_Step_make_7 N n x0 x1 x2 x3 h = some res → In D vwCl tys A s h H locs → lv_has ls 5 [(0, .ref x0), (1, .ref x1), (2, .int x2), (3, .int x3)] → W p l e rmX5_make s m args below meth c H locs 0 0 (MQ below (Qr D vwCl tys A none res.2) args s 0 0 A) (F0 m 7 ls []) := by
  have hx := X.1.1
  have hb := X.1.2.1
  have hml := X.1.2.2.1
  have ho := X.1.2.2.2.1
  have hts := X.1.2.2.2.2
  have hK := X.2.1
  have hT := X.2.2.2
  intro n
  induction n with
  | zero =>
    intro x0 x1 x2 x3  h H locs ls hJ I hl
    exact nomatch (show (none : Option (Unit × Hp)) = some res from hJ)
  | succ n k7 =>
    intro x0 x1 x2 x3  h H locs ls hJ I hl
    rw [J_Step_make_7] at hJ
    refine lv_iload_n hx hb dX5_make_7 rfl (lv_at hl 3 rfl) ?_
    refine lv_aload_n hx hb dX5_make_8 rfl (lv_at hl 0 rfl) ?_
    obtain ⟨v2, e9, hJ⟩ := rp_b hJ
    obtain ⟨f9, g9, e9⟩ := fI_s e9
    refine rp_get X I g9 e9 rfl wiX5 (by decide) wm_81 dX5_make_9 ?_
    refine lv_icmp_ge (tgt := 49) hx hb dX5_make_12 (by decide) (fun c9 => ?_) (fun c9 => ?_)
    · rw [if_pos c9] at hJ
      refine lv_iconst (v := 0) hx hb dX5_make_49 (by decide) ?_
      refine lv_istore_n (lv' := [(3, .int (0 : Int32)), (0, .ref x0), (1, .ref x1), (2, .int x2)]) hx hb dX5_make_50 rfl hl (by decide) rfl (fun ls hl => ?_)
      exact w_Step_make_51 X hN hr N _ _ _ _ _ _ _ _ hJ I (lv_sub hl [1, 2, 3, 0] rfl)
    · rw [if_neg c9] at hJ
      refine lv_aload_n hx hb dX5_make_15 rfl (lv_at hl 1 rfl) ?_
      refine lv_aload_n hx hb dX5_make_16 rfl (lv_at hl 0 rfl) ?_
      obtain ⟨v17, e9, hJ⟩ := rp_b hJ
      obtain ⟨f9, g9, e9⟩ := fR_s e9
      refine rp_get X I g9 e9 rfl wiX5 (by decide) wm_80 dX5_make_17 ?_
      refine lv_iload_n hx hb dX5_make_20 rfl (lv_at hl 3 rfl) ?_
      obtain ⟨v18, e9, hJ⟩ := rp_b hJ
      refine rp_iald X I e9 rfl dX5_make_21 ?_
      obtain ⟨u9, i9, hJ⟩ := rp_b hJ
      obtain ⟨f9, i9⟩ := isO_s i9
      obtain ⟨q19, e9, hJ⟩ := rp_b hJ
      refine rp_callV (As := [.int v18]) (rest := []) X hN I (c_File_contentOf hT e9) (cwV 1 hts (gdV wm_280 wm_281 wm_282 wm_34 wm_283) rfl rfl rfl (by decide +kernel) ⟨Nat.le_of_ble_eq_true rfl, Nat.le_of_ble_eq_true rfl⟩) i9 rfl rfl hl.1 rfl (Nat.le_of_ble_eq_true rfl) dX5_make_22 ⟨(Nat.le_of_ble_eq_true rfl), (Nat.le_of_ble_eq_true rfl)⟩ (fun H locs I => ?_)
      refine W.cs (cells' := 0) (slots' := 0) rfl rfl ?_
      refine lv_istore (lv' := [(4, .int q19.1), (0, .ref x0), (1, .ref x1), (2, .int x2), (3, .int x3)]) hx hb dX5_make_25 hl (by decide) rfl (fun ls hl => ?_)
      refine lv_aload_n hx hb dX5_make_27 rfl (lv_at hl 1 rfl) ?_
      obtain ⟨v20, e9, hJ⟩ := rp_b hJ
      obtain ⟨f9, g9, e9⟩ := fR_s e9
      refine rp_get X I g9 e9 rfl wiX5 (by decide) wm_89 dX5_make_28 ?_
      refine lv_iload_n hx hb dX5_make_31 rfl (lv_at hl 4 rfl) ?_
      refine lv_iload hx hb dX5_make_32 (lv_at hl 0 rfl) ?_
      obtain ⟨h21, e9, hJ⟩ := rp_b hJ
      refine rp_iast X I e9 rfl dX5_make_34 (fun H locs I => ?_)
      refine lv_iload_n hx hb dX5_make_35 rfl (lv_at hl 3 rfl) ?_
      refine lv_iload hx hb dX5_make_36 (lv_at hl 0 rfl) ?_
      refine lv_ixor hx hb dX5_make_38 ?_
      refine lv_ldc (v := 16777619) hx hb ho (hts _ wm_438) dX5_make_39 ?_
      refine lv_imul hx hb dX5_make_41 ?_
      refine lv_istore_n (lv' := [(2, .int ((x2 ^^^ q19.1) * (16777619 : Int32))), (4, .int q19.1), (0, .ref x0), (1, .ref x1), (3, .int x3)]) hx hb dX5_make_42 rfl hl (by decide) rfl (fun ls hl => ?_)
      refine lv_iinc (v := (x3 + (1 : Int32))) (lv' := [(3, .int (x3 + (1 : Int32))), (2, .int ((x2 ^^^ q19.1) * (16777619 : Int32))), (4, .int q19.1), (0, .ref x0), (1, .ref x1)]) hx hb dX5_make_43 hl (k := 4) rfl rfl (by decide) rfl (fun ls hl => ?_)
      refine lv_goto (tgt := 7) hx hb dX5_make_46 (by decide) ?_
      exact k7 _ _ _ _ _ _ _ _ hJ I (lv_sub hl [3, 4, 1, 0] rfl)
set_option maxHeartbeats 4000000 in
set_option maxRecDepth 100000 in
theorem c_Step_make {l : Launch} {D : va_G} {tys : List (ClassId × FieldType)} {A : Nat → Prop} (hT : tys.map (fun q => q.2) = tyS) {N : Nat} {x0 : Nat} {x1 : Nat} {h : Hp} {res : (Unit × Hp)} (hJ : J_Step_make N x0 x1 h = some res) : Ct l D vwCl tys A yX5_make (Cond.code yX5_make cX5_make 5 none :: wsG) rmX5_make [.ref x0, .ref x1] h none res.2 := by
  refine Met.ofW (cc := cX5_make) (maxL := 5) (ret := none) (by decide) rfl ?_
  intro p e s m args below meth c s₁ B hml hv
  obtain ⟨rfl, hA, hR, hK, hN⟩ := hv
  have hr := B.returns
  have hts : ∀ w ∈ wsG, w.before [.ref x0, .ref x1].toArray s = true := fun w hw => atoms_spec (ws := Cond.code yX5_make cX5_make 5 none :: wsG) B.pre w (List.mem_cons_of_mem _ hw)
  have X : Cx p s m [.ref x0, .ref x1].toArray meth c D vwCl tys cX5_make 5 RX5 wsG := ⟨⟨B.exec, B.bytes, hml, findClass_of_methodNamed B.named, hts⟩, hK, B.notSynchronized, hT⟩
  have hx := B.exec
  have hb := B.bytes
  have I : In D vwCl tys A s h s.heap [] := ⟨hR, va_S.rf, hA⟩
  have hl := lv_entry [.ref x0, .ref x1] (n := 5) (Nat.le_of_ble_eq_true rfl)
  rw [lg_entry_eq]
  generalize (lg_sl [.ref x0, .ref x1] ++ List.replicate (5 - (lg_sl [.ref x0, .ref x1]).length) Slot.unset).toArray = ls at hl ⊢
  have hl : lv_has ls 5 [(0, .ref x0), (1, .ref x1)] := hl
  have ho := X.1.2.2.2.1
  rw [J_Step_make] at hJ
  refine lv_aload_n hx hb dX5_make_0 rfl (lv_at hl 0 rfl) ?_
  obtain ⟨v1, e9, hJ⟩ := rp_b hJ
  obtain ⟨f9, g9, e9⟩ := fI_s e9
  refine rp_get X I g9 e9 rfl wiX5 (by decide) wm_77 dX5_make_1 ?_
  refine lv_istore_n (lv' := [(2, .int v1), (0, .ref x0), (1, .ref x1)]) hx hb dX5_make_4 rfl hl (by decide) rfl (fun ls hl => ?_)
  refine lv_iconst (v := 0) hx hb dX5_make_5 (by decide) ?_
  refine lv_istore_n (lv' := [(3, .int (0 : Int32)), (2, .int v1), (0, .ref x0), (1, .ref x1)]) hx hb dX5_make_6 rfl hl (by decide) rfl (fun ls hl => ?_)
  exact w_Step_make_7 X hN hr N _ _ _ _ _ _ _ _ hJ I (lv_sub hl [2, 3, 1, 0] rfl)
end GW
