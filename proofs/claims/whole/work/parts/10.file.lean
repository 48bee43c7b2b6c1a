section GW
variable {p : Program} {l : Launch} {e : Env} {s : State} {m : MethodId} {args : Array Value} {below : List Frame} {meth : Method} {c : Code} {D : va_G} {tys : List (ClassId × FieldType)} {A : Nat → Prop}
def rmX6_bit : Room := { frames := 0, cells := 0, slots := 0, locals := 0 }
def J_Desk_bit (N : Nat) (x0 : Int32) (h : Hp) : Option (Int64 × Hp) :=
  some (((1 : Int64) <<< (x0.toInt64 &&& 63)), h)
set_option maxHeartbeats 4000000 in
set_option maxRecDepth 100000 in
theorem c_Desk_bit {l : Launch} {D : va_G} {tys : List (ClassId × FieldType)} {A : Nat → Prop} (hT : tys.map (fun q => q.2) = tyS) {N : Nat} {x0 : Int32} {h : Hp} {res : (Int64 × Hp)} (hJ : J_Desk_bit N x0 h = some res) : Ct l D vwCl tys A yX6_bit (Cond.code yX6_bit cX6_bit 1 (some .long) :: wsG) rmX6_bit [.int x0] h (some (.long res.1)) res.2 := by
  refine Met.ofW (cc := cX6_bit) (maxL := 1) (ret := (some .long)) (by decide) rfl ?_
  intro p e s m args below meth c s₁ B hml hv
  obtain ⟨rfl, hA, hR, hK, hN⟩ := hv
  have hr := B.returns
  have hts : ∀ w ∈ wsG, w.before [.int x0].toArray s = true := fun w hw => atoms_spec (ws := Cond.code yX6_bit cX6_bit 1 (some .long) :: wsG) B.pre w (List.mem_cons_of_mem _ hw)
  have X : Cx p s m [.int x0].toArray meth c D vwCl tys cX6_bit 1 RX6 wsG := ⟨⟨B.exec, B.bytes, hml, findClass_of_methodNamed B.named, hts⟩, hK, B.notSynchronized, hT⟩
  have hx := B.exec
  have hb := B.bytes
  have I : In D vwCl tys A s h s.heap [] := ⟨hR, va_S.rf, hA⟩
  have hl := lv_entry [.int x0] (n := 1) (Nat.le_of_ble_eq_true rfl)
  rw [lg_entry_eq]
  generalize (lg_sl [.int x0] ++ List.replicate (1 - (lg_sl [.int x0]).length) Slot.unset).toArray = ls at hl ⊢
  have hl : lv_has ls 1 [(0, .int x0)] := hl
  have ho := X.1.2.2.2.1
  rw [J_Desk_bit] at hJ
  refine lv_lconst (v := 1) hx hb dX6_bit_0 (by decide) ?_
  refine lv_iload_n hx hb dX6_bit_1 rfl (lv_at hl 0 rfl) ?_
  refine lv_lshl hx hb dX6_bit_2 rfl ?_
  exact rp_lret X hr hJ I dX6_bit_3
def rmX6_isIn : Room := { frames := 1, cells := 0, slots := 0, locals := 20 }
def J_Desk_isIn (N : Nat) (x0 : Int64) (x2 : Int32) (h : Hp) : Option (Int32 × Hp) :=
  (J_Desk_bit N x2 h).bind fun q1 =>
 if (lg_cmp (x0 &&& q1.1) (0 : Int64)) = 0 then
  (some ((0 : Int32), q1.2))
  else
  (some ((1 : Int32), q1.2))
set_option maxHeartbeats 4000000 in
set_option maxRecDepth 100000 in
theorem c_Desk_isIn {l : Launch} {D : va_G} {tys : List (ClassId × FieldType)} {A : Nat → Prop} (hT : tys.map (fun q => q.2) = tyS) {N : Nat} {x0 : Int64} {x2 : Int32} {h : Hp} {res : (Int32 × Hp)} (hJ : J_Desk_isIn N x0 x2 h = some res) : Ct l D vwCl tys A yX6_isIn (Cond.code yX6_isIn cX6_isIn 3 (some .boolean) :: wsG) rmX6_isIn [.long x0, .int x2] h (some (.int res.1)) res.2 := by
  refine Met.ofW (cc := cX6_isIn) (maxL := 3) (ret := (some .boolean)) (by decide) rfl ?_
  intro p e s m args below meth c s₁ B hml hv
  obtain ⟨rfl, hA, hR, hK, hN⟩ := hv
  have hr := B.returns
  have hts : ∀ w ∈ wsG, w.before [.long x0, .int x2].toArray s = true := fun w hw => atoms_spec (ws := Cond.code yX6_isIn cX6_isIn 3 (some .boolean) :: wsG) B.pre w (List.mem_cons_of_mem _ hw)
  have X : Cx p s m [.long x0, .int x2].toArray meth c D vwCl tys cX6_isIn 3 RX6 wsG := ⟨⟨B.exec, B.bytes, hml, findClass_of_methodNamed B.named, hts⟩, hK, B.notSynchronized, hT⟩
  have hx := B.exec
  have hb := B.bytes
  have I : In D vwCl tys A s h s.heap [] := ⟨hR, va_S.rf, hA⟩
  have hl := lv_entry [.long x0, .int x2] (n := 3) (Nat.le_of_ble_eq_true rfl)
  rw [lg_entry_eq]
  generalize (lg_sl [.long x0, .int x2] ++ List.replicate (3 - (lg_sl [.long x0, .int x2]).length) Slot.unset).toArray = ls at hl ⊢
  have hl : lv_has ls 3 [(0, .long x0), (2, .int x2)] := hl
  have ho := X.1.2.2.2.1
  rw [J_Desk_isIn] at hJ
  refine lv_lload_n hx hb dX6_isIn_0 rfl (lv_at hl 0 rfl) ?_
  refine lv_iload_n hx hb dX6_isIn_1 rfl (lv_at hl 1 rfl) ?_
  obtain ⟨q1, e9, hJ⟩ := rp_b hJ
  refine rp_callS (As := [.int x2]) (rest := [.long x0]) X hN I (c_Desk_bit hT e9) (cwS 1 hts (gdS wm_355 wm_351 wm_33 wm_352) rfl rfl rfl (by decide +kernel) ⟨Nat.le_of_ble_eq_true rfl, Nat.le_of_ble_eq_true rfl⟩) rfl hl.1 rfl (Nat.le_of_ble_eq_true rfl) dX6_isIn_2 ⟨(Nat.le_of_ble_eq_true rfl), (Nat.le_of_ble_eq_true rfl)⟩ (fun H locs I => ?_)
  refine W.cs (cells' := 0) (slots' := 0) rfl rfl ?_
  refine lv_land hx hb dX6_isIn_5 ?_
  refine lv_lconst (v := 0) hx hb dX6_isIn_6 (by decide) ?_
  refine W.lcmp hx hb dX6_isIn_7 ?_
  refine lv_if_eq (tgt := 15) hx hb dX6_isIn_8 (by decide) (fun c9 => ?_) (fun c9 => ?_)
  · rw [if_pos c9] at hJ
    refine lv_iconst (v := 0) hx hb dX6_isIn_15 (by decide) ?_
    exact rp_zret X hr (Or.inl rfl) hJ I dX6_isIn_16
  · rw [if_neg c9] at hJ
    refine lv_iconst (v := 1) hx hb dX6_isIn_11 (by decide) ?_
    refine lv_goto (tgt := 16) hx hb dX6_isIn_12 (by decide) ?_
    exact rp_zret X hr (Or.inr rfl) hJ I dX6_isIn_16
def rmX1_init : Room := { frames := 1, cells := 3, slots := 192, locals := 20 }
def J_File_init_30 (N : Nat)  : Nat → Nat → Int32 → Hp → Option (Unit × Hp)
  | 0, _, _, _ => none
  | n + 1, x0, x1, h =>
  if (64 : Int32) ≤ x1 then
  (some ((), h))
  else
  ((fR h 1 x0 2).bind fun v7 =>
  (sI h 0 v7 x1 (-1 : Int32)).bind fun h8 =>
  (J_File_init_30 N n) x0 (x1 + (1 : Int32)) h8)
def J_File_init (N : Nat) (x0 : Nat) (h : Hp) : Option (Unit × Hp) :=
  (nI_ h 0 (64 : Int32)).bind fun q1 =>
  (sF q1.2 1 x0 0 (.ref q1.1)).bind fun h2 =>
  (nI_ h2 1 (64 : Int32)).bind fun q3 =>
  (sF q3.2 1 x0 1 (.ref q3.1)).bind fun h4 =>
  (nI_ h4 0 (64 : Int32)).bind fun q5 =>
  (sF q5.2 1 x0 2 (.ref q5.1)).bind fun h6 =>
  J_File_init_30 N N x0 (0 : Int32) h6
set_option maxHeartbeats 4000000 in
set_option maxRecDepth 100000 in
theorem w_File_init_30 (X : Cx p s m args meth c D vwCl tys cX1_init 2 RX1 wsG) (hN : nwS s) (hr : meth.sig.returnType = none) (hinit : meth.name = "<init>") {res : (Unit × Hp)} {N : Nat}   : ∀ (n : Nat) (x0 : Nat) (x1 : Int32)  (h : Hp) (H : Heap) (locs : List Loc) (ls : Array Slot), J_File_init_30 N n x0 x1 h = some res → In D vwCl tys A s h H locs → lv_has ls 2 [(0, .ref x0), (1, .int x1)] → W p l e rmX1_init s m args below meth c H locs 3 192 (MQ below (Qr D vwCl tys A none res.2) args s 3 192 A) (F0 m 30 ls []) := by
  have hx := X.1.1
  have hb := X.1.2.1
  have hml := X.1.2.2.1
  have ho := X.1.2.2.2.1
  have hts := X.1.2.2.2.2
  have hK := X.2.1
  have hT := X.2.2.2
  intro n
  induction n with
  | zero =>
    intro x0 x1  h H locs ls hJ I hl
    exact nomatch (show (none : Option (Unit × Hp)) = some res from hJ)
  | succ n k30 =>
    intro x0 x1  h H locs ls hJ I hl
    rw [J_File_init_30] at hJ
    refine lv_iload_n hx hb dX1_init_30 rfl (lv_at hl 1 rfl) ?_
    refine lv_bipush (v := 64) hx hb dX1_init_31 (by decide) ?_
    refine lv_icmp_ge (tgt := 49) hx hb dX1_init_33 (by decide) (fun c9 => ?_) (fun c9 => ?_)
    · rw [if_pos c9] at hJ
      refine W.widen (k := 3) (n := 192) (Nat.le_of_ble_eq_true rfl) (Nat.le_of_ble_eq_true rfl) ?_
      exact rp_vret X hr hJ I dX1_init_49
    · rw [if_neg c9] at hJ
      refine lv_aload_n hx hb dX1_init_36 rfl (lv_at hl 0 rfl) ?_
      obtain ⟨v7, e9, hJ⟩ := rp_b hJ
      obtain ⟨f9, g9, e9⟩ := fR_s e9
      refine rp_get X I g9 e9 rfl wiX1 (by decide) wm_64 dX1_init_37 ?_
      refine lv_iload_n hx hb dX1_init_40 rfl (lv_at hl 1 rfl) ?_
      refine lv_iconst (v := -1) hx hb dX1_init_41 (by decide) ?_
      obtain ⟨h8, e9, hJ⟩ := rp_b hJ
      refine rp_iast X I e9 rfl dX1_init_42 (fun H locs I => ?_)
      refine lv_iinc (v := (x1 + (1 : Int32))) (lv' := [(1, .int (x1 + (1 : Int32))), (0, .ref x0)]) hx hb dX1_init_43 hl (k := 1) rfl rfl (by decide) rfl (fun ls hl => ?_)
      refine lv_goto (tgt := 30) hx hb dX1_init_46 (by decide) ?_
      exact k30 _ _ _ _ _ _ hJ I (lv_sub hl [1, 0] rfl)
set_option maxHeartbeats 4000000 in
set_option maxRecDepth 100000 in
theorem c_File_init {l : Launch} {D : va_G} {tys : List (ClassId × FieldType)} {A : Nat → Prop} (hT : tys.map (fun q => q.2) = tyS) {N : Nat} {x0 : Nat} {h : Hp} {res : (Unit × Hp)} (hJ : J_File_init N x0 h = some res) : Ct l D vwCl tys A yX1_init (Cond.code yX1_init cX1_init 2 none :: wsG) rmX1_init [.ref x0] h none res.2 := by
  refine Met.ofW (cc := cX1_init) (maxL := 2) (ret := none) (by decide) rfl ?_
  intro p e s m args below meth c s₁ B hml hv
  obtain ⟨rfl, hA, hR, hK, hN⟩ := hv
  have hr := B.returns
  have hts : ∀ w ∈ wsG, w.before [.ref x0].toArray s = true := fun w hw => atoms_spec (ws := Cond.code yX1_init cX1_init 2 none :: wsG) B.pre w (List.mem_cons_of_mem _ hw)
  have X : Cx p s m [.ref x0].toArray meth c D vwCl tys cX1_init 2 RX1 wsG := ⟨⟨B.exec, B.bytes, hml, findClass_of_methodNamed B.named, hts⟩, hK, B.notSynchronized, hT⟩
  have hinit : meth.name = "<init>" := (name_of_methodNamed B.named B.method).1
  have hx := B.exec
  have hb := B.bytes
  have I : In D vwCl tys A s h s.heap [] := ⟨hR, va_S.rf, hA⟩
  have hl := lv_entry [.ref x0] (n := 2) (Nat.le_of_ble_eq_true rfl)
  rw [lg_entry_eq]
  generalize (lg_sl [.ref x0] ++ List.replicate (2 - (lg_sl [.ref x0]).length) Slot.unset).toArray = ls at hl ⊢
  have hl : lv_has ls 2 [(0, .ref x0)] := hl
  have ho := X.1.2.2.2.1
  rw [J_File_init] at hJ
  refine lv_aload_n hx hb dX1_init_0 rfl (lv_at hl 0 rfl) ?_
  refine W.objInit hx hb ho (hts _ wm_61) (hts _ wm_54) (hts _ wm_55) rfl (by rw [hml]; exact hl.1) rfl dX1_init_1 (Nat.le_of_ble_eq_true rfl) (Nat.le_of_ble_eq_true rfl) ?_
  refine W.eq (g2 := F0 m 4 ls []) rfl ?_
  refine lv_aload_n hx hb dX1_init_4 rfl (lv_at hl 0 rfl) ?_
  refine lv_bipush (v := 64) hx hb dX1_init_5 (by decide) ?_
  obtain ⟨q1, e9, hJ⟩ := rp_b hJ
  refine rp_newI (K := 64) (ty := .int) X I e9 (by decide) rfl rfl (by decide) wm_69 rfl (fun _ z => z) (Nat.le_of_ble_eq_true rfl) (Nat.le_of_ble_eq_true rfl) dX1_init_7 (fun H I => ?_)
  obtain ⟨h2, e9, hJ⟩ := rp_b hJ
  refine rp_putF (ty := (.array .int)) X I e9 rfl wiX1 tyX1 tyX1_ok nmX1 (by decide) wm_62 rfl hinit rfl (by decide +kernel) rfl rfl dX1_init_9 (fun H locs I => ?_)
  refine lv_aload_n hx hb dX1_init_12 rfl (lv_at hl 0 rfl) ?_
  refine lv_bipush (v := 64) hx hb dX1_init_13 (by decide) ?_
  obtain ⟨q3, e9, hJ⟩ := rp_b hJ
  refine rp_newI (K := 64) (ty := .boolean) X I e9 (by decide) rfl rfl (by decide) wm_70 rfl (fun _ z => z) (Nat.le_of_ble_eq_true rfl) (Nat.le_of_ble_eq_true rfl) dX1_init_15 (fun H I => ?_)
  obtain ⟨h4, e9, hJ⟩ := rp_b hJ
  refine rp_putF (ty := (.array .boolean)) X I e9 rfl wiX1 tyX1 tyX1_ok nmX1 (by decide) wm_63 rfl hinit rfl (by decide +kernel) rfl rfl dX1_init_17 (fun H locs I => ?_)
  refine lv_aload_n hx hb dX1_init_20 rfl (lv_at hl 0 rfl) ?_
  refine lv_bipush (v := 64) hx hb dX1_init_21 (by decide) ?_
  obtain ⟨q5, e9, hJ⟩ := rp_b hJ
  refine rp_newI (K := 64) (ty := .int) X I e9 (by decide) rfl rfl (by decide) wm_69 rfl (fun _ z => z) (Nat.le_of_ble_eq_true rfl) (Nat.le_of_ble_eq_true rfl) dX1_init_23 (fun H I => ?_)
  obtain ⟨h6, e9, hJ⟩ := rp_b hJ
  refine rp_putF (ty := (.array .int)) X I e9 rfl wiX1 tyX1 tyX1_ok nmX1 (by decide) wm_64 rfl hinit rfl (by decide +kernel) rfl rfl dX1_init_25 (fun H locs I => ?_)
  refine lv_iconst (v := 0) hx hb dX1_init_28 (by decide) ?_
  refine lv_istore_n (lv' := [(1, .int (0 : Int32)), (0, .ref x0)]) hx hb dX1_init_29 rfl hl (by decide) rfl (fun ls hl => ?_)
  refine W.widen (k := 3) (n := 192) (Nat.le_of_ble_eq_true rfl) (Nat.le_of_ble_eq_true rfl) ?_
  exact w_File_init_30 X hN hr hinit N _ _ _ _ _ _ hJ I (lv_sub hl [1, 0] rfl)
def rmX1_makerOf : Room := { frames := 0, cells := 0, slots := 0, locals := 0 }
def J_File_makerOf (N : Nat) (x0 : Nat) (x1 : Int32) (h : Hp) : Option (Int32 × Hp) :=
  (fR h 1 x0 2).bind fun v1 =>
  (aI h 0 v1 x1).bind fun v2 =>
  some (v2, h)
set_option maxHeartbeats 4000000 in
set_option maxRecDepth 100000 in
theorem c_File_makerOf {l : Launch} {D : va_G} {tys : List (ClassId × FieldType)} {A : Nat → Prop} (hT : tys.map (fun q => q.2) = tyS) {N : Nat} {x0 : Nat} {x1 : Int32} {h : Hp} {res : (Int32 × Hp)} (hJ : J_File_makerOf N x0 x1 h = some res) : Ct l D vwCl tys A yX1_makerOf (Cond.code yX1_makerOf cX1_makerOf 2 (some .int) :: wsG) rmX1_makerOf [.ref x0, .int x1] h (some (.int res.1)) res.2 := by
  refine Met.ofW (cc := cX1_makerOf) (maxL := 2) (ret := (some .int)) (by decide) rfl ?_
  intro p e s m args below meth c s₁ B hml hv
  obtain ⟨rfl, hA, hR, hK, hN⟩ := hv
  have hr := B.returns
  have hts : ∀ w ∈ wsG, w.before [.ref x0, .int x1].toArray s = true := fun w hw => atoms_spec (ws := Cond.code yX1_makerOf cX1_makerOf 2 (some .int) :: wsG) B.pre w (List.mem_cons_of_mem _ hw)
  have X : Cx p s m [.ref x0, .int x1].toArray meth c D vwCl tys cX1_makerOf 2 RX1 wsG := ⟨⟨B.exec, B.bytes, hml, findClass_of_methodNamed B.named, hts⟩, hK, B.notSynchronized, hT⟩
  have hx := B.exec
  have hb := B.bytes
  have I : In D vwCl tys A s h s.heap [] := ⟨hR, va_S.rf, hA⟩
  have hl := lv_entry [.ref x0, .int x1] (n := 2) (Nat.le_of_ble_eq_true rfl)
  rw [lg_entry_eq]
  generalize (lg_sl [.ref x0, .int x1] ++ List.replicate (2 - (lg_sl [.ref x0, .int x1]).length) Slot.unset).toArray = ls at hl ⊢
  have hl : lv_has ls 2 [(0, .ref x0), (1, .int x1)] := hl
  have ho := X.1.2.2.2.1
  rw [J_File_makerOf] at hJ
  refine lv_aload_n hx hb dX1_makerOf_0 rfl (lv_at hl 0 rfl) ?_
  obtain ⟨v1, e9, hJ⟩ := rp_b hJ
  obtain ⟨f9, g9, e9⟩ := fR_s e9
  refine rp_get X I g9 e9 rfl wiX1 (by decide) wm_64 dX1_makerOf_1 ?_
  refine lv_iload_n hx hb dX1_makerOf_4 rfl (lv_at hl 1 rfl) ?_
  obtain ⟨v2, e9, hJ⟩ := rp_b hJ
  refine rp_iald X I e9 rfl dX1_makerOf_5 ?_
  exact rp_iret X hr hJ I dX1_makerOf_6
def rmX1_setMaker : Room := { frames := 0, cells := 0, slots := 0, locals := 0 }
def J_File_setMaker (N : Nat) (x0 : Nat) (x1 : Int32) (x2 : Int32) (h : Hp) : Option (Unit × Hp) :=
  (fR h 1 x0 2).bind fun v1 =>
  (sI h 0 v1 x1 x2).bind fun h2 =>
  some ((), h2)
set_option maxHeartbeats 4000000 in
set_option maxRecDepth 100000 in
theorem c_File_setMaker {l : Launch} {D : va_G} {tys : List (ClassId × FieldType)} {A : Nat → Prop} (hT : tys.map (fun q => q.2) = tyS) {N : Nat} {x0 : Nat} {x1 : Int32} {x2 : Int32} {h : Hp} {res : (Unit × Hp)} (hJ : J_File_setMaker N x0 x1 x2 h = some res) : Ct l D vwCl tys A yX1_setMaker (Cond.code yX1_setMaker cX1_setMaker 3 none :: wsG) rmX1_setMaker [.ref x0, .int x1, .int x2] h none res.2 := by
  refine Met.ofW (cc := cX1_setMaker) (maxL := 3) (ret := none) (by decide) rfl ?_
  intro p e s m args below meth c s₁ B hml hv
  obtain ⟨rfl, hA, hR, hK, hN⟩ := hv
  have hr := B.returns
  have hts : ∀ w ∈ wsG, w.before [.ref x0, .int x1, .int x2].toArray s = true := fun w hw => atoms_spec (ws := Cond.code yX1_setMaker cX1_setMaker 3 none :: wsG) B.pre w (List.mem_cons_of_mem _ hw)
  have X : Cx p s m [.ref x0, .int x1, .int x2].toArray meth c D vwCl tys cX1_setMaker 3 RX1 wsG := ⟨⟨B.exec, B.bytes, hml, findClass_of_methodNamed B.named, hts⟩, hK, B.notSynchronized, hT⟩
  have hx := B.exec
  have hb := B.bytes
  have I : In D vwCl tys A s h s.heap [] := ⟨hR, va_S.rf, hA⟩
  have hl := lv_entry [.ref x0, .int x1, .int x2] (n := 3) (Nat.le_of_ble_eq_true rfl)
  rw [lg_entry_eq]
  generalize (lg_sl [.ref x0, .int x1, .int x2] ++ List.replicate (3 - (lg_sl [.ref x0, .int x1, .int x2]).length) Slot.unset).toArray = ls at hl ⊢
  have hl : lv_has ls 3 [(0, .ref x0), (1, .int x1), (2, .int x2)] := hl
  have ho := X.1.2.2.2.1
  rw [J_File_setMaker] at hJ
  refine lv_aload_n hx hb dX1_setMaker_0 rfl (lv_at hl 0 rfl) ?_
  obtain ⟨v1, e9, hJ⟩ := rp_b hJ
  obtain ⟨f9, g9, e9⟩ := fR_s e9
  refine rp_get X I g9 e9 rfl wiX1 (by decide) wm_64 dX1_setMaker_1 ?_
  refine lv_iload_n hx hb dX1_setMaker_4 rfl (lv_at hl 1 rfl) ?_
  refine lv_iload_n hx hb dX1_setMaker_5 rfl (lv_at hl 2 rfl) ?_
  obtain ⟨h2, e9, hJ⟩ := rp_b hJ
  refine rp_iast X I e9 rfl dX1_setMaker_6 (fun H locs I => ?_)
  exact rp_vret X hr hJ I dX1_setMaker_7
def rmX1_isFilled : Room := { frames := 0, cells := 0, slots := 0, locals := 0 }
def J_File_isFilled (N : Nat) (x0 : Nat) (x1 : Int32) (h : Hp) : Option (Int32 × Hp) :=
  (fR h 1 x0 1).bind fun v1 =>
  (aI h 1 v1 x1).bind fun v2 =>
  zR v2 h
set_option maxHeartbeats 4000000 in
set_option maxRecDepth 100000 in
theorem c_File_isFilled {l : Launch} {D : va_G} {tys : List (ClassId × FieldType)} {A : Nat → Prop} (hT : tys.map (fun q => q.2) = tyS) {N : Nat} {x0 : Nat} {x1 : Int32} {h : Hp} {res : (Int32 × Hp)} (hJ : J_File_isFilled N x0 x1 h = some res) : Ct l D vwCl tys A yX1_isFilled (Cond.code yX1_isFilled cX1_isFilled 2 (some .boolean) :: wsG) rmX1_isFilled [.ref x0, .int x1] h (some (.int res.1)) res.2 := by
  refine Met.ofW (cc := cX1_isFilled) (maxL := 2) (ret := (some .boolean)) (by decide) rfl ?_
  intro p e s m args below meth c s₁ B hml hv
  obtain ⟨rfl, hA, hR, hK, hN⟩ := hv
  have hr := B.returns
  have hts : ∀ w ∈ wsG, w.before [.ref x0, .int x1].toArray s = true := fun w hw => atoms_spec (ws := Cond.code yX1_isFilled cX1_isFilled 2 (some .boolean) :: wsG) B.pre w (List.mem_cons_of_mem _ hw)
  have X : Cx p s m [.ref x0, .int x1].toArray meth c D vwCl tys cX1_isFilled 2 RX1 wsG := ⟨⟨B.exec, B.bytes, hml, findClass_of_methodNamed B.named, hts⟩, hK, B.notSynchronized, hT⟩
  have hx := B.exec
  have hb := B.bytes
  have I : In D vwCl tys A s h s.heap [] := ⟨hR, va_S.rf, hA⟩
  have hl := lv_entry [.ref x0, .int x1] (n := 2) (Nat.le_of_ble_eq_true rfl)
  rw [lg_entry_eq]
  generalize (lg_sl [.ref x0, .int x1] ++ List.replicate (2 - (lg_sl [.ref x0, .int x1]).length) Slot.unset).toArray = ls at hl ⊢
  have hl : lv_has ls 2 [(0, .ref x0), (1, .int x1)] := hl
  have ho := X.1.2.2.2.1
  rw [J_File_isFilled] at hJ
  refine lv_aload_n hx hb dX1_isFilled_0 rfl (lv_at hl 0 rfl) ?_
  obtain ⟨v1, e9, hJ⟩ := rp_b hJ
  obtain ⟨f9, g9, e9⟩ := fR_s e9
  refine rp_get X I g9 e9 rfl wiX1 (by decide) wm_63 dX1_isFilled_1 ?_
  refine lv_iload_n hx hb dX1_isFilled_4 rfl (lv_at hl 1 rfl) ?_
  obtain ⟨v2, e9, hJ⟩ := rp_b hJ
  refine rp_zald X I e9 rfl dX1_isFilled_5 ?_
  obtain ⟨z9, hJ⟩ := zR_s hJ
  exact rp_zret X hr z9 hJ I dX1_isFilled_6
def rmX1_contentOf : Room := { frames := 0, cells := 0, slots := 0, locals := 0 }
def J_File_contentOf (N : Nat) (x0 : Nat) (x1 : Int32) (h : Hp) : Option (Int32 × Hp) :=
  (fR h 1 x0 0).bind fun v1 =>
  (aI h 0 v1 x1).bind fun v2 =>
  some (v2, h)
set_option maxHeartbeats 4000000 in
set_option maxRecDepth 100000 in
theorem c_File_contentOf {l : Launch} {D : va_G} {tys : List (ClassId × FieldType)} {A : Nat → Prop} (hT : tys.map (fun q => q.2) = tyS) {N : Nat} {x0 : Nat} {x1 : Int32} {h : Hp} {res : (Int32 × Hp)} (hJ : J_File_contentOf N x0 x1 h = some res) : Ct l D vwCl tys A yX1_contentOf (Cond.code yX1_contentOf cX1_contentOf 2 (some .int) :: wsG) rmX1_contentOf [.ref x0, .int x1] h (some (.int res.1)) res.2 := by
  refine Met.ofW (cc := cX1_contentOf) (maxL := 2) (ret := (some .int)) (by decide) rfl ?_
  intro p e s m args below meth c s₁ B hml hv
  obtain ⟨rfl, hA, hR, hK, hN⟩ := hv
  have hr := B.returns
  have hts : ∀ w ∈ wsG, w.before [.ref x0, .int x1].toArray s = true := fun w hw => atoms_spec (ws := Cond.code yX1_contentOf cX1_contentOf 2 (some .int) :: wsG) B.pre w (List.mem_cons_of_mem _ hw)
  have X : Cx p s m [.ref x0, .int x1].toArray meth c D vwCl tys cX1_contentOf 2 RX1 wsG := ⟨⟨B.exec, B.bytes, hml, findClass_of_methodNamed B.named, hts⟩, hK, B.notSynchronized, hT⟩
  have hx := B.exec
  have hb := B.bytes
  have I : In D vwCl tys A s h s.heap [] := ⟨hR, va_S.rf, hA⟩
  have hl := lv_entry [.ref x0, .int x1] (n := 2) (Nat.le_of_ble_eq_true rfl)
  rw [lg_entry_eq]
  generalize (lg_sl [.ref x0, .int x1] ++ List.replicate (2 - (lg_sl [.ref x0, .int x1]).length) Slot.unset).toArray = ls at hl ⊢
  have hl : lv_has ls 2 [(0, .ref x0), (1, .int x1)] := hl
  have ho := X.1.2.2.2.1
  rw [J_File_contentOf] at hJ
  refine lv_aload_n hx hb dX1_contentOf_0 rfl (lv_at hl 0 rfl) ?_
  obtain ⟨v1, e9, hJ⟩ := rp_b hJ
  obtain ⟨f9, g9, e9⟩ := fR_s e9
  refine rp_get X I g9 e9 rfl wiX1 (by decide) wm_62 dX1_contentOf_1 ?_
  refine lv_iload_n hx hb dX1_contentOf_4 rfl (lv_at hl 1 rfl) ?_
  obtain ⟨v2, e9, hJ⟩ := rp_b hJ
  refine rp_iald X I e9 rfl dX1_contentOf_5 ?_
  exact rp_iret X hr hJ I dX1_contentOf_6
def rmX1_fill : Room := { frames := 0, cells := 0, slots := 0, locals := 0 }
def J_File_fill (N : Nat) (x0 : Nat) (x1 : Int32) (x2 : Int32) (h : Hp) : Option (Unit × Hp) :=
  (fR h 1 x0 0).bind fun v1 =>
  (sI h 0 v1 x1 x2).bind fun h2 =>
  (fR h2 1 x0 1).bind fun v3 =>
  (sB h2 1 v3 x1 (1 : Int32)).bind fun h4 =>
  some ((), h4)
set_option maxHeartbeats 4000000 in
set_option maxRecDepth 100000 in
theorem c_File_fill {l : Launch} {D : va_G} {tys : List (ClassId × FieldType)} {A : Nat → Prop} (hT : tys.map (fun q => q.2) = tyS) {N : Nat} {x0 : Nat} {x1 : Int32} {x2 : Int32} {h : Hp} {res : (Unit × Hp)} (hJ : J_File_fill N x0 x1 x2 h = some res) : Ct l D vwCl tys A yX1_fill (Cond.code yX1_fill cX1_fill 3 none :: wsG) rmX1_fill [.ref x0, .int x1, .int x2] h none res.2 := by
  refine Met.ofW (cc := cX1_fill) (maxL := 3) (ret := none) (by decide) rfl ?_
  intro p e s m args below meth c s₁ B hml hv
  obtain ⟨rfl, hA, hR, hK, hN⟩ := hv
  have hr := B.returns
  have hts : ∀ w ∈ wsG, w.before [.ref x0, .int x1, .int x2].toArray s = true := fun w hw => atoms_spec (ws := Cond.code yX1_fill cX1_fill 3 none :: wsG) B.pre w (List.mem_cons_of_mem _ hw)
  have X : Cx p s m [.ref x0, .int x1, .int x2].toArray meth c D vwCl tys cX1_fill 3 RX1 wsG := ⟨⟨B.exec, B.bytes, hml, findClass_of_methodNamed B.named, hts⟩, hK, B.notSynchronized, hT⟩
  have hx := B.exec
  have hb := B.bytes
  have I : In D vwCl tys A s h s.heap [] := ⟨hR, va_S.rf, hA⟩
  have hl := lv_entry [.ref x0, .int x1, .int x2] (n := 3) (Nat.le_of_ble_eq_true rfl)
  rw [lg_entry_eq]
  generalize (lg_sl [.ref x0, .int x1, .int x2] ++ List.replicate (3 - (lg_sl [.ref x0, .int x1, .int x2]).length) Slot.unset).toArray = ls at hl ⊢
  have hl : lv_has ls 3 [(0, .ref x0), (1, .int x1), (2, .int x2)] := hl
  have ho := X.1.2.2.2.1
  rw [J_File_fill] at hJ
  refine lv_aload_n hx hb dX1_fill_0 rfl (lv_at hl 0 rfl) ?_
  obtain ⟨v1, e9, hJ⟩ := rp_b hJ
  obtain ⟨f9, g9, e9⟩ := fR_s e9
  refine rp_get X I g9 e9 rfl wiX1 (by decide) wm_62 dX1_fill_1 ?_
  refine lv_iload_n hx hb dX1_fill_4 rfl (lv_at hl 1 rfl) ?_
  refine lv_iload_n hx hb dX1_fill_5 rfl (lv_at hl 2 rfl) ?_
  obtain ⟨h2, e9, hJ⟩ := rp_b hJ
  refine rp_iast X I e9 rfl dX1_fill_6 (fun H locs I => ?_)
  refine lv_aload_n hx hb dX1_fill_7 rfl (lv_at hl 0 rfl) ?_
  obtain ⟨v3, e9, hJ⟩ := rp_b hJ
  obtain ⟨f9, g9, e9⟩ := fR_s e9
  refine rp_get X I g9 e9 rfl wiX1 (by decide) wm_63 dX1_fill_8 ?_
  refine lv_iload_n hx hb dX1_fill_11 rfl (lv_at hl 1 rfl) ?_
  refine lv_iconst (v := 1) hx hb dX1_fill_12 (by decide) ?_
  obtain ⟨h4, e9, hJ⟩ := rp_b hJ
  refine rp_zast X I e9 rfl dX1_fill_13 (fun H locs I => ?_)
  exact rp_vret X hr hJ I dX1_fill_14
def rmX1_empty : Room := { frames := 0, cells := 0, slots := 0, locals := 0 }
def J_File_empty (N : Nat) (x0 : Nat) (x1 : Int32) (h : Hp) : Option (Int32 × Hp) :=
  (fR h 1 x0 1).bind fun v1 =>
  (aI h 1 v1 x1).bind fun v2 =>
  (fR h 1 x0 1).bind fun v3 =>
  (sB h 1 v3 x1 (0 : Int32)).bind fun h4 =>
  zR v2 h4
set_option maxHeartbeats 4000000 in
set_option maxRecDepth 100000 in
theorem c_File_empty {l : Launch} {D : va_G} {tys : List (ClassId × FieldType)} {A : Nat → Prop} (hT : tys.map (fun q => q.2) = tyS) {N : Nat} {x0 : Nat} {x1 : Int32} {h : Hp} {res : (Int32 × Hp)} (hJ : J_File_empty N x0 x1 h = some res) : Ct l D vwCl tys A yX1_empty (Cond.code yX1_empty cX1_empty 3 (some .boolean) :: wsG) rmX1_empty [.ref x0, .int x1] h (some (.int res.1)) res.2 := by
  refine Met.ofW (cc := cX1_empty) (maxL := 3) (ret := (some .boolean)) (by decide) rfl ?_
  intro p e s m args below meth c s₁ B hml hv
  obtain ⟨rfl, hA, hR, hK, hN⟩ := hv
  have hr := B.returns
  have hts : ∀ w ∈ wsG, w.before [.ref x0, .int x1].toArray s = true := fun w hw => atoms_spec (ws := Cond.code yX1_empty cX1_empty 3 (some .boolean) :: wsG) B.pre w (List.mem_cons_of_mem _ hw)
  have X : Cx p s m [.ref x0, .int x1].toArray meth c D vwCl tys cX1_empty 3 RX1 wsG := ⟨⟨B.exec, B.bytes, hml, findClass_of_methodNamed B.named, hts⟩, hK, B.notSynchronized, hT⟩
  have hx := B.exec
  have hb := B.bytes
  have I : In D vwCl tys A s h s.heap [] := ⟨hR, va_S.rf, hA⟩
  have hl := lv_entry [.ref x0, .int x1] (n := 3) (Nat.le_of_ble_eq_true rfl)
  rw [lg_entry_eq]
  generalize (lg_sl [.ref x0, .int x1] ++ List.replicate (3 - (lg_sl [.ref x0, .int x1]).length) Slot.unset).toArray = ls at hl ⊢
  have hl : lv_has ls 3 [(0, .ref x0), (1, .int x1)] := hl
  have ho := X.1.2.2.2.1
  rw [J_File_empty] at hJ
  refine lv_aload_n hx hb dX1_empty_0 rfl (lv_at hl 0 rfl) ?_
  obtain ⟨v1, e9, hJ⟩ := rp_b hJ
  obtain ⟨f9, g9, e9⟩ := fR_s e9
  refine rp_get X I g9 e9 rfl wiX1 (by decide) wm_63 dX1_empty_1 ?_
  refine lv_iload_n hx hb dX1_empty_4 rfl (lv_at hl 1 rfl) ?_
  obtain ⟨v2, e9, hJ⟩ := rp_b hJ
  refine rp_zald X I e9 rfl dX1_empty_5 ?_
  refine lv_istore_n (lv' := [(2, .int v2), (0, .ref x0), (1, .int x1)]) hx hb dX1_empty_6 rfl hl (by decide) rfl (fun ls hl => ?_)
  refine lv_aload_n hx hb dX1_empty_7 rfl (lv_at hl 1 rfl) ?_
  obtain ⟨v3, e9, hJ⟩ := rp_b hJ
  obtain ⟨f9, g9, e9⟩ := fR_s e9
  refine rp_get X I g9 e9 rfl wiX1 (by decide) wm_63 dX1_empty_8 ?_
  refine lv_iload_n hx hb dX1_empty_11 rfl (lv_at hl 2 rfl) ?_
  refine lv_iconst (v := 0) hx hb dX1_empty_12 (by decide) ?_
  obtain ⟨h4, e9, hJ⟩ := rp_b hJ
  refine rp_zast X I e9 rfl dX1_empty_13 (fun H locs I => ?_)
  refine lv_iload_n hx hb dX1_empty_14 rfl (lv_at hl 0 rfl) ?_
  obtain ⟨z9, hJ⟩ := zR_s hJ
  exact rp_zret X hr z9 hJ I dX1_empty_15
def rmX1_lacksSource : Room := { frames := 0, cells := 0, slots := 0, locals := 0 }
def J_File_lacksSource_23 (N : Nat)    (h : Hp) : Option (Int32 × Hp) :=
  some ((0 : Int32), h)
def J_File_lacksSource (N : Nat) (x0 : Nat) (x1 : Int32) (h : Hp) : Option (Int32 × Hp) :=
  (fR h 1 x0 2).bind fun v1 =>
  (aI h 0 v1 x1).bind fun v2 =>
  if v2 = (-1 : Int32) then
  ((fR h 1 x0 1).bind fun v3 =>
  (aI h 1 v3 x1).bind fun v4 =>
  if v4 = 0 then
  (some ((1 : Int32), h))
  else
  (J_File_lacksSource_23 N h))
  else
  (J_File_lacksSource_23 N h)
set_option maxHeartbeats 4000000 in
set_option maxRecDepth 100000 in
theorem w_File_lacksSource_23 (X : Cx p s m args meth c D vwCl tys cX1_lacksSource 2 RX1 wsG) (hN : nwS s) (hr : meth.sig.returnType = (some .boolean)) {res : (Int32 × Hp)} {N : Nat}   : ∀   (h : Hp) (H : Heap) (locs : List Loc) (ls : Array Slot), J_File_lacksSource_23 N h = some res → In D vwCl tys A s h H locs → lv_has ls 2 [] → W p l e rmX1_lacksSource s m args below meth c H locs 0 0 (MQ below (Qr D vwCl tys A (some (.int res.1)) res.2) args s 0 0 A) (F0 m 23 ls []) := by
  have hx := X.1.1
  have hb := X.1.2.1
  have hml := X.1.2.2.1
  have ho := X.1.2.2.2.1
  have hts := X.1.2.2.2.2
  have hK := X.2.1
  have hT := X.2.2.2
  intro   h H locs ls hJ I hl
  rw [J_File_lacksSource_23] at hJ
  refine lv_iconst (v := 0) hx hb dX1_lacksSource_23 (by decide) ?_
  exact rp_zret X hr (Or.inl rfl) hJ I dX1_lacksSource_24
set_option maxHeartbeats 4000000 in
set_option maxRecDepth 100000 in
theorem c_File_lacksSource {l : Launch} {D : va_G} {tys : List (ClassId × FieldType)} {A : Nat → Prop} (hT : tys.map (fun q => q.2) = tyS) {N : Nat} {x0 : Nat} {x1 : Int32} {h : Hp} {res : (Int32 × Hp)} (hJ : J_File_lacksSource N x0 x1 h = some res) : Ct l D vwCl tys A yX1_lacksSource (Cond.code yX1_lacksSource cX1_lacksSource 2 (some .boolean) :: wsG) rmX1_lacksSource [.ref x0, .int x1] h (some (.int res.1)) res.2 := by
  refine Met.ofW (cc := cX1_lacksSource) (maxL := 2) (ret := (some .boolean)) (by decide) rfl ?_
  intro p e s m args below meth c s₁ B hml hv
  obtain ⟨rfl, hA, hR, hK, hN⟩ := hv
  have hr := B.returns
  have hts : ∀ w ∈ wsG, w.before [.ref x0, .int x1].toArray s = true := fun w hw => atoms_spec (ws := Cond.code yX1_lacksSource cX1_lacksSource 2 (some .boolean) :: wsG) B.pre w (List.mem_cons_of_mem _ hw)
  have X : Cx p s m [.ref x0, .int x1].toArray meth c D vwCl tys cX1_lacksSource 2 RX1 wsG := ⟨⟨B.exec, B.bytes, hml, findClass_of_methodNamed B.named, hts⟩, hK, B.notSynchronized, hT⟩
  have hx := B.exec
  have hb := B.bytes
  have I : In D vwCl tys A s h s.heap [] := ⟨hR, va_S.rf, hA⟩
  have hl := lv_entry [.ref x0, .int x1] (n := 2) (Nat.le_of_ble_eq_true rfl)
  rw [lg_entry_eq]
  generalize (lg_sl [.ref x0, .int x1] ++ List.replicate (2 - (lg_sl [.ref x0, .int x1]).length) Slot.unset).toArray = ls at hl ⊢
  have hl : lv_has ls 2 [(0, .ref x0), (1, .int x1)] := hl
  have ho := X.1.2.2.2.1
  rw [J_File_lacksSource] at hJ
  refine lv_aload_n hx hb dX1_lacksSource_0 rfl (lv_at hl 0 rfl) ?_
  obtain ⟨v1, e9, hJ⟩ := rp_b hJ
  obtain ⟨f9, g9, e9⟩ := fR_s e9
  refine rp_get X I g9 e9 rfl wiX1 (by decide) wm_64 dX1_lacksSource_1 ?_
  refine lv_iload_n hx hb dX1_lacksSource_4 rfl (lv_at hl 1 rfl) ?_
  obtain ⟨v2, e9, hJ⟩ := rp_b hJ
  refine rp_iald X I e9 rfl dX1_lacksSource_5 ?_
  refine lv_iconst (v := -1) hx hb dX1_lacksSource_6 (by decide) ?_
  refine lv_icmp_ne (tgt := 23) hx hb dX1_lacksSource_7 (by decide) (fun c9 => ?_) (fun c9 => ?_)
  · rw [if_neg c9] at hJ
    exact w_File_lacksSource_23 X hN hr _ _ _ _ hJ I (lv_sub hl [] rfl)
  · rw [if_pos c9] at hJ
    refine lv_aload_n hx hb dX1_lacksSource_10 rfl (lv_at hl 0 rfl) ?_
    obtain ⟨v3, e9, hJ⟩ := rp_b hJ
    obtain ⟨f9, g9, e9⟩ := fR_s e9
    refine rp_get X I g9 e9 rfl wiX1 (by decide) wm_63 dX1_lacksSource_11 ?_
    refine lv_iload_n hx hb dX1_lacksSource_14 rfl (lv_at hl 1 rfl) ?_
    obtain ⟨v4, e9, hJ⟩ := rp_b hJ
    refine rp_zald X I e9 rfl dX1_lacksSource_15 ?_
    refine lv_if_ne (tgt := 23) hx hb dX1_lacksSource_16 (by decide) (fun c9 => ?_) (fun c9 => ?_)
    · rw [if_neg c9] at hJ
      exact w_File_lacksSource_23 X hN hr _ _ _ _ hJ I (lv_sub hl [] rfl)
    · rw [if_pos c9] at hJ
      refine lv_iconst (v := 1) hx hb dX1_lacksSource_19 (by decide) ?_
      refine lv_goto (tgt := 24) hx hb dX1_lacksSource_20 (by decide) ?_
      exact rp_zret X hr (Or.inr rfl) hJ I dX1_lacksSource_24
def rmX1_countFilled : Room := { frames := 0, cells := 0, slots := 0, locals := 0 }
def J_File_countFilled_4 (N : Nat)  : Nat → Nat → Int32 → Int32 → Hp → Option (Int32 × Hp)
  | 0, _, _, _, _ => none
  | n + 1, x0, x1, x2, h =>
  if (64 : Int32) ≤ x2 then
  (some (x1, h))
  else
  ((fR h 1 x0 1).bind fun v1 =>
  (aI h 1 v1 x2).bind fun v2 =>
  if v2 = 0 then
  ((J_File_countFilled_4 N n) x0 x1 (x2 + (1 : Int32)) h)
  else
  ((J_File_countFilled_4 N n) x0 (x1 + (1 : Int32)) (x2 + (1 : Int32)) h))
def J_File_countFilled (N : Nat) (x0 : Nat) (h : Hp) : Option (Int32 × Hp) :=
  J_File_countFilled_4 N N x0 (0 : Int32) (0 : Int32) h
set_option maxHeartbeats 4000000 in
set_option maxRecDepth 100000 in
theorem w_File_countFilled_4 (X : Cx p s m args meth c D vwCl tys cX1_countFilled 3 RX1 wsG) (hN : nwS s) (hr : meth.sig.returnType = (some .int)) {res : (Int32 × Hp)} {N : Nat}   : ∀ (n : Nat) (x0 : Nat) (x1 : Int32) (x2 : Int32)  (h : Hp) (H : Heap) (locs : List Loc) (ls : Array Slot), J_File_countFilled_4 N n x0 x1 x2 h = some res → In D vwCl tys A s h H locs → lv_has ls 3 [(0, .ref x0), (1, .int x1), (2, .int x2)] → W p l e rmX1_countFilled s m args below meth c H locs 0 0 (MQ below (Qr D vwCl tys A (some (.int res.1)) res.2) args s 0 0 A) (F0 m 4 ls []) := by
  have hx := X.1.1
  have hb := X.1.2.1
  have hml := X.1.2.2.1
  have ho := X.1.2.2.2.1
  have hts := X.1.2.2.2.2
  have hK := X.2.1
  have hT := X.2.2.2
  intro n
  induction n with
  | zero =>
    intro x0 x1 x2  h H locs ls hJ I hl
    exact nomatch (show (none : Option (Int32 × Hp)) = some res from hJ)
  | succ n k4 =>
    intro x0 x1 x2  h H locs ls hJ I hl
    rw [J_File_countFilled_4] at hJ
    refine lv_iload_n hx hb dX1_countFilled_4 rfl (lv_at hl 2 rfl) ?_
    refine lv_bipush (v := 64) hx hb dX1_countFilled_5 (by decide) ?_
    refine lv_icmp_ge (tgt := 28) hx hb dX1_countFilled_7 (by decide) (fun c9 => ?_) (fun c9 => ?_)
    · rw [if_pos c9] at hJ
      refine lv_iload_n hx hb dX1_countFilled_28 rfl (lv_at hl 1 rfl) ?_
      exact rp_iret X hr hJ I dX1_countFilled_29
    · rw [if_neg c9] at hJ
      refine lv_aload_n hx hb dX1_countFilled_10 rfl (lv_at hl 0 rfl) ?_
      obtain ⟨v1, e9, hJ⟩ := rp_b hJ
      obtain ⟨f9, g9, e9⟩ := fR_s e9
      refine rp_get X I g9 e9 rfl wiX1 (by decide) wm_63 dX1_countFilled_11 ?_
      refine lv_iload_n hx hb dX1_countFilled_14 rfl (lv_at hl 2 rfl) ?_
      obtain ⟨v2, e9, hJ⟩ := rp_b hJ
      refine rp_zald X I e9 rfl dX1_countFilled_15 ?_
      refine lv_if_eq (tgt := 22) hx hb dX1_countFilled_16 (by decide) (fun c9 => ?_) (fun c9 => ?_)
      · rw [if_pos c9] at hJ
        refine lv_iinc (v := (x2 + (1 : Int32))) (lv' := [(2, .int (x2 + (1 : Int32))), (0, .ref x0), (1, .int x1)]) hx hb dX1_countFilled_22 hl (k := 2) rfl rfl (by decide) rfl (fun ls hl => ?_)
        refine lv_goto (tgt := 4) hx hb dX1_countFilled_25 (by decide) ?_
        exact k4 _ _ _ _ _ _ _ hJ I (lv_sub hl [1, 2, 0] rfl)
      · rw [if_neg c9] at hJ
        refine lv_iinc (v := (x1 + (1 : Int32))) (lv' := [(1, .int (x1 + (1 : Int32))), (0, .ref x0), (2, .int x2)]) hx hb dX1_countFilled_19 hl (k := 1) rfl rfl (by decide) rfl (fun ls hl => ?_)
        refine lv_iinc (v := (x2 + (1 : Int32))) (lv' := [(2, .int (x2 + (1 : Int32))), (1, .int (x1 + (1 : Int32))), (0, .ref x0)]) hx hb dX1_countFilled_22 hl (k := 2) rfl rfl (by decide) rfl (fun ls hl => ?_)
        refine lv_goto (tgt := 4) hx hb dX1_countFilled_25 (by decide) ?_
        exact k4 _ _ _ _ _ _ _ hJ I (lv_sub hl [2, 1, 0] rfl)
set_option maxHeartbeats 4000000 in
set_option maxRecDepth 100000 in
theorem c_File_countFilled {l : Launch} {D : va_G} {tys : List (ClassId × FieldType)} {A : Nat → Prop} (hT : tys.map (fun q => q.2) = tyS) {N : Nat} {x0 : Nat} {h : Hp} {res : (Int32 × Hp)} (hJ : J_File_countFilled N x0 h = some res) : Ct l D vwCl tys A yX1_countFilled (Cond.code yX1_countFilled cX1_countFilled 3 (some .int) :: wsG) rmX1_countFilled [.ref x0] h (some (.int res.1)) res.2 := by
  refine Met.ofW (cc := cX1_countFilled) (maxL := 3) (ret := (some .int)) (by decide) rfl ?_
  intro p e s m args below meth c s₁ B hml hv
  obtain ⟨rfl, hA, hR, hK, hN⟩ := hv
  have hr := B.returns
  have hts : ∀ w ∈ wsG, w.before [.ref x0].toArray s = true := fun w hw => atoms_spec (ws := Cond.code yX1_countFilled cX1_countFilled 3 (some .int) :: wsG) B.pre w (List.mem_cons_of_mem _ hw)
  have X : Cx p s m [.ref x0].toArray meth c D vwCl tys cX1_countFilled 3 RX1 wsG := ⟨⟨B.exec, B.bytes, hml, findClass_of_methodNamed B.named, hts⟩, hK, B.notSynchronized, hT⟩
  have hx := B.exec
  have hb := B.bytes
  have I : In D vwCl tys A s h s.heap [] := ⟨hR, va_S.rf, hA⟩
  have hl := lv_entry [.ref x0] (n := 3) (Nat.le_of_ble_eq_true rfl)
  rw [lg_entry_eq]
  generalize (lg_sl [.ref x0] ++ List.replicate (3 - (lg_sl [.ref x0]).length) Slot.unset).toArray = ls at hl ⊢
  have hl : lv_has ls 3 [(0, .ref x0)] := hl
  have ho := X.1.2.2.2.1
  rw [J_File_countFilled] at hJ
  refine lv_iconst (v := 0) hx hb dX1_countFilled_0 (by decide) ?_
  refine lv_istore_n (lv' := [(1, .int (0 : Int32)), (0, .ref x0)]) hx hb dX1_countFilled_1 rfl hl (by decide) rfl (fun ls hl => ?_)
  refine lv_iconst (v := 0) hx hb dX1_countFilled_2 (by decide) ?_
  refine lv_istore_n (lv' := [(2, .int (0 : Int32)), (1, .int (0 : Int32)), (0, .ref x0)]) hx hb dX1_countFilled_3 rfl hl (by decide) rfl (fun ls hl => ?_)
  exact w_File_countFilled_4 X hN hr N _ _ _ _ _ _ _ hJ I (lv_sub hl [2, 1, 0] rfl)
end GW
