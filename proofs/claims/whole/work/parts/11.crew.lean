section GW
variable {p : Program} {l : Launch} {e : Env} {s : State} {m : MethodId} {args : Array Value} {below : List Frame} {meth : Method} {c : Code} {D : va_G} {tys : List (ClassId × FieldType)} {A : Nat → Prop}
def rmX0_init : Room := { frames := 1, cells := 3, slots := 88, locals := 20 }
def J_Crew_init (N : Nat) (x0 : Nat) (h : Hp) : Option (Unit × Hp) :=
  (nI_ h 1 (8 : Int32)).bind fun q1 =>
  (sF q1.2 0 x0 0 (.ref q1.1)).bind fun h2 =>
  (nI_ h2 0 (40 : Int32)).bind fun q3 =>
  (sF q3.2 0 x0 1 (.ref q3.1)).bind fun h4 =>
  (nI_ h4 0 (40 : Int32)).bind fun q5 =>
  (sF q5.2 0 x0 2 (.ref q5.1)).bind fun h6 =>
  some ((), h6)
set_option maxHeartbeats 4000000 in
set_option maxRecDepth 100000 in
theorem c_Crew_init {l : Launch} {D : va_G} {tys : List (ClassId × FieldType)} {A : Nat → Prop} (hT : tys.map (fun q => q.2) = tyS) {N : Nat} {x0 : Nat} {h : Hp} {res : (Unit × Hp)} (hJ : J_Crew_init N x0 h = some res) : Ct l D vwCl tys A yX0_init (Cond.code yX0_init cX0_init 1 none :: wsG) rmX0_init [.ref x0] h none res.2 := by
  refine Met.ofW (cc := cX0_init) (maxL := 1) (ret := none) (by decide) rfl ?_
  intro p e s m args below meth c s₁ B hml hv
  obtain ⟨rfl, hA, hR, hK, hN⟩ := hv
  have hr := B.returns
  have hts : ∀ w ∈ wsG, w.before [.ref x0].toArray s = true := fun w hw => atoms_spec (ws := Cond.code yX0_init cX0_init 1 none :: wsG) B.pre w (List.mem_cons_of_mem _ hw)
  have X : Cx p s m [.ref x0].toArray meth c D vwCl tys cX0_init 1 RX0 wsG := ⟨⟨B.exec, B.bytes, hml, findClass_of_methodNamed B.named, hts⟩, hK, B.notSynchronized, hT⟩
  have hinit : meth.name = "<init>" := (name_of_methodNamed B.named B.method).1
  have hx := B.exec
  have hb := B.bytes
  have I : In D vwCl tys A s h s.heap [] := ⟨hR, va_S.rf, hA⟩
  have hl := lv_entry [.ref x0] (n := 1) (Nat.le_of_ble_eq_true rfl)
  rw [lg_entry_eq]
  generalize (lg_sl [.ref x0] ++ List.replicate (1 - (lg_sl [.ref x0]).length) Slot.unset).toArray = ls at hl ⊢
  have hl : lv_has ls 1 [(0, .ref x0)] := hl
  have ho := X.1.2.2.2.1
  rw [J_Crew_init] at hJ
  refine lv_aload_n hx hb dX0_init_0 rfl (lv_at hl 0 rfl) ?_
  refine W.objInit hx hb ho (hts _ wm_126) (hts _ wm_54) (hts _ wm_55) rfl (by rw [hml]; exact hl.1) rfl dX0_init_1 (Nat.le_of_ble_eq_true rfl) (Nat.le_of_ble_eq_true rfl) ?_
  refine W.eq (g2 := F0 m 4 ls []) rfl ?_
  refine lv_aload_n hx hb dX0_init_4 rfl (lv_at hl 0 rfl) ?_
  refine lv_bipush (v := 8) hx hb dX0_init_5 (by decide) ?_
  obtain ⟨q1, e9, hJ⟩ := rp_b hJ
  refine rp_newI (K := 8) (ty := .boolean) X I e9 (by decide) rfl rfl (by decide) wm_70 rfl (fun _ z => z) (Nat.le_of_ble_eq_true rfl) (Nat.le_of_ble_eq_true rfl) dX0_init_7 (fun H I => ?_)
  obtain ⟨h2, e9, hJ⟩ := rp_b hJ
  refine rp_putF (ty := (.array .boolean)) X I e9 rfl wiX0 tyX0 tyX0_ok nmX0 (by decide) wm_127 rfl hinit rfl (by decide +kernel) rfl rfl dX0_init_9 (fun H locs I => ?_)
  refine lv_aload_n hx hb dX0_init_12 rfl (lv_at hl 0 rfl) ?_
  refine lv_bipush (v := 40) hx hb dX0_init_13 (by decide) ?_
  obtain ⟨q3, e9, hJ⟩ := rp_b hJ
  refine rp_newI (K := 40) (ty := .int) X I e9 (by decide) rfl rfl (by decide) wm_69 rfl (fun _ z => z) (Nat.le_of_ble_eq_true rfl) (Nat.le_of_ble_eq_true rfl) dX0_init_15 (fun H I => ?_)
  obtain ⟨h4, e9, hJ⟩ := rp_b hJ
  refine rp_putF (ty := (.array .int)) X I e9 rfl wiX0 tyX0 tyX0_ok nmX0 (by decide) wm_128 rfl hinit rfl (by decide +kernel) rfl rfl dX0_init_17 (fun H locs I => ?_)
  refine lv_aload_n hx hb dX0_init_20 rfl (lv_at hl 0 rfl) ?_
  refine lv_bipush (v := 40) hx hb dX0_init_21 (by decide) ?_
  obtain ⟨q5, e9, hJ⟩ := rp_b hJ
  refine rp_newI (K := 40) (ty := .int) X I e9 (by decide) rfl rfl (by decide) wm_69 rfl (fun _ z => z) (Nat.le_of_ble_eq_true rfl) (Nat.le_of_ble_eq_true rfl) dX0_init_23 (fun H I => ?_)
  obtain ⟨h6, e9, hJ⟩ := rp_b hJ
  refine rp_putF (ty := (.array .int)) X I e9 rfl wiX0 tyX0 tyX0_ok nmX0 (by decide) wm_129 rfl hinit rfl (by decide +kernel) rfl rfl dX0_init_25 (fun H locs I => ?_)
  refine W.widen (k := 3) (n := 88) (Nat.le_of_ble_eq_true rfl) (Nat.le_of_ble_eq_true rfl) ?_
  exact rp_vret X hr hJ I dX0_init_28
def rmX0_comeIn : Room := { frames := 0, cells := 0, slots := 0, locals := 0 }
def J_Crew_comeIn_2 (N : Nat)  : Nat → Nat → Int32 → Hp → Option (Unit × Hp)
  | 0, _, _, _ => none
  | n + 1, x0, x1, h =>
  if (8 : Int32) ≤ x1 then
  ((sF h 0 x0 3 (.long (0 : Int64))).bind fun h1 =>
  (sF h1 0 x0 4 (.long (0 : Int64))).bind fun h2 =>
  some ((), h2))
  else
  ((fR h 0 x0 0).bind fun v3 =>
  (sB h 1 v3 x1 (0 : Int32)).bind fun h4 =>
  (J_Crew_comeIn_2 N n) x0 (x1 + (1 : Int32)) h4)
def J_Crew_comeIn (N : Nat) (x0 : Nat) (h : Hp) : Option (Unit × Hp) :=
  J_Crew_comeIn_2 N N x0 (0 : Int32) h
set_option maxHeartbeats 4000000 in
set_option maxRecDepth 100000 in
theorem w_Crew_comeIn_2 (X : Cx p s m args meth c D vwCl tys cX0_comeIn 2 RX0 wsG) (hN : nwS s) (hr : meth.sig.returnType = none) {res : (Unit × Hp)} {N : Nat}   : ∀ (n : Nat) (x0 : Nat) (x1 : Int32)  (h : Hp) (H : Heap) (locs : List Loc) (ls : Array Slot), J_Crew_comeIn_2 N n x0 x1 h = some res → In D vwCl tys A s h H locs → lv_has ls 2 [(0, .ref x0), (1, .int x1)] → W p l e rmX0_comeIn s m args below meth c H locs 0 0 (MQ below (Qr D vwCl tys A none res.2) args s 0 0 A) (F0 m 2 ls []) := by
  have hx := X.1.1
  have hb := X.1.2.1
  have hml := X.1.2.2.1
  have ho := X.1.2.2.2.1
  have hts := X.1.2.2.2.2
  have hK := X.2.1
  have hT := X.2.2.2
  intro n
  induction n with
  | zero =>
    intro x0 x1  h H locs ls hJ I hl
    exact nomatch (show (none : Option (Unit × Hp)) = some res from hJ)
  | succ n k2 =>
    intro x0 x1  h H locs ls hJ I hl
    rw [J_Crew_comeIn_2] at hJ
    refine lv_iload_n hx hb dX0_comeIn_2 rfl (lv_at hl 1 rfl) ?_
    refine lv_bipush (v := 8) hx hb dX0_comeIn_3 (by decide) ?_
    refine lv_icmp_ge (tgt := 21) hx hb dX0_comeIn_5 (by decide) (fun c9 => ?_) (fun c9 => ?_)
    · rw [if_pos c9] at hJ
      refine lv_aload_n hx hb dX0_comeIn_21 rfl (lv_at hl 0 rfl) ?_
      refine lv_lconst (v := 0) hx hb dX0_comeIn_22 (by decide) ?_
      obtain ⟨h1, e9, hJ⟩ := rp_b hJ
      refine rp_put (ty := .long) X I e9 rfl wiX0 tyX0 tyX0_ok nmX0 (by decide) wm_130 rfl (by decide +kernel) rfl rfl dX0_comeIn_23 (fun H locs I => ?_)
      refine lv_aload_n hx hb dX0_comeIn_26 rfl (lv_at hl 0 rfl) ?_
      refine lv_lconst (v := 0) hx hb dX0_comeIn_27 (by decide) ?_
      obtain ⟨h2, e9, hJ⟩ := rp_b hJ
      refine rp_put (ty := .long) X I e9 rfl wiX0 tyX0 tyX0_ok nmX0 (by decide) wm_131 rfl (by decide +kernel) rfl rfl dX0_comeIn_28 (fun H locs I => ?_)
      exact rp_vret X hr hJ I dX0_comeIn_31
    · rw [if_neg c9] at hJ
      refine lv_aload_n hx hb dX0_comeIn_8 rfl (lv_at hl 0 rfl) ?_
      obtain ⟨v3, e9, hJ⟩ := rp_b hJ
      obtain ⟨f9, g9, e9⟩ := fR_s e9
      refine rp_get X I g9 e9 rfl wiX0 (by decide) wm_127 dX0_comeIn_9 ?_
      refine lv_iload_n hx hb dX0_comeIn_12 rfl (lv_at hl 1 rfl) ?_
      refine lv_iconst (v := 0) hx hb dX0_comeIn_13 (by decide) ?_
      obtain ⟨h4, e9, hJ⟩ := rp_b hJ
      refine rp_zast X I e9 rfl dX0_comeIn_14 (fun H locs I => ?_)
      refine lv_iinc (v := (x1 + (1 : Int32))) (lv' := [(1, .int (x1 + (1 : Int32))), (0, .ref x0)]) hx hb dX0_comeIn_15 hl (k := 1) rfl rfl (by decide) rfl (fun ls hl => ?_)
      refine lv_goto (tgt := 2) hx hb dX0_comeIn_18 (by decide) ?_
      exact k2 _ _ _ _ _ _ hJ I (lv_sub hl [1, 0] rfl)
set_option maxHeartbeats 4000000 in
set_option maxRecDepth 100000 in
theorem c_Crew_comeIn {l : Launch} {D : va_G} {tys : List (ClassId × FieldType)} {A : Nat → Prop} (hT : tys.map (fun q => q.2) = tyS) {N : Nat} {x0 : Nat} {h : Hp} {res : (Unit × Hp)} (hJ : J_Crew_comeIn N x0 h = some res) : Ct l D vwCl tys A yX0_comeIn (Cond.code yX0_comeIn cX0_comeIn 2 none :: wsG) rmX0_comeIn [.ref x0] h none res.2 := by
  refine Met.ofW (cc := cX0_comeIn) (maxL := 2) (ret := none) (by decide) rfl ?_
  intro p e s m args below meth c s₁ B hml hv
  obtain ⟨rfl, hA, hR, hK, hN⟩ := hv
  have hr := B.returns
  have hts : ∀ w ∈ wsG, w.before [.ref x0].toArray s = true := fun w hw => atoms_spec (ws := Cond.code yX0_comeIn cX0_comeIn 2 none :: wsG) B.pre w (List.mem_cons_of_mem _ hw)
  have X : Cx p s m [.ref x0].toArray meth c D vwCl tys cX0_comeIn 2 RX0 wsG := ⟨⟨B.exec, B.bytes, hml, findClass_of_methodNamed B.named, hts⟩, hK, B.notSynchronized, hT⟩
  have hx := B.exec
  have hb := B.bytes
  have I : In D vwCl tys A s h s.heap [] := ⟨hR, va_S.rf, hA⟩
  have hl := lv_entry [.ref x0] (n := 2) (Nat.le_of_ble_eq_true rfl)
  rw [lg_entry_eq]
  generalize (lg_sl [.ref x0] ++ List.replicate (2 - (lg_sl [.ref x0]).length) Slot.unset).toArray = ls at hl ⊢
  have hl : lv_has ls 2 [(0, .ref x0)] := hl
  have ho := X.1.2.2.2.1
  rw [J_Crew_comeIn] at hJ
  refine lv_iconst (v := 0) hx hb dX0_comeIn_0 (by decide) ?_
  refine lv_istore_n (lv' := [(1, .int (0 : Int32)), (0, .ref x0)]) hx hb dX0_comeIn_1 rfl hl (by decide) rfl (fun ls hl => ?_)
  exact w_Crew_comeIn_2 X hN hr N _ _ _ _ _ _ hJ I (lv_sub hl [1, 0] rfl)
def rmX0_isBusy : Room := { frames := 0, cells := 0, slots := 0, locals := 0 }
def J_Crew_isBusy (N : Nat) (x0 : Nat) (x1 : Int32) (h : Hp) : Option (Int32 × Hp) :=
  (fR h 0 x0 0).bind fun v1 =>
  (aI h 1 v1 x1).bind fun v2 =>
  zR v2 h
set_option maxHeartbeats 4000000 in
set_option maxRecDepth 100000 in
theorem c_Crew_isBusy {l : Launch} {D : va_G} {tys : List (ClassId × FieldType)} {A : Nat → Prop} (hT : tys.map (fun q => q.2) = tyS) {N : Nat} {x0 : Nat} {x1 : Int32} {h : Hp} {res : (Int32 × Hp)} (hJ : J_Crew_isBusy N x0 x1 h = some res) : Ct l D vwCl tys A yX0_isBusy (Cond.code yX0_isBusy cX0_isBusy 2 (some .boolean) :: wsG) rmX0_isBusy [.ref x0, .int x1] h (some (.int res.1)) res.2 := by
  refine Met.ofW (cc := cX0_isBusy) (maxL := 2) (ret := (some .boolean)) (by decide) rfl ?_
  intro p e s m args below meth c s₁ B hml hv
  obtain ⟨rfl, hA, hR, hK, hN⟩ := hv
  have hr := B.returns
  have hts : ∀ w ∈ wsG, w.before [.ref x0, .int x1].toArray s = true := fun w hw => atoms_spec (ws := Cond.code yX0_isBusy cX0_isBusy 2 (some .boolean) :: wsG) B.pre w (List.mem_cons_of_mem _ hw)
  have X : Cx p s m [.ref x0, .int x1].toArray meth c D vwCl tys cX0_isBusy 2 RX0 wsG := ⟨⟨B.exec, B.bytes, hml, findClass_of_methodNamed B.named, hts⟩, hK, B.notSynchronized, hT⟩
  have hx := B.exec
  have hb := B.bytes
  have I : In D vwCl tys A s h s.heap [] := ⟨hR, va_S.rf, hA⟩
  have hl := lv_entry [.ref x0, .int x1] (n := 2) (Nat.le_of_ble_eq_true rfl)
  rw [lg_entry_eq]
  generalize (lg_sl [.ref x0, .int x1] ++ List.replicate (2 - (lg_sl [.ref x0, .int x1]).length) Slot.unset).toArray = ls at hl ⊢
  have hl : lv_has ls 2 [(0, .ref x0), (1, .int x1)] := hl
  have ho := X.1.2.2.2.1
  rw [J_Crew_isBusy] at hJ
  refine lv_aload_n hx hb dX0_isBusy_0 rfl (lv_at hl 0 rfl) ?_
  obtain ⟨v1, e9, hJ⟩ := rp_b hJ
  obtain ⟨f9, g9, e9⟩ := fR_s e9
  refine rp_get X I g9 e9 rfl wiX0 (by decide) wm_127 dX0_isBusy_1 ?_
  refine lv_iload_n hx hb dX0_isBusy_4 rfl (lv_at hl 1 rfl) ?_
  obtain ⟨v2, e9, hJ⟩ := rp_b hJ
  refine rp_zald X I e9 rfl dX0_isBusy_5 ?_
  obtain ⟨z9, hJ⟩ := zR_s hJ
  exact rp_zret X hr z9 hJ I dX0_isBusy_6
def rmX0_isOpen : Room := { frames := 2, cells := 0, slots := 0, locals := 42 }
def J_Crew_isOpen (N : Nat) (x0 : Nat) (x1 : Int32) (h : Hp) : Option (Int32 × Hp) :=
  (fJ h 0 x0 3).bind fun v1 =>
  (fJ h 0 x0 4).bind fun v2 =>
  (J_Desk_isIn N (v1 ||| v2) x1 h).bind fun q3 =>
 if q3.1 = 0 then
  (some ((1 : Int32), q3.2))
  else
  (some ((0 : Int32), q3.2))
set_option maxHeartbeats 4000000 in
set_option maxRecDepth 100000 in
theorem c_Crew_isOpen {l : Launch} {D : va_G} {tys : List (ClassId × FieldType)} {A : Nat → Prop} (hT : tys.map (fun q => q.2) = tyS) {N : Nat} {x0 : Nat} {x1 : Int32} {h : Hp} {res : (Int32 × Hp)} (hJ : J_Crew_isOpen N x0 x1 h = some res) : Ct l D vwCl tys A yX0_isOpen (Cond.code yX0_isOpen cX0_isOpen 2 (some .boolean) :: wsG) rmX0_isOpen [.ref x0, .int x1] h (some (.int res.1)) res.2 := by
  refine Met.ofW (cc := cX0_isOpen) (maxL := 2) (ret := (some .boolean)) (by decide) rfl ?_
  intro p e s m args below meth c s₁ B hml hv
  obtain ⟨rfl, hA, hR, hK, hN⟩ := hv
  have hr := B.returns
  have hts : ∀ w ∈ wsG, w.before [.ref x0, .int x1].toArray s = true := fun w hw => atoms_spec (ws := Cond.code yX0_isOpen cX0_isOpen 2 (some .boolean) :: wsG) B.pre w (List.mem_cons_of_mem _ hw)
  have X : Cx p s m [.ref x0, .int x1].toArray meth c D vwCl tys cX0_isOpen 2 RX0 wsG := ⟨⟨B.exec, B.bytes, hml, findClass_of_methodNamed B.named, hts⟩, hK, B.notSynchronized, hT⟩
  have hx := B.exec
  have hb := B.bytes
  have I : In D vwCl tys A s h s.heap [] := ⟨hR, va_S.rf, hA⟩
  have hl := lv_entry [.ref x0, .int x1] (n := 2) (Nat.le_of_ble_eq_true rfl)
  rw [lg_entry_eq]
  generalize (lg_sl [.ref x0, .int x1] ++ List.replicate (2 - (lg_sl [.ref x0, .int x1]).length) Slot.unset).toArray = ls at hl ⊢
  have hl : lv_has ls 2 [(0, .ref x0), (1, .int x1)] := hl
  have ho := X.1.2.2.2.1
  rw [J_Crew_isOpen] at hJ
  refine lv_aload_n hx hb dX0_isOpen_0 rfl (lv_at hl 0 rfl) ?_
  obtain ⟨v1, e9, hJ⟩ := rp_b hJ
  obtain ⟨f9, g9, e9⟩ := fJ_s e9
  refine rp_get X I g9 e9 rfl wiX0 (by decide) wm_130 dX0_isOpen_1 ?_
  refine lv_aload_n hx hb dX0_isOpen_4 rfl (lv_at hl 0 rfl) ?_
  obtain ⟨v2, e9, hJ⟩ := rp_b hJ
  obtain ⟨f9, g9, e9⟩ := fJ_s e9
  refine rp_get X I g9 e9 rfl wiX0 (by decide) wm_131 dX0_isOpen_5 ?_
  refine lv_lor hx hb dX0_isOpen_8 ?_
  refine lv_iload_n hx hb dX0_isOpen_9 rfl (lv_at hl 1 rfl) ?_
  obtain ⟨q3, e9, hJ⟩ := rp_b hJ
  refine rp_callSN (As := [.long (v1 ||| v2), .int x1]) (rest := []) X hN I (c_Desk_isIn hT e9) ⟨(va_cnB (host := "BuildDesk") 2 hts (gdC wm_354) rfl rfl rfl (hN.1 _ (by decide +kernel)) (hts _ wm_33) (by decide +kernel) ⟨Nat.le_of_ble_eq_true rfl, Nat.le_of_ble_eq_true rfl⟩), hts _ wm_353, trivial⟩ rfl hl.1 rfl (Nat.le_of_ble_eq_true rfl) dX0_isOpen_10 ⟨(Nat.le_of_ble_eq_true rfl), (Nat.le_of_ble_eq_true rfl)⟩ (fun H locs I => ?_)
  refine W.cs (cells' := 0) (slots' := 0) rfl rfl ?_
  refine lv_if_ne (tgt := 20) hx hb dX0_isOpen_13 (by decide) (fun c9 => ?_) (fun c9 => ?_)
  · rw [if_neg c9] at hJ
    refine lv_iconst (v := 0) hx hb dX0_isOpen_20 (by decide) ?_
    exact rp_zret X hr (Or.inl rfl) hJ I dX0_isOpen_21
  · rw [if_pos c9] at hJ
    refine lv_iconst (v := 1) hx hb dX0_isOpen_16 (by decide) ?_
    refine lv_goto (tgt := 21) hx hb dX0_isOpen_17 (by decide) ?_
    exact rp_zret X hr (Or.inr rfl) hJ I dX0_isOpen_21
def rmX0_areDone : Room := { frames := 0, cells := 0, slots := 0, locals := 0 }
def J_Crew_areDone (N : Nat) (x0 : Nat) (x1 : Int64) (h : Hp) : Option (Int32 × Hp) :=
  (fJ h 0 x0 4).bind fun v1 =>
  if (lg_cmp (x1 &&& (v1 ^^^ (-1 : Int64))) (0 : Int64)) = 0 then
  (some ((1 : Int32), h))
  else
  (some ((0 : Int32), h))
set_option maxHeartbeats 4000000 in
set_option maxRecDepth 100000 in
theorem c_Crew_areDone {l : Launch} {D : va_G} {tys : List (ClassId × FieldType)} {A : Nat → Prop} (hT : tys.map (fun q => q.2) = tyS) {N : Nat} {x0 : Nat} {x1 : Int64} {h : Hp} {res : (Int32 × Hp)} (hJ : J_Crew_areDone N x0 x1 h = some res) : Ct l D vwCl tys A yX0_areDone (Cond.code yX0_areDone cX0_areDone 3 (some .boolean) :: wsG) rmX0_areDone [.ref x0, .long x1] h (some (.int res.1)) res.2 := by
  refine Met.ofW (cc := cX0_areDone) (maxL := 3) (ret := (some .boolean)) (by decide) rfl ?_
  intro p e s m args below meth c s₁ B hml hv
  obtain ⟨rfl, hA, hR, hK, hN⟩ := hv
  have hr := B.returns
  have hts : ∀ w ∈ wsG, w.before [.ref x0, .long x1].toArray s = true := fun w hw => atoms_spec (ws := Cond.code yX0_areDone cX0_areDone 3 (some .boolean) :: wsG) B.pre w (List.mem_cons_of_mem _ hw)
  have X : Cx p s m [.ref x0, .long x1].toArray meth c D vwCl tys cX0_areDone 3 RX0 wsG := ⟨⟨B.exec, B.bytes, hml, findClass_of_methodNamed B.named, hts⟩, hK, B.notSynchronized, hT⟩
  have hx := B.exec
  have hb := B.bytes
  have I : In D vwCl tys A s h s.heap [] := ⟨hR, va_S.rf, hA⟩
  have hl := lv_entry [.ref x0, .long x1] (n := 3) (Nat.le_of_ble_eq_true rfl)
  rw [lg_entry_eq]
  generalize (lg_sl [.ref x0, .long x1] ++ List.replicate (3 - (lg_sl [.ref x0, .long x1]).length) Slot.unset).toArray = ls at hl ⊢
  have hl : lv_has ls 3 [(0, .ref x0), (1, .long x1)] := hl
  have ho := X.1.2.2.2.1
  rw [J_Crew_areDone] at hJ
  refine lv_lload_n hx hb dX0_areDone_0 rfl (lv_at hl 1 rfl) ?_
  refine lv_aload_n hx hb dX0_areDone_1 rfl (lv_at hl 0 rfl) ?_
  obtain ⟨v1, e9, hJ⟩ := rp_b hJ
  obtain ⟨f9, g9, e9⟩ := fJ_s e9
  refine rp_get X I g9 e9 rfl wiX0 (by decide) wm_131 dX0_areDone_2 ?_
  refine lv_ldc2 (v := (-1)) hx hb ho (hts _ wm_444) dX0_areDone_5 ?_
  refine lv_lxor hx hb dX0_areDone_8 ?_
  refine lv_land hx hb dX0_areDone_9 ?_
  refine lv_lconst (v := 0) hx hb dX0_areDone_10 (by decide) ?_
  refine W.lcmp hx hb dX0_areDone_11 ?_
  refine lv_if_ne (tgt := 19) hx hb dX0_areDone_12 (by decide) (fun c9 => ?_) (fun c9 => ?_)
  · rw [if_neg c9] at hJ
    refine lv_iconst (v := 0) hx hb dX0_areDone_19 (by decide) ?_
    exact rp_zret X hr (Or.inl rfl) hJ I dX0_areDone_20
  · rw [if_pos c9] at hJ
    refine lv_iconst (v := 1) hx hb dX0_areDone_15 (by decide) ?_
    refine lv_goto (tgt := 20) hx hb dX0_areDone_16 (by decide) ?_
    exact rp_zret X hr (Or.inr rfl) hJ I dX0_areDone_20
def rmX0_passOver : Room := { frames := 1, cells := 0, slots := 0, locals := 20 }
def J_Crew_passOver (N : Nat) (x0 : Nat) (x1 : Int32) (h : Hp) : Option (Unit × Hp) :=
  (fJ h 0 x0 4).bind fun v1 =>
  (J_Desk_bit N x1 h).bind fun q2 =>
 (sF q2.2 0 x0 4 (.long (v1 ||| q2.1))).bind fun h3 =>
  some ((), h3)
set_option maxHeartbeats 4000000 in
set_option maxRecDepth 100000 in
theorem c_Crew_passOver {l : Launch} {D : va_G} {tys : List (ClassId × FieldType)} {A : Nat → Prop} (hT : tys.map (fun q => q.2) = tyS) {N : Nat} {x0 : Nat} {x1 : Int32} {h : Hp} {res : (Unit × Hp)} (hJ : J_Crew_passOver N x0 x1 h = some res) : Ct l D vwCl tys A yX0_passOver (Cond.code yX0_passOver cX0_passOver 2 none :: wsG) rmX0_passOver [.ref x0, .int x1] h none res.2 := by
  refine Met.ofW (cc := cX0_passOver) (maxL := 2) (ret := none) (by decide) rfl ?_
  intro p e s m args below meth c s₁ B hml hv
  obtain ⟨rfl, hA, hR, hK, hN⟩ := hv
  have hr := B.returns
  have hts : ∀ w ∈ wsG, w.before [.ref x0, .int x1].toArray s = true := fun w hw => atoms_spec (ws := Cond.code yX0_passOver cX0_passOver 2 none :: wsG) B.pre w (List.mem_cons_of_mem _ hw)
  have X : Cx p s m [.ref x0, .int x1].toArray meth c D vwCl tys cX0_passOver 2 RX0 wsG := ⟨⟨B.exec, B.bytes, hml, findClass_of_methodNamed B.named, hts⟩, hK, B.notSynchronized, hT⟩
  have hx := B.exec
  have hb := B.bytes
  have I : In D vwCl tys A s h s.heap [] := ⟨hR, va_S.rf, hA⟩
  have hl := lv_entry [.ref x0, .int x1] (n := 2) (Nat.le_of_ble_eq_true rfl)
  rw [lg_entry_eq]
  generalize (lg_sl [.ref x0, .int x1] ++ List.replicate (2 - (lg_sl [.ref x0, .int x1]).length) Slot.unset).toArray = ls at hl ⊢
  have hl : lv_has ls 2 [(0, .ref x0), (1, .int x1)] := hl
  have ho := X.1.2.2.2.1
  rw [J_Crew_passOver] at hJ
  refine lv_aload_n hx hb dX0_passOver_0 rfl (lv_at hl 0 rfl) ?_
  refine lv_dup hx hb dX0_passOver_1 rfl ?_
  obtain ⟨v1, e9, hJ⟩ := rp_b hJ
  obtain ⟨f9, g9, e9⟩ := fJ_s e9
  refine rp_get X I g9 e9 rfl wiX0 (by decide) wm_131 dX0_passOver_2 ?_
  refine lv_iload_n hx hb dX0_passOver_5 rfl (lv_at hl 1 rfl) ?_
  obtain ⟨q2, e9, hJ⟩ := rp_b hJ
  refine rp_callSN (As := [.int x1]) (rest := [.long v1, .ref x0]) X hN I (c_Desk_bit hT e9) ⟨(va_cnB (host := "BuildDesk") 1 hts (gdC wm_352) rfl rfl rfl (hN.1 _ (by decide +kernel)) (hts _ wm_33) (by decide +kernel) ⟨Nat.le_of_ble_eq_true rfl, Nat.le_of_ble_eq_true rfl⟩), hts _ wm_351, trivial⟩ rfl hl.1 rfl (Nat.le_of_ble_eq_true rfl) dX0_passOver_6 ⟨(Nat.le_of_ble_eq_true rfl), (Nat.le_of_ble_eq_true rfl)⟩ (fun H locs I => ?_)
  refine W.cs (cells' := 0) (slots' := 0) rfl rfl ?_
  refine lv_lor hx hb dX0_passOver_9 ?_
  obtain ⟨h3, e9, hJ⟩ := rp_b hJ
  refine rp_put (ty := .long) X I e9 rfl wiX0 tyX0 tyX0_ok nmX0 (by decide) wm_131 rfl (by decide +kernel) rfl rfl dX0_passOver_10 (fun H locs I => ?_)
  exact rp_vret X hr hJ I dX0_passOver_13
def rmX0_begin : Room := { frames := 1, cells := 0, slots := 0, locals := 20 }
def J_Crew_begin (N : Nat) (x0 : Nat) (x1 : Int32) (x2 : Int32) (x3 : Int32) (h : Hp) : Option (Unit × Hp) :=
  (fR h 0 x0 0).bind fun v1 =>
  (sB h 1 v1 x2 (1 : Int32)).bind fun h2 =>
  (fR h2 0 x0 1).bind fun v3 =>
  (sI h2 0 v3 x1 x2).bind fun h4 =>
  (fR h4 0 x0 2).bind fun v5 =>
  (sI h4 0 v5 x1 x3).bind fun h6 =>
  (fJ h6 0 x0 3).bind fun v7 =>
  (J_Desk_bit N x1 h6).bind fun q8 =>
 (sF q8.2 0 x0 3 (.long (v7 ||| q8.1))).bind fun h9 =>
  some ((), h9)
set_option maxHeartbeats 4000000 in
set_option maxRecDepth 100000 in
theorem c_Crew_begin {l : Launch} {D : va_G} {tys : List (ClassId × FieldType)} {A : Nat → Prop} (hT : tys.map (fun q => q.2) = tyS) {N : Nat} {x0 : Nat} {x1 : Int32} {x2 : Int32} {x3 : Int32} {h : Hp} {res : (Unit × Hp)} (hJ : J_Crew_begin N x0 x1 x2 x3 h = some res) : Ct l D vwCl tys A yX0_begin (Cond.code yX0_begin cX0_begin 4 none :: wsG) rmX0_begin [.ref x0, .int x1, .int x2, .int x3] h none res.2 := by
  refine Met.ofW (cc := cX0_begin) (maxL := 4) (ret := none) (by decide) rfl ?_
  intro p e s m args below meth c s₁ B hml hv
  obtain ⟨rfl, hA, hR, hK, hN⟩ := hv
  have hr := B.returns
  have hts : ∀ w ∈ wsG, w.before [.ref x0, .int x1, .int x2, .int x3].toArray s = true := fun w hw => atoms_spec (ws := Cond.code yX0_begin cX0_begin 4 none :: wsG) B.pre w (List.mem_cons_of_mem _ hw)
  have X : Cx p s m [.ref x0, .int x1, .int x2, .int x3].toArray meth c D vwCl tys cX0_begin 4 RX0 wsG := ⟨⟨B.exec, B.bytes, hml, findClass_of_methodNamed B.named, hts⟩, hK, B.notSynchronized, hT⟩
  have hx := B.exec
  have hb := B.bytes
  have I : In D vwCl tys A s h s.heap [] := ⟨hR, va_S.rf, hA⟩
  have hl := lv_entry [.ref x0, .int x1, .int x2, .int x3] (n := 4) (Nat.le_of_ble_eq_true rfl)
  rw [lg_entry_eq]
  generalize (lg_sl [.ref x0, .int x1, .int x2, .int x3] ++ List.replicate (4 - (lg_sl [.ref x0, .int x1, .int x2, .int x3]).length) Slot.unset).toArray = ls at hl ⊢
  have hl : lv_has ls 4 [(0, .ref x0), (1, .int x1), (2, .int x2), (3, .int x3)] := hl
  have ho := X.1.2.2.2.1
  rw [J_Crew_begin] at hJ
  refine lv_aload_n hx hb dX0_begin_0 rfl (lv_at hl 0 rfl) ?_
  obtain ⟨v1, e9, hJ⟩ := rp_b hJ
  obtain ⟨f9, g9, e9⟩ := fR_s e9
  refine rp_get X I g9 e9 rfl wiX0 (by decide) wm_127 dX0_begin_1 ?_
  refine lv_iload_n hx hb dX0_begin_4 rfl (lv_at hl 2 rfl) ?_
  refine lv_iconst (v := 1) hx hb dX0_begin_5 (by decide) ?_
  obtain ⟨h2, e9, hJ⟩ := rp_b hJ
  refine rp_zast X I e9 rfl dX0_begin_6 (fun H locs I => ?_)
  refine lv_aload_n hx hb dX0_begin_7 rfl (lv_at hl 0 rfl) ?_
  obtain ⟨v3, e9, hJ⟩ := rp_b hJ
  obtain ⟨f9, g9, e9⟩ := fR_s e9
  refine rp_get X I g9 e9 rfl wiX0 (by decide) wm_128 dX0_begin_8 ?_
  refine lv_iload_n hx hb dX0_begin_11 rfl (lv_at hl 1 rfl) ?_
  refine lv_iload_n hx hb dX0_begin_12 rfl (lv_at hl 2 rfl) ?_
  obtain ⟨h4, e9, hJ⟩ := rp_b hJ
  refine rp_iast X I e9 rfl dX0_begin_13 (fun H locs I => ?_)
  refine lv_aload_n hx hb dX0_begin_14 rfl (lv_at hl 0 rfl) ?_
  obtain ⟨v5, e9, hJ⟩ := rp_b hJ
  obtain ⟨f9, g9, e9⟩ := fR_s e9
  refine rp_get X I g9 e9 rfl wiX0 (by decide) wm_129 dX0_begin_15 ?_
  refine lv_iload_n hx hb dX0_begin_18 rfl (lv_at hl 1 rfl) ?_
  refine lv_iload_n hx hb dX0_begin_19 rfl (lv_at hl 3 rfl) ?_
  obtain ⟨h6, e9, hJ⟩ := rp_b hJ
  refine rp_iast X I e9 rfl dX0_begin_20 (fun H locs I => ?_)
  refine lv_aload_n hx hb dX0_begin_21 rfl (lv_at hl 0 rfl) ?_
  refine lv_dup hx hb dX0_begin_22 rfl ?_
  obtain ⟨v7, e9, hJ⟩ := rp_b hJ
  obtain ⟨f9, g9, e9⟩ := fJ_s e9
  refine rp_get X I g9 e9 rfl wiX0 (by decide) wm_130 dX0_begin_23 ?_
  refine lv_iload_n hx hb dX0_begin_26 rfl (lv_at hl 1 rfl) ?_
  obtain ⟨q8, e9, hJ⟩ := rp_b hJ
  refine rp_callSN (As := [.int x1]) (rest := [.long v7, .ref x0]) X hN I (c_Desk_bit hT e9) ⟨(va_cnB (host := "BuildDesk") 1 hts (gdC wm_352) rfl rfl rfl (hN.1 _ (by decide +kernel)) (hts _ wm_33) (by decide +kernel) ⟨Nat.le_of_ble_eq_true rfl, Nat.le_of_ble_eq_true rfl⟩), hts _ wm_351, trivial⟩ rfl hl.1 rfl (Nat.le_of_ble_eq_true rfl) dX0_begin_27 ⟨(Nat.le_of_ble_eq_true rfl), (Nat.le_of_ble_eq_true rfl)⟩ (fun H locs I => ?_)
  refine W.cs (cells' := 0) (slots' := 0) rfl rfl ?_
  refine lv_lor hx hb dX0_begin_30 ?_
  obtain ⟨h9, e9, hJ⟩ := rp_b hJ
  refine rp_put (ty := .long) X I e9 rfl wiX0 tyX0 tyX0_ok nmX0 (by decide) wm_130 rfl (by decide +kernel) rfl rfl dX0_begin_31 (fun H locs I => ?_)
  exact rp_vret X hr hJ I dX0_begin_34
def rmX0_endsAt : Room := { frames := 2, cells := 0, slots := 0, locals := 42 }
def J_Crew_endsAt_25 (N : Nat)    (h : Hp) : Option (Int32 × Hp) :=
  some ((0 : Int32), h)
def J_Crew_endsAt (N : Nat) (x0 : Nat) (x1 : Int32) (x2 : Int32) (h : Hp) : Option (Int32 × Hp) :=
  (fJ h 0 x0 3).bind fun v1 =>
  (J_Desk_isIn N v1 x1 h).bind fun q2 =>
 if q2.1 = 0 then
  (J_Crew_endsAt_25 N q2.2)
  else
  ((fR q2.2 0 x0 2).bind fun v3 =>
  (aI q2.2 0 v3 x1).bind fun v4 =>
  if v4 = x2 then
  (some ((1 : Int32), q2.2))
  else
  (J_Crew_endsAt_25 N q2.2))
set_option maxHeartbeats 4000000 in
set_option maxRecDepth 100000 in
theorem w_Crew_endsAt_25 (X : Cx p s m args meth c D vwCl tys cX0_endsAt 3 RX0 wsG) (hN : nwS s) (hr : meth.sig.returnType = (some .boolean)) {res : (Int32 × Hp)} {N : Nat}   : ∀   (h : Hp) (H : Heap) (locs : List Loc) (ls : Array Slot), J_Crew_endsAt_25 N h = some res → In D vwCl tys A s h H locs → lv_has ls 3 [] → W p l e rmX0_endsAt s m args below meth c H locs 0 0 (MQ below (Qr D vwCl tys A (some (.int res.1)) res.2) args s 0 0 A) (F0 m 25 ls []) := by
  have hx := X.1.1
  have hb := X.1.2.1
  have hml := X.1.2.2.1
  have ho := X.1.2.2.2.1
  have hts := X.1.2.2.2.2
  have hK := X.2.1
  have hT := X.2.2.2
  intro   h H locs ls hJ I hl
  rw [J_Crew_endsAt_25] at hJ
  refine lv_iconst (v := 0) hx hb dX0_endsAt_25 (by decide) ?_
  exact rp_zret X hr (Or.inl rfl) hJ I dX0_endsAt_26
set_option maxHeartbeats 4000000 in
set_option maxRecDepth 100000 in
theorem c_Crew_endsAt {l : Launch} {D : va_G} {tys : List (ClassId × FieldType)} {A : Nat → Prop} (hT : tys.map (fun q => q.2) = tyS) {N : Nat} {x0 : Nat} {x1 : Int32} {x2 : Int32} {h : Hp} {res : (Int32 × Hp)} (hJ : J_Crew_endsAt N x0 x1 x2 h = some res) : Ct l D vwCl tys A yX0_endsAt (Cond.code yX0_endsAt cX0_endsAt 3 (some .boolean) :: wsG) rmX0_endsAt [.ref x0, .int x1, .int x2] h (some (.int res.1)) res.2 := by
  refine Met.ofW (cc := cX0_endsAt) (maxL := 3) (ret := (some .boolean)) (by decide) rfl ?_
  intro p e s m args below meth c s₁ B hml hv
  obtain ⟨rfl, hA, hR, hK, hN⟩ := hv
  have hr := B.returns
  have hts : ∀ w ∈ wsG, w.before [.ref x0, .int x1, .int x2].toArray s = true := fun w hw => atoms_spec (ws := Cond.code yX0_endsAt cX0_endsAt 3 (some .boolean) :: wsG) B.pre w (List.mem_cons_of_mem _ hw)
  have X : Cx p s m [.ref x0, .int x1, .int x2].toArray meth c D vwCl tys cX0_endsAt 3 RX0 wsG := ⟨⟨B.exec, B.bytes, hml, findClass_of_methodNamed B.named, hts⟩, hK, B.notSynchronized, hT⟩
  have hx := B.exec
  have hb := B.bytes
  have I : In D vwCl tys A s h s.heap [] := ⟨hR, va_S.rf, hA⟩
  have hl := lv_entry [.ref x0, .int x1, .int x2] (n := 3) (Nat.le_of_ble_eq_true rfl)
  rw [lg_entry_eq]
  generalize (lg_sl [.ref x0, .int x1, .int x2] ++ List.replicate (3 - (lg_sl [.ref x0, .int x1, .int x2]).length) Slot.unset).toArray = ls at hl ⊢
  have hl : lv_has ls 3 [(0, .ref x0), (1, .int x1), (2, .int x2)] := hl
  have ho := X.1.2.2.2.1
  rw [J_Crew_endsAt] at hJ
  refine lv_aload_n hx hb dX0_endsAt_0 rfl (lv_at hl 0 rfl) ?_
  obtain ⟨v1, e9, hJ⟩ := rp_b hJ
  obtain ⟨f9, g9, e9⟩ := fJ_s e9
  refine rp_get X I g9 e9 rfl wiX0 (by decide) wm_130 dX0_endsAt_1 ?_
  refine lv_iload_n hx hb dX0_endsAt_4 rfl (lv_at hl 1 rfl) ?_
  obtain ⟨q2, e9, hJ⟩ := rp_b hJ
  refine rp_callSN (As := [.long v1, .int x1]) (rest := []) X hN I (c_Desk_isIn hT e9) ⟨(va_cnB (host := "BuildDesk") 2 hts (gdC wm_354) rfl rfl rfl (hN.1 _ (by decide +kernel)) (hts _ wm_33) (by decide +kernel) ⟨Nat.le_of_ble_eq_true rfl, Nat.le_of_ble_eq_true rfl⟩), hts _ wm_353, trivial⟩ rfl hl.1 rfl (Nat.le_of_ble_eq_true rfl) dX0_endsAt_5 ⟨(Nat.le_of_ble_eq_true rfl), (Nat.le_of_ble_eq_true rfl)⟩ (fun H locs I => ?_)
  refine W.cs (cells' := 0) (slots' := 0) rfl rfl ?_
  refine lv_if_eq (tgt := 25) hx hb dX0_endsAt_8 (by decide) (fun c9 => ?_) (fun c9 => ?_)
  · rw [if_pos c9] at hJ
    exact w_Crew_endsAt_25 X hN hr _ _ _ _ hJ I (lv_sub hl [] rfl)
  · rw [if_neg c9] at hJ
    refine lv_aload_n hx hb dX0_endsAt_11 rfl (lv_at hl 0 rfl) ?_
    obtain ⟨v3, e9, hJ⟩ := rp_b hJ
    obtain ⟨f9, g9, e9⟩ := fR_s e9
    refine rp_get X I g9 e9 rfl wiX0 (by decide) wm_129 dX0_endsAt_12 ?_
    refine lv_iload_n hx hb dX0_endsAt_15 rfl (lv_at hl 1 rfl) ?_
    obtain ⟨v4, e9, hJ⟩ := rp_b hJ
    refine rp_iald X I e9 rfl dX0_endsAt_16 ?_
    refine lv_iload_n hx hb dX0_endsAt_17 rfl (lv_at hl 2 rfl) ?_
    refine lv_icmp_ne (tgt := 25) hx hb dX0_endsAt_18 (by decide) (fun c9 => ?_) (fun c9 => ?_)
    · rw [if_neg c9] at hJ
      exact w_Crew_endsAt_25 X hN hr _ _ _ _ hJ I (lv_sub hl [] rfl)
    · rw [if_pos c9] at hJ
      refine lv_iconst (v := 1) hx hb dX0_endsAt_21 (by decide) ?_
      refine lv_goto (tgt := 26) hx hb dX0_endsAt_22 (by decide) ?_
      exact rp_zret X hr (Or.inr rfl) hJ I dX0_endsAt_26
def rmX0_end : Room := { frames := 1, cells := 0, slots := 0, locals := 20 }
def J_Crew_end (N : Nat) (x0 : Nat) (x1 : Int32) (h : Hp) : Option (Unit × Hp) :=
  (fR h 0 x0 0).bind fun v1 =>
  (fR h 0 x0 1).bind fun v2 =>
  (aI h 0 v2 x1).bind fun v3 =>
  (sB h 1 v1 v3 (0 : Int32)).bind fun h4 =>
  (fJ h4 0 x0 3).bind fun v5 =>
  (J_Desk_bit N x1 h4).bind fun q6 =>
 (sF q6.2 0 x0 3 (.long (v5 &&& (q6.1 ^^^ (-1 : Int64))))).bind fun h7 =>
  (fJ h7 0 x0 4).bind fun v8 =>
  (J_Desk_bit N x1 h7).bind fun q9 =>
 (sF q9.2 0 x0 4 (.long (v8 ||| q9.1))).bind fun h10 =>
  some ((), h10)
set_option maxHeartbeats 4000000 in
set_option maxRecDepth 100000 in
theorem c_Crew_end {l : Launch} {D : va_G} {tys : List (ClassId × FieldType)} {A : Nat → Prop} (hT : tys.map (fun q => q.2) = tyS) {N : Nat} {x0 : Nat} {x1 : Int32} {h : Hp} {res : (Unit × Hp)} (hJ : J_Crew_end N x0 x1 h = some res) : Ct l D vwCl tys A yX0_end (Cond.code yX0_end cX0_end 2 none :: wsG) rmX0_end [.ref x0, .int x1] h none res.2 := by
  refine Met.ofW (cc := cX0_end) (maxL := 2) (ret := none) (by decide) rfl ?_
  intro p e s m args below meth c s₁ B hml hv
  obtain ⟨rfl, hA, hR, hK, hN⟩ := hv
  have hr := B.returns
  have hts : ∀ w ∈ wsG, w.before [.ref x0, .int x1].toArray s = true := fun w hw => atoms_spec (ws := Cond.code yX0_end cX0_end 2 none :: wsG) B.pre w (List.mem_cons_of_mem _ hw)
  have X : Cx p s m [.ref x0, .int x1].toArray meth c D vwCl tys cX0_end 2 RX0 wsG := ⟨⟨B.exec, B.bytes, hml, findClass_of_methodNamed B.named, hts⟩, hK, B.notSynchronized, hT⟩
  have hx := B.exec
  have hb := B.bytes
  have I : In D vwCl tys A s h s.heap [] := ⟨hR, va_S.rf, hA⟩
  have hl := lv_entry [.ref x0, .int x1] (n := 2) (Nat.le_of_ble_eq_true rfl)
  rw [lg_entry_eq]
  generalize (lg_sl [.ref x0, .int x1] ++ List.replicate (2 - (lg_sl [.ref x0, .int x1]).length) Slot.unset).toArray = ls at hl ⊢
  have hl : lv_has ls 2 [(0, .ref x0), (1, .int x1)] := hl
  have ho := X.1.2.2.2.1
  rw [J_Crew_end] at hJ
  refine lv_aload_n hx hb dX0_end_0 rfl (lv_at hl 0 rfl) ?_
  obtain ⟨v1, e9, hJ⟩ := rp_b hJ
  obtain ⟨f9, g9, e9⟩ := fR_s e9
  refine rp_get X I g9 e9 rfl wiX0 (by decide) wm_127 dX0_end_1 ?_
  refine lv_aload_n hx hb dX0_end_4 rfl (lv_at hl 0 rfl) ?_
  obtain ⟨v2, e9, hJ⟩ := rp_b hJ
  obtain ⟨f9, g9, e9⟩ := fR_s e9
  refine rp_get X I g9 e9 rfl wiX0 (by decide) wm_128 dX0_end_5 ?_
  refine lv_iload_n hx hb dX0_end_8 rfl (lv_at hl 1 rfl) ?_
  obtain ⟨v3, e9, hJ⟩ := rp_b hJ
  refine rp_iald X I e9 rfl dX0_end_9 ?_
  refine lv_iconst (v := 0) hx hb dX0_end_10 (by decide) ?_
  obtain ⟨h4, e9, hJ⟩ := rp_b hJ
  refine rp_zast X I e9 rfl dX0_end_11 (fun H locs I => ?_)
  refine lv_aload_n hx hb dX0_end_12 rfl (lv_at hl 0 rfl) ?_
  refine lv_dup hx hb dX0_end_13 rfl ?_
  obtain ⟨v5, e9, hJ⟩ := rp_b hJ
  obtain ⟨f9, g9, e9⟩ := fJ_s e9
  refine rp_get X I g9 e9 rfl wiX0 (by decide) wm_130 dX0_end_14 ?_
  refine lv_iload_n hx hb dX0_end_17 rfl (lv_at hl 1 rfl) ?_
  obtain ⟨q6, e9, hJ⟩ := rp_b hJ
  refine rp_callSN (As := [.int x1]) (rest := [.long v5, .ref x0]) X hN I (c_Desk_bit hT e9) ⟨(va_cnB (host := "BuildDesk") 1 hts (gdC wm_352) rfl rfl rfl (hN.1 _ (by decide +kernel)) (hts _ wm_33) (by decide +kernel) ⟨Nat.le_of_ble_eq_true rfl, Nat.le_of_ble_eq_true rfl⟩), hts _ wm_351, trivial⟩ rfl hl.1 rfl (Nat.le_of_ble_eq_true rfl) dX0_end_18 ⟨(Nat.le_of_ble_eq_true rfl), (Nat.le_of_ble_eq_true rfl)⟩ (fun H locs I => ?_)
  refine W.cs (cells' := 0) (slots' := 0) rfl rfl ?_
  refine lv_ldc2 (v := (-1)) hx hb ho (hts _ wm_444) dX0_end_21 ?_
  refine lv_lxor hx hb dX0_end_24 ?_
  refine lv_land hx hb dX0_end_25 ?_
  obtain ⟨h7, e9, hJ⟩ := rp_b hJ
  refine rp_put (ty := .long) X I e9 rfl wiX0 tyX0 tyX0_ok nmX0 (by decide) wm_130 rfl (by decide +kernel) rfl rfl dX0_end_26 (fun H locs I => ?_)
  refine lv_aload_n hx hb dX0_end_29 rfl (lv_at hl 0 rfl) ?_
  refine lv_dup hx hb dX0_end_30 rfl ?_
  obtain ⟨v8, e9, hJ⟩ := rp_b hJ
  obtain ⟨f9, g9, e9⟩ := fJ_s e9
  refine rp_get X I g9 e9 rfl wiX0 (by decide) wm_131 dX0_end_31 ?_
  refine lv_iload_n hx hb dX0_end_34 rfl (lv_at hl 1 rfl) ?_
  obtain ⟨q9, e9, hJ⟩ := rp_b hJ
  refine rp_callSN (As := [.int x1]) (rest := [.long v8, .ref x0]) X hN I (c_Desk_bit hT e9) ⟨(va_cnB (host := "BuildDesk") 1 hts (gdC wm_352) rfl rfl rfl (hN.1 _ (by decide +kernel)) (hts _ wm_33) (by decide +kernel) ⟨Nat.le_of_ble_eq_true rfl, Nat.le_of_ble_eq_true rfl⟩), hts _ wm_351, trivial⟩ rfl hl.1 rfl (Nat.le_of_ble_eq_true rfl) dX0_end_35 ⟨(Nat.le_of_ble_eq_true rfl), (Nat.le_of_ble_eq_true rfl)⟩ (fun H locs I => ?_)
  refine W.cs (cells' := 0) (slots' := 0) rfl rfl ?_
  refine lv_lor hx hb dX0_end_38 ?_
  obtain ⟨h10, e9, hJ⟩ := rp_b hJ
  refine rp_put (ty := .long) X I e9 rfl wiX0 tyX0 tyX0_ok nmX0 (by decide) wm_131 rfl (by decide +kernel) rfl rfl dX0_end_39 (fun H locs I => ?_)
  exact rp_vret X hr hJ I dX0_end_42
def rmX0_nextEnd : Room := { frames := 2, cells := 0, slots := 0, locals := 42 }
def J_Crew_nextEnd_36 (N : Nat) (r4 : Nat → Int32 → Int32 → Hp → Option (Int32 × Hp)) (x0 : Nat) (x2 : Int32)  (h : Hp) : Option (Int32 × Hp) :=
  (fR h 0 x0 2).bind fun v3 =>
  (aI h 0 v3 x2).bind fun v4 =>
  r4 x0 v4 (x2 + (1 : Int32)) h
def J_Crew_nextEnd_4 (N : Nat)  : Nat → Nat → Int32 → Int32 → Hp → Option (Int32 × Hp)
  | 0, _, _, _, _ => none
  | n + 1, x0, x1, x2, h =>
  if (40 : Int32) ≤ x2 then
  (some (x1, h))
  else
  ((fJ h 0 x0 3).bind fun v1 =>
  (J_Desk_isIn N v1 x2 h).bind fun q2 =>
 if q2.1 = 0 then
  ((J_Crew_nextEnd_4 N n) x0 x1 (x2 + (1 : Int32)) q2.2)
  else
  (if x1 = (-1 : Int32) then
  (J_Crew_nextEnd_36 N (J_Crew_nextEnd_4 N n) x0 x2 q2.2)
  else
  ((fR q2.2 0 x0 2).bind fun v5 =>
  (aI q2.2 0 v5 x2).bind fun v6 =>
  if x1 ≤ v6 then
  ((J_Crew_nextEnd_4 N n) x0 x1 (x2 + (1 : Int32)) q2.2)
  else
  (J_Crew_nextEnd_36 N (J_Crew_nextEnd_4 N n) x0 x2 q2.2))))
def J_Crew_nextEnd (N : Nat) (x0 : Nat) (h : Hp) : Option (Int32 × Hp) :=
  J_Crew_nextEnd_4 N N x0 (-1 : Int32) (0 : Int32) h
set_option maxHeartbeats 4000000 in
set_option maxRecDepth 100000 in
theorem w_Crew_nextEnd_36 (X : Cx p s m args meth c D vwCl tys cX0_nextEnd 3 RX0 wsG) (hN : nwS s) (hr : meth.sig.returnType = (some .int)) {res : (Int32 × Hp)} {N : Nat} {r4 : Nat → Int32 → Int32 → Hp → Option (Int32 × Hp)} (k4 : ∀ (x0 : Nat) (x1 : Int32) (x2 : Int32) (h : Hp) (H : Heap) (locs : List Loc) (ls : Array Slot), r4 x0 x1 x2 h = some res → In D vwCl tys A s h H locs → lv_has ls 3 [(0, .ref x0), (1, .int x1), (2, .int x2)] → W p l e rmX0_nextEnd s m args below meth c H locs 0 0 (MQ below (Qr D vwCl tys A (some (.int res.1)) res.2) args s 0 0 A) (F0 m 4 ls [])) : ∀ (x0 : Nat) (x2 : Int32)  (h : Hp) (H : Heap) (locs : List Loc) (ls : Array Slot), J_Crew_nextEnd_36 N r4 x0 x2 h = some res → In D vwCl tys A s h H locs → lv_has ls 3 [(0, .ref x0), (2, .int x2)] → W p l e rmX0_nextEnd s m args below meth c H locs 0 0 (MQ below (Qr D vwCl tys A (some (.int res.1)) res.2) args s 0 0 A) (F0 m 36 ls []) := by
  have hx := X.1.1
  have hb := X.1.2.1
  have hml := X.1.2.2.1
  have ho := X.1.2.2.2.1
  have hts := X.1.2.2.2.2
  have hK := X.2.1
  have hT := X.2.2.2
  intro x0 x2  h H locs ls hJ I hl
  rw [J_Crew_nextEnd_36] at hJ
  refine lv_aload_n hx hb dX0_nextEnd_36 rfl (lv_at hl 0 rfl) ?_
  obtain ⟨v3, e9, hJ⟩ := rp_b hJ
  obtain ⟨f9, g9, e9⟩ := fR_s e9
  refine rp_get X I g9 e9 rfl wiX0 (by decide) wm_129 dX0_nextEnd_37 ?_
  refine lv_iload_n hx hb dX0_nextEnd_40 rfl (lv_at hl 1 rfl) ?_
  obtain ⟨v4, e9, hJ⟩ := rp_b hJ
  refine rp_iald X I e9 rfl dX0_nextEnd_41 ?_
  refine lv_istore_n (lv' := [(1, .int v4), (0, .ref x0), (2, .int x2)]) hx hb dX0_nextEnd_42 rfl hl (by decide) rfl (fun ls hl => ?_)
  refine lv_iinc (v := (x2 + (1 : Int32))) (lv' := [(2, .int (x2 + (1 : Int32))), (1, .int v4), (0, .ref x0)]) hx hb dX0_nextEnd_43 hl (k := 2) rfl rfl (by decide) rfl (fun ls hl => ?_)
  refine lv_goto (tgt := 4) hx hb dX0_nextEnd_46 (by decide) ?_
  exact k4 _ _ _ _ _ _ _ hJ I (lv_sub hl [2, 1, 0] rfl)
set_option maxHeartbeats 4000000 in
set_option maxRecDepth 100000 in
theorem w_Crew_nextEnd_4 (X : Cx p s m args meth c D vwCl tys cX0_nextEnd 3 RX0 wsG) (hN : nwS s) (hr : meth.sig.returnType = (some .int)) {res : (Int32 × Hp)} {N : Nat}   : ∀ (n : Nat) (x0 : Nat) (x1 : Int32) (x2 : Int32)  (h : Hp) (H : Heap) (locs : List Loc) (ls : Array Slot), J_Crew_nextEnd_4 N n x0 x1 x2 h = some res → In D vwCl tys A s h H locs → lv_has ls 3 [(0, .ref x0), (1, .int x1), (2, .int x2)] → W p l e rmX0_nextEnd s m args below meth c H locs 0 0 (MQ below (Qr D vwCl tys A (some (.int res.1)) res.2) args s 0 0 A) (F0 m 4 ls []) := by
  have hx := X.1.1
  have hb := X.1.2.1
  have hml := X.1.2.2.1
  have ho := X.1.2.2.2.1
  have hts := X.1.2.2.2.2
  have hK := X.2.1
  have hT := X.2.2.2
  intro n
  induction n with
  | zero =>
    intro x0 x1 x2  h H locs ls hJ I hl
    exact nomatch (show (none : Option (Int32 × Hp)) = some res from hJ)
  | succ n k4 =>
    intro x0 x1 x2  h H locs ls hJ I hl
    rw [J_Crew_nextEnd_4] at hJ
    refine lv_iload_n hx hb dX0_nextEnd_4 rfl (lv_at hl 2 rfl) ?_
    refine lv_bipush (v := 40) hx hb dX0_nextEnd_5 (by decide) ?_
    refine lv_icmp_ge (tgt := 49) hx hb dX0_nextEnd_7 (by decide) (fun c9 => ?_) (fun c9 => ?_)
    · rw [if_pos c9] at hJ
      refine lv_iload_n hx hb dX0_nextEnd_49 rfl (lv_at hl 1 rfl) ?_
      exact rp_iret X hr hJ I dX0_nextEnd_50
    · rw [if_neg c9] at hJ
      refine lv_aload_n hx hb dX0_nextEnd_10 rfl (lv_at hl 0 rfl) ?_
      obtain ⟨v1, e9, hJ⟩ := rp_b hJ
      obtain ⟨f9, g9, e9⟩ := fJ_s e9
      refine rp_get X I g9 e9 rfl wiX0 (by decide) wm_130 dX0_nextEnd_11 ?_
      refine lv_iload_n hx hb dX0_nextEnd_14 rfl (lv_at hl 2 rfl) ?_
      obtain ⟨q2, e9, hJ⟩ := rp_b hJ
      refine rp_callSN (As := [.long v1, .int x2]) (rest := []) X hN I (c_Desk_isIn hT e9) ⟨(va_cnB (host := "BuildDesk") 2 hts (gdC wm_354) rfl rfl rfl (hN.1 _ (by decide +kernel)) (hts _ wm_33) (by decide +kernel) ⟨Nat.le_of_ble_eq_true rfl, Nat.le_of_ble_eq_true rfl⟩), hts _ wm_353, trivial⟩ rfl hl.1 rfl (Nat.le_of_ble_eq_true rfl) dX0_nextEnd_15 ⟨(Nat.le_of_ble_eq_true rfl), (Nat.le_of_ble_eq_true rfl)⟩ (fun H locs I => ?_)
      refine W.cs (cells' := 0) (slots' := 0) rfl rfl ?_
      refine lv_if_eq (tgt := 43) hx hb dX0_nextEnd_18 (by decide) (fun c9 => ?_) (fun c9 => ?_)
      · rw [if_pos c9] at hJ
        refine lv_iinc (v := (x2 + (1 : Int32))) (lv' := [(2, .int (x2 + (1 : Int32))), (0, .ref x0), (1, .int x1)]) hx hb dX0_nextEnd_43 hl (k := 2) rfl rfl (by decide) rfl (fun ls hl => ?_)
        refine lv_goto (tgt := 4) hx hb dX0_nextEnd_46 (by decide) ?_
        exact k4 _ _ _ _ _ _ _ hJ I (lv_sub hl [1, 2, 0] rfl)
      · rw [if_neg c9] at hJ
        refine lv_iload_n hx hb dX0_nextEnd_21 rfl (lv_at hl 1 rfl) ?_
        refine lv_iconst (v := -1) hx hb dX0_nextEnd_22 (by decide) ?_
        refine lv_icmp_eq (tgt := 36) hx hb dX0_nextEnd_23 (by decide) (fun c9 => ?_) (fun c9 => ?_)
        · rw [if_pos c9] at hJ
          exact w_Crew_nextEnd_36 X hN hr k4 _ _ _ _ _ _ hJ I (lv_sub hl [0, 2] rfl)
        · rw [if_neg c9] at hJ
          refine lv_aload_n hx hb dX0_nextEnd_26 rfl (lv_at hl 0 rfl) ?_
          obtain ⟨v5, e9, hJ⟩ := rp_b hJ
          obtain ⟨f9, g9, e9⟩ := fR_s e9
          refine rp_get X I g9 e9 rfl wiX0 (by decide) wm_129 dX0_nextEnd_27 ?_
          refine lv_iload_n hx hb dX0_nextEnd_30 rfl (lv_at hl 2 rfl) ?_
          obtain ⟨v6, e9, hJ⟩ := rp_b hJ
          refine rp_iald X I e9 rfl dX0_nextEnd_31 ?_
          refine lv_iload_n hx hb dX0_nextEnd_32 rfl (lv_at hl 1 rfl) ?_
          refine lv_icmp_ge (tgt := 43) hx hb dX0_nextEnd_33 (by decide) (fun c9 => ?_) (fun c9 => ?_)
          · rw [if_pos c9] at hJ
            refine lv_iinc (v := (x2 + (1 : Int32))) (lv' := [(2, .int (x2 + (1 : Int32))), (0, .ref x0), (1, .int x1)]) hx hb dX0_nextEnd_43 hl (k := 2) rfl rfl (by decide) rfl (fun ls hl => ?_)
            refine lv_goto (tgt := 4) hx hb dX0_nextEnd_46 (by decide) ?_
            exact k4 _ _ _ _ _ _ _ hJ I (lv_sub hl [1, 2, 0] rfl)
          · rw [if_neg c9] at hJ
            exact w_Crew_nextEnd_36 X hN hr k4 _ _ _ _ _ _ hJ I (lv_sub hl [0, 2] rfl)
set_option maxHeartbeats 4000000 in
set_option maxRecDepth 100000 in
theorem c_Crew_nextEnd {l : Launch} {D : va_G} {tys : List (ClassId × FieldType)} {A : Nat → Prop} (hT : tys.map (fun q => q.2) = tyS) {N : Nat} {x0 : Nat} {h : Hp} {res : (Int32 × Hp)} (hJ : J_Crew_nextEnd N x0 h = some res) : Ct l D vwCl tys A yX0_nextEnd (Cond.code yX0_nextEnd cX0_nextEnd 3 (some .int) :: wsG) rmX0_nextEnd [.ref x0] h (some (.int res.1)) res.2 := by
  refine Met.ofW (cc := cX0_nextEnd) (maxL := 3) (ret := (some .int)) (by decide) rfl ?_
  intro p e s m args below meth c s₁ B hml hv
  obtain ⟨rfl, hA, hR, hK, hN⟩ := hv
  have hr := B.returns
  have hts : ∀ w ∈ wsG, w.before [.ref x0].toArray s = true := fun w hw => atoms_spec (ws := Cond.code yX0_nextEnd cX0_nextEnd 3 (some .int) :: wsG) B.pre w (List.mem_cons_of_mem _ hw)
  have X : Cx p s m [.ref x0].toArray meth c D vwCl tys cX0_nextEnd 3 RX0 wsG := ⟨⟨B.exec, B.bytes, hml, findClass_of_methodNamed B.named, hts⟩, hK, B.notSynchronized, hT⟩
  have hx := B.exec
  have hb := B.bytes
  have I : In D vwCl tys A s h s.heap [] := ⟨hR, va_S.rf, hA⟩
  have hl := lv_entry [.ref x0] (n := 3) (Nat.le_of_ble_eq_true rfl)
  rw [lg_entry_eq]
  generalize (lg_sl [.ref x0] ++ List.replicate (3 - (lg_sl [.ref x0]).length) Slot.unset).toArray = ls at hl ⊢
  have hl : lv_has ls 3 [(0, .ref x0)] := hl
  have ho := X.1.2.2.2.1
  rw [J_Crew_nextEnd] at hJ
  refine lv_iconst (v := -1) hx hb dX0_nextEnd_0 (by decide) ?_
  refine lv_istore_n (lv' := [(1, .int (-1 : Int32)), (0, .ref x0)]) hx hb dX0_nextEnd_1 rfl hl (by decide) rfl (fun ls hl => ?_)
  refine lv_iconst (v := 0) hx hb dX0_nextEnd_2 (by decide) ?_
  refine lv_istore_n (lv' := [(2, .int (0 : Int32)), (1, .int (-1 : Int32)), (0, .ref x0)]) hx hb dX0_nextEnd_3 rfl hl (by decide) rfl (fun ls hl => ?_)
  exact w_Crew_nextEnd_4 X hN hr N _ _ _ _ _ _ _ hJ I (lv_sub hl [2, 1, 0] rfl)
end GW
