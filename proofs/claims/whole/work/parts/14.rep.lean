section GW
variable {p : Program} {l : Launch} {e : Env} {s : State} {m : MethodId} {args : Array Value} {below : List Frame} {meth : Method} {c : Code} {D : va_G} {tys : List (ClassId × FieldType)} {A : Nat → Prop}
def rmX3_init : Room := { frames := 1, cells := 1, slots := 200, locals := 20 }
def J_Rep_init (N : Nat) (x0 : Nat) (h : Hp) : Option (Unit × Hp) :=
  (nI_ h 0 (200 : Int32)).bind fun q1 =>
  (sF q1.2 3 x0 4 (.ref q1.1)).bind fun h2 =>
  some ((), h2)
set_option maxHeartbeats 4000000 in
set_option maxRecDepth 100000 in
theorem c_Rep_init {l : Launch} {D : va_G} {tys : List (ClassId × FieldType)} {A : Nat → Prop} (hT : tys.map (fun q => q.2) = tyS) {N : Nat} {x0 : Nat} {h : Hp} {res : (Unit × Hp)} (hJ : J_Rep_init N x0 h = some res) : Ct l D vwCl tys A yX3_init (Cond.code yX3_init cX3_init 1 none :: wsG) rmX3_init [.ref x0] h none res.2 := by
  refine Met.ofW (cc := cX3_init) (maxL := 1) (ret := none) (by decide) rfl ?_
  intro p e s m args below meth c s₁ B hml hv
  obtain ⟨rfl, hA, hR, hK, hN⟩ := hv
  have hr := B.returns
  have hts : ∀ w ∈ wsG, w.before [.ref x0].toArray s = true := fun w hw => atoms_spec (ws := Cond.code yX3_init cX3_init 1 none :: wsG) B.pre w (List.mem_cons_of_mem _ hw)
  have X : Cx p s m [.ref x0].toArray meth c D vwCl tys cX3_init 1 RX3 wsG := ⟨⟨B.exec, B.bytes, hml, findClass_of_methodNamed B.named, hts⟩, hK, B.notSynchronized, hT⟩
  have hinit : meth.name = "<init>" := (name_of_methodNamed B.named B.method).1
  have hx := B.exec
  have hb := B.bytes
  have I : In D vwCl tys A s h s.heap [] := ⟨hR, va_S.rf, hA⟩
  have hl := lv_entry [.ref x0] (n := 1) (Nat.le_of_ble_eq_true rfl)
  rw [lg_entry_eq]
  generalize (lg_sl [.ref x0] ++ List.replicate (1 - (lg_sl [.ref x0]).length) Slot.unset).toArray = ls at hl ⊢
  have hl : lv_has ls 1 [(0, .ref x0)] := hl
  have ho := X.1.2.2.2.1
  rw [J_Rep_init] at hJ
  refine lv_aload_n hx hb dX3_init_0 rfl (lv_at hl 0 rfl) ?_
  refine W.objInit hx hb ho (hts _ wm_142) (hts _ wm_54) (hts _ wm_55) rfl (by rw [hml]; exact hl.1) rfl dX3_init_1 (Nat.le_of_ble_eq_true rfl) (Nat.le_of_ble_eq_true rfl) ?_
  refine W.eq (g2 := F0 m 4 ls []) rfl ?_
  refine lv_aload_n hx hb dX3_init_4 rfl (lv_at hl 0 rfl) ?_
  refine lv_sipush (v := 200) hx hb dX3_init_5 (by decide) ?_
  obtain ⟨q1, e9, hJ⟩ := rp_b hJ
  refine rp_newI (K := 200) (ty := .int) X I e9 (by decide) rfl rfl (by decide) wm_69 rfl (fun _ z => z) (Nat.le_of_ble_eq_true rfl) (Nat.le_of_ble_eq_true rfl) dX3_init_8 (fun H I => ?_)
  obtain ⟨h2, e9, hJ⟩ := rp_b hJ
  refine rp_putF (ty := (.array .int)) X I e9 rfl wiX3 tyX3 tyX3_ok nmX3 (by decide) wm_147 rfl hinit rfl (by decide +kernel) rfl rfl dX3_init_10 (fun H locs I => ?_)
  refine W.widen (k := 1) (n := 200) (Nat.le_of_ble_eq_true rfl) (Nat.le_of_ble_eq_true rfl) ?_
  exact rp_vret X hr hJ I dX3_init_13
def rmX3_open : Room := { frames := 2, cells := 0, slots := 0, locals := 43 }
def J_Rep_open (N : Nat) (x0 : Nat) (x1 : Nat) (h : Hp) : Option (Unit × Hp) :=
  (fI h 2 x1 2).bind fun v1 =>
  (sF h 3 x0 0 (.int v1)).bind fun h2 =>
  (sF h2 3 x0 1 (.int (0 : Int32))).bind fun h3 =>
  (sF h3 3 x0 2 (.int (0 : Int32))).bind fun h4 =>
  (isO h4 2 x1).bind fun _ =>
  (J_Plan_greatestRank N x1 h4).bind fun q5 =>
 (sF q5.2 3 x0 3 (.int q5.1)).bind fun h6 =>
  some ((), h6)
set_option maxHeartbeats 4000000 in
set_option maxRecDepth 100000 in
theorem c_Rep_open {l : Launch} {D : va_G} {tys : List (ClassId × FieldType)} {A : Nat → Prop} (hT : tys.map (fun q => q.2) = tyS) {N : Nat} {x0 : Nat} {x1 : Nat} {h : Hp} {res : (Unit × Hp)} (hJ : J_Rep_open N x0 x1 h = some res) : Ct l D vwCl tys A yX3_open (Cond.code yX3_open cX3_open 2 none :: wsG) rmX3_open [.ref x0, .ref x1] h none res.2 := by
  refine Met.ofW (cc := cX3_open) (maxL := 2) (ret := none) (by decide) rfl ?_
  intro p e s m args below meth c s₁ B hml hv
  obtain ⟨rfl, hA, hR, hK, hN⟩ := hv
  have hr := B.returns
  have hts : ∀ w ∈ wsG, w.before [.ref x0, .ref x1].toArray s = true := fun w hw => atoms_spec (ws := Cond.code yX3_open cX3_open 2 none :: wsG) B.pre w (List.mem_cons_of_mem _ hw)
  have X : Cx p s m [.ref x0, .ref x1].toArray meth c D vwCl tys cX3_open 2 RX3 wsG := ⟨⟨B.exec, B.bytes, hml, findClass_of_methodNamed B.named, hts⟩, hK, B.notSynchronized, hT⟩
  have hx := B.exec
  have hb := B.bytes
  have I : In D vwCl tys A s h s.heap [] := ⟨hR, va_S.rf, hA⟩
  have hl := lv_entry [.ref x0, .ref x1] (n := 2) (Nat.le_of_ble_eq_true rfl)
  rw [lg_entry_eq]
  generalize (lg_sl [.ref x0, .ref x1] ++ List.replicate (2 - (lg_sl [.ref x0, .ref x1]).length) Slot.unset).toArray = ls at hl ⊢
  have hl : lv_has ls 2 [(0, .ref x0), (1, .ref x1)] := hl
  have ho := X.1.2.2.2.1
  rw [J_Rep_open] at hJ
  refine lv_aload_n hx hb dX3_open_0 rfl (lv_at hl 0 rfl) ?_
  refine lv_aload_n hx hb dX3_open_1 rfl (lv_at hl 1 rfl) ?_
  obtain ⟨v1, e9, hJ⟩ := rp_b hJ
  obtain ⟨f9, g9, e9⟩ := fI_s e9
  refine rp_getN (host := "BuildDesk") X I g9 e9 rfl wiX2 (by decide) (hN.1 _ (by decide +kernel)) dX3_open_2 ?_
  obtain ⟨h2, e9, hJ⟩ := rp_b hJ
  refine rp_put (ty := .int) X I e9 rfl wiX3 tyX3 tyX3_ok nmX3 (by decide) wm_143 rfl (by decide +kernel) rfl rfl dX3_open_5 (fun H locs I => ?_)
  refine lv_aload_n hx hb dX3_open_8 rfl (lv_at hl 0 rfl) ?_
  refine lv_iconst (v := 0) hx hb dX3_open_9 (by decide) ?_
  obtain ⟨h3, e9, hJ⟩ := rp_b hJ
  refine rp_put (ty := .int) X I e9 rfl wiX3 tyX3 tyX3_ok nmX3 (by decide) wm_144 rfl (by decide +kernel) rfl rfl dX3_open_10 (fun H locs I => ?_)
  refine lv_aload_n hx hb dX3_open_13 rfl (lv_at hl 0 rfl) ?_
  refine lv_iconst (v := 0) hx hb dX3_open_14 (by decide) ?_
  obtain ⟨h4, e9, hJ⟩ := rp_b hJ
  refine rp_put (ty := .int) X I e9 rfl wiX3 tyX3 tyX3_ok nmX3 (by decide) wm_145 rfl (by decide +kernel) rfl rfl dX3_open_15 (fun H locs I => ?_)
  refine lv_aload_n hx hb dX3_open_18 rfl (lv_at hl 0 rfl) ?_
  refine lv_aload_n hx hb dX3_open_19 rfl (lv_at hl 1 rfl) ?_
  obtain ⟨u9, i9, hJ⟩ := rp_b hJ
  obtain ⟨f9, i9⟩ := isO_s i9
  obtain ⟨q5, e9, hJ⟩ := rp_b hJ
  refine rp_callV (As := []) (rest := [.ref x0]) X hN I (c_Plan_greatestRank hT e9) (cwV 0 hts (gdV wm_416 wm_417 wm_418 wm_36 wm_419) rfl rfl rfl (by decide +kernel) ⟨Nat.le_of_ble_eq_true rfl, Nat.le_of_ble_eq_true rfl⟩) i9 rfl rfl hl.1 rfl (Nat.le_of_ble_eq_true rfl) dX3_open_20 ⟨(Nat.le_of_ble_eq_true rfl), (Nat.le_of_ble_eq_true rfl)⟩ (fun H locs I => ?_)
  refine W.cs (cells' := 0) (slots' := 0) rfl rfl ?_
  obtain ⟨h6, e9, hJ⟩ := rp_b hJ
  refine rp_put (ty := .int) X I e9 rfl wiX3 tyX3 tyX3_ok nmX3 (by decide) wm_146 rfl (by decide +kernel) rfl rfl dX3_open_23 (fun H locs I => ?_)
  exact rp_vret X hr hJ I dX3_open_26
def rmX3_add : Room := { frames := 0, cells := 0, slots := 0, locals := 0 }
def J_Rep_add (N : Nat) (x0 : Nat) (x1 : Int32) (x2 : Int32) (x3 : Int32) (x4 : Int32) (x5 : Int32) (h : Hp) : Option (Unit × Hp) :=
  (fI h 3 x0 1).bind fun v1 =>
  if v1 < (40 : Int32) then
  ((fI h 3 x0 1).bind fun v2 =>
  (fR h 3 x0 4).bind fun v3 =>
  (sI h 0 v3 (v2 * (5 : Int32)) x1).bind fun h4 =>
  (fR h4 3 x0 4).bind fun v5 =>
  (sI h4 0 v5 ((v2 * (5 : Int32)) + (1 : Int32)) x2).bind fun h6 =>
  (fR h6 3 x0 4).bind fun v7 =>
  (sI h6 0 v7 ((v2 * (5 : Int32)) + (2 : Int32)) x3).bind fun h8 =>
  (fR h8 3 x0 4).bind fun v9 =>
  (sI h8 0 v9 ((v2 * (5 : Int32)) + (3 : Int32)) x4).bind fun h10 =>
  (fR h10 3 x0 4).bind fun v11 =>
  (sI h10 0 v11 ((v2 * (5 : Int32)) + (4 : Int32)) x5).bind fun h12 =>
  (fI h12 3 x0 1).bind fun v13 =>
  (sF h12 3 x0 1 (.int (v13 + (1 : Int32)))).bind fun h14 =>
  (fI h14 3 x0 2).bind fun v15 =>
  (sF h14 3 x0 2 (.int (v15 + (x3 - x2)))).bind fun h16 =>
  some ((), h16))
  else
  (some ((), h))
set_option maxHeartbeats 4000000 in
set_option maxRecDepth 100000 in
theorem c_Rep_add {l : Launch} {D : va_G} {tys : List (ClassId × FieldType)} {A : Nat → Prop} (hT : tys.map (fun q => q.2) = tyS) {N : Nat} {x0 : Nat} {x1 : Int32} {x2 : Int32} {x3 : Int32} {x4 : Int32} {x5 : Int32} {h : Hp} {res : (Unit × Hp)} (hJ : J_Rep_add N x0 x1 x2 x3 x4 x5 h = some res) : Ct l D vwCl tys A yX3_add (Cond.code yX3_add cX3_add 7 none :: wsG) rmX3_add [.ref x0, .int x1, .int x2, .int x3, .int x4, .int x5] h none res.2 := by
  refine Met.ofW (cc := cX3_add) (maxL := 7) (ret := none) (by decide) rfl ?_
  intro p e s m args below meth c s₁ B hml hv
  obtain ⟨rfl, hA, hR, hK, hN⟩ := hv
  have hr := B.returns
  have hts : ∀ w ∈ wsG, w.before [.ref x0, .int x1, .int x2, .int x3, .int x4, .int x5].toArray s = true := fun w hw => atoms_spec (ws := Cond.code yX3_add cX3_add 7 none :: wsG) B.pre w (List.mem_cons_of_mem _ hw)
  have X : Cx p s m [.ref x0, .int x1, .int x2, .int x3, .int x4, .int x5].toArray meth c D vwCl tys cX3_add 7 RX3 wsG := ⟨⟨B.exec, B.bytes, hml, findClass_of_methodNamed B.named, hts⟩, hK, B.notSynchronized, hT⟩
  have hx := B.exec
  have hb := B.bytes
  have I : In D vwCl tys A s h s.heap [] := ⟨hR, va_S.rf, hA⟩
  have hl := lv_entry [.ref x0, .int x1, .int x2, .int x3, .int x4, .int x5] (n := 7) (Nat.le_of_ble_eq_true rfl)
  rw [lg_entry_eq]
  generalize (lg_sl [.ref x0, .int x1, .int x2, .int x3, .int x4, .int x5] ++ List.replicate (7 - (lg_sl [.ref x0, .int x1, .int x2, .int x3, .int x4, .int x5]).length) Slot.unset).toArray = ls at hl ⊢
  have hl : lv_has ls 7 [(0, .ref x0), (1, .int x1), (2, .int x2), (3, .int x3), (4, .int x4), (5, .int x5)] := hl
  have ho := X.1.2.2.2.1
  rw [J_Rep_add] at hJ
  refine lv_aload_n hx hb dX3_add_0 rfl (lv_at hl 0 rfl) ?_
  obtain ⟨v1, e9, hJ⟩ := rp_b hJ
  obtain ⟨f9, g9, e9⟩ := fI_s e9
  refine rp_get X I g9 e9 rfl wiX3 (by decide) wm_144 dX3_add_1 ?_
  refine lv_bipush (v := 40) hx hb dX3_add_4 (by decide) ?_
  refine lv_icmp_lt (tgt := 10) hx hb dX3_add_6 (by decide) (fun c9 => ?_) (fun c9 => ?_)
  · rw [if_pos c9] at hJ
    refine lv_aload_n hx hb dX3_add_10 rfl (lv_at hl 0 rfl) ?_
    obtain ⟨v2, e9, hJ⟩ := rp_b hJ
    obtain ⟨f9, g9, e9⟩ := fI_s e9
    refine rp_get X I g9 e9 rfl wiX3 (by decide) wm_144 dX3_add_11 ?_
    refine lv_iconst (v := 5) hx hb dX3_add_14 (by decide) ?_
    refine lv_imul hx hb dX3_add_15 ?_
    refine lv_istore (lv' := [(6, .int (v2 * (5 : Int32))), (0, .ref x0), (1, .int x1), (2, .int x2), (3, .int x3), (4, .int x4), (5, .int x5)]) hx hb dX3_add_16 hl (by decide) rfl (fun ls hl => ?_)
    refine lv_aload_n hx hb dX3_add_18 rfl (lv_at hl 1 rfl) ?_
    obtain ⟨v3, e9, hJ⟩ := rp_b hJ
    obtain ⟨f9, g9, e9⟩ := fR_s e9
    refine rp_get X I g9 e9 rfl wiX3 (by decide) wm_147 dX3_add_19 ?_
    refine lv_iload hx hb dX3_add_22 (lv_at hl 0 rfl) ?_
    refine lv_iload_n hx hb dX3_add_24 rfl (lv_at hl 2 rfl) ?_
    obtain ⟨h4, e9, hJ⟩ := rp_b hJ
    refine rp_iast X I e9 rfl dX3_add_25 (fun H locs I => ?_)
    refine lv_aload_n hx hb dX3_add_26 rfl (lv_at hl 1 rfl) ?_
    obtain ⟨v5, e9, hJ⟩ := rp_b hJ
    obtain ⟨f9, g9, e9⟩ := fR_s e9
    refine rp_get X I g9 e9 rfl wiX3 (by decide) wm_147 dX3_add_27 ?_
    refine lv_iload hx hb dX3_add_30 (lv_at hl 0 rfl) ?_
    refine lv_iconst (v := 1) hx hb dX3_add_32 (by decide) ?_
    refine lv_iadd hx hb dX3_add_33 ?_
    refine lv_iload_n hx hb dX3_add_34 rfl (lv_at hl 3 rfl) ?_
    obtain ⟨h6, e9, hJ⟩ := rp_b hJ
    refine rp_iast X I e9 rfl dX3_add_35 (fun H locs I => ?_)
    refine lv_aload_n hx hb dX3_add_36 rfl (lv_at hl 1 rfl) ?_
    obtain ⟨v7, e9, hJ⟩ := rp_b hJ
    obtain ⟨f9, g9, e9⟩ := fR_s e9
    refine rp_get X I g9 e9 rfl wiX3 (by decide) wm_147 dX3_add_37 ?_
    refine lv_iload hx hb dX3_add_40 (lv_at hl 0 rfl) ?_
    refine lv_iconst (v := 2) hx hb dX3_add_42 (by decide) ?_
    refine lv_iadd hx hb dX3_add_43 ?_
    refine lv_iload_n hx hb dX3_add_44 rfl (lv_at hl 4 rfl) ?_
    obtain ⟨h8, e9, hJ⟩ := rp_b hJ
    refine rp_iast X I e9 rfl dX3_add_45 (fun H locs I => ?_)
    refine lv_aload_n hx hb dX3_add_46 rfl (lv_at hl 1 rfl) ?_
    obtain ⟨v9, e9, hJ⟩ := rp_b hJ
    obtain ⟨f9, g9, e9⟩ := fR_s e9
    refine rp_get X I g9 e9 rfl wiX3 (by decide) wm_147 dX3_add_47 ?_
    refine lv_iload hx hb dX3_add_50 (lv_at hl 0 rfl) ?_
    refine lv_iconst (v := 3) hx hb dX3_add_52 (by decide) ?_
    refine lv_iadd hx hb dX3_add_53 ?_
    refine lv_iload hx hb dX3_add_54 (lv_at hl 5 rfl) ?_
    obtain ⟨h10, e9, hJ⟩ := rp_b hJ
    refine rp_iast X I e9 rfl dX3_add_56 (fun H locs I => ?_)
    refine lv_aload_n hx hb dX3_add_57 rfl (lv_at hl 1 rfl) ?_
    obtain ⟨v11, e9, hJ⟩ := rp_b hJ
    obtain ⟨f9, g9, e9⟩ := fR_s e9
    refine rp_get X I g9 e9 rfl wiX3 (by decide) wm_147 dX3_add_58 ?_
    refine lv_iload hx hb dX3_add_61 (lv_at hl 0 rfl) ?_
    refine lv_iconst (v := 4) hx hb dX3_add_63 (by decide) ?_
    refine lv_iadd hx hb dX3_add_64 ?_
    refine lv_iload hx hb dX3_add_65 (lv_at hl 6 rfl) ?_
    obtain ⟨h12, e9, hJ⟩ := rp_b hJ
    refine rp_iast X I e9 rfl dX3_add_67 (fun H locs I => ?_)
    refine lv_aload_n hx hb dX3_add_68 rfl (lv_at hl 1 rfl) ?_
    refine lv_dup hx hb dX3_add_69 rfl ?_
    obtain ⟨v13, e9, hJ⟩ := rp_b hJ
    obtain ⟨f9, g9, e9⟩ := fI_s e9
    refine rp_get X I g9 e9 rfl wiX3 (by decide) wm_144 dX3_add_70 ?_
    refine lv_iconst (v := 1) hx hb dX3_add_73 (by decide) ?_
    refine lv_iadd hx hb dX3_add_74 ?_
    obtain ⟨h14, e9, hJ⟩ := rp_b hJ
    refine rp_put (ty := .int) X I e9 rfl wiX3 tyX3 tyX3_ok nmX3 (by decide) wm_144 rfl (by decide +kernel) rfl rfl dX3_add_75 (fun H locs I => ?_)
    refine lv_aload_n hx hb dX3_add_78 rfl (lv_at hl 1 rfl) ?_
    refine lv_dup hx hb dX3_add_79 rfl ?_
    obtain ⟨v15, e9, hJ⟩ := rp_b hJ
    obtain ⟨f9, g9, e9⟩ := fI_s e9
    refine rp_get X I g9 e9 rfl wiX3 (by decide) wm_145 dX3_add_80 ?_
    refine lv_iload_n hx hb dX3_add_83 rfl (lv_at hl 4 rfl) ?_
    refine lv_iload_n hx hb dX3_add_84 rfl (lv_at hl 3 rfl) ?_
    refine lv_isub hx hb dX3_add_85 ?_
    refine lv_iadd hx hb dX3_add_86 ?_
    obtain ⟨h16, e9, hJ⟩ := rp_b hJ
    refine rp_put (ty := .int) X I e9 rfl wiX3 tyX3 tyX3_ok nmX3 (by decide) wm_145 rfl (by decide +kernel) rfl rfl dX3_add_87 (fun H locs I => ?_)
    exact rp_vret X hr hJ I dX3_add_90
  · rw [if_neg c9] at hJ
    exact rp_vret X hr hJ I dX3_add_9
def rmX3_cell : Room := { frames := 0, cells := 0, slots := 0, locals := 0 }
def J_Rep_cell (N : Nat) (x0 : Nat) (x1 : Int32) (x2 : Int32) (h : Hp) : Option (Int32 × Hp) :=
  (fR h 3 x0 4).bind fun v1 =>
  (aI h 0 v1 ((x1 * (5 : Int32)) + x2)).bind fun v2 =>
  some (v2, h)
set_option maxHeartbeats 4000000 in
set_option maxRecDepth 100000 in
theorem c_Rep_cell {l : Launch} {D : va_G} {tys : List (ClassId × FieldType)} {A : Nat → Prop} (hT : tys.map (fun q => q.2) = tyS) {N : Nat} {x0 : Nat} {x1 : Int32} {x2 : Int32} {h : Hp} {res : (Int32 × Hp)} (hJ : J_Rep_cell N x0 x1 x2 h = some res) : Ct l D vwCl tys A yX3_cell (Cond.code yX3_cell cX3_cell 3 (some .int) :: wsG) rmX3_cell [.ref x0, .int x1, .int x2] h (some (.int res.1)) res.2 := by
  refine Met.ofW (cc := cX3_cell) (maxL := 3) (ret := (some .int)) (by decide) rfl ?_
  intro p e s m args below meth c s₁ B hml hv
  obtain ⟨rfl, hA, hR, hK, hN⟩ := hv
  have hr := B.returns
  have hts : ∀ w ∈ wsG, w.before [.ref x0, .int x1, .int x2].toArray s = true := fun w hw => atoms_spec (ws := Cond.code yX3_cell cX3_cell 3 (some .int) :: wsG) B.pre w (List.mem_cons_of_mem _ hw)
  have X : Cx p s m [.ref x0, .int x1, .int x2].toArray meth c D vwCl tys cX3_cell 3 RX3 wsG := ⟨⟨B.exec, B.bytes, hml, findClass_of_methodNamed B.named, hts⟩, hK, B.notSynchronized, hT⟩
  have hx := B.exec
  have hb := B.bytes
  have I : In D vwCl tys A s h s.heap [] := ⟨hR, va_S.rf, hA⟩
  have hl := lv_entry [.ref x0, .int x1, .int x2] (n := 3) (Nat.le_of_ble_eq_true rfl)
  rw [lg_entry_eq]
  generalize (lg_sl [.ref x0, .int x1, .int x2] ++ List.replicate (3 - (lg_sl [.ref x0, .int x1, .int x2]).length) Slot.unset).toArray = ls at hl ⊢
  have hl : lv_has ls 3 [(0, .ref x0), (1, .int x1), (2, .int x2)] := hl
  have ho := X.1.2.2.2.1
  rw [J_Rep_cell] at hJ
  refine lv_aload_n hx hb dX3_cell_0 rfl (lv_at hl 0 rfl) ?_
  obtain ⟨v1, e9, hJ⟩ := rp_b hJ
  obtain ⟨f9, g9, e9⟩ := fR_s e9
  refine rp_get X I g9 e9 rfl wiX3 (by decide) wm_147 dX3_cell_1 ?_
  refine lv_iload_n hx hb dX3_cell_4 rfl (lv_at hl 1 rfl) ?_
  refine lv_iconst (v := 5) hx hb dX3_cell_5 (by decide) ?_
  refine lv_imul hx hb dX3_cell_6 ?_
  refine lv_iload_n hx hb dX3_cell_7 rfl (lv_at hl 2 rfl) ?_
  refine lv_iadd hx hb dX3_cell_8 ?_
  obtain ⟨v2, e9, hJ⟩ := rp_b hJ
  refine rp_iald X I e9 rfl dX3_cell_9 ?_
  exact rp_iret X hr hJ I dX3_cell_10
def rmX4_init : Room := { frames := 1, cells := 2, slots := 81, locals := 20 }
def J_Round_init (N : Nat) (x0 : Nat) (h : Hp) : Option (Unit × Hp) :=
  (nI_ h 0 (40 : Int32)).bind fun q1 =>
  (sF q1.2 4 x0 0 (.ref q1.1)).bind fun h2 =>
  (nJ_ h2 2 (41 : Int32)).bind fun q3 =>
  (sF q3.2 4 x0 2 (.ref q3.1)).bind fun h4 =>
  some ((), h4)
set_option maxHeartbeats 4000000 in
set_option maxRecDepth 100000 in
theorem c_Round_init {l : Launch} {D : va_G} {tys : List (ClassId × FieldType)} {A : Nat → Prop} (hT : tys.map (fun q => q.2) = tyS) {N : Nat} {x0 : Nat} {h : Hp} {res : (Unit × Hp)} (hJ : J_Round_init N x0 h = some res) : Ct l D vwCl tys A yX4_init (Cond.code yX4_init cX4_init 1 none :: wsG) rmX4_init [.ref x0] h none res.2 := by
  refine Met.ofW (cc := cX4_init) (maxL := 1) (ret := none) (by decide) rfl ?_
  intro p e s m args below meth c s₁ B hml hv
  obtain ⟨rfl, hA, hR, hK, hN⟩ := hv
  have hr := B.returns
  have hts : ∀ w ∈ wsG, w.before [.ref x0].toArray s = true := fun w hw => atoms_spec (ws := Cond.code yX4_init cX4_init 1 none :: wsG) B.pre w (List.mem_cons_of_mem _ hw)
  have X : Cx p s m [.ref x0].toArray meth c D vwCl tys cX4_init 1 RX4 wsG := ⟨⟨B.exec, B.bytes, hml, findClass_of_methodNamed B.named, hts⟩, hK, B.notSynchronized, hT⟩
  have hinit : meth.name = "<init>" := (name_of_methodNamed B.named B.method).1
  have hx := B.exec
  have hb := B.bytes
  have I : In D vwCl tys A s h s.heap [] := ⟨hR, va_S.rf, hA⟩
  have hl := lv_entry [.ref x0] (n := 1) (Nat.le_of_ble_eq_true rfl)
  rw [lg_entry_eq]
  generalize (lg_sl [.ref x0] ++ List.replicate (1 - (lg_sl [.ref x0]).length) Slot.unset).toArray = ls at hl ⊢
  have hl : lv_has ls 1 [(0, .ref x0)] := hl
  have ho := X.1.2.2.2.1
  rw [J_Round_init] at hJ
  refine lv_aload_n hx hb dX4_init_0 rfl (lv_at hl 0 rfl) ?_
  refine W.objInit hx hb ho (hts _ wm_158) (hts _ wm_54) (hts _ wm_55) rfl (by rw [hml]; exact hl.1) rfl dX4_init_1 (Nat.le_of_ble_eq_true rfl) (Nat.le_of_ble_eq_true rfl) ?_
  refine W.eq (g2 := F0 m 4 ls []) rfl ?_
  refine lv_aload_n hx hb dX4_init_4 rfl (lv_at hl 0 rfl) ?_
  refine lv_bipush (v := 40) hx hb dX4_init_5 (by decide) ?_
  obtain ⟨q1, e9, hJ⟩ := rp_b hJ
  refine rp_newI (K := 40) (ty := .int) X I e9 (by decide) rfl rfl (by decide) wm_69 rfl (fun _ z => z) (Nat.le_of_ble_eq_true rfl) (Nat.le_of_ble_eq_true rfl) dX4_init_7 (fun H I => ?_)
  obtain ⟨h2, e9, hJ⟩ := rp_b hJ
  refine rp_putF (ty := (.array .int)) X I e9 rfl wiX4 tyX4 tyX4_ok nmX4 (by decide) wm_159 rfl hinit rfl (by decide +kernel) rfl rfl dX4_init_9 (fun H locs I => ?_)
  refine lv_aload_n hx hb dX4_init_12 rfl (lv_at hl 0 rfl) ?_
  refine lv_bipush (v := 41) hx hb dX4_init_13 (by decide) ?_
  obtain ⟨q3, e9, hJ⟩ := rp_b hJ
  refine rp_newJ (K := 41) (ty := .long) X I e9 (by decide) rfl rfl (by decide) wm_121 rfl (fun _ z => z) (Nat.le_of_ble_eq_true rfl) (Nat.le_of_ble_eq_true rfl) dX4_init_15 (fun H I => ?_)
  obtain ⟨h4, e9, hJ⟩ := rp_b hJ
  refine rp_putF (ty := (.array .long)) X I e9 rfl wiX4 tyX4 tyX4_ok nmX4 (by decide) wm_161 rfl hinit rfl (by decide +kernel) rfl rfl dX4_init_17 (fun H locs I => ?_)
  refine W.widen (k := 2) (n := 81) (Nat.le_of_ble_eq_true rfl) (Nat.le_of_ble_eq_true rfl) ?_
  exact rp_vret X hr hJ I dX4_init_20
def rmX4_measure : Room := { frames := 3, cells := 0, slots := 0, locals := 67 }
def J_Round_measure_12 (N : Nat)  : Nat → Nat → Int32 → Nat → Int32 → Hp → Option (Int32 × Hp)
  | 0, _, _, _, _, _ => none
  | n + 1, x0, x1, x2, x3, h =>
  if (40 : Int32) < x3 then
  (some ((0 : Int32), h))
  else
  ((fR h 4 x0 2).bind fun v4 =>
  (fR h 4 x0 2).bind fun v5 =>
  (aJ h 2 v5 (x3 - (1 : Int32))).bind fun v6 =>
  (isO h 2 x2).bind fun _ =>
  (J_Plan_waitingFor N x2 v6 h).bind fun q7 =>
 (sJ q7.2 2 v4 x3 q7.1).bind fun h8 =>
  (fR h8 4 x0 2).bind fun v9 =>
  (aJ h8 2 v9 x3).bind fun v10 =>
  (J_Desk_isIn N v10 x1 h8).bind fun q11 =>
 if q11.1 = 0 then
  ((J_Round_measure_12 N n) x0 x1 x2 (x3 + (1 : Int32)) q11.2)
  else
  (some (x3, q11.2)))
def J_Round_measure (N : Nat) (x0 : Nat) (x1 : Int32) (x2 : Nat) (h : Hp) : Option (Int32 × Hp) :=
  (fR h 4 x0 2).bind fun v1 =>
  (J_Desk_bit N x1 h).bind fun q2 =>
 (sJ q2.2 2 v1 (0 : Int32) q2.1).bind fun h3 =>
  J_Round_measure_12 N N x0 x1 x2 (1 : Int32) h3
set_option maxHeartbeats 4000000 in
set_option maxRecDepth 100000 in
theorem w_Round_measure_12 (X : Cx p s m args meth c D vwCl tys cX4_measure 4 RX4 wsG) (hN : nwS s) (hr : meth.sig.returnType = (some .int)) {res : (Int32 × Hp)} {N : Nat}   : ∀ (n : Nat) (x0 : Nat) (x1 : Int32) (x2 : Nat) (x3 : Int32)  (h : Hp) (H : Heap) (locs : List Loc) (ls : Array Slot), J_Round_measure_12 N n x0 x1 x2 x3 h = some res → In D vwCl tys A s h H locs → lv_has ls 4 [(0, .ref x0), (1, .int x1), (2, .ref x2), (3, .int x3)] → W p l e rmX4_measure s m args below meth c H locs 0 0 (MQ below (Qr D vwCl tys A (some (.int res.1)) res.2) args s 0 0 A) (F0 m 12 ls []) := by
  have hx := X.1.1
  have hb := X.1.2.1
  have hml := X.1.2.2.1
  have ho := X.1.2.2.2.1
  have hts := X.1.2.2.2.2
  have hK := X.2.1
  have hT := X.2.2.2
  intro n
  induction n with
  | zero =>
    intro x0 x1 x2 x3  h H locs ls hJ I hl
    exact nomatch (show (none : Option (Int32 × Hp)) = some res from hJ)
  | succ n k12 =>
    intro x0 x1 x2 x3  h H locs ls hJ I hl
    rw [J_Round_measure_12] at hJ
    refine lv_iload_n hx hb dX4_measure_12 rfl (lv_at hl 3 rfl) ?_
    refine lv_bipush (v := 40) hx hb dX4_measure_13 (by decide) ?_
    refine lv_icmp_gt (tgt := 57) hx hb dX4_measure_15 (by decide) (fun c9 => ?_) (fun c9 => ?_)
    · rw [if_pos c9] at hJ
      refine lv_iconst (v := 0) hx hb dX4_measure_57 (by decide) ?_
      exact rp_iret X hr hJ I dX4_measure_58
    · rw [if_neg c9] at hJ
      refine lv_aload_n hx hb dX4_measure_18 rfl (lv_at hl 0 rfl) ?_
      obtain ⟨v4, e9, hJ⟩ := rp_b hJ
      obtain ⟨f9, g9, e9⟩ := fR_s e9
      refine rp_get X I g9 e9 rfl wiX4 (by decide) wm_161 dX4_measure_19 ?_
      refine lv_iload_n hx hb dX4_measure_22 rfl (lv_at hl 3 rfl) ?_
      refine lv_aload_n hx hb dX4_measure_23 rfl (lv_at hl 2 rfl) ?_
      refine lv_aload_n hx hb dX4_measure_24 rfl (lv_at hl 0 rfl) ?_
      obtain ⟨v5, e9, hJ⟩ := rp_b hJ
      obtain ⟨f9, g9, e9⟩ := fR_s e9
      refine rp_get X I g9 e9 rfl wiX4 (by decide) wm_161 dX4_measure_25 ?_
      refine lv_iload_n hx hb dX4_measure_28 rfl (lv_at hl 3 rfl) ?_
      refine lv_iconst (v := 1) hx hb dX4_measure_29 (by decide) ?_
      refine lv_isub hx hb dX4_measure_30 ?_
      obtain ⟨v6, e9, hJ⟩ := rp_b hJ
      refine rp_lald X I e9 rfl dX4_measure_31 ?_
      obtain ⟨u9, i9, hJ⟩ := rp_b hJ
      obtain ⟨f9, i9⟩ := isO_s i9
      obtain ⟨q7, e9, hJ⟩ := rp_b hJ
      refine rp_callV (As := [.long v6]) (rest := [.int x3, .ref v4]) X hN I (c_Plan_waitingFor hT e9) (cwV 1 hts (gdV wm_368 wm_369 wm_370 wm_36 wm_371) rfl rfl rfl (by decide +kernel) ⟨Nat.le_of_ble_eq_true rfl, Nat.le_of_ble_eq_true rfl⟩) i9 rfl rfl hl.1 rfl (Nat.le_of_ble_eq_true rfl) dX4_measure_32 ⟨(Nat.le_of_ble_eq_true rfl), (Nat.le_of_ble_eq_true rfl)⟩ (fun H locs I => ?_)
      refine W.cs (cells' := 0) (slots' := 0) rfl rfl ?_
      obtain ⟨h8, e9, hJ⟩ := rp_b hJ
      refine rp_last X I e9 rfl dX4_measure_35 (fun H locs I => ?_)
      refine lv_aload_n hx hb dX4_measure_36 rfl (lv_at hl 0 rfl) ?_
      obtain ⟨v9, e9, hJ⟩ := rp_b hJ
      obtain ⟨f9, g9, e9⟩ := fR_s e9
      refine rp_get X I g9 e9 rfl wiX4 (by decide) wm_161 dX4_measure_37 ?_
      refine lv_iload_n hx hb dX4_measure_40 rfl (lv_at hl 3 rfl) ?_
      obtain ⟨v10, e9, hJ⟩ := rp_b hJ
      refine rp_lald X I e9 rfl dX4_measure_41 ?_
      refine lv_iload_n hx hb dX4_measure_42 rfl (lv_at hl 1 rfl) ?_
      obtain ⟨q11, e9, hJ⟩ := rp_b hJ
      refine rp_callSN (As := [.long v10, .int x1]) (rest := []) X hN I (c_Desk_isIn hT e9) ⟨(va_cnB (host := "BuildDesk") 2 hts (gdC wm_354) rfl rfl rfl (hN.1 _ (by decide +kernel)) (hts _ wm_33) (by decide +kernel) ⟨Nat.le_of_ble_eq_true rfl, Nat.le_of_ble_eq_true rfl⟩), hts _ wm_353, trivial⟩ rfl hl.1 rfl (Nat.le_of_ble_eq_true rfl) dX4_measure_43 ⟨(Nat.le_of_ble_eq_true rfl), (Nat.le_of_ble_eq_true rfl)⟩ (fun H locs I => ?_)
      refine W.cs (cells' := 0) (slots' := 0) rfl rfl ?_
      refine lv_if_eq (tgt := 51) hx hb dX4_measure_46 (by decide) (fun c9 => ?_) (fun c9 => ?_)
      · rw [if_pos c9] at hJ
        refine lv_iinc (v := (x3 + (1 : Int32))) (lv' := [(3, .int (x3 + (1 : Int32))), (0, .ref x0), (1, .int x1), (2, .ref x2)]) hx hb dX4_measure_51 hl (k := 3) rfl rfl (by decide) rfl (fun ls hl => ?_)
        refine lv_goto (tgt := 12) hx hb dX4_measure_54 (by decide) ?_
        exact k12 _ _ _ _ _ _ _ _ hJ I (lv_sub hl [1, 2, 3, 0] rfl)
      · rw [if_neg c9] at hJ
        refine lv_iload_n hx hb dX4_measure_49 rfl (lv_at hl 3 rfl) ?_
        exact rp_iret X hr hJ I dX4_measure_50
set_option maxHeartbeats 4000000 in
set_option maxRecDepth 100000 in
theorem c_Round_measure {l : Launch} {D : va_G} {tys : List (ClassId × FieldType)} {A : Nat → Prop} (hT : tys.map (fun q => q.2) = tyS) {N : Nat} {x0 : Nat} {x1 : Int32} {x2 : Nat} {h : Hp} {res : (Int32 × Hp)} (hJ : J_Round_measure N x0 x1 x2 h = some res) : Ct l D vwCl tys A yX4_measure (Cond.code yX4_measure cX4_measure 4 (some .int) :: wsG) rmX4_measure [.ref x0, .int x1, .ref x2] h (some (.int res.1)) res.2 := by
  refine Met.ofW (cc := cX4_measure) (maxL := 4) (ret := (some .int)) (by decide) rfl ?_
  intro p e s m args below meth c s₁ B hml hv
  obtain ⟨rfl, hA, hR, hK, hN⟩ := hv
  have hr := B.returns
  have hts : ∀ w ∈ wsG, w.before [.ref x0, .int x1, .ref x2].toArray s = true := fun w hw => atoms_spec (ws := Cond.code yX4_measure cX4_measure 4 (some .int) :: wsG) B.pre w (List.mem_cons_of_mem _ hw)
  have X : Cx p s m [.ref x0, .int x1, .ref x2].toArray meth c D vwCl tys cX4_measure 4 RX4 wsG := ⟨⟨B.exec, B.bytes, hml, findClass_of_methodNamed B.named, hts⟩, hK, B.notSynchronized, hT⟩
  have hx := B.exec
  have hb := B.bytes
  have I : In D vwCl tys A s h s.heap [] := ⟨hR, va_S.rf, hA⟩
  have hl := lv_entry [.ref x0, .int x1, .ref x2] (n := 4) (Nat.le_of_ble_eq_true rfl)
  rw [lg_entry_eq]
  generalize (lg_sl [.ref x0, .int x1, .ref x2] ++ List.replicate (4 - (lg_sl [.ref x0, .int x1, .ref x2]).length) Slot.unset).toArray = ls at hl ⊢
  have hl : lv_has ls 4 [(0, .ref x0), (1, .int x1), (2, .ref x2)] := hl
  have ho := X.1.2.2.2.1
  rw [J_Round_measure] at hJ
  refine lv_aload_n hx hb dX4_measure_0 rfl (lv_at hl 0 rfl) ?_
  obtain ⟨v1, e9, hJ⟩ := rp_b hJ
  obtain ⟨f9, g9, e9⟩ := fR_s e9
  refine rp_get X I g9 e9 rfl wiX4 (by decide) wm_161 dX4_measure_1 ?_
  refine lv_iconst (v := 0) hx hb dX4_measure_4 (by decide) ?_
  refine lv_iload_n hx hb dX4_measure_5 rfl (lv_at hl 1 rfl) ?_
  obtain ⟨q2, e9, hJ⟩ := rp_b hJ
  refine rp_callSN (As := [.int x1]) (rest := [.int (0 : Int32), .ref v1]) X hN I (c_Desk_bit hT e9) ⟨(va_cnB (host := "BuildDesk") 1 hts (gdC wm_352) rfl rfl rfl (hN.1 _ (by decide +kernel)) (hts _ wm_33) (by decide +kernel) ⟨Nat.le_of_ble_eq_true rfl, Nat.le_of_ble_eq_true rfl⟩), hts _ wm_351, trivial⟩ rfl hl.1 rfl (Nat.le_of_ble_eq_true rfl) dX4_measure_6 ⟨(Nat.le_of_ble_eq_true rfl), (Nat.le_of_ble_eq_true rfl)⟩ (fun H locs I => ?_)
  refine W.cs (cells' := 0) (slots' := 0) rfl rfl ?_
  obtain ⟨h3, e9, hJ⟩ := rp_b hJ
  refine rp_last X I e9 rfl dX4_measure_9 (fun H locs I => ?_)
  refine lv_iconst (v := 1) hx hb dX4_measure_10 (by decide) ?_
  refine lv_istore_n (lv' := [(3, .int (1 : Int32)), (0, .ref x0), (1, .int x1), (2, .ref x2)]) hx hb dX4_measure_11 rfl hl (by decide) rfl (fun ls hl => ?_)
  exact w_Round_measure_12 X hN hr N _ _ _ _ _ _ _ _ hJ I (lv_sub hl [1, 2, 3, 0] rfl)
def rmX4_least : Room := { frames := 2, cells := 0, slots := 0, locals := 42 }
def J_Round_least_2 (N : Nat)  : Nat → Int64 → Int32 → Int32 → Hp → Option (Int32 × Hp)
  | 0, _, _, _, _ => none
  | n + 1, x0, x2, x3, h =>
  if (40 : Int32) ≤ x3 then
  (some (x2, h))
  else
  ((J_Desk_isIn N x0 x3 h).bind fun q1 =>
 if q1.1 = 0 then
  ((J_Round_least_2 N n) x0 x2 (x3 + (1 : Int32)) q1.2)
  else
  (some (x3, q1.2)))
def J_Round_least (N : Nat) (x0 : Int64) (x2 : Int32) (h : Hp) : Option (Int32 × Hp) :=
  J_Round_least_2 N N x0 x2 (0 : Int32) h
set_option maxHeartbeats 4000000 in
set_option maxRecDepth 100000 in
theorem w_Round_least_2 (X : Cx p s m args meth c D vwCl tys cX4_least 4 RX4 wsG) (hN : nwS s) (hr : meth.sig.returnType = (some .int)) {res : (Int32 × Hp)} {N : Nat}   : ∀ (n : Nat) (x0 : Int64) (x2 : Int32) (x3 : Int32)  (h : Hp) (H : Heap) (locs : List Loc) (ls : Array Slot), J_Round_least_2 N n x0 x2 x3 h = some res → In D vwCl tys A s h H locs → lv_has ls 4 [(0, .long x0), (2, .int x2), (3, .int x3)] → W p l e rmX4_least s m args below meth c H locs 0 0 (MQ below (Qr D vwCl tys A (some (.int res.1)) res.2) args s 0 0 A) (F0 m 2 ls []) := by
  have hx := X.1.1
  have hb := X.1.2.1
  have hml := X.1.2.2.1
  have ho := X.1.2.2.2.1
  have hts := X.1.2.2.2.2
  have hK := X.2.1
  have hT := X.2.2.2
  intro n
  induction n with
  | zero =>
    intro x0 x2 x3  h H locs ls hJ I hl
    exact nomatch (show (none : Option (Int32 × Hp)) = some res from hJ)
  | succ n k2 =>
    intro x0 x2 x3  h H locs ls hJ I hl
    rw [J_Round_least_2] at hJ
    refine lv_iload_n hx hb dX4_least_2 rfl (lv_at hl 2 rfl) ?_
    refine lv_bipush (v := 40) hx hb dX4_least_3 (by decide) ?_
    refine lv_icmp_ge (tgt := 24) hx hb dX4_least_5 (by decide) (fun c9 => ?_) (fun c9 => ?_)
    · rw [if_pos c9] at hJ
      refine lv_iload_n hx hb dX4_least_24 rfl (lv_at hl 1 rfl) ?_
      exact rp_iret X hr hJ I dX4_least_25
    · rw [if_neg c9] at hJ
      refine lv_lload_n hx hb dX4_least_8 rfl (lv_at hl 0 rfl) ?_
      refine lv_iload_n hx hb dX4_least_9 rfl (lv_at hl 2 rfl) ?_
      obtain ⟨q1, e9, hJ⟩ := rp_b hJ
      refine rp_callSN (As := [.long x0, .int x3]) (rest := []) X hN I (c_Desk_isIn hT e9) ⟨(va_cnB (host := "BuildDesk") 2 hts (gdC wm_354) rfl rfl rfl (hN.1 _ (by decide +kernel)) (hts _ wm_33) (by decide +kernel) ⟨Nat.le_of_ble_eq_true rfl, Nat.le_of_ble_eq_true rfl⟩), hts _ wm_353, trivial⟩ rfl hl.1 rfl (Nat.le_of_ble_eq_true rfl) dX4_least_10 ⟨(Nat.le_of_ble_eq_true rfl), (Nat.le_of_ble_eq_true rfl)⟩ (fun H locs I => ?_)
      refine W.cs (cells' := 0) (slots' := 0) rfl rfl ?_
      refine lv_if_eq (tgt := 18) hx hb dX4_least_13 (by decide) (fun c9 => ?_) (fun c9 => ?_)
      · rw [if_pos c9] at hJ
        refine lv_iinc (v := (x3 + (1 : Int32))) (lv' := [(3, .int (x3 + (1 : Int32))), (0, .long x0), (2, .int x2)]) hx hb dX4_least_18 hl (k := 2) rfl rfl (by decide) rfl (fun ls hl => ?_)
        refine lv_goto (tgt := 2) hx hb dX4_least_21 (by decide) ?_
        exact k2 _ _ _ _ _ _ _ hJ I (lv_sub hl [1, 2, 0] rfl)
      · rw [if_neg c9] at hJ
        refine lv_iload_n hx hb dX4_least_16 rfl (lv_at hl 2 rfl) ?_
        exact rp_iret X hr hJ I dX4_least_17
set_option maxHeartbeats 4000000 in
set_option maxRecDepth 100000 in
theorem c_Round_least {l : Launch} {D : va_G} {tys : List (ClassId × FieldType)} {A : Nat → Prop} (hT : tys.map (fun q => q.2) = tyS) {N : Nat} {x0 : Int64} {x2 : Int32} {h : Hp} {res : (Int32 × Hp)} (hJ : J_Round_least N x0 x2 h = some res) : Ct l D vwCl tys A yX4_least (Cond.code yX4_least cX4_least 4 (some .int) :: wsG) rmX4_least [.long x0, .int x2] h (some (.int res.1)) res.2 := by
  refine Met.ofW (cc := cX4_least) (maxL := 4) (ret := (some .int)) (by decide) rfl ?_
  intro p e s m args below meth c s₁ B hml hv
  obtain ⟨rfl, hA, hR, hK, hN⟩ := hv
  have hr := B.returns
  have hts : ∀ w ∈ wsG, w.before [.long x0, .int x2].toArray s = true := fun w hw => atoms_spec (ws := Cond.code yX4_least cX4_least 4 (some .int) :: wsG) B.pre w (List.mem_cons_of_mem _ hw)
  have X : Cx p s m [.long x0, .int x2].toArray meth c D vwCl tys cX4_least 4 RX4 wsG := ⟨⟨B.exec, B.bytes, hml, findClass_of_methodNamed B.named, hts⟩, hK, B.notSynchronized, hT⟩
  have hx := B.exec
  have hb := B.bytes
  have I : In D vwCl tys A s h s.heap [] := ⟨hR, va_S.rf, hA⟩
  have hl := lv_entry [.long x0, .int x2] (n := 4) (Nat.le_of_ble_eq_true rfl)
  rw [lg_entry_eq]
  generalize (lg_sl [.long x0, .int x2] ++ List.replicate (4 - (lg_sl [.long x0, .int x2]).length) Slot.unset).toArray = ls at hl ⊢
  have hl : lv_has ls 4 [(0, .long x0), (2, .int x2)] := hl
  have ho := X.1.2.2.2.1
  rw [J_Round_least] at hJ
  refine lv_iconst (v := 0) hx hb dX4_least_0 (by decide) ?_
  refine lv_istore_n (lv' := [(3, .int (0 : Int32)), (0, .long x0), (2, .int x2)]) hx hb dX4_least_1 rfl hl (by decide) rfl (fun ls hl => ?_)
  exact w_Round_least_2 X hN hr N _ _ _ _ _ _ _ hJ I (lv_sub hl [1, 2, 0] rfl)
def rmX4_walk : Room := { frames := 3, cells := 0, slots := 0, locals := 65 }
def J_Round_walk_6 (N : Nat)  : Nat → Nat → Int32 → Int32 → Nat → Int32 → Int32 → Hp → Option (Unit × Hp)
  | 0, _, _, _, _, _, _, _ => none
  | n + 1, x0, x1, x2, x3, x4, x5, h =>
  if x2 ≤ x5 then
  ((sF h 4 x0 1 (.int x2)).bind fun h1 =>
  some ((), h1))
  else
  (if (40 : Int32) ≤ x5 then
  ((sF h 4 x0 1 (.int x2)).bind fun h2 =>
  some ((), h2))
  else
  ((fR h 4 x0 0).bind fun v3 =>
  (sI h 0 v3 x5 x4).bind fun h4 =>
  (fR h4 2 x3 0).bind fun v5 =>
  (aJ h4 2 v5 x4).bind fun v6 =>
  (fR h4 4 x0 2).bind fun v7 =>
  (aJ h4 2 v7 ((x2 - x5) - (1 : Int32))).bind fun v8 =>
  (J_Round_least N (v6 &&& v8) x1 h4).bind fun q9 =>
 (J_Round_walk_6 N n) x0 x1 x2 x3 q9.1 (x5 + (1 : Int32)) q9.2))
def J_Round_walk (N : Nat) (x0 : Nat) (x1 : Int32) (x2 : Int32) (x3 : Nat) (h : Hp) : Option (Unit × Hp) :=
  J_Round_walk_6 N N x0 x1 x2 x3 x1 (0 : Int32) h
set_option maxHeartbeats 4000000 in
set_option maxRecDepth 100000 in
theorem w_Round_walk_6 (X : Cx p s m args meth c D vwCl tys cX4_walk 6 RX4 wsG) (hN : nwS s) (hr : meth.sig.returnType = none) {res : (Unit × Hp)} {N : Nat}   : ∀ (n : Nat) (x0 : Nat) (x1 : Int32) (x2 : Int32) (x3 : Nat) (x4 : Int32) (x5 : Int32)  (h : Hp) (H : Heap) (locs : List Loc) (ls : Array Slot), J_Round_walk_6 N n x0 x1 x2 x3 x4 x5 h = some res → In D vwCl tys A s h H locs → lv_has ls 6 [(0, .ref x0), (1, .int x1), (2, .int x2), (3, .ref x3), (4, .int x4), (5, .int x5)] → W p l e rmX4_walk s m args below meth c H locs 0 0 (MQ below (Qr D vwCl tys A none res.2) args s 0 0 A) (F0 m 6 ls []) := by
  have hx := X.1.1
  have hb := X.1.2.1
  have hml := X.1.2.2.1
  have ho := X.1.2.2.2.1
  have hts := X.1.2.2.2.2
  have hK := X.2.1
  have hT := X.2.2.2
  intro n
  induction n with
  | zero =>
    intro x0 x1 x2 x3 x4 x5  h H locs ls hJ I hl
    exact nomatch (show (none : Option (Unit × Hp)) = some res from hJ)
  | succ n k6 =>
    intro x0 x1 x2 x3 x4 x5  h H locs ls hJ I hl
    rw [J_Round_walk_6] at hJ
    refine lv_iload hx hb dX4_walk_6 (lv_at hl 5 rfl) ?_
    refine lv_iload_n hx hb dX4_walk_8 rfl (lv_at hl 2 rfl) ?_
    refine lv_icmp_ge (tgt := 59) hx hb dX4_walk_9 (by decide) (fun c9 => ?_) (fun c9 => ?_)
    · rw [if_pos c9] at hJ
      refine lv_aload_n hx hb dX4_walk_59 rfl (lv_at hl 0 rfl) ?_
      refine lv_iload_n hx hb dX4_walk_60 rfl (lv_at hl 2 rfl) ?_
      obtain ⟨h1, e9, hJ⟩ := rp_b hJ
      refine rp_put (ty := .int) X I e9 rfl wiX4 tyX4 tyX4_ok nmX4 (by decide) wm_160 rfl (by decide +kernel) rfl rfl dX4_walk_61 (fun H locs I => ?_)
      exact rp_vret X hr hJ I dX4_walk_64
    · rw [if_neg c9] at hJ
      refine lv_iload hx hb dX4_walk_12 (lv_at hl 5 rfl) ?_
      refine lv_bipush (v := 40) hx hb dX4_walk_14 (by decide) ?_
      refine lv_icmp_ge (tgt := 59) hx hb dX4_walk_16 (by decide) (fun c9 => ?_) (fun c9 => ?_)
      · rw [if_pos c9] at hJ
        refine lv_aload_n hx hb dX4_walk_59 rfl (lv_at hl 0 rfl) ?_
        refine lv_iload_n hx hb dX4_walk_60 rfl (lv_at hl 2 rfl) ?_
        obtain ⟨h2, e9, hJ⟩ := rp_b hJ
        refine rp_put (ty := .int) X I e9 rfl wiX4 tyX4 tyX4_ok nmX4 (by decide) wm_160 rfl (by decide +kernel) rfl rfl dX4_walk_61 (fun H locs I => ?_)
        exact rp_vret X hr hJ I dX4_walk_64
      · rw [if_neg c9] at hJ
        refine lv_aload_n hx hb dX4_walk_19 rfl (lv_at hl 0 rfl) ?_
        obtain ⟨v3, e9, hJ⟩ := rp_b hJ
        obtain ⟨f9, g9, e9⟩ := fR_s e9
        refine rp_get X I g9 e9 rfl wiX4 (by decide) wm_159 dX4_walk_20 ?_
        refine lv_iload hx hb dX4_walk_23 (lv_at hl 5 rfl) ?_
        refine lv_iload hx hb dX4_walk_25 (lv_at hl 4 rfl) ?_
        obtain ⟨h4, e9, hJ⟩ := rp_b hJ
        refine rp_iast X I e9 rfl dX4_walk_27 (fun H locs I => ?_)
        refine lv_aload_n hx hb dX4_walk_28 rfl (lv_at hl 3 rfl) ?_
        obtain ⟨v5, e9, hJ⟩ := rp_b hJ
        obtain ⟨f9, g9, e9⟩ := fR_s e9
        refine rp_getN (host := "BuildDesk") X I g9 e9 rfl wiX2 (by decide) (hN.1 _ (by decide +kernel)) dX4_walk_29 ?_
        refine lv_iload hx hb dX4_walk_32 (lv_at hl 4 rfl) ?_
        obtain ⟨v6, e9, hJ⟩ := rp_b hJ
        refine rp_lald X I e9 rfl dX4_walk_34 ?_
        refine lv_aload_n hx hb dX4_walk_35 rfl (lv_at hl 0 rfl) ?_
        obtain ⟨v7, e9, hJ⟩ := rp_b hJ
        obtain ⟨f9, g9, e9⟩ := fR_s e9
        refine rp_get X I g9 e9 rfl wiX4 (by decide) wm_161 dX4_walk_36 ?_
        refine lv_iload_n hx hb dX4_walk_39 rfl (lv_at hl 2 rfl) ?_
        refine lv_iload hx hb dX4_walk_40 (lv_at hl 5 rfl) ?_
        refine lv_isub hx hb dX4_walk_42 ?_
        refine lv_iconst (v := 1) hx hb dX4_walk_43 (by decide) ?_
        refine lv_isub hx hb dX4_walk_44 ?_
        obtain ⟨v8, e9, hJ⟩ := rp_b hJ
        refine rp_lald X I e9 rfl dX4_walk_45 ?_
        refine lv_land hx hb dX4_walk_46 ?_
        refine lv_iload_n hx hb dX4_walk_47 rfl (lv_at hl 1 rfl) ?_
        obtain ⟨q9, e9, hJ⟩ := rp_b hJ
        refine rp_callS (As := [.long (v6 &&& v8), .int x1]) (rest := []) X hN I (c_Round_least hT e9) (cwS 2 hts (gdS wm_375 wm_376 wm_39 wm_377) rfl rfl rfl (by decide +kernel) ⟨Nat.le_of_ble_eq_true rfl, Nat.le_of_ble_eq_true rfl⟩) rfl hl.1 rfl (Nat.le_of_ble_eq_true rfl) dX4_walk_48 ⟨(Nat.le_of_ble_eq_true rfl), (Nat.le_of_ble_eq_true rfl)⟩ (fun H locs I => ?_)
        refine W.cs (cells' := 0) (slots' := 0) rfl rfl ?_
        refine lv_istore (lv' := [(4, .int q9.1), (0, .ref x0), (1, .int x1), (2, .int x2), (3, .ref x3), (5, .int x5)]) hx hb dX4_walk_51 hl (by decide) rfl (fun ls hl => ?_)
        refine lv_iinc (v := (x5 + (1 : Int32))) (lv' := [(5, .int (x5 + (1 : Int32))), (4, .int q9.1), (0, .ref x0), (1, .int x1), (2, .int x2), (3, .ref x3)]) hx hb dX4_walk_53 hl (k := 5) rfl rfl (by decide) rfl (fun ls hl => ?_)
        refine lv_goto (tgt := 6) hx hb dX4_walk_56 (by decide) ?_
        exact k6 _ _ _ _ _ _ _ _ _ _ hJ I (lv_sub hl [2, 3, 4, 5, 1, 0] rfl)
set_option maxHeartbeats 4000000 in
set_option maxRecDepth 100000 in
theorem c_Round_walk {l : Launch} {D : va_G} {tys : List (ClassId × FieldType)} {A : Nat → Prop} (hT : tys.map (fun q => q.2) = tyS) {N : Nat} {x0 : Nat} {x1 : Int32} {x2 : Int32} {x3 : Nat} {h : Hp} {res : (Unit × Hp)} (hJ : J_Round_walk N x0 x1 x2 x3 h = some res) : Ct l D vwCl tys A yX4_walk (Cond.code yX4_walk cX4_walk 6 none :: wsG) rmX4_walk [.ref x0, .int x1, .int x2, .ref x3] h none res.2 := by
  refine Met.ofW (cc := cX4_walk) (maxL := 6) (ret := none) (by decide) rfl ?_
  intro p e s m args below meth c s₁ B hml hv
  obtain ⟨rfl, hA, hR, hK, hN⟩ := hv
  have hr := B.returns
  have hts : ∀ w ∈ wsG, w.before [.ref x0, .int x1, .int x2, .ref x3].toArray s = true := fun w hw => atoms_spec (ws := Cond.code yX4_walk cX4_walk 6 none :: wsG) B.pre w (List.mem_cons_of_mem _ hw)
  have X : Cx p s m [.ref x0, .int x1, .int x2, .ref x3].toArray meth c D vwCl tys cX4_walk 6 RX4 wsG := ⟨⟨B.exec, B.bytes, hml, findClass_of_methodNamed B.named, hts⟩, hK, B.notSynchronized, hT⟩
  have hx := B.exec
  have hb := B.bytes
  have I : In D vwCl tys A s h s.heap [] := ⟨hR, va_S.rf, hA⟩
  have hl := lv_entry [.ref x0, .int x1, .int x2, .ref x3] (n := 6) (Nat.le_of_ble_eq_true rfl)
  rw [lg_entry_eq]
  generalize (lg_sl [.ref x0, .int x1, .int x2, .ref x3] ++ List.replicate (6 - (lg_sl [.ref x0, .int x1, .int x2, .ref x3]).length) Slot.unset).toArray = ls at hl ⊢
  have hl : lv_has ls 6 [(0, .ref x0), (1, .int x1), (2, .int x2), (3, .ref x3)] := hl
  have ho := X.1.2.2.2.1
  rw [J_Round_walk] at hJ
  refine lv_iload_n hx hb dX4_walk_0 rfl (lv_at hl 1 rfl) ?_
  refine lv_istore (lv' := [(4, .int x1), (0, .ref x0), (1, .int x1), (2, .int x2), (3, .ref x3)]) hx hb dX4_walk_1 hl (by decide) rfl (fun ls hl => ?_)
  refine lv_iconst (v := 0) hx hb dX4_walk_3 (by decide) ?_
  refine lv_istore (lv' := [(5, .int (0 : Int32)), (4, .int x1), (0, .ref x0), (1, .int x1), (2, .int x2), (3, .ref x3)]) hx hb dX4_walk_4 hl (by decide) rfl (fun ls hl => ?_)
  exact w_Round_walk_6 X hN hr N _ _ _ _ _ _ _ _ _ _ hJ I (lv_sub hl [2, 3, 4, 5, 1, 0] rfl)
def rmX4_find : Room := { frames := 4, cells := 0, slots := 0, locals := 90 }
def J_Round_find_2 (N : Nat)  : Nat → Nat → Nat → Int32 → Hp → Option (Unit × Hp)
  | 0, _, _, _, _ => none
  | n + 1, x0, x1, x2, h =>
  if (40 : Int32) ≤ x2 then
  (some ((), h))
  else
  ((fJ h 2 x1 4).bind fun v1 =>
  (J_Desk_isIn N v1 x2 h).bind fun q2 =>
 if q2.1 = 0 then
  ((J_Round_find_2 N n) x0 x1 (x2 + (1 : Int32)) q2.2)
  else
  ((isO q2.2 4 x0).bind fun _ =>
  (J_Round_measure N x0 x2 x1 q2.2).bind fun q3 =>
 if q3.1 ≤ 0 then
  ((J_Round_find_2 N n) x0 x1 (x2 + (1 : Int32)) q3.2)
  else
  ((isO q3.2 4 x0).bind fun _ =>
  (J_Round_walk N x0 x2 q3.1 x1 q3.2).bind fun q4 =>
 some ((), q4.2))))
def J_Round_find (N : Nat) (x0 : Nat) (x1 : Nat) (h : Hp) : Option (Unit × Hp) :=
  J_Round_find_2 N N x0 x1 (0 : Int32) h
set_option maxHeartbeats 4000000 in
set_option maxRecDepth 100000 in
theorem w_Round_find_2 (X : Cx p s m args meth c D vwCl tys cX4_find 4 RX4 wsG) (hN : nwS s) (hr : meth.sig.returnType = none) {res : (Unit × Hp)} {N : Nat}   : ∀ (n : Nat) (x0 : Nat) (x1 : Nat) (x2 : Int32)  (h : Hp) (H : Heap) (locs : List Loc) (ls : Array Slot), J_Round_find_2 N n x0 x1 x2 h = some res → In D vwCl tys A s h H locs → lv_has ls 4 [(0, .ref x0), (1, .ref x1), (2, .int x2)] → W p l e rmX4_find s m args below meth c H locs 0 0 (MQ below (Qr D vwCl tys A none res.2) args s 0 0 A) (F0 m 2 ls []) := by
  have hx := X.1.1
  have hb := X.1.2.1
  have hml := X.1.2.2.1
  have ho := X.1.2.2.2.1
  have hts := X.1.2.2.2.2
  have hK := X.2.1
  have hT := X.2.2.2
  intro n
  induction n with
  | zero =>
    intro x0 x1 x2  h H locs ls hJ I hl
    exact nomatch (show (none : Option (Unit × Hp)) = some res from hJ)
  | succ n k2 =>
    intro x0 x1 x2  h H locs ls hJ I hl
    rw [J_Round_find_2] at hJ
    refine lv_iload_n hx hb dX4_find_2 rfl (lv_at hl 2 rfl) ?_
    refine lv_bipush (v := 40) hx hb dX4_find_3 (by decide) ?_
    refine lv_icmp_ge (tgt := 44) hx hb dX4_find_5 (by decide) (fun c9 => ?_) (fun c9 => ?_)
    · rw [if_pos c9] at hJ
      exact rp_vret X hr hJ I dX4_find_44
    · rw [if_neg c9] at hJ
      refine lv_aload_n hx hb dX4_find_8 rfl (lv_at hl 1 rfl) ?_
      obtain ⟨v1, e9, hJ⟩ := rp_b hJ
      obtain ⟨f9, g9, e9⟩ := fJ_s e9
      refine rp_getN (host := "BuildDesk") X I g9 e9 rfl wiX2 (by decide) (hN.1 _ (by decide +kernel)) dX4_find_9 ?_
      refine lv_iload_n hx hb dX4_find_12 rfl (lv_at hl 2 rfl) ?_
      obtain ⟨q2, e9, hJ⟩ := rp_b hJ
      refine rp_callSN (As := [.long v1, .int x2]) (rest := []) X hN I (c_Desk_isIn hT e9) ⟨(va_cnB (host := "BuildDesk") 2 hts (gdC wm_354) rfl rfl rfl (hN.1 _ (by decide +kernel)) (hts _ wm_33) (by decide +kernel) ⟨Nat.le_of_ble_eq_true rfl, Nat.le_of_ble_eq_true rfl⟩), hts _ wm_353, trivial⟩ rfl hl.1 rfl (Nat.le_of_ble_eq_true rfl) dX4_find_13 ⟨(Nat.le_of_ble_eq_true rfl), (Nat.le_of_ble_eq_true rfl)⟩ (fun H locs I => ?_)
      refine W.cs (cells' := 0) (slots' := 0) rfl rfl ?_
      refine lv_if_eq (tgt := 38) hx hb dX4_find_16 (by decide) (fun c9 => ?_) (fun c9 => ?_)
      · rw [if_pos c9] at hJ
        refine lv_iinc (v := (x2 + (1 : Int32))) (lv' := [(2, .int (x2 + (1 : Int32))), (0, .ref x0), (1, .ref x1)]) hx hb dX4_find_38 hl (k := 2) rfl rfl (by decide) rfl (fun ls hl => ?_)
        refine lv_goto (tgt := 2) hx hb dX4_find_41 (by decide) ?_
        exact k2 _ _ _ _ _ _ _ hJ I (lv_sub hl [1, 2, 0] rfl)
      · rw [if_neg c9] at hJ
        refine lv_aload_n hx hb dX4_find_19 rfl (lv_at hl 0 rfl) ?_
        refine lv_iload_n hx hb dX4_find_20 rfl (lv_at hl 2 rfl) ?_
        refine lv_aload_n hx hb dX4_find_21 rfl (lv_at hl 1 rfl) ?_
        obtain ⟨u9, i9, hJ⟩ := rp_b hJ
        obtain ⟨f9, i9⟩ := isO_s i9
        obtain ⟨q3, e9, hJ⟩ := rp_b hJ
        refine rp_callV (As := [.int x2, .ref x1]) (rest := []) X hN I (c_Round_measure hT e9) (cwV 2 hts (gdV wm_365 wm_366 wm_7 wm_39 wm_367) rfl rfl rfl (by decide +kernel) ⟨Nat.le_of_ble_eq_true rfl, Nat.le_of_ble_eq_true rfl⟩) i9 rfl rfl hl.1 rfl (Nat.le_of_ble_eq_true rfl) dX4_find_22 ⟨(Nat.le_of_ble_eq_true rfl), (Nat.le_of_ble_eq_true rfl)⟩ (fun H locs I => ?_)
        refine W.cs (cells' := 0) (slots' := 0) rfl rfl ?_
        refine lv_istore_n (lv' := [(3, .int q3.1), (0, .ref x0), (1, .ref x1), (2, .int x2)]) hx hb dX4_find_25 rfl hl (by decide) rfl (fun ls hl => ?_)
        refine lv_iload_n hx hb dX4_find_26 rfl (lv_at hl 0 rfl) ?_
        refine lv_if_le (tgt := 38) hx hb dX4_find_27 (by decide) (fun c9 => ?_) (fun c9 => ?_)
        · rw [if_pos c9] at hJ
          refine lv_iinc (v := (x2 + (1 : Int32))) (lv' := [(2, .int (x2 + (1 : Int32))), (3, .int q3.1), (0, .ref x0), (1, .ref x1)]) hx hb dX4_find_38 hl (k := 3) rfl rfl (by decide) rfl (fun ls hl => ?_)
          refine lv_goto (tgt := 2) hx hb dX4_find_41 (by decide) ?_
          exact k2 _ _ _ _ _ _ _ hJ I (lv_sub hl [2, 3, 0] rfl)
        · rw [if_neg c9] at hJ
          refine lv_aload_n hx hb dX4_find_30 rfl (lv_at hl 1 rfl) ?_
          refine lv_iload_n hx hb dX4_find_31 rfl (lv_at hl 3 rfl) ?_
          refine lv_iload_n hx hb dX4_find_32 rfl (lv_at hl 0 rfl) ?_
          refine lv_aload_n hx hb dX4_find_33 rfl (lv_at hl 2 rfl) ?_
          obtain ⟨u9, i9, hJ⟩ := rp_b hJ
          obtain ⟨f9, i9⟩ := isO_s i9
          obtain ⟨q4, e9, hJ⟩ := rp_b hJ
          refine rp_callV (As := [.int x2, .int q3.1, .ref x1]) (rest := []) X hN I (c_Round_walk hT e9) (cwV 3 hts (gdV wm_372 wm_373 wm_8 wm_39 wm_374) rfl rfl rfl (by decide +kernel) ⟨Nat.le_of_ble_eq_true rfl, Nat.le_of_ble_eq_true rfl⟩) i9 rfl rfl hl.1 rfl (Nat.le_of_ble_eq_true rfl) dX4_find_34 ⟨(Nat.le_of_ble_eq_true rfl), (Nat.le_of_ble_eq_true rfl)⟩ (fun H locs I => ?_)
          refine W.cs (cells' := 0) (slots' := 0) rfl rfl ?_
          exact rp_vret X hr hJ I dX4_find_37
set_option maxHeartbeats 4000000 in
set_option maxRecDepth 100000 in
theorem c_Round_find {l : Launch} {D : va_G} {tys : List (ClassId × FieldType)} {A : Nat → Prop} (hT : tys.map (fun q => q.2) = tyS) {N : Nat} {x0 : Nat} {x1 : Nat} {h : Hp} {res : (Unit × Hp)} (hJ : J_Round_find N x0 x1 h = some res) : Ct l D vwCl tys A yX4_find (Cond.code yX4_find cX4_find 4 none :: wsG) rmX4_find [.ref x0, .ref x1] h none res.2 := by
  refine Met.ofW (cc := cX4_find) (maxL := 4) (ret := none) (by decide) rfl ?_
  intro p e s m args below meth c s₁ B hml hv
  obtain ⟨rfl, hA, hR, hK, hN⟩ := hv
  have hr := B.returns
  have hts : ∀ w ∈ wsG, w.before [.ref x0, .ref x1].toArray s = true := fun w hw => atoms_spec (ws := Cond.code yX4_find cX4_find 4 none :: wsG) B.pre w (List.mem_cons_of_mem _ hw)
  have X : Cx p s m [.ref x0, .ref x1].toArray meth c D vwCl tys cX4_find 4 RX4 wsG := ⟨⟨B.exec, B.bytes, hml, findClass_of_methodNamed B.named, hts⟩, hK, B.notSynchronized, hT⟩
  have hx := B.exec
  have hb := B.bytes
  have I : In D vwCl tys A s h s.heap [] := ⟨hR, va_S.rf, hA⟩
  have hl := lv_entry [.ref x0, .ref x1] (n := 4) (Nat.le_of_ble_eq_true rfl)
  rw [lg_entry_eq]
  generalize (lg_sl [.ref x0, .ref x1] ++ List.replicate (4 - (lg_sl [.ref x0, .ref x1]).length) Slot.unset).toArray = ls at hl ⊢
  have hl : lv_has ls 4 [(0, .ref x0), (1, .ref x1)] := hl
  have ho := X.1.2.2.2.1
  rw [J_Round_find] at hJ
  refine lv_iconst (v := 0) hx hb dX4_find_0 (by decide) ?_
  refine lv_istore_n (lv' := [(2, .int (0 : Int32)), (0, .ref x0), (1, .ref x1)]) hx hb dX4_find_1 rfl hl (by decide) rfl (fun ls hl => ?_)
  exact w_Round_find_2 X hN hr N _ _ _ _ _ _ _ hJ I (lv_sub hl [1, 2, 0] rfl)
end GW
