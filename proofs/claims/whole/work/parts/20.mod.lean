section GW
variable {p : Program} {l : Launch} {e : Env} {s : State} {m : MethodId} {args : Array Value} {below : List Frame} {meth : Method} {c : Code} {D : va_G} {tys : List (ClassId × FieldType)} {A : Nat → Prop}
def rmX7_thrown : Room := { frames := 0, cells := 0, slots := 0, locals := 0 }
def J_Mod_thrown (N : Nat) (x0 : Nat) (h : Hp) : Option (Int32 × Hp) :=
  (fI h 7 x0 0).bind fun v1 =>
  some (v1, h)
set_option maxHeartbeats 4000000 in
set_option maxRecDepth 100000 in
theorem c_Mod_thrown {l : Launch} {D : va_G} {tys : List (ClassId × FieldType)} {A : Nat → Prop} (hT : tys.map (fun q => q.2) = tyS) {N : Nat} {x0 : Nat} {h : Hp} {res : (Int32 × Hp)} (hJ : J_Mod_thrown N x0 h = some res) : Ct l D vwCl tys A yX7_thrown (Cond.code yX7_thrown cX7_thrown 1 (some .int) :: wsG) rmX7_thrown [.ref x0] h (some (.int res.1)) res.2 := by
  refine Met.ofW (cc := cX7_thrown) (maxL := 1) (ret := (some .int)) (by decide) rfl ?_
  intro p e s m args below meth c s₁ B hml hv
  obtain ⟨rfl, hA, hR, hK, hN⟩ := hv
  have hr := B.returns
  have hts : ∀ w ∈ wsG, w.before [.ref x0].toArray s = true := fun w hw => atoms_spec (ws := Cond.code yX7_thrown cX7_thrown 1 (some .int) :: wsG) B.pre w (List.mem_cons_of_mem _ hw)
  have X : Cx p s m [.ref x0].toArray meth c D vwCl tys cX7_thrown 1 RX7 wsG := ⟨⟨B.exec, B.bytes, hml, findClass_of_methodNamed B.named, hts⟩, hK, B.notSynchronized, hT⟩
  have hx := B.exec
  have hb := B.bytes
  have I : In D vwCl tys A s h s.heap [] := ⟨hR, va_S.rf, hA⟩
  have hl := lv_entry [.ref x0] (n := 1) (Nat.le_of_ble_eq_true rfl)
  rw [lg_entry_eq]
  generalize (lg_sl [.ref x0] ++ List.replicate (1 - (lg_sl [.ref x0]).length) Slot.unset).toArray = ls at hl ⊢
  have hl : lv_has ls 1 [(0, .ref x0)] := hl
  have ho := X.1.2.2.2.1
  rw [J_Mod_thrown] at hJ
  refine lv_aload_n hx hb dX7_thrown_0 rfl (lv_at hl 0 rfl) ?_
  obtain ⟨v1, e9, hJ⟩ := rp_b hJ
  obtain ⟨f9, g9, e9⟩ := fI_s e9
  refine rp_get X I g9 e9 rfl wiX7 (by decide) wm_533 dX7_thrown_1 ?_
  exact rp_iret X hr hJ I dX7_thrown_4
def rmX7_raise : Room := { frames := 0, cells := 0, slots := 0, locals := 0 }
def J_Mod_raise (N : Nat) (x0 : Nat) (x1 : Int32) (h : Hp) : Option (Int32 × Hp) :=
  (sF h 7 x0 0 (.int x1)).bind fun h1 =>
  some ((0 : Int32), h1)
set_option maxHeartbeats 4000000 in
set_option maxRecDepth 100000 in
theorem c_Mod_raise {l : Launch} {D : va_G} {tys : List (ClassId × FieldType)} {A : Nat → Prop} (hT : tys.map (fun q => q.2) = tyS) {N : Nat} {x0 : Nat} {x1 : Int32} {h : Hp} {res : (Int32 × Hp)} (hJ : J_Mod_raise N x0 x1 h = some res) : Ct l D vwCl tys A yX7_raise (Cond.code yX7_raise cX7_raise 2 (some .int) :: wsG) rmX7_raise [.ref x0, .int x1] h (some (.int res.1)) res.2 := by
  refine Met.ofW (cc := cX7_raise) (maxL := 2) (ret := (some .int)) (by decide) rfl ?_
  intro p e s m args below meth c s₁ B hml hv
  obtain ⟨rfl, hA, hR, hK, hN⟩ := hv
  have hr := B.returns
  have hts : ∀ w ∈ wsG, w.before [.ref x0, .int x1].toArray s = true := fun w hw => atoms_spec (ws := Cond.code yX7_raise cX7_raise 2 (some .int) :: wsG) B.pre w (List.mem_cons_of_mem _ hw)
  have X : Cx p s m [.ref x0, .int x1].toArray meth c D vwCl tys cX7_raise 2 RX7 wsG := ⟨⟨B.exec, B.bytes, hml, findClass_of_methodNamed B.named, hts⟩, hK, B.notSynchronized, hT⟩
  have hx := B.exec
  have hb := B.bytes
  have I : In D vwCl tys A s h s.heap [] := ⟨hR, va_S.rf, hA⟩
  have hl := lv_entry [.ref x0, .int x1] (n := 2) (Nat.le_of_ble_eq_true rfl)
  rw [lg_entry_eq]
  generalize (lg_sl [.ref x0, .int x1] ++ List.replicate (2 - (lg_sl [.ref x0, .int x1]).length) Slot.unset).toArray = ls at hl ⊢
  have hl : lv_has ls 2 [(0, .ref x0), (1, .int x1)] := hl
  have ho := X.1.2.2.2.1
  rw [J_Mod_raise] at hJ
  refine lv_aload_n hx hb dX7_raise_0 rfl (lv_at hl 0 rfl) ?_
  refine lv_iload_n hx hb dX7_raise_1 rfl (lv_at hl 1 rfl) ?_
  obtain ⟨h1, e9, hJ⟩ := rp_b hJ
  refine rp_put (ty := .int) X I e9 rfl wiX7 tyX7 tyX7_ok nmX7 (by decide) wm_533 rfl (by decide +kernel) rfl rfl dX7_raise_2 (fun H locs I => ?_)
  refine lv_iconst (v := 0) hx hb dX7_raise_5 (by decide) ?_
  exact rp_iret X hr hJ I dX7_raise_6
def rmX7_isFile : Room := { frames := 0, cells := 0, slots := 0, locals := 0 }
def J_Mod_isFile_14 (N : Nat)    (h : Hp) : Option (Int32 × Hp) :=
  some ((0 : Int32), h)
def J_Mod_isFile (N : Nat) (x0 : Int32) (h : Hp) : Option (Int32 × Hp) :=
  if x0 < 0 then
  (J_Mod_isFile_14 N h)
  else
  (if (64 : Int32) ≤ x0 then
  (J_Mod_isFile_14 N h)
  else
  (some ((1 : Int32), h)))
set_option maxHeartbeats 4000000 in
set_option maxRecDepth 100000 in
theorem w_Mod_isFile_14 (X : Cx p s m args meth c D vwCl tys cX7_isFile 1 RX7 wsG) (hN : nwS s) (hr : meth.sig.returnType = (some .boolean)) {res : (Int32 × Hp)} {N : Nat}   : ∀   (h : Hp) (H : Heap) (locs : List Loc) (ls : Array Slot), J_Mod_isFile_14 N h = some res → In D vwCl tys A s h H locs → lv_has ls 1 [] → W p l e rmX7_isFile s m args below meth c H locs 0 0 (MQ below (Qr D vwCl tys A (some (.int res.1)) res.2) args s 0 0 A) (F0 m 14 ls []) := by
  have hx := X.1.1
  have hb := X.1.2.1
  have hml := X.1.2.2.1
  have ho := X.1.2.2.2.1
  have hts := X.1.2.2.2.2
  have hK := X.2.1
  have hT := X.2.2.2
  intro   h H locs ls hJ I hl
  rw [J_Mod_isFile_14] at hJ
  refine lv_iconst (v := 0) hx hb dX7_isFile_14 (by decide) ?_
  exact rp_zret X hr (Or.inl rfl) hJ I dX7_isFile_15
set_option maxHeartbeats 4000000 in
set_option maxRecDepth 100000 in
theorem c_Mod_isFile {l : Launch} {D : va_G} {tys : List (ClassId × FieldType)} {A : Nat → Prop} (hT : tys.map (fun q => q.2) = tyS) {N : Nat} {x0 : Int32} {h : Hp} {res : (Int32 × Hp)} (hJ : J_Mod_isFile N x0 h = some res) : Ct l D vwCl tys A yX7_isFile (Cond.code yX7_isFile cX7_isFile 1 (some .boolean) :: wsG) rmX7_isFile [.int x0] h (some (.int res.1)) res.2 := by
  refine Met.ofW (cc := cX7_isFile) (maxL := 1) (ret := (some .boolean)) (by decide) rfl ?_
  intro p e s m args below meth c s₁ B hml hv
  obtain ⟨rfl, hA, hR, hK, hN⟩ := hv
  have hr := B.returns
  have hts : ∀ w ∈ wsG, w.before [.int x0].toArray s = true := fun w hw => atoms_spec (ws := Cond.code yX7_isFile cX7_isFile 1 (some .boolean) :: wsG) B.pre w (List.mem_cons_of_mem _ hw)
  have X : Cx p s m [.int x0].toArray meth c D vwCl tys cX7_isFile 1 RX7 wsG := ⟨⟨B.exec, B.bytes, hml, findClass_of_methodNamed B.named, hts⟩, hK, B.notSynchronized, hT⟩
  have hx := B.exec
  have hb := B.bytes
  have I : In D vwCl tys A s h s.heap [] := ⟨hR, va_S.rf, hA⟩
  have hl := lv_entry [.int x0] (n := 1) (Nat.le_of_ble_eq_true rfl)
  rw [lg_entry_eq]
  generalize (lg_sl [.int x0] ++ List.replicate (1 - (lg_sl [.int x0]).length) Slot.unset).toArray = ls at hl ⊢
  have hl : lv_has ls 1 [(0, .int x0)] := hl
  have ho := X.1.2.2.2.1
  rw [J_Mod_isFile] at hJ
  refine lv_iload_n hx hb dX7_isFile_0 rfl (lv_at hl 0 rfl) ?_
  refine lv_if_lt (tgt := 14) hx hb dX7_isFile_1 (by decide) (fun c9 => ?_) (fun c9 => ?_)
  · rw [if_pos c9] at hJ
    exact w_Mod_isFile_14 X hN hr _ _ _ _ hJ I (lv_sub hl [] rfl)
  · rw [if_neg c9] at hJ
    refine lv_iload_n hx hb dX7_isFile_4 rfl (lv_at hl 0 rfl) ?_
    refine lv_bipush (v := 64) hx hb dX7_isFile_5 (by decide) ?_
    refine lv_icmp_ge (tgt := 14) hx hb dX7_isFile_7 (by decide) (fun c9 => ?_) (fun c9 => ?_)
    · rw [if_pos c9] at hJ
      exact w_Mod_isFile_14 X hN hr _ _ _ _ hJ I (lv_sub hl [] rfl)
    · rw [if_neg c9] at hJ
      refine lv_iconst (v := 1) hx hb dX7_isFile_10 (by decide) ?_
      refine lv_goto (tgt := 15) hx hb dX7_isFile_11 (by decide) ?_
      exact rp_zret X hr (Or.inr rfl) hJ I dX7_isFile_15
def rmX7_isStep : Room := { frames := 0, cells := 0, slots := 0, locals := 0 }
def J_Mod_isStep_23 (N : Nat)    (h : Hp) : Option (Int32 × Hp) :=
  some ((0 : Int32), h)
def J_Mod_isStep (N : Nat) (x0 : Nat) (x1 : Int32) (h : Hp) : Option (Int32 × Hp) :=
  if x1 < 0 then
  (J_Mod_isStep_23 N h)
  else
  (if (40 : Int32) ≤ x1 then
  (J_Mod_isStep_23 N h)
  else
  ((fR h 7 x0 4).bind fun v1 =>
  (aI h 1 v1 x1).bind fun v2 =>
  if v2 = 0 then
  (J_Mod_isStep_23 N h)
  else
  (some ((1 : Int32), h))))
set_option maxHeartbeats 4000000 in
set_option maxRecDepth 100000 in
theorem w_Mod_isStep_23 (X : Cx p s m args meth c D vwCl tys cX7_isStep 2 RX7 wsG) (hN : nwS s) (hr : meth.sig.returnType = (some .boolean)) {res : (Int32 × Hp)} {N : Nat}   : ∀   (h : Hp) (H : Heap) (locs : List Loc) (ls : Array Slot), J_Mod_isStep_23 N h = some res → In D vwCl tys A s h H locs → lv_has ls 2 [] → W p l e rmX7_isStep s m args below meth c H locs 0 0 (MQ below (Qr D vwCl tys A (some (.int res.1)) res.2) args s 0 0 A) (F0 m 23 ls []) := by
  have hx := X.1.1
  have hb := X.1.2.1
  have hml := X.1.2.2.1
  have ho := X.1.2.2.2.1
  have hts := X.1.2.2.2.2
  have hK := X.2.1
  have hT := X.2.2.2
  intro   h H locs ls hJ I hl
  rw [J_Mod_isStep_23] at hJ
  refine lv_iconst (v := 0) hx hb dX7_isStep_23 (by decide) ?_
  exact rp_zret X hr (Or.inl rfl) hJ I dX7_isStep_24
set_option maxHeartbeats 4000000 in
set_option maxRecDepth 100000 in
theorem c_Mod_isStep {l : Launch} {D : va_G} {tys : List (ClassId × FieldType)} {A : Nat → Prop} (hT : tys.map (fun q => q.2) = tyS) {N : Nat} {x0 : Nat} {x1 : Int32} {h : Hp} {res : (Int32 × Hp)} (hJ : J_Mod_isStep N x0 x1 h = some res) : Ct l D vwCl tys A yX7_isStep (Cond.code yX7_isStep cX7_isStep 2 (some .boolean) :: wsG) rmX7_isStep [.ref x0, .int x1] h (some (.int res.1)) res.2 := by
  refine Met.ofW (cc := cX7_isStep) (maxL := 2) (ret := (some .boolean)) (by decide) rfl ?_
  intro p e s m args below meth c s₁ B hml hv
  obtain ⟨rfl, hA, hR, hK, hN⟩ := hv
  have hr := B.returns
  have hts : ∀ w ∈ wsG, w.before [.ref x0, .int x1].toArray s = true := fun w hw => atoms_spec (ws := Cond.code yX7_isStep cX7_isStep 2 (some .boolean) :: wsG) B.pre w (List.mem_cons_of_mem _ hw)
  have X : Cx p s m [.ref x0, .int x1].toArray meth c D vwCl tys cX7_isStep 2 RX7 wsG := ⟨⟨B.exec, B.bytes, hml, findClass_of_methodNamed B.named, hts⟩, hK, B.notSynchronized, hT⟩
  have hx := B.exec
  have hb := B.bytes
  have I : In D vwCl tys A s h s.heap [] := ⟨hR, va_S.rf, hA⟩
  have hl := lv_entry [.ref x0, .int x1] (n := 2) (Nat.le_of_ble_eq_true rfl)
  rw [lg_entry_eq]
  generalize (lg_sl [.ref x0, .int x1] ++ List.replicate (2 - (lg_sl [.ref x0, .int x1]).length) Slot.unset).toArray = ls at hl ⊢
  have hl : lv_has ls 2 [(0, .ref x0), (1, .int x1)] := hl
  have ho := X.1.2.2.2.1
  rw [J_Mod_isStep] at hJ
  refine lv_iload_n hx hb dX7_isStep_0 rfl (lv_at hl 1 rfl) ?_
  refine lv_if_lt (tgt := 23) hx hb dX7_isStep_1 (by decide) (fun c9 => ?_) (fun c9 => ?_)
  · rw [if_pos c9] at hJ
    exact w_Mod_isStep_23 X hN hr _ _ _ _ hJ I (lv_sub hl [] rfl)
  · rw [if_neg c9] at hJ
    refine lv_iload_n hx hb dX7_isStep_4 rfl (lv_at hl 1 rfl) ?_
    refine lv_bipush (v := 40) hx hb dX7_isStep_5 (by decide) ?_
    refine lv_icmp_ge (tgt := 23) hx hb dX7_isStep_7 (by decide) (fun c9 => ?_) (fun c9 => ?_)
    · rw [if_pos c9] at hJ
      exact w_Mod_isStep_23 X hN hr _ _ _ _ hJ I (lv_sub hl [] rfl)
    · rw [if_neg c9] at hJ
      refine lv_aload_n hx hb dX7_isStep_10 rfl (lv_at hl 0 rfl) ?_
      obtain ⟨v1, e9, hJ⟩ := rp_b hJ
      obtain ⟨f9, g9, e9⟩ := fR_s e9
      refine rp_get X I g9 e9 rfl wiX7 (by decide) wm_537 dX7_isStep_11 ?_
      refine lv_iload_n hx hb dX7_isStep_14 rfl (lv_at hl 1 rfl) ?_
      obtain ⟨v2, e9, hJ⟩ := rp_b hJ
      refine rp_zald X I e9 rfl dX7_isStep_15 ?_
      refine lv_if_eq (tgt := 23) hx hb dX7_isStep_16 (by decide) (fun c9 => ?_) (fun c9 => ?_)
      · rw [if_pos c9] at hJ
        exact w_Mod_isStep_23 X hN hr _ _ _ _ hJ I (lv_sub hl [] rfl)
      · rw [if_neg c9] at hJ
        refine lv_iconst (v := 1) hx hb dX7_isStep_19 (by decide) ?_
        refine lv_goto (tgt := 24) hx hb dX7_isStep_20 (by decide) ?_
        exact rp_zret X hr (Or.inr rfl) hJ I dX7_isStep_24
def rmX7_step : Room := { frames := 0, cells := 0, slots := 0, locals := 0 }
def J_Mod_step_67 (N : Nat)  (x0 : Nat) (x1 : Int32) (x2 : Int32) (x3 : Int32) (x4 : Int32)  (h : Hp) : Option (Int32 × Hp) :=
  (fR h 7 x0 5).bind fun v4 =>
  (sI h 0 v4 x1 x2).bind fun h5 =>
  (fR h5 7 x0 6).bind fun v6 =>
  (sI h5 0 v6 x1 x3).bind fun h7 =>
  (fR h7 7 x0 7).bind fun v8 =>
  (sI h7 0 v8 x1 x4).bind fun h9 =>
  some ((1 : Int32), h9)
def J_Mod_step (N : Nat) (x0 : Nat) (x1 : Int32) (x2 : Int32) (x3 : Int32) (x4 : Int32) (h : Hp) : Option (Int32 × Hp) :=
  (sF h 7 x0 0 (.int (0 : Int32))).bind fun h1 =>
  if x1 < 0 then
  (some ((0 : Int32), h1))
  else
  (if (40 : Int32) ≤ x1 then
  (some ((0 : Int32), h1))
  else
  (if x4 < (1 : Int32) then
  (some ((0 : Int32), h1))
  else
  (if x4 ≤ (100 : Int32) then
  ((fR h1 7 x0 4).bind fun v2 =>
  (aI h1 1 v2 x1).bind fun v3 =>
  if v3 = 0 then
  ((fR h1 7 x0 4).bind fun v10 =>
  (sB h1 1 v10 x1 (1 : Int32)).bind fun h11 =>
  (fR h11 7 x0 8).bind fun v12 =>
  (sI h11 0 v12 x1 (0 : Int32)).bind fun h13 =>
  (fR h13 7 x0 9).bind fun v14 =>
  (sI h13 0 v14 x1 (0 : Int32)).bind fun h15 =>
  (fR h15 7 x0 12).bind fun v16 =>
  (sB h15 1 v16 x1 (0 : Int32)).bind fun h17 =>
  J_Mod_step_67 N x0 x1 x2 x3 x4 h17)
  else
  (J_Mod_step_67 N x0 x1 x2 x3 x4 h1))
  else
  (some ((0 : Int32), h1)))))
set_option maxHeartbeats 4000000 in
set_option maxRecDepth 100000 in
theorem w_Mod_step_67 (X : Cx p s m args meth c D vwCl tys cX7_step 5 RX7 wsG) (hN : nwS s) (hr : meth.sig.returnType = (some .boolean)) {res : (Int32 × Hp)} {N : Nat}   : ∀ (x0 : Nat) (x1 : Int32) (x2 : Int32) (x3 : Int32) (x4 : Int32)  (h : Hp) (H : Heap) (locs : List Loc) (ls : Array Slot), J_Mod_step_67 N x0 x1 x2 x3 x4 h = some res → In D vwCl tys A s h H locs → lv_has ls 5 [(0, .ref x0), (1, .int x1), (2, .int x2), (3, .int x3), (4, .int x4)] → W p l e rmX7_step s m args below meth c H locs 0 0 (MQ below (Qr D vwCl tys A (some (.int res.1)) res.2) args s 0 0 A) (F0 m 67 ls []) := by
  have hx := X.1.1
  have hb := X.1.2.1
  have hml := X.1.2.2.1
  have ho := X.1.2.2.2.1
  have hts := X.1.2.2.2.2
  have hK := X.2.1
  have hT := X.2.2.2
  intro x0 x1 x2 x3 x4  h H locs ls hJ I hl
  rw [J_Mod_step_67] at hJ
  refine lv_aload_n hx hb dX7_step_67 rfl (lv_at hl 0 rfl) ?_
  obtain ⟨v4, e9, hJ⟩ := rp_b hJ
  obtain ⟨f9, g9, e9⟩ := fR_s e9
  refine rp_get X I g9 e9 rfl wiX7 (by decide) wm_538 dX7_step_68 ?_
  refine lv_iload_n hx hb dX7_step_71 rfl (lv_at hl 1 rfl) ?_
  refine lv_iload_n hx hb dX7_step_72 rfl (lv_at hl 2 rfl) ?_
  obtain ⟨h5, e9, hJ⟩ := rp_b hJ
  refine rp_iast X I e9 rfl dX7_step_73 (fun H locs I => ?_)
  refine lv_aload_n hx hb dX7_step_74 rfl (lv_at hl 0 rfl) ?_
  obtain ⟨v6, e9, hJ⟩ := rp_b hJ
  obtain ⟨f9, g9, e9⟩ := fR_s e9
  refine rp_get X I g9 e9 rfl wiX7 (by decide) wm_539 dX7_step_75 ?_
  refine lv_iload_n hx hb dX7_step_78 rfl (lv_at hl 1 rfl) ?_
  refine lv_iload_n hx hb dX7_step_79 rfl (lv_at hl 3 rfl) ?_
  obtain ⟨h7, e9, hJ⟩ := rp_b hJ
  refine rp_iast X I e9 rfl dX7_step_80 (fun H locs I => ?_)
  refine lv_aload_n hx hb dX7_step_81 rfl (lv_at hl 0 rfl) ?_
  obtain ⟨v8, e9, hJ⟩ := rp_b hJ
  obtain ⟨f9, g9, e9⟩ := fR_s e9
  refine rp_get X I g9 e9 rfl wiX7 (by decide) wm_540 dX7_step_82 ?_
  refine lv_iload_n hx hb dX7_step_85 rfl (lv_at hl 1 rfl) ?_
  refine lv_iload hx hb dX7_step_86 (lv_at hl 4 rfl) ?_
  obtain ⟨h9, e9, hJ⟩ := rp_b hJ
  refine rp_iast X I e9 rfl dX7_step_88 (fun H locs I => ?_)
  refine lv_iconst (v := 1) hx hb dX7_step_89 (by decide) ?_
  exact rp_zret X hr (Or.inr rfl) hJ I dX7_step_90
set_option maxHeartbeats 4000000 in
set_option maxRecDepth 100000 in
theorem c_Mod_step {l : Launch} {D : va_G} {tys : List (ClassId × FieldType)} {A : Nat → Prop} (hT : tys.map (fun q => q.2) = tyS) {N : Nat} {x0 : Nat} {x1 : Int32} {x2 : Int32} {x3 : Int32} {x4 : Int32} {h : Hp} {res : (Int32 × Hp)} (hJ : J_Mod_step N x0 x1 x2 x3 x4 h = some res) : Ct l D vwCl tys A yX7_step (Cond.code yX7_step cX7_step 5 (some .boolean) :: wsG) rmX7_step [.ref x0, .int x1, .int x2, .int x3, .int x4] h (some (.int res.1)) res.2 := by
  refine Met.ofW (cc := cX7_step) (maxL := 5) (ret := (some .boolean)) (by decide) rfl ?_
  intro p e s m args below meth c s₁ B hml hv
  obtain ⟨rfl, hA, hR, hK, hN⟩ := hv
  have hr := B.returns
  have hts : ∀ w ∈ wsG, w.before [.ref x0, .int x1, .int x2, .int x3, .int x4].toArray s = true := fun w hw => atoms_spec (ws := Cond.code yX7_step cX7_step 5 (some .boolean) :: wsG) B.pre w (List.mem_cons_of_mem _ hw)
  have X : Cx p s m [.ref x0, .int x1, .int x2, .int x3, .int x4].toArray meth c D vwCl tys cX7_step 5 RX7 wsG := ⟨⟨B.exec, B.bytes, hml, findClass_of_methodNamed B.named, hts⟩, hK, B.notSynchronized, hT⟩
  have hx := B.exec
  have hb := B.bytes
  have I : In D vwCl tys A s h s.heap [] := ⟨hR, va_S.rf, hA⟩
  have hl := lv_entry [.ref x0, .int x1, .int x2, .int x3, .int x4] (n := 5) (Nat.le_of_ble_eq_true rfl)
  rw [lg_entry_eq]
  generalize (lg_sl [.ref x0, .int x1, .int x2, .int x3, .int x4] ++ List.replicate (5 - (lg_sl [.ref x0, .int x1, .int x2, .int x3, .int x4]).length) Slot.unset).toArray = ls at hl ⊢
  have hl : lv_has ls 5 [(0, .ref x0), (1, .int x1), (2, .int x2), (3, .int x3), (4, .int x4)] := hl
  have ho := X.1.2.2.2.1
  rw [J_Mod_step] at hJ
  refine lv_aload_n hx hb dX7_step_0 rfl (lv_at hl 0 rfl) ?_
  refine lv_iconst (v := 0) hx hb dX7_step_1 (by decide) ?_
  obtain ⟨h1, e9, hJ⟩ := rp_b hJ
  refine rp_put (ty := .int) X I e9 rfl wiX7 tyX7 tyX7_ok nmX7 (by decide) wm_533 rfl (by decide +kernel) rfl rfl dX7_step_2 (fun H locs I => ?_)
  refine lv_iload_n hx hb dX7_step_5 rfl (lv_at hl 1 rfl) ?_
  refine lv_if_lt (tgt := 28) hx hb dX7_step_6 (by decide) (fun c9 => ?_) (fun c9 => ?_)
  · rw [if_pos c9] at hJ
    refine lv_iconst (v := 0) hx hb dX7_step_28 (by decide) ?_
    exact rp_zret X hr (Or.inl rfl) hJ I dX7_step_29
  · rw [if_neg c9] at hJ
    refine lv_iload_n hx hb dX7_step_9 rfl (lv_at hl 1 rfl) ?_
    refine lv_bipush (v := 40) hx hb dX7_step_10 (by decide) ?_
    refine lv_icmp_ge (tgt := 28) hx hb dX7_step_12 (by decide) (fun c9 => ?_) (fun c9 => ?_)
    · rw [if_pos c9] at hJ
      refine lv_iconst (v := 0) hx hb dX7_step_28 (by decide) ?_
      exact rp_zret X hr (Or.inl rfl) hJ I dX7_step_29
    · rw [if_neg c9] at hJ
      refine lv_iload hx hb dX7_step_15 (lv_at hl 4 rfl) ?_
      refine lv_iconst (v := 1) hx hb dX7_step_17 (by decide) ?_
      refine lv_icmp_lt (tgt := 28) hx hb dX7_step_18 (by decide) (fun c9 => ?_) (fun c9 => ?_)
      · rw [if_pos c9] at hJ
        refine lv_iconst (v := 0) hx hb dX7_step_28 (by decide) ?_
        exact rp_zret X hr (Or.inl rfl) hJ I dX7_step_29
      · rw [if_neg c9] at hJ
        refine lv_iload hx hb dX7_step_21 (lv_at hl 4 rfl) ?_
        refine lv_bipush (v := 100) hx hb dX7_step_23 (by decide) ?_
        refine lv_icmp_le (tgt := 30) hx hb dX7_step_25 (by decide) (fun c9 => ?_) (fun c9 => ?_)
        · rw [if_pos c9] at hJ
          refine lv_aload_n hx hb dX7_step_30 rfl (lv_at hl 0 rfl) ?_
          obtain ⟨v2, e9, hJ⟩ := rp_b hJ
          obtain ⟨f9, g9, e9⟩ := fR_s e9
          refine rp_get X I g9 e9 rfl wiX7 (by decide) wm_537 dX7_step_31 ?_
          refine lv_iload_n hx hb dX7_step_34 rfl (lv_at hl 1 rfl) ?_
          obtain ⟨v3, e9, hJ⟩ := rp_b hJ
          refine rp_zald X I e9 rfl dX7_step_35 ?_
          refine lv_if_ne (tgt := 67) hx hb dX7_step_36 (by decide) (fun c9 => ?_) (fun c9 => ?_)
          · rw [if_neg c9] at hJ
            exact w_Mod_step_67 X hN hr _ _ _ _ _ _ _ _ _ hJ I (lv_sub hl [0, 1, 2, 3, 4] rfl)
          · rw [if_pos c9] at hJ
            refine lv_aload_n hx hb dX7_step_39 rfl (lv_at hl 0 rfl) ?_
            obtain ⟨v10, e9, hJ⟩ := rp_b hJ
            obtain ⟨f9, g9, e9⟩ := fR_s e9
            refine rp_get X I g9 e9 rfl wiX7 (by decide) wm_537 dX7_step_40 ?_
            refine lv_iload_n hx hb dX7_step_43 rfl (lv_at hl 1 rfl) ?_
            refine lv_iconst (v := 1) hx hb dX7_step_44 (by decide) ?_
            obtain ⟨h11, e9, hJ⟩ := rp_b hJ
            refine rp_zast X I e9 rfl dX7_step_45 (fun H locs I => ?_)
            refine lv_aload_n hx hb dX7_step_46 rfl (lv_at hl 0 rfl) ?_
            obtain ⟨v12, e9, hJ⟩ := rp_b hJ
            obtain ⟨f9, g9, e9⟩ := fR_s e9
            refine rp_get X I g9 e9 rfl wiX7 (by decide) wm_541 dX7_step_47 ?_
            refine lv_iload_n hx hb dX7_step_50 rfl (lv_at hl 1 rfl) ?_
            refine lv_iconst (v := 0) hx hb dX7_step_51 (by decide) ?_
            obtain ⟨h13, e9, hJ⟩ := rp_b hJ
            refine rp_iast X I e9 rfl dX7_step_52 (fun H locs I => ?_)
            refine lv_aload_n hx hb dX7_step_53 rfl (lv_at hl 0 rfl) ?_
            obtain ⟨v14, e9, hJ⟩ := rp_b hJ
            obtain ⟨f9, g9, e9⟩ := fR_s e9
            refine rp_get X I g9 e9 rfl wiX7 (by decide) wm_542 dX7_step_54 ?_
            refine lv_iload_n hx hb dX7_step_57 rfl (lv_at hl 1 rfl) ?_
            refine lv_iconst (v := 0) hx hb dX7_step_58 (by decide) ?_
            obtain ⟨h15, e9, hJ⟩ := rp_b hJ
            refine rp_iast X I e9 rfl dX7_step_59 (fun H locs I => ?_)
            refine lv_aload_n hx hb dX7_step_60 rfl (lv_at hl 0 rfl) ?_
            obtain ⟨v16, e9, hJ⟩ := rp_b hJ
            obtain ⟨f9, g9, e9⟩ := fR_s e9
            refine rp_get X I g9 e9 rfl wiX7 (by decide) wm_545 dX7_step_61 ?_
            refine lv_iload_n hx hb dX7_step_64 rfl (lv_at hl 1 rfl) ?_
            refine lv_iconst (v := 0) hx hb dX7_step_65 (by decide) ?_
            obtain ⟨h17, e9, hJ⟩ := rp_b hJ
            refine rp_zast X I e9 rfl dX7_step_66 (fun H locs I => ?_)
            exact w_Mod_step_67 X hN hr _ _ _ _ _ _ _ _ _ hJ I (lv_sub hl [0, 1, 2, 3, 4] rfl)
        · rw [if_neg c9] at hJ
          refine lv_iconst (v := 0) hx hb dX7_step_28 (by decide) ?_
          exact rp_zret X hr (Or.inl rfl) hJ I dX7_step_29
def rmX7_input : Room := { frames := 1, cells := 0, slots := 0, locals := 21 }
def J_Mod_input (N : Nat) (x0 : Nat) (x1 : Int32) (x2 : Int32) (h : Hp) : Option (Int32 × Hp) :=
  (sF h 7 x0 0 (.int (0 : Int32))).bind fun h1 =>
  (isO h1 7 x0).bind fun _ =>
  (J_Mod_isStep N x0 x1 h1).bind fun q2 =>
 if q2.1 = 0 then
  (some ((0 : Int32), q2.2))
  else
  ((J_Mod_isFile N x2 q2.2).bind fun q3 =>
 if q3.1 = 0 then
  (some ((0 : Int32), q3.2))
  else
  ((fR q3.2 7 x0 8).bind fun v4 =>
  (aI q3.2 0 v4 x1).bind fun v5 =>
  if v5 = (6 : Int32) then
  (some ((0 : Int32), q3.2))
  else
  ((fR q3.2 7 x0 10).bind fun v6 =>
  (fR q3.2 7 x0 8).bind fun v7 =>
  (aI q3.2 0 v7 x1).bind fun v8 =>
  (sI q3.2 0 v6 (((6 : Int32) * x1) + v8) x2).bind fun h9 =>
  (fR h9 7 x0 8).bind fun v10 =>
  (aI h9 0 v10 x1).bind fun v11 =>
  (sI h9 0 v10 x1 (v11 + (1 : Int32))).bind fun h12 =>
  some ((1 : Int32), h12))))
set_option maxHeartbeats 4000000 in
set_option maxRecDepth 100000 in
theorem c_Mod_input {l : Launch} {D : va_G} {tys : List (ClassId × FieldType)} {A : Nat → Prop} (hT : tys.map (fun q => q.2) = tyS) {N : Nat} {x0 : Nat} {x1 : Int32} {x2 : Int32} {h : Hp} {res : (Int32 × Hp)} (hJ : J_Mod_input N x0 x1 x2 h = some res) : Ct l D vwCl tys A yX7_input (Cond.code yX7_input cX7_input 3 (some .boolean) :: wsG) rmX7_input [.ref x0, .int x1, .int x2] h (some (.int res.1)) res.2 := by
  refine Met.ofW (cc := cX7_input) (maxL := 3) (ret := (some .boolean)) (by decide) rfl ?_
  intro p e s m args below meth c s₁ B hml hv
  obtain ⟨rfl, hA, hR, hK, hN⟩ := hv
  have hr := B.returns
  have hts : ∀ w ∈ wsG, w.before [.ref x0, .int x1, .int x2].toArray s = true := fun w hw => atoms_spec (ws := Cond.code yX7_input cX7_input 3 (some .boolean) :: wsG) B.pre w (List.mem_cons_of_mem _ hw)
  have X : Cx p s m [.ref x0, .int x1, .int x2].toArray meth c D vwCl tys cX7_input 3 RX7 wsG := ⟨⟨B.exec, B.bytes, hml, findClass_of_methodNamed B.named, hts⟩, hK, B.notSynchronized, hT⟩
  have hx := B.exec
  have hb := B.bytes
  have I : In D vwCl tys A s h s.heap [] := ⟨hR, va_S.rf, hA⟩
  have hl := lv_entry [.ref x0, .int x1, .int x2] (n := 3) (Nat.le_of_ble_eq_true rfl)
  rw [lg_entry_eq]
  generalize (lg_sl [.ref x0, .int x1, .int x2] ++ List.replicate (3 - (lg_sl [.ref x0, .int x1, .int x2]).length) Slot.unset).toArray = ls at hl ⊢
  have hl : lv_has ls 3 [(0, .ref x0), (1, .int x1), (2, .int x2)] := hl
  have ho := X.1.2.2.2.1
  rw [J_Mod_input] at hJ
  refine lv_aload_n hx hb dX7_input_0 rfl (lv_at hl 0 rfl) ?_
  refine lv_iconst (v := 0) hx hb dX7_input_1 (by decide) ?_
  obtain ⟨h1, e9, hJ⟩ := rp_b hJ
  refine rp_put (ty := .int) X I e9 rfl wiX7 tyX7 tyX7_ok nmX7 (by decide) wm_533 rfl (by decide +kernel) rfl rfl dX7_input_2 (fun H locs I => ?_)
  refine lv_aload_n hx hb dX7_input_5 rfl (lv_at hl 0 rfl) ?_
  refine lv_iload_n hx hb dX7_input_6 rfl (lv_at hl 1 rfl) ?_
  obtain ⟨u9, i9, hJ⟩ := rp_b hJ
  obtain ⟨f9, i9⟩ := isO_s i9
  obtain ⟨q2, e9, hJ⟩ := rp_b hJ
  refine rp_callV (As := [.int x1]) (rest := []) X hN I (c_Mod_isStep hT e9) (cwV 1 hts (gdV wm_626 wm_627 wm_16 wm_40 wm_628) rfl rfl rfl (by decide +kernel) ⟨Nat.le_of_ble_eq_true rfl, Nat.le_of_ble_eq_true rfl⟩) i9 rfl rfl hl.1 rfl (Nat.le_of_ble_eq_true rfl) dX7_input_7 ⟨(Nat.le_of_ble_eq_true rfl), (Nat.le_of_ble_eq_true rfl)⟩ (fun H locs I => ?_)
  refine W.cs (cells' := 0) (slots' := 0) rfl rfl ?_
  refine lv_if_eq (tgt := 31) hx hb dX7_input_10 (by decide) (fun c9 => ?_) (fun c9 => ?_)
  · rw [if_pos c9] at hJ
    refine lv_iconst (v := 0) hx hb dX7_input_31 (by decide) ?_
    exact rp_zret X hr (Or.inl rfl) hJ I dX7_input_32
  · rw [if_neg c9] at hJ
    refine lv_iload_n hx hb dX7_input_13 rfl (lv_at hl 2 rfl) ?_
    obtain ⟨q3, e9, hJ⟩ := rp_b hJ
    refine rp_callS (As := [.int x2]) (rest := []) X hN I (c_Mod_isFile hT e9) (cwS 1 hts (gdS wm_629 wm_630 wm_40 wm_631) rfl rfl rfl (by decide +kernel) ⟨Nat.le_of_ble_eq_true rfl, Nat.le_of_ble_eq_true rfl⟩) rfl hl.1 rfl (Nat.le_of_ble_eq_true rfl) dX7_input_14 ⟨(Nat.le_of_ble_eq_true rfl), (Nat.le_of_ble_eq_true rfl)⟩ (fun H locs I => ?_)
    refine W.cs (cells' := 0) (slots' := 0) rfl rfl ?_
    refine lv_if_eq (tgt := 31) hx hb dX7_input_17 (by decide) (fun c9 => ?_) (fun c9 => ?_)
    · rw [if_pos c9] at hJ
      refine lv_iconst (v := 0) hx hb dX7_input_31 (by decide) ?_
      exact rp_zret X hr (Or.inl rfl) hJ I dX7_input_32
    · rw [if_neg c9] at hJ
      refine lv_aload_n hx hb dX7_input_20 rfl (lv_at hl 0 rfl) ?_
      obtain ⟨v4, e9, hJ⟩ := rp_b hJ
      obtain ⟨f9, g9, e9⟩ := fR_s e9
      refine rp_get X I g9 e9 rfl wiX7 (by decide) wm_541 dX7_input_21 ?_
      refine lv_iload_n hx hb dX7_input_24 rfl (lv_at hl 1 rfl) ?_
      obtain ⟨v5, e9, hJ⟩ := rp_b hJ
      refine rp_iald X I e9 rfl dX7_input_25 ?_
      refine lv_bipush (v := 6) hx hb dX7_input_26 (by decide) ?_
      refine lv_icmp_ne (tgt := 33) hx hb dX7_input_28 (by decide) (fun c9 => ?_) (fun c9 => ?_)
      · rw [if_neg c9] at hJ
        refine lv_aload_n hx hb dX7_input_33 rfl (lv_at hl 0 rfl) ?_
        obtain ⟨v6, e9, hJ⟩ := rp_b hJ
        obtain ⟨f9, g9, e9⟩ := fR_s e9
        refine rp_get X I g9 e9 rfl wiX7 (by decide) wm_543 dX7_input_34 ?_
        refine lv_bipush (v := 6) hx hb dX7_input_37 (by decide) ?_
        refine lv_iload_n hx hb dX7_input_39 rfl (lv_at hl 1 rfl) ?_
        refine lv_imul hx hb dX7_input_40 ?_
        refine lv_aload_n hx hb dX7_input_41 rfl (lv_at hl 0 rfl) ?_
        obtain ⟨v7, e9, hJ⟩ := rp_b hJ
        obtain ⟨f9, g9, e9⟩ := fR_s e9
        refine rp_get X I g9 e9 rfl wiX7 (by decide) wm_541 dX7_input_42 ?_
        refine lv_iload_n hx hb dX7_input_45 rfl (lv_at hl 1 rfl) ?_
        obtain ⟨v8, e9, hJ⟩ := rp_b hJ
        refine rp_iald X I e9 rfl dX7_input_46 ?_
        refine lv_iadd hx hb dX7_input_47 ?_
        refine lv_iload_n hx hb dX7_input_48 rfl (lv_at hl 2 rfl) ?_
        obtain ⟨h9, e9, hJ⟩ := rp_b hJ
        refine rp_iast X I e9 rfl dX7_input_49 (fun H locs I => ?_)
        refine lv_aload_n hx hb dX7_input_50 rfl (lv_at hl 0 rfl) ?_
        obtain ⟨v10, e9, hJ⟩ := rp_b hJ
        obtain ⟨f9, g9, e9⟩ := fR_s e9
        refine rp_get X I g9 e9 rfl wiX7 (by decide) wm_541 dX7_input_51 ?_
        refine lv_iload_n hx hb dX7_input_54 rfl (lv_at hl 1 rfl) ?_
        refine lv_dup2_11 hx hb dX7_input_55 rfl rfl ?_
        obtain ⟨v11, e9, hJ⟩ := rp_b hJ
        refine rp_iald X I e9 rfl dX7_input_56 ?_
        refine lv_iconst (v := 1) hx hb dX7_input_57 (by decide) ?_
        refine lv_iadd hx hb dX7_input_58 ?_
        obtain ⟨h12, e9, hJ⟩ := rp_b hJ
        refine rp_iast X I e9 rfl dX7_input_59 (fun H locs I => ?_)
        refine lv_iconst (v := 1) hx hb dX7_input_60 (by decide) ?_
        exact rp_zret X hr (Or.inr rfl) hJ I dX7_input_61
      · rw [if_pos c9] at hJ
        refine lv_iconst (v := 0) hx hb dX7_input_31 (by decide) ?_
        exact rp_zret X hr (Or.inl rfl) hJ I dX7_input_32
def rmX7_output : Room := { frames := 1, cells := 0, slots := 0, locals := 21 }
def J_Mod_output (N : Nat) (x0 : Nat) (x1 : Int32) (x2 : Int32) (h : Hp) : Option (Int32 × Hp) :=
  (sF h 7 x0 0 (.int (0 : Int32))).bind fun h1 =>
  (isO h1 7 x0).bind fun _ =>
  (J_Mod_isStep N x0 x1 h1).bind fun q2 =>
 if q2.1 = 0 then
  (some ((0 : Int32), q2.2))
  else
  ((J_Mod_isFile N x2 q2.2).bind fun q3 =>
 if q3.1 = 0 then
  (some ((0 : Int32), q3.2))
  else
  ((fR q3.2 7 x0 3).bind fun v4 =>
  (aI q3.2 0 v4 x2).bind fun v5 =>
  if v5 = (-1 : Int32) then
  ((fR q3.2 7 x0 9).bind fun v6 =>
  (aI q3.2 0 v6 x1).bind fun v7 =>
  if v7 = (3 : Int32) then
  (some ((0 : Int32), q3.2))
  else
  ((fR q3.2 7 x0 11).bind fun v8 =>
  (fR q3.2 7 x0 9).bind fun v9 =>
  (aI q3.2 0 v9 x1).bind fun v10 =>
  (sI q3.2 0 v8 (((3 : Int32) * x1) + v10) x2).bind fun h11 =>
  (fR h11 7 x0 9).bind fun v12 =>
  (aI h11 0 v12 x1).bind fun v13 =>
  (sI h11 0 v12 x1 (v13 + (1 : Int32))).bind fun h14 =>
  (fR h14 7 x0 3).bind fun v15 =>
  (sI h14 0 v15 x2 x1).bind fun h16 =>
  some ((1 : Int32), h16)))
  else
  (some ((0 : Int32), q3.2))))
set_option maxHeartbeats 4000000 in
set_option maxRecDepth 100000 in
theorem c_Mod_output {l : Launch} {D : va_G} {tys : List (ClassId × FieldType)} {A : Nat → Prop} (hT : tys.map (fun q => q.2) = tyS) {N : Nat} {x0 : Nat} {x1 : Int32} {x2 : Int32} {h : Hp} {res : (Int32 × Hp)} (hJ : J_Mod_output N x0 x1 x2 h = some res) : Ct l D vwCl tys A yX7_output (Cond.code yX7_output cX7_output 3 (some .boolean) :: wsG) rmX7_output [.ref x0, .int x1, .int x2] h (some (.int res.1)) res.2 := by
  refine Met.ofW (cc := cX7_output) (maxL := 3) (ret := (some .boolean)) (by decide) rfl ?_
  intro p e s m args below meth c s₁ B hml hv
  obtain ⟨rfl, hA, hR, hK, hN⟩ := hv
  have hr := B.returns
  have hts : ∀ w ∈ wsG, w.before [.ref x0, .int x1, .int x2].toArray s = true := fun w hw => atoms_spec (ws := Cond.code yX7_output cX7_output 3 (some .boolean) :: wsG) B.pre w (List.mem_cons_of_mem _ hw)
  have X : Cx p s m [.ref x0, .int x1, .int x2].toArray meth c D vwCl tys cX7_output 3 RX7 wsG := ⟨⟨B.exec, B.bytes, hml, findClass_of_methodNamed B.named, hts⟩, hK, B.notSynchronized, hT⟩
  have hx := B.exec
  have hb := B.bytes
  have I : In D vwCl tys A s h s.heap [] := ⟨hR, va_S.rf, hA⟩
  have hl := lv_entry [.ref x0, .int x1, .int x2] (n := 3) (Nat.le_of_ble_eq_true rfl)
  rw [lg_entry_eq]
  generalize (lg_sl [.ref x0, .int x1, .int x2] ++ List.replicate (3 - (lg_sl [.ref x0, .int x1, .int x2]).length) Slot.unset).toArray = ls at hl ⊢
  have hl : lv_has ls 3 [(0, .ref x0), (1, .int x1), (2, .int x2)] := hl
  have ho := X.1.2.2.2.1
  rw [J_Mod_output] at hJ
  refine lv_aload_n hx hb dX7_output_0 rfl (lv_at hl 0 rfl) ?_
  refine lv_iconst (v := 0) hx hb dX7_output_1 (by decide) ?_
  obtain ⟨h1, e9, hJ⟩ := rp_b hJ
  refine rp_put (ty := .int) X I e9 rfl wiX7 tyX7 tyX7_ok nmX7 (by decide) wm_533 rfl (by decide +kernel) rfl rfl dX7_output_2 (fun H locs I => ?_)
  refine lv_aload_n hx hb dX7_output_5 rfl (lv_at hl 0 rfl) ?_
  refine lv_iload_n hx hb dX7_output_6 rfl (lv_at hl 1 rfl) ?_
  obtain ⟨u9, i9, hJ⟩ := rp_b hJ
  obtain ⟨f9, i9⟩ := isO_s i9
  obtain ⟨q2, e9, hJ⟩ := rp_b hJ
  refine rp_callV (As := [.int x1]) (rest := []) X hN I (c_Mod_isStep hT e9) (cwV 1 hts (gdV wm_626 wm_627 wm_16 wm_40 wm_628) rfl rfl rfl (by decide +kernel) ⟨Nat.le_of_ble_eq_true rfl, Nat.le_of_ble_eq_true rfl⟩) i9 rfl rfl hl.1 rfl (Nat.le_of_ble_eq_true rfl) dX7_output_7 ⟨(Nat.le_of_ble_eq_true rfl), (Nat.le_of_ble_eq_true rfl)⟩ (fun H locs I => ?_)
  refine W.cs (cells' := 0) (slots' := 0) rfl rfl ?_
  refine lv_if_eq (tgt := 40) hx hb dX7_output_10 (by decide) (fun c9 => ?_) (fun c9 => ?_)
  · rw [if_pos c9] at hJ
    refine lv_iconst (v := 0) hx hb dX7_output_40 (by decide) ?_
    exact rp_zret X hr (Or.inl rfl) hJ I dX7_output_41
  · rw [if_neg c9] at hJ
    refine lv_iload_n hx hb dX7_output_13 rfl (lv_at hl 2 rfl) ?_
    obtain ⟨q3, e9, hJ⟩ := rp_b hJ
    refine rp_callS (As := [.int x2]) (rest := []) X hN I (c_Mod_isFile hT e9) (cwS 1 hts (gdS wm_629 wm_630 wm_40 wm_631) rfl rfl rfl (by decide +kernel) ⟨Nat.le_of_ble_eq_true rfl, Nat.le_of_ble_eq_true rfl⟩) rfl hl.1 rfl (Nat.le_of_ble_eq_true rfl) dX7_output_14 ⟨(Nat.le_of_ble_eq_true rfl), (Nat.le_of_ble_eq_true rfl)⟩ (fun H locs I => ?_)
    refine W.cs (cells' := 0) (slots' := 0) rfl rfl ?_
    refine lv_if_eq (tgt := 40) hx hb dX7_output_17 (by decide) (fun c9 => ?_) (fun c9 => ?_)
    · rw [if_pos c9] at hJ
      refine lv_iconst (v := 0) hx hb dX7_output_40 (by decide) ?_
      exact rp_zret X hr (Or.inl rfl) hJ I dX7_output_41
    · rw [if_neg c9] at hJ
      refine lv_aload_n hx hb dX7_output_20 rfl (lv_at hl 0 rfl) ?_
      obtain ⟨v4, e9, hJ⟩ := rp_b hJ
      obtain ⟨f9, g9, e9⟩ := fR_s e9
      refine rp_get X I g9 e9 rfl wiX7 (by decide) wm_536 dX7_output_21 ?_
      refine lv_iload_n hx hb dX7_output_24 rfl (lv_at hl 2 rfl) ?_
      obtain ⟨v5, e9, hJ⟩ := rp_b hJ
      refine rp_iald X I e9 rfl dX7_output_25 ?_
      refine lv_iconst (v := -1) hx hb dX7_output_26 (by decide) ?_
      refine lv_icmp_ne (tgt := 40) hx hb dX7_output_27 (by decide) (fun c9 => ?_) (fun c9 => ?_)
      · rw [if_neg c9] at hJ
        refine lv_iconst (v := 0) hx hb dX7_output_40 (by decide) ?_
        exact rp_zret X hr (Or.inl rfl) hJ I dX7_output_41
      · rw [if_pos c9] at hJ
        refine lv_aload_n hx hb dX7_output_30 rfl (lv_at hl 0 rfl) ?_
        obtain ⟨v6, e9, hJ⟩ := rp_b hJ
        obtain ⟨f9, g9, e9⟩ := fR_s e9
        refine rp_get X I g9 e9 rfl wiX7 (by decide) wm_542 dX7_output_31 ?_
        refine lv_iload_n hx hb dX7_output_34 rfl (lv_at hl 1 rfl) ?_
        obtain ⟨v7, e9, hJ⟩ := rp_b hJ
        refine rp_iald X I e9 rfl dX7_output_35 ?_
        refine lv_iconst (v := 3) hx hb dX7_output_36 (by decide) ?_
        refine lv_icmp_ne (tgt := 42) hx hb dX7_output_37 (by decide) (fun c9 => ?_) (fun c9 => ?_)
        · rw [if_neg c9] at hJ
          refine lv_aload_n hx hb dX7_output_42 rfl (lv_at hl 0 rfl) ?_
          obtain ⟨v8, e9, hJ⟩ := rp_b hJ
          obtain ⟨f9, g9, e9⟩ := fR_s e9
          refine rp_get X I g9 e9 rfl wiX7 (by decide) wm_544 dX7_output_43 ?_
          refine lv_iconst (v := 3) hx hb dX7_output_46 (by decide) ?_
          refine lv_iload_n hx hb dX7_output_47 rfl (lv_at hl 1 rfl) ?_
          refine lv_imul hx hb dX7_output_48 ?_
          refine lv_aload_n hx hb dX7_output_49 rfl (lv_at hl 0 rfl) ?_
          obtain ⟨v9, e9, hJ⟩ := rp_b hJ
          obtain ⟨f9, g9, e9⟩ := fR_s e9
          refine rp_get X I g9 e9 rfl wiX7 (by decide) wm_542 dX7_output_50 ?_
          refine lv_iload_n hx hb dX7_output_53 rfl (lv_at hl 1 rfl) ?_
          obtain ⟨v10, e9, hJ⟩ := rp_b hJ
          refine rp_iald X I e9 rfl dX7_output_54 ?_
          refine lv_iadd hx hb dX7_output_55 ?_
          refine lv_iload_n hx hb dX7_output_56 rfl (lv_at hl 2 rfl) ?_
          obtain ⟨h11, e9, hJ⟩ := rp_b hJ
          refine rp_iast X I e9 rfl dX7_output_57 (fun H locs I => ?_)
          refine lv_aload_n hx hb dX7_output_58 rfl (lv_at hl 0 rfl) ?_
          obtain ⟨v12, e9, hJ⟩ := rp_b hJ
          obtain ⟨f9, g9, e9⟩ := fR_s e9
          refine rp_get X I g9 e9 rfl wiX7 (by decide) wm_542 dX7_output_59 ?_
          refine lv_iload_n hx hb dX7_output_62 rfl (lv_at hl 1 rfl) ?_
          refine lv_dup2_11 hx hb dX7_output_63 rfl rfl ?_
          obtain ⟨v13, e9, hJ⟩ := rp_b hJ
          refine rp_iald X I e9 rfl dX7_output_64 ?_
          refine lv_iconst (v := 1) hx hb dX7_output_65 (by decide) ?_
          refine lv_iadd hx hb dX7_output_66 ?_
          obtain ⟨h14, e9, hJ⟩ := rp_b hJ
          refine rp_iast X I e9 rfl dX7_output_67 (fun H locs I => ?_)
          refine lv_aload_n hx hb dX7_output_68 rfl (lv_at hl 0 rfl) ?_
          obtain ⟨v15, e9, hJ⟩ := rp_b hJ
          obtain ⟨f9, g9, e9⟩ := fR_s e9
          refine rp_get X I g9 e9 rfl wiX7 (by decide) wm_536 dX7_output_69 ?_
          refine lv_iload_n hx hb dX7_output_72 rfl (lv_at hl 2 rfl) ?_
          refine lv_iload_n hx hb dX7_output_73 rfl (lv_at hl 1 rfl) ?_
          obtain ⟨h16, e9, hJ⟩ := rp_b hJ
          refine rp_iast X I e9 rfl dX7_output_74 (fun H locs I => ?_)
          refine lv_iconst (v := 1) hx hb dX7_output_75 (by decide) ?_
          exact rp_zret X hr (Or.inr rfl) hJ I dX7_output_76
        · rw [if_pos c9] at hJ
          refine lv_iconst (v := 0) hx hb dX7_output_40 (by decide) ?_
          exact rp_zret X hr (Or.inl rfl) hJ I dX7_output_41
def rmX7_drop : Room := { frames := 1, cells := 0, slots := 0, locals := 21 }
def J_Mod_drop_24 (N : Nat)  : Nat → Nat → Int32 → Int32 → Hp → Option (Int32 × Hp)
  | 0, _, _, _, _ => none
  | n + 1, x0, x1, x2, h =>
  if (64 : Int32) ≤ x2 then
  (some ((1 : Int32), h))
  else
  ((fR h 7 x0 3).bind fun v5 =>
  (aI h 0 v5 x2).bind fun v6 =>
  if v6 = x1 then
  ((fR h 7 x0 3).bind fun v7 =>
  (sI h 0 v7 x2 (-1 : Int32)).bind fun h8 =>
  (J_Mod_drop_24 N n) x0 x1 (x2 + (1 : Int32)) h8)
  else
  ((J_Mod_drop_24 N n) x0 x1 (x2 + (1 : Int32)) h))
def J_Mod_drop (N : Nat) (x0 : Nat) (x1 : Int32) (h : Hp) : Option (Int32 × Hp) :=
  (sF h 7 x0 0 (.int (0 : Int32))).bind fun h1 =>
  (isO h1 7 x0).bind fun _ =>
  (J_Mod_isStep N x0 x1 h1).bind fun q2 =>
 if q2.1 = 0 then
  (some ((0 : Int32), q2.2))
  else
  ((fR q2.2 7 x0 4).bind fun v3 =>
  (sB q2.2 1 v3 x1 (0 : Int32)).bind fun h4 =>
  J_Mod_drop_24 N N x0 x1 (0 : Int32) h4)
set_option maxHeartbeats 4000000 in
set_option maxRecDepth 100000 in
theorem w_Mod_drop_24 (X : Cx p s m args meth c D vwCl tys cX7_drop 3 RX7 wsG) (hN : nwS s) (hr : meth.sig.returnType = (some .boolean)) {res : (Int32 × Hp)} {N : Nat}   : ∀ (n : Nat) (x0 : Nat) (x1 : Int32) (x2 : Int32)  (h : Hp) (H : Heap) (locs : List Loc) (ls : Array Slot), J_Mod_drop_24 N n x0 x1 x2 h = some res → In D vwCl tys A s h H locs → lv_has ls 3 [(0, .ref x0), (1, .int x1), (2, .int x2)] → W p l e rmX7_drop s m args below meth c H locs 0 0 (MQ below (Qr D vwCl tys A (some (.int res.1)) res.2) args s 0 0 A) (F0 m 24 ls []) := by
  have hx := X.1.1
  have hb := X.1.2.1
  have hml := X.1.2.2.1
  have ho := X.1.2.2.2.1
  have hts := X.1.2.2.2.2
  have hK := X.2.1
  have hT := X.2.2.2
  intro n
  induction n with
  | zero =>
    intro x0 x1 x2  h H locs ls hJ I hl
    exact nomatch (show (none : Option (Int32 × Hp)) = some res from hJ)
  | succ n k24 =>
    intro x0 x1 x2  h H locs ls hJ I hl
    rw [J_Mod_drop_24] at hJ
    refine lv_iload_n hx hb dX7_drop_24 rfl (lv_at hl 2 rfl) ?_
    refine lv_bipush (v := 64) hx hb dX7_drop_25 (by decide) ?_
    refine lv_icmp_ge (tgt := 53) hx hb dX7_drop_27 (by decide) (fun c9 => ?_) (fun c9 => ?_)
    · rw [if_pos c9] at hJ
      refine lv_iconst (v := 1) hx hb dX7_drop_53 (by decide) ?_
      exact rp_zret X hr (Or.inr rfl) hJ I dX7_drop_54
    · rw [if_neg c9] at hJ
      refine lv_aload_n hx hb dX7_drop_30 rfl (lv_at hl 0 rfl) ?_
      obtain ⟨v5, e9, hJ⟩ := rp_b hJ
      obtain ⟨f9, g9, e9⟩ := fR_s e9
      refine rp_get X I g9 e9 rfl wiX7 (by decide) wm_536 dX7_drop_31 ?_
      refine lv_iload_n hx hb dX7_drop_34 rfl (lv_at hl 2 rfl) ?_
      obtain ⟨v6, e9, hJ⟩ := rp_b hJ
      refine rp_iald X I e9 rfl dX7_drop_35 ?_
      refine lv_iload_n hx hb dX7_drop_36 rfl (lv_at hl 1 rfl) ?_
      refine lv_icmp_ne (tgt := 47) hx hb dX7_drop_37 (by decide) (fun c9 => ?_) (fun c9 => ?_)
      · rw [if_neg c9] at hJ
        refine lv_iinc (v := (x2 + (1 : Int32))) (lv' := [(2, .int (x2 + (1 : Int32))), (0, .ref x0), (1, .int x1)]) hx hb dX7_drop_47 hl (k := 2) rfl rfl (by decide) rfl (fun ls hl => ?_)
        refine lv_goto (tgt := 24) hx hb dX7_drop_50 (by decide) ?_
        exact k24 _ _ _ _ _ _ _ hJ I (lv_sub hl [1, 2, 0] rfl)
      · rw [if_pos c9] at hJ
        refine lv_aload_n hx hb dX7_drop_40 rfl (lv_at hl 0 rfl) ?_
        obtain ⟨v7, e9, hJ⟩ := rp_b hJ
        obtain ⟨f9, g9, e9⟩ := fR_s e9
        refine rp_get X I g9 e9 rfl wiX7 (by decide) wm_536 dX7_drop_41 ?_
        refine lv_iload_n hx hb dX7_drop_44 rfl (lv_at hl 2 rfl) ?_
        refine lv_iconst (v := -1) hx hb dX7_drop_45 (by decide) ?_
        obtain ⟨h8, e9, hJ⟩ := rp_b hJ
        refine rp_iast X I e9 rfl dX7_drop_46 (fun H locs I => ?_)
        refine lv_iinc (v := (x2 + (1 : Int32))) (lv' := [(2, .int (x2 + (1 : Int32))), (0, .ref x0), (1, .int x1)]) hx hb dX7_drop_47 hl (k := 2) rfl rfl (by decide) rfl (fun ls hl => ?_)
        refine lv_goto (tgt := 24) hx hb dX7_drop_50 (by decide) ?_
        exact k24 _ _ _ _ _ _ _ hJ I (lv_sub hl [1, 2, 0] rfl)
set_option maxHeartbeats 4000000 in
set_option maxRecDepth 100000 in
theorem c_Mod_drop {l : Launch} {D : va_G} {tys : List (ClassId × FieldType)} {A : Nat → Prop} (hT : tys.map (fun q => q.2) = tyS) {N : Nat} {x0 : Nat} {x1 : Int32} {h : Hp} {res : (Int32 × Hp)} (hJ : J_Mod_drop N x0 x1 h = some res) : Ct l D vwCl tys A yX7_drop (Cond.code yX7_drop cX7_drop 3 (some .boolean) :: wsG) rmX7_drop [.ref x0, .int x1] h (some (.int res.1)) res.2 := by
  refine Met.ofW (cc := cX7_drop) (maxL := 3) (ret := (some .boolean)) (by decide) rfl ?_
  intro p e s m args below meth c s₁ B hml hv
  obtain ⟨rfl, hA, hR, hK, hN⟩ := hv
  have hr := B.returns
  have hts : ∀ w ∈ wsG, w.before [.ref x0, .int x1].toArray s = true := fun w hw => atoms_spec (ws := Cond.code yX7_drop cX7_drop 3 (some .boolean) :: wsG) B.pre w (List.mem_cons_of_mem _ hw)
  have X : Cx p s m [.ref x0, .int x1].toArray meth c D vwCl tys cX7_drop 3 RX7 wsG := ⟨⟨B.exec, B.bytes, hml, findClass_of_methodNamed B.named, hts⟩, hK, B.notSynchronized, hT⟩
  have hx := B.exec
  have hb := B.bytes
  have I : In D vwCl tys A s h s.heap [] := ⟨hR, va_S.rf, hA⟩
  have hl := lv_entry [.ref x0, .int x1] (n := 3) (Nat.le_of_ble_eq_true rfl)
  rw [lg_entry_eq]
  generalize (lg_sl [.ref x0, .int x1] ++ List.replicate (3 - (lg_sl [.ref x0, .int x1]).length) Slot.unset).toArray = ls at hl ⊢
  have hl : lv_has ls 3 [(0, .ref x0), (1, .int x1)] := hl
  have ho := X.1.2.2.2.1
  rw [J_Mod_drop] at hJ
  refine lv_aload_n hx hb dX7_drop_0 rfl (lv_at hl 0 rfl) ?_
  refine lv_iconst (v := 0) hx hb dX7_drop_1 (by decide) ?_
  obtain ⟨h1, e9, hJ⟩ := rp_b hJ
  refine rp_put (ty := .int) X I e9 rfl wiX7 tyX7 tyX7_ok nmX7 (by decide) wm_533 rfl (by decide +kernel) rfl rfl dX7_drop_2 (fun H locs I => ?_)
  refine lv_aload_n hx hb dX7_drop_5 rfl (lv_at hl 0 rfl) ?_
  refine lv_iload_n hx hb dX7_drop_6 rfl (lv_at hl 1 rfl) ?_
  obtain ⟨u9, i9, hJ⟩ := rp_b hJ
  obtain ⟨f9, i9⟩ := isO_s i9
  obtain ⟨q2, e9, hJ⟩ := rp_b hJ
  refine rp_callV (As := [.int x1]) (rest := []) X hN I (c_Mod_isStep hT e9) (cwV 1 hts (gdV wm_626 wm_627 wm_16 wm_40 wm_628) rfl rfl rfl (by decide +kernel) ⟨Nat.le_of_ble_eq_true rfl, Nat.le_of_ble_eq_true rfl⟩) i9 rfl rfl hl.1 rfl (Nat.le_of_ble_eq_true rfl) dX7_drop_7 ⟨(Nat.le_of_ble_eq_true rfl), (Nat.le_of_ble_eq_true rfl)⟩ (fun H locs I => ?_)
  refine W.cs (cells' := 0) (slots' := 0) rfl rfl ?_
  refine lv_if_ne (tgt := 15) hx hb dX7_drop_10 (by decide) (fun c9 => ?_) (fun c9 => ?_)
  · rw [if_neg c9] at hJ
    refine lv_aload_n hx hb dX7_drop_15 rfl (lv_at hl 0 rfl) ?_
    obtain ⟨v3, e9, hJ⟩ := rp_b hJ
    obtain ⟨f9, g9, e9⟩ := fR_s e9
    refine rp_get X I g9 e9 rfl wiX7 (by decide) wm_537 dX7_drop_16 ?_
    refine lv_iload_n hx hb dX7_drop_19 rfl (lv_at hl 1 rfl) ?_
    refine lv_iconst (v := 0) hx hb dX7_drop_20 (by decide) ?_
    obtain ⟨h4, e9, hJ⟩ := rp_b hJ
    refine rp_zast X I e9 rfl dX7_drop_21 (fun H locs I => ?_)
    refine lv_iconst (v := 0) hx hb dX7_drop_22 (by decide) ?_
    refine lv_istore_n (lv' := [(2, .int (0 : Int32)), (0, .ref x0), (1, .int x1)]) hx hb dX7_drop_23 rfl hl (by decide) rfl (fun ls hl => ?_)
    exact w_Mod_drop_24 X hN hr N _ _ _ _ _ _ _ hJ I (lv_sub hl [1, 2, 0] rfl)
  · rw [if_pos c9] at hJ
    refine lv_iconst (v := 0) hx hb dX7_drop_13 (by decide) ?_
    exact rp_zret X hr (Or.inl rfl) hJ I dX7_drop_14
def rmX7_source : Room := { frames := 1, cells := 0, slots := 0, locals := 20 }
def J_Mod_source (N : Nat) (x0 : Nat) (x1 : Int32) (x2 : Int32) (h : Hp) : Option (Int32 × Hp) :=
  (sF h 7 x0 0 (.int (0 : Int32))).bind fun h1 =>
  (J_Mod_isFile N x1 h1).bind fun q2 =>
 if q2.1 = 0 then
  (some ((0 : Int32), q2.2))
  else
  ((fR q2.2 7 x0 3).bind fun v3 =>
  (aI q2.2 0 v3 x1).bind fun v4 =>
  if v4 = (-1 : Int32) then
  ((fR q2.2 7 x0 1).bind fun v5 =>
  (sB q2.2 1 v5 x1 (1 : Int32)).bind fun h6 =>
  (fR h6 7 x0 2).bind fun v7 =>
  (sI h6 0 v7 x1 x2).bind fun h8 =>
  some ((1 : Int32), h8))
  else
  (some ((0 : Int32), q2.2)))
set_option maxHeartbeats 4000000 in
set_option maxRecDepth 100000 in
theorem c_Mod_source {l : Launch} {D : va_G} {tys : List (ClassId × FieldType)} {A : Nat → Prop} (hT : tys.map (fun q => q.2) = tyS) {N : Nat} {x0 : Nat} {x1 : Int32} {x2 : Int32} {h : Hp} {res : (Int32 × Hp)} (hJ : J_Mod_source N x0 x1 x2 h = some res) : Ct l D vwCl tys A yX7_source (Cond.code yX7_source cX7_source 3 (some .boolean) :: wsG) rmX7_source [.ref x0, .int x1, .int x2] h (some (.int res.1)) res.2 := by
  refine Met.ofW (cc := cX7_source) (maxL := 3) (ret := (some .boolean)) (by decide) rfl ?_
  intro p e s m args below meth c s₁ B hml hv
  obtain ⟨rfl, hA, hR, hK, hN⟩ := hv
  have hr := B.returns
  have hts : ∀ w ∈ wsG, w.before [.ref x0, .int x1, .int x2].toArray s = true := fun w hw => atoms_spec (ws := Cond.code yX7_source cX7_source 3 (some .boolean) :: wsG) B.pre w (List.mem_cons_of_mem _ hw)
  have X : Cx p s m [.ref x0, .int x1, .int x2].toArray meth c D vwCl tys cX7_source 3 RX7 wsG := ⟨⟨B.exec, B.bytes, hml, findClass_of_methodNamed B.named, hts⟩, hK, B.notSynchronized, hT⟩
  have hx := B.exec
  have hb := B.bytes
  have I : In D vwCl tys A s h s.heap [] := ⟨hR, va_S.rf, hA⟩
  have hl := lv_entry [.ref x0, .int x1, .int x2] (n := 3) (Nat.le_of_ble_eq_true rfl)
  rw [lg_entry_eq]
  generalize (lg_sl [.ref x0, .int x1, .int x2] ++ List.replicate (3 - (lg_sl [.ref x0, .int x1, .int x2]).length) Slot.unset).toArray = ls at hl ⊢
  have hl : lv_has ls 3 [(0, .ref x0), (1, .int x1), (2, .int x2)] := hl
  have ho := X.1.2.2.2.1
  rw [J_Mod_source] at hJ
  refine lv_aload_n hx hb dX7_source_0 rfl (lv_at hl 0 rfl) ?_
  refine lv_iconst (v := 0) hx hb dX7_source_1 (by decide) ?_
  obtain ⟨h1, e9, hJ⟩ := rp_b hJ
  refine rp_put (ty := .int) X I e9 rfl wiX7 tyX7 tyX7_ok nmX7 (by decide) wm_533 rfl (by decide +kernel) rfl rfl dX7_source_2 (fun H locs I => ?_)
  refine lv_iload_n hx hb dX7_source_5 rfl (lv_at hl 1 rfl) ?_
  obtain ⟨q2, e9, hJ⟩ := rp_b hJ
  refine rp_callS (As := [.int x1]) (rest := []) X hN I (c_Mod_isFile hT e9) (cwS 1 hts (gdS wm_629 wm_630 wm_40 wm_631) rfl rfl rfl (by decide +kernel) ⟨Nat.le_of_ble_eq_true rfl, Nat.le_of_ble_eq_true rfl⟩) rfl hl.1 rfl (Nat.le_of_ble_eq_true rfl) dX7_source_6 ⟨(Nat.le_of_ble_eq_true rfl), (Nat.le_of_ble_eq_true rfl)⟩ (fun H locs I => ?_)
  refine W.cs (cells' := 0) (slots' := 0) rfl rfl ?_
  refine lv_if_eq (tgt := 22) hx hb dX7_source_9 (by decide) (fun c9 => ?_) (fun c9 => ?_)
  · rw [if_pos c9] at hJ
    refine lv_iconst (v := 0) hx hb dX7_source_22 (by decide) ?_
    exact rp_zret X hr (Or.inl rfl) hJ I dX7_source_23
  · rw [if_neg c9] at hJ
    refine lv_aload_n hx hb dX7_source_12 rfl (lv_at hl 0 rfl) ?_
    obtain ⟨v3, e9, hJ⟩ := rp_b hJ
    obtain ⟨f9, g9, e9⟩ := fR_s e9
    refine rp_get X I g9 e9 rfl wiX7 (by decide) wm_536 dX7_source_13 ?_
    refine lv_iload_n hx hb dX7_source_16 rfl (lv_at hl 1 rfl) ?_
    obtain ⟨v4, e9, hJ⟩ := rp_b hJ
    refine rp_iald X I e9 rfl dX7_source_17 ?_
    refine lv_iconst (v := -1) hx hb dX7_source_18 (by decide) ?_
    refine lv_icmp_eq (tgt := 24) hx hb dX7_source_19 (by decide) (fun c9 => ?_) (fun c9 => ?_)
    · rw [if_pos c9] at hJ
      refine lv_aload_n hx hb dX7_source_24 rfl (lv_at hl 0 rfl) ?_
      obtain ⟨v5, e9, hJ⟩ := rp_b hJ
      obtain ⟨f9, g9, e9⟩ := fR_s e9
      refine rp_get X I g9 e9 rfl wiX7 (by decide) wm_534 dX7_source_25 ?_
      refine lv_iload_n hx hb dX7_source_28 rfl (lv_at hl 1 rfl) ?_
      refine lv_iconst (v := 1) hx hb dX7_source_29 (by decide) ?_
      obtain ⟨h6, e9, hJ⟩ := rp_b hJ
      refine rp_zast X I e9 rfl dX7_source_30 (fun H locs I => ?_)
      refine lv_aload_n hx hb dX7_source_31 rfl (lv_at hl 0 rfl) ?_
      obtain ⟨v7, e9, hJ⟩ := rp_b hJ
      obtain ⟨f9, g9, e9⟩ := fR_s e9
      refine rp_get X I g9 e9 rfl wiX7 (by decide) wm_535 dX7_source_32 ?_
      refine lv_iload_n hx hb dX7_source_35 rfl (lv_at hl 1 rfl) ?_
      refine lv_iload_n hx hb dX7_source_36 rfl (lv_at hl 2 rfl) ?_
      obtain ⟨h8, e9, hJ⟩ := rp_b hJ
      refine rp_iast X I e9 rfl dX7_source_37 (fun H locs I => ?_)
      refine lv_iconst (v := 1) hx hb dX7_source_38 (by decide) ?_
      exact rp_zret X hr (Or.inr rfl) hJ I dX7_source_39
    · rw [if_neg c9] at hJ
      refine lv_iconst (v := 0) hx hb dX7_source_22 (by decide) ?_
      exact rp_zret X hr (Or.inl rfl) hJ I dX7_source_23
def rmX7_spoil : Room := { frames := 1, cells := 0, slots := 0, locals := 20 }
def J_Mod_spoil (N : Nat) (x0 : Nat) (x1 : Int32) (h : Hp) : Option (Int32 × Hp) :=
  (sF h 7 x0 0 (.int (0 : Int32))).bind fun h1 =>
  (J_Mod_isFile N x1 h1).bind fun q2 =>
 if q2.1 = 0 then
  (some ((0 : Int32), q2.2))
  else
  ((fR q2.2 7 x0 1).bind fun v3 =>
  (aI q2.2 1 v3 x1).bind fun v4 =>
  if v4 = 0 then
  (some ((0 : Int32), q2.2))
  else
  ((fR q2.2 7 x0 1).bind fun v5 =>
  (sB q2.2 1 v5 x1 (0 : Int32)).bind fun h6 =>
  some ((1 : Int32), h6)))
set_option maxHeartbeats 4000000 in
set_option maxRecDepth 100000 in
theorem c_Mod_spoil {l : Launch} {D : va_G} {tys : List (ClassId × FieldType)} {A : Nat → Prop} (hT : tys.map (fun q => q.2) = tyS) {N : Nat} {x0 : Nat} {x1 : Int32} {h : Hp} {res : (Int32 × Hp)} (hJ : J_Mod_spoil N x0 x1 h = some res) : Ct l D vwCl tys A yX7_spoil (Cond.code yX7_spoil cX7_spoil 2 (some .boolean) :: wsG) rmX7_spoil [.ref x0, .int x1] h (some (.int res.1)) res.2 := by
  refine Met.ofW (cc := cX7_spoil) (maxL := 2) (ret := (some .boolean)) (by decide) rfl ?_
  intro p e s m args below meth c s₁ B hml hv
  obtain ⟨rfl, hA, hR, hK, hN⟩ := hv
  have hr := B.returns
  have hts : ∀ w ∈ wsG, w.before [.ref x0, .int x1].toArray s = true := fun w hw => atoms_spec (ws := Cond.code yX7_spoil cX7_spoil 2 (some .boolean) :: wsG) B.pre w (List.mem_cons_of_mem _ hw)
  have X : Cx p s m [.ref x0, .int x1].toArray meth c D vwCl tys cX7_spoil 2 RX7 wsG := ⟨⟨B.exec, B.bytes, hml, findClass_of_methodNamed B.named, hts⟩, hK, B.notSynchronized, hT⟩
  have hx := B.exec
  have hb := B.bytes
  have I : In D vwCl tys A s h s.heap [] := ⟨hR, va_S.rf, hA⟩
  have hl := lv_entry [.ref x0, .int x1] (n := 2) (Nat.le_of_ble_eq_true rfl)
  rw [lg_entry_eq]
  generalize (lg_sl [.ref x0, .int x1] ++ List.replicate (2 - (lg_sl [.ref x0, .int x1]).length) Slot.unset).toArray = ls at hl ⊢
  have hl : lv_has ls 2 [(0, .ref x0), (1, .int x1)] := hl
  have ho := X.1.2.2.2.1
  rw [J_Mod_spoil] at hJ
  refine lv_aload_n hx hb dX7_spoil_0 rfl (lv_at hl 0 rfl) ?_
  refine lv_iconst (v := 0) hx hb dX7_spoil_1 (by decide) ?_
  obtain ⟨h1, e9, hJ⟩ := rp_b hJ
  refine rp_put (ty := .int) X I e9 rfl wiX7 tyX7 tyX7_ok nmX7 (by decide) wm_533 rfl (by decide +kernel) rfl rfl dX7_spoil_2 (fun H locs I => ?_)
  refine lv_iload_n hx hb dX7_spoil_5 rfl (lv_at hl 1 rfl) ?_
  obtain ⟨q2, e9, hJ⟩ := rp_b hJ
  refine rp_callS (As := [.int x1]) (rest := []) X hN I (c_Mod_isFile hT e9) (cwS 1 hts (gdS wm_629 wm_630 wm_40 wm_631) rfl rfl rfl (by decide +kernel) ⟨Nat.le_of_ble_eq_true rfl, Nat.le_of_ble_eq_true rfl⟩) rfl hl.1 rfl (Nat.le_of_ble_eq_true rfl) dX7_spoil_6 ⟨(Nat.le_of_ble_eq_true rfl), (Nat.le_of_ble_eq_true rfl)⟩ (fun H locs I => ?_)
  refine W.cs (cells' := 0) (slots' := 0) rfl rfl ?_
  refine lv_if_eq (tgt := 21) hx hb dX7_spoil_9 (by decide) (fun c9 => ?_) (fun c9 => ?_)
  · rw [if_pos c9] at hJ
    refine lv_iconst (v := 0) hx hb dX7_spoil_21 (by decide) ?_
    exact rp_zret X hr (Or.inl rfl) hJ I dX7_spoil_22
  · rw [if_neg c9] at hJ
    refine lv_aload_n hx hb dX7_spoil_12 rfl (lv_at hl 0 rfl) ?_
    obtain ⟨v3, e9, hJ⟩ := rp_b hJ
    obtain ⟨f9, g9, e9⟩ := fR_s e9
    refine rp_get X I g9 e9 rfl wiX7 (by decide) wm_534 dX7_spoil_13 ?_
    refine lv_iload_n hx hb dX7_spoil_16 rfl (lv_at hl 1 rfl) ?_
    obtain ⟨v4, e9, hJ⟩ := rp_b hJ
    refine rp_zald X I e9 rfl dX7_spoil_17 ?_
    refine lv_if_ne (tgt := 23) hx hb dX7_spoil_18 (by decide) (fun c9 => ?_) (fun c9 => ?_)
    · rw [if_neg c9] at hJ
      refine lv_aload_n hx hb dX7_spoil_23 rfl (lv_at hl 0 rfl) ?_
      obtain ⟨v5, e9, hJ⟩ := rp_b hJ
      obtain ⟨f9, g9, e9⟩ := fR_s e9
      refine rp_get X I g9 e9 rfl wiX7 (by decide) wm_534 dX7_spoil_24 ?_
      refine lv_iload_n hx hb dX7_spoil_27 rfl (lv_at hl 1 rfl) ?_
      refine lv_iconst (v := 0) hx hb dX7_spoil_28 (by decide) ?_
      obtain ⟨h6, e9, hJ⟩ := rp_b hJ
      refine rp_zast X I e9 rfl dX7_spoil_29 (fun H locs I => ?_)
      refine lv_iconst (v := 1) hx hb dX7_spoil_30 (by decide) ?_
      exact rp_zret X hr (Or.inr rfl) hJ I dX7_spoil_31
    · rw [if_pos c9] at hJ
      refine lv_iconst (v := 0) hx hb dX7_spoil_21 (by decide) ?_
      exact rp_zret X hr (Or.inl rfl) hJ I dX7_spoil_22
def rmX7_isOther : Room := { frames := 0, cells := 0, slots := 0, locals := 0 }
def J_Mod_isOther_119 (N : Nat)  : Nat → Nat → Int32 → Int32 → Int32 → Hp → Option (Int32 × Hp)
  | 0, _, _, _, _, _ => none
  | n + 1, x0, x1, x2, x3, h =>
  (fR h 7 x0 9).bind fun v19 =>
  (aI h 0 v19 x1).bind fun v20 =>
  if v20 ≤ x3 then
  (zR x2 h)
  else
  (if x2 = 0 then
  ((fR h 7 x0 11).bind fun v21 =>
  (aI h 0 v21 (((3 : Int32) * x1) + x3)).bind fun v22 =>
  (fR h 7 x0 18).bind fun v23 =>
  (aI h 0 v23 (((3 : Int32) * x1) + x3)).bind fun v24 =>
  if v22 = v24 then
  ((J_Mod_isOther_119 N n) x0 x1 (0 : Int32) (x3 + (1 : Int32)) h)
  else
  ((J_Mod_isOther_119 N n) x0 x1 (1 : Int32) (x3 + (1 : Int32)) h))
  else
  ((J_Mod_isOther_119 N n) x0 x1 (1 : Int32) (x3 + (1 : Int32)) h))
def J_Mod_isOther_66 (N : Nat)  : Nat → Nat → Int32 → Int32 → Int32 → Hp → Option (Int32 × Hp)
  | 0, _, _, _, _, _ => none
  | n + 1, x0, x1, x2, x3, h =>
  (fR h 7 x0 8).bind fun v17 =>
  (aI h 0 v17 x1).bind fun v18 =>
  if v18 ≤ x3 then
  (J_Mod_isOther_119 N N x0 x1 x2 (0 : Int32) h)
  else
  (if x2 = 0 then
  ((fR h 7 x0 10).bind fun v25 =>
  (aI h 0 v25 (((6 : Int32) * x1) + x3)).bind fun v26 =>
  (fR h 7 x0 17).bind fun v27 =>
  (aI h 0 v27 (((6 : Int32) * x1) + x3)).bind fun v28 =>
  if v26 = v28 then
  ((J_Mod_isOther_66 N n) x0 x1 (0 : Int32) (x3 + (1 : Int32)) h)
  else
  ((J_Mod_isOther_66 N n) x0 x1 (1 : Int32) (x3 + (1 : Int32)) h))
  else
  ((J_Mod_isOther_66 N n) x0 x1 (1 : Int32) (x3 + (1 : Int32)) h))
def J_Mod_isOther (N : Nat) (x0 : Nat) (x1 : Int32) (h : Hp) : Option (Int32 × Hp) :=
  (fR h 7 x0 5).bind fun v1 =>
  (aI h 0 v1 x1).bind fun v2 =>
  (fR h 7 x0 13).bind fun v3 =>
  (aI h 0 v3 x1).bind fun v4 =>
  if v2 = v4 then
  ((fR h 7 x0 6).bind fun v5 =>
  (aI h 0 v5 x1).bind fun v6 =>
  (fR h 7 x0 14).bind fun v7 =>
  (aI h 0 v7 x1).bind fun v8 =>
  if v6 = v8 then
  ((fR h 7 x0 8).bind fun v9 =>
  (aI h 0 v9 x1).bind fun v10 =>
  (fR h 7 x0 15).bind fun v11 =>
  (aI h 0 v11 x1).bind fun v12 =>
  if v10 = v12 then
  ((fR h 7 x0 9).bind fun v13 =>
  (aI h 0 v13 x1).bind fun v14 =>
  (fR h 7 x0 16).bind fun v15 =>
  (aI h 0 v15 x1).bind fun v16 =>
  if v14 = v16 then
  (J_Mod_isOther_66 N N x0 x1 (0 : Int32) (0 : Int32) h)
  else
  (some ((1 : Int32), h)))
  else
  (some ((1 : Int32), h)))
  else
  (some ((1 : Int32), h)))
  else
  (some ((1 : Int32), h))
set_option maxHeartbeats 4000000 in
set_option maxRecDepth 100000 in
theorem w_Mod_isOther_119 (X : Cx p s m args meth c D vwCl tys cX7_isOther 4 RX7 wsG) (hN : nwS s) (hr : meth.sig.returnType = (some .boolean)) {res : (Int32 × Hp)} {N : Nat}   : ∀ (n : Nat) (x0 : Nat) (x1 : Int32) (x2 : Int32) (x3 : Int32)  (h : Hp) (H : Heap) (locs : List Loc) (ls : Array Slot), J_Mod_isOther_119 N n x0 x1 x2 x3 h = some res → In D vwCl tys A s h H locs → lv_has ls 4 [(0, .ref x0), (1, .int x1), (2, .int x2), (3, .int x3)] → W p l e rmX7_isOther s m args below meth c H locs 0 0 (MQ below (Qr D vwCl tys A (some (.int res.1)) res.2) args s 0 0 A) (F0 m 119 ls []) := by
  have hx := X.1.1
  have hb := X.1.2.1
  have hml := X.1.2.2.1
  have ho := X.1.2.2.2.1
  have hts := X.1.2.2.2.2
  have hK := X.2.1
  have hT := X.2.2.2
  intro n
  induction n with
  | zero =>
    intro x0 x1 x2 x3  h H locs ls hJ I hl
    exact nomatch (show (none : Option (Int32 × Hp)) = some res from hJ)
  | succ n k119 =>
    intro x0 x1 x2 x3  h H locs ls hJ I hl
    rw [J_Mod_isOther_119] at hJ
    refine lv_iload_n hx hb dX7_isOther_119 rfl (lv_at hl 3 rfl) ?_
    refine lv_aload_n hx hb dX7_isOther_120 rfl (lv_at hl 0 rfl) ?_
    obtain ⟨v19, e9, hJ⟩ := rp_b hJ
    obtain ⟨f9, g9, e9⟩ := fR_s e9
    refine rp_get X I g9 e9 rfl wiX7 (by decide) wm_542 dX7_isOther_121 ?_
    refine lv_iload_n hx hb dX7_isOther_124 rfl (lv_at hl 1 rfl) ?_
    obtain ⟨v20, e9, hJ⟩ := rp_b hJ
    refine rp_iald X I e9 rfl dX7_isOther_125 ?_
    refine lv_icmp_ge (tgt := 168) hx hb dX7_isOther_126 (by decide) (fun c9 => ?_) (fun c9 => ?_)
    · rw [if_pos c9] at hJ
      refine lv_iload_n hx hb dX7_isOther_168 rfl (lv_at hl 2 rfl) ?_
      obtain ⟨z9, hJ⟩ := zR_s hJ
      exact rp_zret X hr z9 hJ I dX7_isOther_169
    · rw [if_neg c9] at hJ
      refine lv_iload_n hx hb dX7_isOther_129 rfl (lv_at hl 2 rfl) ?_
      refine lv_if_ne (tgt := 156) hx hb dX7_isOther_130 (by decide) (fun c9 => ?_) (fun c9 => ?_)
      · rw [if_neg c9] at hJ
        refine lv_iconst (v := 1) hx hb dX7_isOther_156 (by decide) ?_
        refine lv_goto (tgt := 161) hx hb dX7_isOther_157 (by decide) ?_
        refine lv_istore_n (lv' := [(2, .int (1 : Int32)), (0, .ref x0), (1, .int x1), (3, .int x3)]) hx hb dX7_isOther_161 rfl hl (by decide) rfl (fun ls hl => ?_)
        refine lv_iinc (v := (x3 + (1 : Int32))) (lv' := [(3, .int (x3 + (1 : Int32))), (2, .int (1 : Int32)), (0, .ref x0), (1, .int x1)]) hx hb dX7_isOther_162 hl (k := 3) rfl rfl (by decide) rfl (fun ls hl => ?_)
        refine lv_goto (tgt := 119) hx hb dX7_isOther_165 (by decide) ?_
        exact k119 _ _ _ _ _ _ _ _ hJ I (lv_sub hl [2, 3, 1, 0] rfl)
      · rw [if_pos c9] at hJ
        refine lv_aload_n hx hb dX7_isOther_133 rfl (lv_at hl 0 rfl) ?_
        obtain ⟨v21, e9, hJ⟩ := rp_b hJ
        obtain ⟨f9, g9, e9⟩ := fR_s e9
        refine rp_get X I g9 e9 rfl wiX7 (by decide) wm_544 dX7_isOther_134 ?_
        refine lv_iconst (v := 3) hx hb dX7_isOther_137 (by decide) ?_
        refine lv_iload_n hx hb dX7_isOther_138 rfl (lv_at hl 1 rfl) ?_
        refine lv_imul hx hb dX7_isOther_139 ?_
        refine lv_iload_n hx hb dX7_isOther_140 rfl (lv_at hl 3 rfl) ?_
        refine lv_iadd hx hb dX7_isOther_141 ?_
        obtain ⟨v22, e9, hJ⟩ := rp_b hJ
        refine rp_iald X I e9 rfl dX7_isOther_142 ?_
        refine lv_aload_n hx hb dX7_isOther_143 rfl (lv_at hl 0 rfl) ?_
        obtain ⟨v23, e9, hJ⟩ := rp_b hJ
        obtain ⟨f9, g9, e9⟩ := fR_s e9
        refine rp_get X I g9 e9 rfl wiX7 (by decide) wm_551 dX7_isOther_144 ?_
        refine lv_iconst (v := 3) hx hb dX7_isOther_147 (by decide) ?_
        refine lv_iload_n hx hb dX7_isOther_148 rfl (lv_at hl 1 rfl) ?_
        refine lv_imul hx hb dX7_isOther_149 ?_
        refine lv_iload_n hx hb dX7_isOther_150 rfl (lv_at hl 3 rfl) ?_
        refine lv_iadd hx hb dX7_isOther_151 ?_
        obtain ⟨v24, e9, hJ⟩ := rp_b hJ
        refine rp_iald X I e9 rfl dX7_isOther_152 ?_
        refine lv_icmp_eq (tgt := 160) hx hb dX7_isOther_153 (by decide) (fun c9 => ?_) (fun c9 => ?_)
        · rw [if_pos c9] at hJ
          refine lv_iconst (v := 0) hx hb dX7_isOther_160 (by decide) ?_
          refine lv_istore_n (lv' := [(2, .int (0 : Int32)), (0, .ref x0), (1, .int x1), (3, .int x3)]) hx hb dX7_isOther_161 rfl hl (by decide) rfl (fun ls hl => ?_)
          refine lv_iinc (v := (x3 + (1 : Int32))) (lv' := [(3, .int (x3 + (1 : Int32))), (2, .int (0 : Int32)), (0, .ref x0), (1, .int x1)]) hx hb dX7_isOther_162 hl (k := 3) rfl rfl (by decide) rfl (fun ls hl => ?_)
          refine lv_goto (tgt := 119) hx hb dX7_isOther_165 (by decide) ?_
          exact k119 _ _ _ _ _ _ _ _ hJ I (lv_sub hl [2, 3, 1, 0] rfl)
        · rw [if_neg c9] at hJ
          refine lv_iconst (v := 1) hx hb dX7_isOther_156 (by decide) ?_
          refine lv_goto (tgt := 161) hx hb dX7_isOther_157 (by decide) ?_
          refine lv_istore_n (lv' := [(2, .int (1 : Int32)), (0, .ref x0), (1, .int x1), (3, .int x3)]) hx hb dX7_isOther_161 rfl hl (by decide) rfl (fun ls hl => ?_)
          refine lv_iinc (v := (x3 + (1 : Int32))) (lv' := [(3, .int (x3 + (1 : Int32))), (2, .int (1 : Int32)), (0, .ref x0), (1, .int x1)]) hx hb dX7_isOther_162 hl (k := 3) rfl rfl (by decide) rfl (fun ls hl => ?_)
          refine lv_goto (tgt := 119) hx hb dX7_isOther_165 (by decide) ?_
          exact k119 _ _ _ _ _ _ _ _ hJ I (lv_sub hl [2, 3, 1, 0] rfl)
set_option maxHeartbeats 4000000 in
set_option maxRecDepth 100000 in
theorem w_Mod_isOther_66 (X : Cx p s m args meth c D vwCl tys cX7_isOther 4 RX7 wsG) (hN : nwS s) (hr : meth.sig.returnType = (some .boolean)) {res : (Int32 × Hp)} {N : Nat}   : ∀ (n : Nat) (x0 : Nat) (x1 : Int32) (x2 : Int32) (x3 : Int32)  (h : Hp) (H : Heap) (locs : List Loc) (ls : Array Slot), J_Mod_isOther_66 N n x0 x1 x2 x3 h = some res → In D vwCl tys A s h H locs → lv_has ls 4 [(0, .ref x0), (1, .int x1), (2, .int x2), (3, .int x3)] → W p l e rmX7_isOther s m args below meth c H locs 0 0 (MQ below (Qr D vwCl tys A (some (.int res.1)) res.2) args s 0 0 A) (F0 m 66 ls []) := by
  have hx := X.1.1
  have hb := X.1.2.1
  have hml := X.1.2.2.1
  have ho := X.1.2.2.2.1
  have hts := X.1.2.2.2.2
  have hK := X.2.1
  have hT := X.2.2.2
  intro n
  induction n with
  | zero =>
    intro x0 x1 x2 x3  h H locs ls hJ I hl
    exact nomatch (show (none : Option (Int32 × Hp)) = some res from hJ)
  | succ n k66 =>
    intro x0 x1 x2 x3  h H locs ls hJ I hl
    rw [J_Mod_isOther_66] at hJ
    refine lv_iload_n hx hb dX7_isOther_66 rfl (lv_at hl 3 rfl) ?_
    refine lv_aload_n hx hb dX7_isOther_67 rfl (lv_at hl 0 rfl) ?_
    obtain ⟨v17, e9, hJ⟩ := rp_b hJ
    obtain ⟨f9, g9, e9⟩ := fR_s e9
    refine rp_get X I g9 e9 rfl wiX7 (by decide) wm_541 dX7_isOther_68 ?_
    refine lv_iload_n hx hb dX7_isOther_71 rfl (lv_at hl 1 rfl) ?_
    obtain ⟨v18, e9, hJ⟩ := rp_b hJ
    refine rp_iald X I e9 rfl dX7_isOther_72 ?_
    refine lv_icmp_ge (tgt := 117) hx hb dX7_isOther_73 (by decide) (fun c9 => ?_) (fun c9 => ?_)
    · rw [if_pos c9] at hJ
      refine lv_iconst (v := 0) hx hb dX7_isOther_117 (by decide) ?_
      refine lv_istore_n (lv' := [(3, .int (0 : Int32)), (0, .ref x0), (1, .int x1), (2, .int x2)]) hx hb dX7_isOther_118 rfl hl (by decide) rfl (fun ls hl => ?_)
      exact w_Mod_isOther_119 X hN hr N _ _ _ _ _ _ _ _ hJ I (lv_sub hl [1, 2, 3, 0] rfl)
    · rw [if_neg c9] at hJ
      refine lv_iload_n hx hb dX7_isOther_76 rfl (lv_at hl 2 rfl) ?_
      refine lv_if_ne (tgt := 105) hx hb dX7_isOther_77 (by decide) (fun c9 => ?_) (fun c9 => ?_)
      · rw [if_neg c9] at hJ
        refine lv_iconst (v := 1) hx hb dX7_isOther_105 (by decide) ?_
        refine lv_goto (tgt := 110) hx hb dX7_isOther_106 (by decide) ?_
        refine lv_istore_n (lv' := [(2, .int (1 : Int32)), (0, .ref x0), (1, .int x1), (3, .int x3)]) hx hb dX7_isOther_110 rfl hl (by decide) rfl (fun ls hl => ?_)
        refine lv_iinc (v := (x3 + (1 : Int32))) (lv' := [(3, .int (x3 + (1 : Int32))), (2, .int (1 : Int32)), (0, .ref x0), (1, .int x1)]) hx hb dX7_isOther_111 hl (k := 3) rfl rfl (by decide) rfl (fun ls hl => ?_)
        refine lv_goto (tgt := 66) hx hb dX7_isOther_114 (by decide) ?_
        exact k66 _ _ _ _ _ _ _ _ hJ I (lv_sub hl [2, 3, 1, 0] rfl)
      · rw [if_pos c9] at hJ
        refine lv_aload_n hx hb dX7_isOther_80 rfl (lv_at hl 0 rfl) ?_
        obtain ⟨v25, e9, hJ⟩ := rp_b hJ
        obtain ⟨f9, g9, e9⟩ := fR_s e9
        refine rp_get X I g9 e9 rfl wiX7 (by decide) wm_543 dX7_isOther_81 ?_
        refine lv_bipush (v := 6) hx hb dX7_isOther_84 (by decide) ?_
        refine lv_iload_n hx hb dX7_isOther_86 rfl (lv_at hl 1 rfl) ?_
        refine lv_imul hx hb dX7_isOther_87 ?_
        refine lv_iload_n hx hb dX7_isOther_88 rfl (lv_at hl 3 rfl) ?_
        refine lv_iadd hx hb dX7_isOther_89 ?_
        obtain ⟨v26, e9, hJ⟩ := rp_b hJ
        refine rp_iald X I e9 rfl dX7_isOther_90 ?_
        refine lv_aload_n hx hb dX7_isOther_91 rfl (lv_at hl 0 rfl) ?_
        obtain ⟨v27, e9, hJ⟩ := rp_b hJ
        obtain ⟨f9, g9, e9⟩ := fR_s e9
        refine rp_get X I g9 e9 rfl wiX7 (by decide) wm_550 dX7_isOther_92 ?_
        refine lv_bipush (v := 6) hx hb dX7_isOther_95 (by decide) ?_
        refine lv_iload_n hx hb dX7_isOther_97 rfl (lv_at hl 1 rfl) ?_
        refine lv_imul hx hb dX7_isOther_98 ?_
        refine lv_iload_n hx hb dX7_isOther_99 rfl (lv_at hl 3 rfl) ?_
        refine lv_iadd hx hb dX7_isOther_100 ?_
        obtain ⟨v28, e9, hJ⟩ := rp_b hJ
        refine rp_iald X I e9 rfl dX7_isOther_101 ?_
        refine lv_icmp_eq (tgt := 109) hx hb dX7_isOther_102 (by decide) (fun c9 => ?_) (fun c9 => ?_)
        · rw [if_pos c9] at hJ
          refine lv_iconst (v := 0) hx hb dX7_isOther_109 (by decide) ?_
          refine lv_istore_n (lv' := [(2, .int (0 : Int32)), (0, .ref x0), (1, .int x1), (3, .int x3)]) hx hb dX7_isOther_110 rfl hl (by decide) rfl (fun ls hl => ?_)
          refine lv_iinc (v := (x3 + (1 : Int32))) (lv' := [(3, .int (x3 + (1 : Int32))), (2, .int (0 : Int32)), (0, .ref x0), (1, .int x1)]) hx hb dX7_isOther_111 hl (k := 3) rfl rfl (by decide) rfl (fun ls hl => ?_)
          refine lv_goto (tgt := 66) hx hb dX7_isOther_114 (by decide) ?_
          exact k66 _ _ _ _ _ _ _ _ hJ I (lv_sub hl [2, 3, 1, 0] rfl)
        · rw [if_neg c9] at hJ
          refine lv_iconst (v := 1) hx hb dX7_isOther_105 (by decide) ?_
          refine lv_goto (tgt := 110) hx hb dX7_isOther_106 (by decide) ?_
          refine lv_istore_n (lv' := [(2, .int (1 : Int32)), (0, .ref x0), (1, .int x1), (3, .int x3)]) hx hb dX7_isOther_110 rfl hl (by decide) rfl (fun ls hl => ?_)
          refine lv_iinc (v := (x3 + (1 : Int32))) (lv' := [(3, .int (x3 + (1 : Int32))), (2, .int (1 : Int32)), (0, .ref x0), (1, .int x1)]) hx hb dX7_isOther_111 hl (k := 3) rfl rfl (by decide) rfl (fun ls hl => ?_)
          refine lv_goto (tgt := 66) hx hb dX7_isOther_114 (by decide) ?_
          exact k66 _ _ _ _ _ _ _ _ hJ I (lv_sub hl [2, 3, 1, 0] rfl)
set_option maxHeartbeats 4000000 in
set_option maxRecDepth 100000 in
theorem c_Mod_isOther {l : Launch} {D : va_G} {tys : List (ClassId × FieldType)} {A : Nat → Prop} (hT : tys.map (fun q => q.2) = tyS) {N : Nat} {x0 : Nat} {x1 : Int32} {h : Hp} {res : (Int32 × Hp)} (hJ : J_Mod_isOther N x0 x1 h = some res) : Ct l D vwCl tys A yX7_isOther (Cond.code yX7_isOther cX7_isOther 4 (some .boolean) :: wsG) rmX7_isOther [.ref x0, .int x1] h (some (.int res.1)) res.2 := by
  refine Met.ofW (cc := cX7_isOther) (maxL := 4) (ret := (some .boolean)) (by decide) rfl ?_
  intro p e s m args below meth c s₁ B hml hv
  obtain ⟨rfl, hA, hR, hK, hN⟩ := hv
  have hr := B.returns
  have hts : ∀ w ∈ wsG, w.before [.ref x0, .int x1].toArray s = true := fun w hw => atoms_spec (ws := Cond.code yX7_isOther cX7_isOther 4 (some .boolean) :: wsG) B.pre w (List.mem_cons_of_mem _ hw)
  have X : Cx p s m [.ref x0, .int x1].toArray meth c D vwCl tys cX7_isOther 4 RX7 wsG := ⟨⟨B.exec, B.bytes, hml, findClass_of_methodNamed B.named, hts⟩, hK, B.notSynchronized, hT⟩
  have hx := B.exec
  have hb := B.bytes
  have I : In D vwCl tys A s h s.heap [] := ⟨hR, va_S.rf, hA⟩
  have hl := lv_entry [.ref x0, .int x1] (n := 4) (Nat.le_of_ble_eq_true rfl)
  rw [lg_entry_eq]
  generalize (lg_sl [.ref x0, .int x1] ++ List.replicate (4 - (lg_sl [.ref x0, .int x1]).length) Slot.unset).toArray = ls at hl ⊢
  have hl : lv_has ls 4 [(0, .ref x0), (1, .int x1)] := hl
  have ho := X.1.2.2.2.1
  rw [J_Mod_isOther] at hJ
  refine lv_aload_n hx hb dX7_isOther_0 rfl (lv_at hl 0 rfl) ?_
  obtain ⟨v1, e9, hJ⟩ := rp_b hJ
  obtain ⟨f9, g9, e9⟩ := fR_s e9
  refine rp_get X I g9 e9 rfl wiX7 (by decide) wm_538 dX7_isOther_1 ?_
  refine lv_iload_n hx hb dX7_isOther_4 rfl (lv_at hl 1 rfl) ?_
  obtain ⟨v2, e9, hJ⟩ := rp_b hJ
  refine rp_iald X I e9 rfl dX7_isOther_5 ?_
  refine lv_aload_n hx hb dX7_isOther_6 rfl (lv_at hl 0 rfl) ?_
  obtain ⟨v3, e9, hJ⟩ := rp_b hJ
  obtain ⟨f9, g9, e9⟩ := fR_s e9
  refine rp_get X I g9 e9 rfl wiX7 (by decide) wm_546 dX7_isOther_7 ?_
  refine lv_iload_n hx hb dX7_isOther_10 rfl (lv_at hl 1 rfl) ?_
  obtain ⟨v4, e9, hJ⟩ := rp_b hJ
  refine rp_iald X I e9 rfl dX7_isOther_11 ?_
  refine lv_icmp_ne (tgt := 60) hx hb dX7_isOther_12 (by decide) (fun c9 => ?_) (fun c9 => ?_)
  · rw [if_neg c9] at hJ
    refine lv_iconst (v := 1) hx hb dX7_isOther_60 (by decide) ?_
    exact rp_zret X hr (Or.inr rfl) hJ I dX7_isOther_61
  · rw [if_pos c9] at hJ
    refine lv_aload_n hx hb dX7_isOther_15 rfl (lv_at hl 0 rfl) ?_
    obtain ⟨v5, e9, hJ⟩ := rp_b hJ
    obtain ⟨f9, g9, e9⟩ := fR_s e9
    refine rp_get X I g9 e9 rfl wiX7 (by decide) wm_539 dX7_isOther_16 ?_
    refine lv_iload_n hx hb dX7_isOther_19 rfl (lv_at hl 1 rfl) ?_
    obtain ⟨v6, e9, hJ⟩ := rp_b hJ
    refine rp_iald X I e9 rfl dX7_isOther_20 ?_
    refine lv_aload_n hx hb dX7_isOther_21 rfl (lv_at hl 0 rfl) ?_
    obtain ⟨v7, e9, hJ⟩ := rp_b hJ
    obtain ⟨f9, g9, e9⟩ := fR_s e9
    refine rp_get X I g9 e9 rfl wiX7 (by decide) wm_547 dX7_isOther_22 ?_
    refine lv_iload_n hx hb dX7_isOther_25 rfl (lv_at hl 1 rfl) ?_
    obtain ⟨v8, e9, hJ⟩ := rp_b hJ
    refine rp_iald X I e9 rfl dX7_isOther_26 ?_
    refine lv_icmp_ne (tgt := 60) hx hb dX7_isOther_27 (by decide) (fun c9 => ?_) (fun c9 => ?_)
    · rw [if_neg c9] at hJ
      refine lv_iconst (v := 1) hx hb dX7_isOther_60 (by decide) ?_
      exact rp_zret X hr (Or.inr rfl) hJ I dX7_isOther_61
    · rw [if_pos c9] at hJ
      refine lv_aload_n hx hb dX7_isOther_30 rfl (lv_at hl 0 rfl) ?_
      obtain ⟨v9, e9, hJ⟩ := rp_b hJ
      obtain ⟨f9, g9, e9⟩ := fR_s e9
      refine rp_get X I g9 e9 rfl wiX7 (by decide) wm_541 dX7_isOther_31 ?_
      refine lv_iload_n hx hb dX7_isOther_34 rfl (lv_at hl 1 rfl) ?_
      obtain ⟨v10, e9, hJ⟩ := rp_b hJ
      refine rp_iald X I e9 rfl dX7_isOther_35 ?_
      refine lv_aload_n hx hb dX7_isOther_36 rfl (lv_at hl 0 rfl) ?_
      obtain ⟨v11, e9, hJ⟩ := rp_b hJ
      obtain ⟨f9, g9, e9⟩ := fR_s e9
      refine rp_get X I g9 e9 rfl wiX7 (by decide) wm_548 dX7_isOther_37 ?_
      refine lv_iload_n hx hb dX7_isOther_40 rfl (lv_at hl 1 rfl) ?_
      obtain ⟨v12, e9, hJ⟩ := rp_b hJ
      refine rp_iald X I e9 rfl dX7_isOther_41 ?_
      refine lv_icmp_ne (tgt := 60) hx hb dX7_isOther_42 (by decide) (fun c9 => ?_) (fun c9 => ?_)
      · rw [if_neg c9] at hJ
        refine lv_iconst (v := 1) hx hb dX7_isOther_60 (by decide) ?_
        exact rp_zret X hr (Or.inr rfl) hJ I dX7_isOther_61
      · rw [if_pos c9] at hJ
        refine lv_aload_n hx hb dX7_isOther_45 rfl (lv_at hl 0 rfl) ?_
        obtain ⟨v13, e9, hJ⟩ := rp_b hJ
        obtain ⟨f9, g9, e9⟩ := fR_s e9
        refine rp_get X I g9 e9 rfl wiX7 (by decide) wm_542 dX7_isOther_46 ?_
        refine lv_iload_n hx hb dX7_isOther_49 rfl (lv_at hl 1 rfl) ?_
        obtain ⟨v14, e9, hJ⟩ := rp_b hJ
        refine rp_iald X I e9 rfl dX7_isOther_50 ?_
        refine lv_aload_n hx hb dX7_isOther_51 rfl (lv_at hl 0 rfl) ?_
        obtain ⟨v15, e9, hJ⟩ := rp_b hJ
        obtain ⟨f9, g9, e9⟩ := fR_s e9
        refine rp_get X I g9 e9 rfl wiX7 (by decide) wm_549 dX7_isOther_52 ?_
        refine lv_iload_n hx hb dX7_isOther_55 rfl (lv_at hl 1 rfl) ?_
        obtain ⟨v16, e9, hJ⟩ := rp_b hJ
        refine rp_iald X I e9 rfl dX7_isOther_56 ?_
        refine lv_icmp_eq (tgt := 62) hx hb dX7_isOther_57 (by decide) (fun c9 => ?_) (fun c9 => ?_)
        · rw [if_pos c9] at hJ
          refine lv_iconst (v := 0) hx hb dX7_isOther_62 (by decide) ?_
          refine lv_istore_n (lv' := [(2, .int (0 : Int32)), (0, .ref x0), (1, .int x1)]) hx hb dX7_isOther_63 rfl hl (by decide) rfl (fun ls hl => ?_)
          refine lv_iconst (v := 0) hx hb dX7_isOther_64 (by decide) ?_
          refine lv_istore_n (lv' := [(3, .int (0 : Int32)), (2, .int (0 : Int32)), (0, .ref x0), (1, .int x1)]) hx hb dX7_isOther_65 rfl hl (by decide) rfl (fun ls hl => ?_)
          exact w_Mod_isOther_66 X hN hr N _ _ _ _ _ _ _ _ hJ I (lv_sub hl [2, 3, 1, 0] rfl)
        · rw [if_neg c9] at hJ
          refine lv_iconst (v := 1) hx hb dX7_isOther_60 (by decide) ?_
          exact rp_zret X hr (Or.inr rfl) hJ I dX7_isOther_61
def rmX7_why : Room := { frames := 1, cells := 0, slots := 0, locals := 23 }
def J_Mod_why_80 (N : Nat)  : Nat → Nat → Int32 → Int32 → Int32 → Hp → Option (Int32 × Hp)
  | 0, _, _, _, _, _ => none
  | n + 1, x0, x1, x3, x4, h =>
  (fR h 7 x0 8).bind fun v6 =>
  (aI h 0 v6 x1).bind fun v7 =>
  if v7 ≤ x4 then
  (if x3 = 0 then
  (some ((0 : Int32), h))
  else
  (some ((4 : Int32), h)))
  else
  ((fR h 7 x0 10).bind fun v8 =>
  (aI h 0 v8 (((6 : Int32) * x1) + x4)).bind fun v9 =>
  if x3 = 0 then
  ((fR h 7 x0 1).bind fun v10 =>
  (aI h 1 v10 v9).bind fun v11 =>
  if v11 = 0 then
  ((J_Mod_why_80 N n) x0 x1 (1 : Int32) (x4 + (1 : Int32)) h)
  else
  ((fR h 7 x0 2).bind fun v12 =>
  (aI h 0 v12 v9).bind fun v13 =>
  (fR h 7 x0 19).bind fun v14 =>
  (aI h 0 v14 (((6 : Int32) * x1) + x4)).bind fun v15 =>
  if v13 = v15 then
  ((J_Mod_why_80 N n) x0 x1 (0 : Int32) (x4 + (1 : Int32)) h)
  else
  ((J_Mod_why_80 N n) x0 x1 (1 : Int32) (x4 + (1 : Int32)) h)))
  else
  ((J_Mod_why_80 N n) x0 x1 (1 : Int32) (x4 + (1 : Int32)) h))
def J_Mod_why_25 (N : Nat)  : Nat → Nat → Int32 → Int32 → Int32 → Hp → Option (Int32 × Hp)
  | 0, _, _, _, _, _ => none
  | n + 1, x0, x1, x2, x3, h =>
  (fR h 7 x0 9).bind fun v4 =>
  (aI h 0 v4 x1).bind fun v5 =>
  if v5 ≤ x3 then
  (if x2 = 0 then
  (J_Mod_why_80 N N x0 x1 (0 : Int32) (0 : Int32) h)
  else
  (some ((3 : Int32), h)))
  else
  (if x2 = 0 then
  ((fR h 7 x0 1).bind fun v16 =>
  (fR h 7 x0 11).bind fun v17 =>
  (aI h 0 v17 (((3 : Int32) * x1) + x3)).bind fun v18 =>
  (aI h 1 v16 v18).bind fun v19 =>
  if v19 = 0 then
  ((J_Mod_why_25 N n) x0 x1 (1 : Int32) (x3 + (1 : Int32)) h)
  else
  ((J_Mod_why_25 N n) x0 x1 (0 : Int32) (x3 + (1 : Int32)) h))
  else
  ((J_Mod_why_25 N n) x0 x1 (1 : Int32) (x3 + (1 : Int32)) h))
def J_Mod_why (N : Nat) (x0 : Nat) (x1 : Int32) (h : Hp) : Option (Int32 × Hp) :=
  (fR h 7 x0 12).bind fun v1 =>
  (aI h 1 v1 x1).bind fun v2 =>
  if v2 = 0 then
  (some ((1 : Int32), h))
  else
  ((isO h 7 x0).bind fun _ =>
  (J_Mod_isOther N x0 x1 h).bind fun q3 =>
 if q3.1 = 0 then
  (J_Mod_why_25 N N x0 x1 (0 : Int32) (0 : Int32) q3.2)
  else
  (some ((2 : Int32), q3.2)))
set_option maxHeartbeats 4000000 in
set_option maxRecDepth 100000 in
theorem w_Mod_why_80 (X : Cx p s m args meth c D vwCl tys cX7_why 6 RX7 wsG) (hN : nwS s) (hr : meth.sig.returnType = (some .int)) {res : (Int32 × Hp)} {N : Nat}   : ∀ (n : Nat) (x0 : Nat) (x1 : Int32) (x3 : Int32) (x4 : Int32)  (h : Hp) (H : Heap) (locs : List Loc) (ls : Array Slot), J_Mod_why_80 N n x0 x1 x3 x4 h = some res → In D vwCl tys A s h H locs → lv_has ls 6 [(0, .ref x0), (1, .int x1), (3, .int x3), (4, .int x4)] → W p l e rmX7_why s m args below meth c H locs 0 0 (MQ below (Qr D vwCl tys A (some (.int res.1)) res.2) args s 0 0 A) (F0 m 80 ls []) := by
  have hx := X.1.1
  have hb := X.1.2.1
  have hml := X.1.2.2.1
  have ho := X.1.2.2.2.1
  have hts := X.1.2.2.2.2
  have hK := X.2.1
  have hT := X.2.2.2
  intro n
  induction n with
  | zero =>
    intro x0 x1 x3 x4  h H locs ls hJ I hl
    exact nomatch (show (none : Option (Int32 × Hp)) = some res from hJ)
  | succ n k80 =>
    intro x0 x1 x3 x4  h H locs ls hJ I hl
    rw [J_Mod_why_80] at hJ
    refine lv_iload hx hb dX7_why_80 (lv_at hl 3 rfl) ?_
    refine lv_aload_n hx hb dX7_why_82 rfl (lv_at hl 0 rfl) ?_
    obtain ⟨v6, e9, hJ⟩ := rp_b hJ
    obtain ⟨f9, g9, e9⟩ := fR_s e9
    refine rp_get X I g9 e9 rfl wiX7 (by decide) wm_541 dX7_why_83 ?_
    refine lv_iload_n hx hb dX7_why_86 rfl (lv_at hl 1 rfl) ?_
    obtain ⟨v7, e9, hJ⟩ := rp_b hJ
    refine rp_iald X I e9 rfl dX7_why_87 ?_
    refine lv_icmp_ge (tgt := 153) hx hb dX7_why_88 (by decide) (fun c9 => ?_) (fun c9 => ?_)
    · rw [if_pos c9] at hJ
      refine lv_iload_n hx hb dX7_why_153 rfl (lv_at hl 2 rfl) ?_
      refine lv_if_eq (tgt := 161) hx hb dX7_why_154 (by decide) (fun c9 => ?_) (fun c9 => ?_)
      · rw [if_pos c9] at hJ
        refine lv_iconst (v := 0) hx hb dX7_why_161 (by decide) ?_
        exact rp_iret X hr hJ I dX7_why_162
      · rw [if_neg c9] at hJ
        refine lv_iconst (v := 4) hx hb dX7_why_157 (by decide) ?_
        refine lv_goto (tgt := 162) hx hb dX7_why_158 (by decide) ?_
        exact rp_iret X hr hJ I dX7_why_162
    · rw [if_neg c9] at hJ
      refine lv_aload_n hx hb dX7_why_91 rfl (lv_at hl 0 rfl) ?_
      obtain ⟨v8, e9, hJ⟩ := rp_b hJ
      obtain ⟨f9, g9, e9⟩ := fR_s e9
      refine rp_get X I g9 e9 rfl wiX7 (by decide) wm_543 dX7_why_92 ?_
      refine lv_bipush (v := 6) hx hb dX7_why_95 (by decide) ?_
      refine lv_iload_n hx hb dX7_why_97 rfl (lv_at hl 1 rfl) ?_
      refine lv_imul hx hb dX7_why_98 ?_
      refine lv_iload hx hb dX7_why_99 (lv_at hl 3 rfl) ?_
      refine lv_iadd hx hb dX7_why_101 ?_
      obtain ⟨v9, e9, hJ⟩ := rp_b hJ
      refine rp_iald X I e9 rfl dX7_why_102 ?_
      refine lv_istore (lv' := [(5, .int v9), (0, .ref x0), (1, .int x1), (3, .int x3), (4, .int x4)]) hx hb dX7_why_103 hl (by decide) rfl (fun ls hl => ?_)
      refine lv_iload_n hx hb dX7_why_105 rfl (lv_at hl 3 rfl) ?_
      refine lv_if_ne (tgt := 141) hx hb dX7_why_106 (by decide) (fun c9 => ?_) (fun c9 => ?_)
      · rw [if_neg c9] at hJ
        refine lv_iconst (v := 1) hx hb dX7_why_141 (by decide) ?_
        refine lv_goto (tgt := 146) hx hb dX7_why_142 (by decide) ?_
        refine lv_istore_n (lv' := [(3, .int (1 : Int32)), (5, .int v9), (0, .ref x0), (1, .int x1), (4, .int x4)]) hx hb dX7_why_146 rfl hl (by decide) rfl (fun ls hl => ?_)
        refine lv_iinc (v := (x4 + (1 : Int32))) (lv' := [(4, .int (x4 + (1 : Int32))), (3, .int (1 : Int32)), (5, .int v9), (0, .ref x0), (1, .int x1)]) hx hb dX7_why_147 hl (k := 4) rfl rfl (by decide) rfl (fun ls hl => ?_)
        refine lv_goto (tgt := 80) hx hb dX7_why_150 (by decide) ?_
        exact k80 _ _ _ _ _ _ _ _ hJ I (lv_sub hl [3, 4, 1, 0] rfl)
      · rw [if_pos c9] at hJ
        refine lv_aload_n hx hb dX7_why_109 rfl (lv_at hl 1 rfl) ?_
        obtain ⟨v10, e9, hJ⟩ := rp_b hJ
        obtain ⟨f9, g9, e9⟩ := fR_s e9
        refine rp_get X I g9 e9 rfl wiX7 (by decide) wm_534 dX7_why_110 ?_
        refine lv_iload hx hb dX7_why_113 (lv_at hl 0 rfl) ?_
        obtain ⟨v11, e9, hJ⟩ := rp_b hJ
        refine rp_zald X I e9 rfl dX7_why_115 ?_
        refine lv_if_eq (tgt := 141) hx hb dX7_why_116 (by decide) (fun c9 => ?_) (fun c9 => ?_)
        · rw [if_pos c9] at hJ
          refine lv_iconst (v := 1) hx hb dX7_why_141 (by decide) ?_
          refine lv_goto (tgt := 146) hx hb dX7_why_142 (by decide) ?_
          refine lv_istore_n (lv' := [(3, .int (1 : Int32)), (5, .int v9), (0, .ref x0), (1, .int x1), (4, .int x4)]) hx hb dX7_why_146 rfl hl (by decide) rfl (fun ls hl => ?_)
          refine lv_iinc (v := (x4 + (1 : Int32))) (lv' := [(4, .int (x4 + (1 : Int32))), (3, .int (1 : Int32)), (5, .int v9), (0, .ref x0), (1, .int x1)]) hx hb dX7_why_147 hl (k := 4) rfl rfl (by decide) rfl (fun ls hl => ?_)
          refine lv_goto (tgt := 80) hx hb dX7_why_150 (by decide) ?_
          exact k80 _ _ _ _ _ _ _ _ hJ I (lv_sub hl [3, 4, 1, 0] rfl)
        · rw [if_neg c9] at hJ
          refine lv_aload_n hx hb dX7_why_119 rfl (lv_at hl 1 rfl) ?_
          obtain ⟨v12, e9, hJ⟩ := rp_b hJ
          obtain ⟨f9, g9, e9⟩ := fR_s e9
          refine rp_get X I g9 e9 rfl wiX7 (by decide) wm_535 dX7_why_120 ?_
          refine lv_iload hx hb dX7_why_123 (lv_at hl 0 rfl) ?_
          obtain ⟨v13, e9, hJ⟩ := rp_b hJ
          refine rp_iald X I e9 rfl dX7_why_125 ?_
          refine lv_aload_n hx hb dX7_why_126 rfl (lv_at hl 1 rfl) ?_
          obtain ⟨v14, e9, hJ⟩ := rp_b hJ
          obtain ⟨f9, g9, e9⟩ := fR_s e9
          refine rp_get X I g9 e9 rfl wiX7 (by decide) wm_552 dX7_why_127 ?_
          refine lv_bipush (v := 6) hx hb dX7_why_130 (by decide) ?_
          refine lv_iload_n hx hb dX7_why_132 rfl (lv_at hl 2 rfl) ?_
          refine lv_imul hx hb dX7_why_133 ?_
          refine lv_iload hx hb dX7_why_134 (lv_at hl 4 rfl) ?_
          refine lv_iadd hx hb dX7_why_136 ?_
          obtain ⟨v15, e9, hJ⟩ := rp_b hJ
          refine rp_iald X I e9 rfl dX7_why_137 ?_
          refine lv_icmp_eq (tgt := 145) hx hb dX7_why_138 (by decide) (fun c9 => ?_) (fun c9 => ?_)
          · rw [if_pos c9] at hJ
            refine lv_iconst (v := 0) hx hb dX7_why_145 (by decide) ?_
            refine lv_istore_n (lv' := [(3, .int (0 : Int32)), (5, .int v9), (0, .ref x0), (1, .int x1), (4, .int x4)]) hx hb dX7_why_146 rfl hl (by decide) rfl (fun ls hl => ?_)
            refine lv_iinc (v := (x4 + (1 : Int32))) (lv' := [(4, .int (x4 + (1 : Int32))), (3, .int (0 : Int32)), (5, .int v9), (0, .ref x0), (1, .int x1)]) hx hb dX7_why_147 hl (k := 4) rfl rfl (by decide) rfl (fun ls hl => ?_)
            refine lv_goto (tgt := 80) hx hb dX7_why_150 (by decide) ?_
            exact k80 _ _ _ _ _ _ _ _ hJ I (lv_sub hl [3, 4, 1, 0] rfl)
          · rw [if_neg c9] at hJ
            refine lv_iconst (v := 1) hx hb dX7_why_141 (by decide) ?_
            refine lv_goto (tgt := 146) hx hb dX7_why_142 (by decide) ?_
            refine lv_istore_n (lv' := [(3, .int (1 : Int32)), (5, .int v9), (0, .ref x0), (1, .int x1), (4, .int x4)]) hx hb dX7_why_146 rfl hl (by decide) rfl (fun ls hl => ?_)
            refine lv_iinc (v := (x4 + (1 : Int32))) (lv' := [(4, .int (x4 + (1 : Int32))), (3, .int (1 : Int32)), (5, .int v9), (0, .ref x0), (1, .int x1)]) hx hb dX7_why_147 hl (k := 4) rfl rfl (by decide) rfl (fun ls hl => ?_)
            refine lv_goto (tgt := 80) hx hb dX7_why_150 (by decide) ?_
            exact k80 _ _ _ _ _ _ _ _ hJ I (lv_sub hl [3, 4, 1, 0] rfl)
set_option maxHeartbeats 4000000 in
set_option maxRecDepth 100000 in
theorem w_Mod_why_25 (X : Cx p s m args meth c D vwCl tys cX7_why 6 RX7 wsG) (hN : nwS s) (hr : meth.sig.returnType = (some .int)) {res : (Int32 × Hp)} {N : Nat}   : ∀ (n : Nat) (x0 : Nat) (x1 : Int32) (x2 : Int32) (x3 : Int32)  (h : Hp) (H : Heap) (locs : List Loc) (ls : Array Slot), J_Mod_why_25 N n x0 x1 x2 x3 h = some res → In D vwCl tys A s h H locs → lv_has ls 6 [(0, .ref x0), (1, .int x1), (2, .int x2), (3, .int x3)] → W p l e rmX7_why s m args below meth c H locs 0 0 (MQ below (Qr D vwCl tys A (some (.int res.1)) res.2) args s 0 0 A) (F0 m 25 ls []) := by
  have hx := X.1.1
  have hb := X.1.2.1
  have hml := X.1.2.2.1
  have ho := X.1.2.2.2.1
  have hts := X.1.2.2.2.2
  have hK := X.2.1
  have hT := X.2.2.2
  intro n
  induction n with
  | zero =>
    intro x0 x1 x2 x3  h H locs ls hJ I hl
    exact nomatch (show (none : Option (Int32 × Hp)) = some res from hJ)
  | succ n k25 =>
    intro x0 x1 x2 x3  h H locs ls hJ I hl
    rw [J_Mod_why_25] at hJ
    refine lv_iload_n hx hb dX7_why_25 rfl (lv_at hl 3 rfl) ?_
    refine lv_aload_n hx hb dX7_why_26 rfl (lv_at hl 0 rfl) ?_
    obtain ⟨v4, e9, hJ⟩ := rp_b hJ
    obtain ⟨f9, g9, e9⟩ := fR_s e9
    refine rp_get X I g9 e9 rfl wiX7 (by decide) wm_542 dX7_why_27 ?_
    refine lv_iload_n hx hb dX7_why_30 rfl (lv_at hl 1 rfl) ?_
    obtain ⟨v5, e9, hJ⟩ := rp_b hJ
    refine rp_iald X I e9 rfl dX7_why_31 ?_
    refine lv_icmp_ge (tgt := 69) hx hb dX7_why_32 (by decide) (fun c9 => ?_) (fun c9 => ?_)
    · rw [if_pos c9] at hJ
      refine lv_iload_n hx hb dX7_why_69 rfl (lv_at hl 2 rfl) ?_
      refine lv_if_eq (tgt := 75) hx hb dX7_why_70 (by decide) (fun c9 => ?_) (fun c9 => ?_)
      · rw [if_pos c9] at hJ
        refine lv_iconst (v := 0) hx hb dX7_why_75 (by decide) ?_
        refine lv_istore_n (lv' := [(3, .int (0 : Int32)), (0, .ref x0), (1, .int x1), (2, .int x2)]) hx hb dX7_why_76 rfl hl (by decide) rfl (fun ls hl => ?_)
        refine lv_iconst (v := 0) hx hb dX7_why_77 (by decide) ?_
        refine lv_istore (lv' := [(4, .int (0 : Int32)), (3, .int (0 : Int32)), (0, .ref x0), (1, .int x1), (2, .int x2)]) hx hb dX7_why_78 hl (by decide) rfl (fun ls hl => ?_)
        exact w_Mod_why_80 X hN hr N _ _ _ _ _ _ _ _ hJ I (lv_sub hl [2, 3, 1, 0] rfl)
      · rw [if_neg c9] at hJ
        refine lv_iconst (v := 3) hx hb dX7_why_73 (by decide) ?_
        exact rp_iret X hr hJ I dX7_why_74
    · rw [if_neg c9] at hJ
      refine lv_iload_n hx hb dX7_why_35 rfl (lv_at hl 2 rfl) ?_
      refine lv_if_ne (tgt := 57) hx hb dX7_why_36 (by decide) (fun c9 => ?_) (fun c9 => ?_)
      · rw [if_neg c9] at hJ
        refine lv_iconst (v := 1) hx hb dX7_why_57 (by decide) ?_
        refine lv_goto (tgt := 62) hx hb dX7_why_58 (by decide) ?_
        refine lv_istore_n (lv' := [(2, .int (1 : Int32)), (0, .ref x0), (1, .int x1), (3, .int x3)]) hx hb dX7_why_62 rfl hl (by decide) rfl (fun ls hl => ?_)
        refine lv_iinc (v := (x3 + (1 : Int32))) (lv' := [(3, .int (x3 + (1 : Int32))), (2, .int (1 : Int32)), (0, .ref x0), (1, .int x1)]) hx hb dX7_why_63 hl (k := 3) rfl rfl (by decide) rfl (fun ls hl => ?_)
        refine lv_goto (tgt := 25) hx hb dX7_why_66 (by decide) ?_
        exact k25 _ _ _ _ _ _ _ _ hJ I (lv_sub hl [2, 3, 1, 0] rfl)
      · rw [if_pos c9] at hJ
        refine lv_aload_n hx hb dX7_why_39 rfl (lv_at hl 0 rfl) ?_
        obtain ⟨v16, e9, hJ⟩ := rp_b hJ
        obtain ⟨f9, g9, e9⟩ := fR_s e9
        refine rp_get X I g9 e9 rfl wiX7 (by decide) wm_534 dX7_why_40 ?_
        refine lv_aload_n hx hb dX7_why_43 rfl (lv_at hl 0 rfl) ?_
        obtain ⟨v17, e9, hJ⟩ := rp_b hJ
        obtain ⟨f9, g9, e9⟩ := fR_s e9
        refine rp_get X I g9 e9 rfl wiX7 (by decide) wm_544 dX7_why_44 ?_
        refine lv_iconst (v := 3) hx hb dX7_why_47 (by decide) ?_
        refine lv_iload_n hx hb dX7_why_48 rfl (lv_at hl 1 rfl) ?_
        refine lv_imul hx hb dX7_why_49 ?_
        refine lv_iload_n hx hb dX7_why_50 rfl (lv_at hl 3 rfl) ?_
        refine lv_iadd hx hb dX7_why_51 ?_
        obtain ⟨v18, e9, hJ⟩ := rp_b hJ
        refine rp_iald X I e9 rfl dX7_why_52 ?_
        obtain ⟨v19, e9, hJ⟩ := rp_b hJ
        refine rp_zald X I e9 rfl dX7_why_53 ?_
        refine lv_if_ne (tgt := 61) hx hb dX7_why_54 (by decide) (fun c9 => ?_) (fun c9 => ?_)
        · rw [if_neg c9] at hJ
          refine lv_iconst (v := 0) hx hb dX7_why_61 (by decide) ?_
          refine lv_istore_n (lv' := [(2, .int (0 : Int32)), (0, .ref x0), (1, .int x1), (3, .int x3)]) hx hb dX7_why_62 rfl hl (by decide) rfl (fun ls hl => ?_)
          refine lv_iinc (v := (x3 + (1 : Int32))) (lv' := [(3, .int (x3 + (1 : Int32))), (2, .int (0 : Int32)), (0, .ref x0), (1, .int x1)]) hx hb dX7_why_63 hl (k := 3) rfl rfl (by decide) rfl (fun ls hl => ?_)
          refine lv_goto (tgt := 25) hx hb dX7_why_66 (by decide) ?_
          exact k25 _ _ _ _ _ _ _ _ hJ I (lv_sub hl [2, 3, 1, 0] rfl)
        · rw [if_pos c9] at hJ
          refine lv_iconst (v := 1) hx hb dX7_why_57 (by decide) ?_
          refine lv_goto (tgt := 62) hx hb dX7_why_58 (by decide) ?_
          refine lv_istore_n (lv' := [(2, .int (1 : Int32)), (0, .ref x0), (1, .int x1), (3, .int x3)]) hx hb dX7_why_62 rfl hl (by decide) rfl (fun ls hl => ?_)
          refine lv_iinc (v := (x3 + (1 : Int32))) (lv' := [(3, .int (x3 + (1 : Int32))), (2, .int (1 : Int32)), (0, .ref x0), (1, .int x1)]) hx hb dX7_why_63 hl (k := 3) rfl rfl (by decide) rfl (fun ls hl => ?_)
          refine lv_goto (tgt := 25) hx hb dX7_why_66 (by decide) ?_
          exact k25 _ _ _ _ _ _ _ _ hJ I (lv_sub hl [2, 3, 1, 0] rfl)
set_option maxHeartbeats 4000000 in
set_option maxRecDepth 100000 in
theorem c_Mod_why {l : Launch} {D : va_G} {tys : List (ClassId × FieldType)} {A : Nat → Prop} (hT : tys.map (fun q => q.2) = tyS) {N : Nat} {x0 : Nat} {x1 : Int32} {h : Hp} {res : (Int32 × Hp)} (hJ : J_Mod_why N x0 x1 h = some res) : Ct l D vwCl tys A yX7_why (Cond.code yX7_why cX7_why 6 (some .int) :: wsG) rmX7_why [.ref x0, .int x1] h (some (.int res.1)) res.2 := by
  refine Met.ofW (cc := cX7_why) (maxL := 6) (ret := (some .int)) (by decide) rfl ?_
  intro p e s m args below meth c s₁ B hml hv
  obtain ⟨rfl, hA, hR, hK, hN⟩ := hv
  have hr := B.returns
  have hts : ∀ w ∈ wsG, w.before [.ref x0, .int x1].toArray s = true := fun w hw => atoms_spec (ws := Cond.code yX7_why cX7_why 6 (some .int) :: wsG) B.pre w (List.mem_cons_of_mem _ hw)
  have X : Cx p s m [.ref x0, .int x1].toArray meth c D vwCl tys cX7_why 6 RX7 wsG := ⟨⟨B.exec, B.bytes, hml, findClass_of_methodNamed B.named, hts⟩, hK, B.notSynchronized, hT⟩
  have hx := B.exec
  have hb := B.bytes
  have I : In D vwCl tys A s h s.heap [] := ⟨hR, va_S.rf, hA⟩
  have hl := lv_entry [.ref x0, .int x1] (n := 6) (Nat.le_of_ble_eq_true rfl)
  rw [lg_entry_eq]
  generalize (lg_sl [.ref x0, .int x1] ++ List.replicate (6 - (lg_sl [.ref x0, .int x1]).length) Slot.unset).toArray = ls at hl ⊢
  have hl : lv_has ls 6 [(0, .ref x0), (1, .int x1)] := hl
  have ho := X.1.2.2.2.1
  rw [J_Mod_why] at hJ
  refine lv_aload_n hx hb dX7_why_0 rfl (lv_at hl 0 rfl) ?_
  obtain ⟨v1, e9, hJ⟩ := rp_b hJ
  obtain ⟨f9, g9, e9⟩ := fR_s e9
  refine rp_get X I g9 e9 rfl wiX7 (by decide) wm_545 dX7_why_1 ?_
  refine lv_iload_n hx hb dX7_why_4 rfl (lv_at hl 1 rfl) ?_
  obtain ⟨v2, e9, hJ⟩ := rp_b hJ
  refine rp_zald X I e9 rfl dX7_why_5 ?_
  refine lv_if_ne (tgt := 11) hx hb dX7_why_6 (by decide) (fun c9 => ?_) (fun c9 => ?_)
  · rw [if_neg c9] at hJ
    refine lv_aload_n hx hb dX7_why_11 rfl (lv_at hl 0 rfl) ?_
    refine lv_iload_n hx hb dX7_why_12 rfl (lv_at hl 1 rfl) ?_
    obtain ⟨u9, i9, hJ⟩ := rp_b hJ
    obtain ⟨f9, i9⟩ := isO_s i9
    obtain ⟨q3, e9, hJ⟩ := rp_b hJ
    refine rp_callV (As := [.int x1]) (rest := []) X hN I (c_Mod_isOther hT e9) (cwV 1 hts (gdV wm_655 wm_656 wm_18 wm_40 wm_657) rfl rfl rfl (by decide +kernel) ⟨Nat.le_of_ble_eq_true rfl, Nat.le_of_ble_eq_true rfl⟩) i9 rfl rfl hl.1 rfl (Nat.le_of_ble_eq_true rfl) dX7_why_13 ⟨(Nat.le_of_ble_eq_true rfl), (Nat.le_of_ble_eq_true rfl)⟩ (fun H locs I => ?_)
    refine W.cs (cells' := 0) (slots' := 0) rfl rfl ?_
    refine lv_if_eq (tgt := 21) hx hb dX7_why_16 (by decide) (fun c9 => ?_) (fun c9 => ?_)
    · rw [if_pos c9] at hJ
      refine lv_iconst (v := 0) hx hb dX7_why_21 (by decide) ?_
      refine lv_istore_n (lv' := [(2, .int (0 : Int32)), (0, .ref x0), (1, .int x1)]) hx hb dX7_why_22 rfl hl (by decide) rfl (fun ls hl => ?_)
      refine lv_iconst (v := 0) hx hb dX7_why_23 (by decide) ?_
      refine lv_istore_n (lv' := [(3, .int (0 : Int32)), (2, .int (0 : Int32)), (0, .ref x0), (1, .int x1)]) hx hb dX7_why_24 rfl hl (by decide) rfl (fun ls hl => ?_)
      exact w_Mod_why_25 X hN hr N _ _ _ _ _ _ _ _ hJ I (lv_sub hl [2, 3, 1, 0] rfl)
    · rw [if_neg c9] at hJ
      refine lv_iconst (v := 2) hx hb dX7_why_19 (by decide) ?_
      exact rp_iret X hr hJ I dX7_why_20
  · rw [if_pos c9] at hJ
    refine lv_iconst (v := 1) hx hb dX7_why_9 (by decide) ?_
    exact rp_iret X hr hJ I dX7_why_10
def rmX7_reason : Room := { frames := 2, cells := 0, slots := 0, locals := 48 }
def J_Mod_reason (N : Nat) (x0 : Nat) (x1 : Int32) (h : Hp) : Option (Int32 × Hp) :=
  (sF h 7 x0 0 (.int (0 : Int32))).bind fun h1 =>
  (isO h1 7 x0).bind fun _ =>
  (J_Mod_isStep N x0 x1 h1).bind fun q2 =>
 if q2.1 = 0 then
  (some ((-1 : Int32), q2.2))
  else
  ((isO q2.2 7 x0).bind fun _ =>
  (J_Mod_why N x0 x1 q2.2).bind fun q3 =>
 some (q3.1, q3.2))
set_option maxHeartbeats 4000000 in
set_option maxRecDepth 100000 in
theorem c_Mod_reason {l : Launch} {D : va_G} {tys : List (ClassId × FieldType)} {A : Nat → Prop} (hT : tys.map (fun q => q.2) = tyS) {N : Nat} {x0 : Nat} {x1 : Int32} {h : Hp} {res : (Int32 × Hp)} (hJ : J_Mod_reason N x0 x1 h = some res) : Ct l D vwCl tys A yX7_reason (Cond.code yX7_reason cX7_reason 2 (some .int) :: wsG) rmX7_reason [.ref x0, .int x1] h (some (.int res.1)) res.2 := by
  refine Met.ofW (cc := cX7_reason) (maxL := 2) (ret := (some .int)) (by decide) rfl ?_
  intro p e s m args below meth c s₁ B hml hv
  obtain ⟨rfl, hA, hR, hK, hN⟩ := hv
  have hr := B.returns
  have hts : ∀ w ∈ wsG, w.before [.ref x0, .int x1].toArray s = true := fun w hw => atoms_spec (ws := Cond.code yX7_reason cX7_reason 2 (some .int) :: wsG) B.pre w (List.mem_cons_of_mem _ hw)
  have X : Cx p s m [.ref x0, .int x1].toArray meth c D vwCl tys cX7_reason 2 RX7 wsG := ⟨⟨B.exec, B.bytes, hml, findClass_of_methodNamed B.named, hts⟩, hK, B.notSynchronized, hT⟩
  have hx := B.exec
  have hb := B.bytes
  have I : In D vwCl tys A s h s.heap [] := ⟨hR, va_S.rf, hA⟩
  have hl := lv_entry [.ref x0, .int x1] (n := 2) (Nat.le_of_ble_eq_true rfl)
  rw [lg_entry_eq]
  generalize (lg_sl [.ref x0, .int x1] ++ List.replicate (2 - (lg_sl [.ref x0, .int x1]).length) Slot.unset).toArray = ls at hl ⊢
  have hl : lv_has ls 2 [(0, .ref x0), (1, .int x1)] := hl
  have ho := X.1.2.2.2.1
  rw [J_Mod_reason] at hJ
  refine lv_aload_n hx hb dX7_reason_0 rfl (lv_at hl 0 rfl) ?_
  refine lv_iconst (v := 0) hx hb dX7_reason_1 (by decide) ?_
  obtain ⟨h1, e9, hJ⟩ := rp_b hJ
  refine rp_put (ty := .int) X I e9 rfl wiX7 tyX7 tyX7_ok nmX7 (by decide) wm_533 rfl (by decide +kernel) rfl rfl dX7_reason_2 (fun H locs I => ?_)
  refine lv_aload_n hx hb dX7_reason_5 rfl (lv_at hl 0 rfl) ?_
  refine lv_iload_n hx hb dX7_reason_6 rfl (lv_at hl 1 rfl) ?_
  obtain ⟨u9, i9, hJ⟩ := rp_b hJ
  obtain ⟨f9, i9⟩ := isO_s i9
  obtain ⟨q2, e9, hJ⟩ := rp_b hJ
  refine rp_callV (As := [.int x1]) (rest := []) X hN I (c_Mod_isStep hT e9) (cwV 1 hts (gdV wm_626 wm_627 wm_16 wm_40 wm_628) rfl rfl rfl (by decide +kernel) ⟨Nat.le_of_ble_eq_true rfl, Nat.le_of_ble_eq_true rfl⟩) i9 rfl rfl hl.1 rfl (Nat.le_of_ble_eq_true rfl) dX7_reason_7 ⟨(Nat.le_of_ble_eq_true rfl), (Nat.le_of_ble_eq_true rfl)⟩ (fun H locs I => ?_)
  refine W.cs (cells' := 0) (slots' := 0) rfl rfl ?_
  refine lv_if_eq (tgt := 21) hx hb dX7_reason_10 (by decide) (fun c9 => ?_) (fun c9 => ?_)
  · rw [if_pos c9] at hJ
    refine lv_iconst (v := -1) hx hb dX7_reason_21 (by decide) ?_
    exact rp_iret X hr hJ I dX7_reason_22
  · rw [if_neg c9] at hJ
    refine lv_aload_n hx hb dX7_reason_13 rfl (lv_at hl 0 rfl) ?_
    refine lv_iload_n hx hb dX7_reason_14 rfl (lv_at hl 1 rfl) ?_
    obtain ⟨u9, i9, hJ⟩ := rp_b hJ
    obtain ⟨f9, i9⟩ := isO_s i9
    obtain ⟨q3, e9, hJ⟩ := rp_b hJ
    refine rp_callV (As := [.int x1]) (rest := []) X hN I (c_Mod_why hT e9) (cwV 1 hts (gdV wm_652 wm_653 wm_17 wm_40 wm_654) rfl rfl rfl (by decide +kernel) ⟨Nat.le_of_ble_eq_true rfl, Nat.le_of_ble_eq_true rfl⟩) i9 rfl rfl hl.1 rfl (Nat.le_of_ble_eq_true rfl) dX7_reason_15 ⟨(Nat.le_of_ble_eq_true rfl), (Nat.le_of_ble_eq_true rfl)⟩ (fun H locs I => ?_)
    refine W.cs (cells' := 0) (slots' := 0) rfl rfl ?_
    refine lv_goto (tgt := 22) hx hb dX7_reason_18 (by decide) ?_
    exact rp_iret X hr hJ I dX7_reason_22
def rmX7_takes : Room := { frames := 0, cells := 0, slots := 0, locals := 0 }
def J_Mod_takes_5 (N : Nat)  : Nat → Nat → Int32 → Int32 → Int32 → Int32 → Hp → Option (Int32 × Hp)
  | 0, _, _, _, _, _, _ => none
  | n + 1, x0, x1, x2, x3, x4, h =>
  (fR h 7 x0 8).bind fun v1 =>
  (aI h 0 v1 x1).bind fun v2 =>
  if v2 ≤ x4 then
  (zR x3 h)
  else
  (if x3 = 0 then
  ((fR h 7 x0 3).bind fun v3 =>
  (fR h 7 x0 10).bind fun v4 =>
  (aI h 0 v4 (((6 : Int32) * x1) + x4)).bind fun v5 =>
  (aI h 0 v3 v5).bind fun v6 =>
  if v6 = x2 then
  ((J_Mod_takes_5 N n) x0 x1 x2 (1 : Int32) (x4 + (1 : Int32)) h)
  else
  ((J_Mod_takes_5 N n) x0 x1 x2 (0 : Int32) (x4 + (1 : Int32)) h))
  else
  ((J_Mod_takes_5 N n) x0 x1 x2 (1 : Int32) (x4 + (1 : Int32)) h))
def J_Mod_takes (N : Nat) (x0 : Nat) (x1 : Int32) (x2 : Int32) (h : Hp) : Option (Int32 × Hp) :=
  J_Mod_takes_5 N N x0 x1 x2 (0 : Int32) (0 : Int32) h
set_option maxHeartbeats 4000000 in
set_option maxRecDepth 100000 in
theorem w_Mod_takes_5 (X : Cx p s m args meth c D vwCl tys cX7_takes 5 RX7 wsG) (hN : nwS s) (hr : meth.sig.returnType = (some .boolean)) {res : (Int32 × Hp)} {N : Nat}   : ∀ (n : Nat) (x0 : Nat) (x1 : Int32) (x2 : Int32) (x3 : Int32) (x4 : Int32)  (h : Hp) (H : Heap) (locs : List Loc) (ls : Array Slot), J_Mod_takes_5 N n x0 x1 x2 x3 x4 h = some res → In D vwCl tys A s h H locs → lv_has ls 5 [(0, .ref x0), (1, .int x1), (2, .int x2), (3, .int x3), (4, .int x4)] → W p l e rmX7_takes s m args below meth c H locs 0 0 (MQ below (Qr D vwCl tys A (some (.int res.1)) res.2) args s 0 0 A) (F0 m 5 ls []) := by
  have hx := X.1.1
  have hb := X.1.2.1
  have hml := X.1.2.2.1
  have ho := X.1.2.2.2.1
  have hts := X.1.2.2.2.2
  have hK := X.2.1
  have hT := X.2.2.2
  intro n
  induction n with
  | zero =>
    intro x0 x1 x2 x3 x4  h H locs ls hJ I hl
    exact nomatch (show (none : Option (Int32 × Hp)) = some res from hJ)
  | succ n k5 =>
    intro x0 x1 x2 x3 x4  h H locs ls hJ I hl
    rw [J_Mod_takes_5] at hJ
    refine lv_iload hx hb dX7_takes_5 (lv_at hl 4 rfl) ?_
    refine lv_aload_n hx hb dX7_takes_7 rfl (lv_at hl 0 rfl) ?_
    obtain ⟨v1, e9, hJ⟩ := rp_b hJ
    obtain ⟨f9, g9, e9⟩ := fR_s e9
    refine rp_get X I g9 e9 rfl wiX7 (by decide) wm_541 dX7_takes_8 ?_
    refine lv_iload_n hx hb dX7_takes_11 rfl (lv_at hl 1 rfl) ?_
    obtain ⟨v2, e9, hJ⟩ := rp_b hJ
    refine rp_iald X I e9 rfl dX7_takes_12 ?_
    refine lv_icmp_ge (tgt := 53) hx hb dX7_takes_13 (by decide) (fun c9 => ?_) (fun c9 => ?_)
    · rw [if_pos c9] at hJ
      refine lv_iload_n hx hb dX7_takes_53 rfl (lv_at hl 3 rfl) ?_
      obtain ⟨z9, hJ⟩ := zR_s hJ
      exact rp_zret X hr z9 hJ I dX7_takes_54
    · rw [if_neg c9] at hJ
      refine lv_iload_n hx hb dX7_takes_16 rfl (lv_at hl 3 rfl) ?_
      refine lv_if_ne (tgt := 41) hx hb dX7_takes_17 (by decide) (fun c9 => ?_) (fun c9 => ?_)
      · rw [if_neg c9] at hJ
        refine lv_iconst (v := 1) hx hb dX7_takes_41 (by decide) ?_
        refine lv_goto (tgt := 46) hx hb dX7_takes_42 (by decide) ?_
        refine lv_istore_n (lv' := [(3, .int (1 : Int32)), (0, .ref x0), (1, .int x1), (2, .int x2), (4, .int x4)]) hx hb dX7_takes_46 rfl hl (by decide) rfl (fun ls hl => ?_)
        refine lv_iinc (v := (x4 + (1 : Int32))) (lv' := [(4, .int (x4 + (1 : Int32))), (3, .int (1 : Int32)), (0, .ref x0), (1, .int x1), (2, .int x2)]) hx hb dX7_takes_47 hl (k := 4) rfl rfl (by decide) rfl (fun ls hl => ?_)
        refine lv_goto (tgt := 5) hx hb dX7_takes_50 (by decide) ?_
        exact k5 _ _ _ _ _ _ _ _ _ hJ I (lv_sub hl [2, 3, 4, 1, 0] rfl)
      · rw [if_pos c9] at hJ
        refine lv_aload_n hx hb dX7_takes_20 rfl (lv_at hl 0 rfl) ?_
        obtain ⟨v3, e9, hJ⟩ := rp_b hJ
        obtain ⟨f9, g9, e9⟩ := fR_s e9
        refine rp_get X I g9 e9 rfl wiX7 (by decide) wm_536 dX7_takes_21 ?_
        refine lv_aload_n hx hb dX7_takes_24 rfl (lv_at hl 0 rfl) ?_
        obtain ⟨v4, e9, hJ⟩ := rp_b hJ
        obtain ⟨f9, g9, e9⟩ := fR_s e9
        refine rp_get X I g9 e9 rfl wiX7 (by decide) wm_543 dX7_takes_25 ?_
        refine lv_bipush (v := 6) hx hb dX7_takes_28 (by decide) ?_
        refine lv_iload_n hx hb dX7_takes_30 rfl (lv_at hl 1 rfl) ?_
        refine lv_imul hx hb dX7_takes_31 ?_
        refine lv_iload hx hb dX7_takes_32 (lv_at hl 4 rfl) ?_
        refine lv_iadd hx hb dX7_takes_34 ?_
        obtain ⟨v5, e9, hJ⟩ := rp_b hJ
        refine rp_iald X I e9 rfl dX7_takes_35 ?_
        obtain ⟨v6, e9, hJ⟩ := rp_b hJ
        refine rp_iald X I e9 rfl dX7_takes_36 ?_
        refine lv_iload_n hx hb dX7_takes_37 rfl (lv_at hl 2 rfl) ?_
        refine lv_icmp_ne (tgt := 45) hx hb dX7_takes_38 (by decide) (fun c9 => ?_) (fun c9 => ?_)
        · rw [if_neg c9] at hJ
          refine lv_iconst (v := 0) hx hb dX7_takes_45 (by decide) ?_
          refine lv_istore_n (lv' := [(3, .int (0 : Int32)), (0, .ref x0), (1, .int x1), (2, .int x2), (4, .int x4)]) hx hb dX7_takes_46 rfl hl (by decide) rfl (fun ls hl => ?_)
          refine lv_iinc (v := (x4 + (1 : Int32))) (lv' := [(4, .int (x4 + (1 : Int32))), (3, .int (0 : Int32)), (0, .ref x0), (1, .int x1), (2, .int x2)]) hx hb dX7_takes_47 hl (k := 4) rfl rfl (by decide) rfl (fun ls hl => ?_)
          refine lv_goto (tgt := 5) hx hb dX7_takes_50 (by decide) ?_
          exact k5 _ _ _ _ _ _ _ _ _ hJ I (lv_sub hl [2, 3, 4, 1, 0] rfl)
        · rw [if_pos c9] at hJ
          refine lv_iconst (v := 1) hx hb dX7_takes_41 (by decide) ?_
          refine lv_goto (tgt := 46) hx hb dX7_takes_42 (by decide) ?_
          refine lv_istore_n (lv' := [(3, .int (1 : Int32)), (0, .ref x0), (1, .int x1), (2, .int x2), (4, .int x4)]) hx hb dX7_takes_46 rfl hl (by decide) rfl (fun ls hl => ?_)
          refine lv_iinc (v := (x4 + (1 : Int32))) (lv' := [(4, .int (x4 + (1 : Int32))), (3, .int (1 : Int32)), (0, .ref x0), (1, .int x1), (2, .int x2)]) hx hb dX7_takes_47 hl (k := 4) rfl rfl (by decide) rfl (fun ls hl => ?_)
          refine lv_goto (tgt := 5) hx hb dX7_takes_50 (by decide) ?_
          exact k5 _ _ _ _ _ _ _ _ _ hJ I (lv_sub hl [2, 3, 4, 1, 0] rfl)
set_option maxHeartbeats 4000000 in
set_option maxRecDepth 100000 in
theorem c_Mod_takes {l : Launch} {D : va_G} {tys : List (ClassId × FieldType)} {A : Nat → Prop} (hT : tys.map (fun q => q.2) = tyS) {N : Nat} {x0 : Nat} {x1 : Int32} {x2 : Int32} {h : Hp} {res : (Int32 × Hp)} (hJ : J_Mod_takes N x0 x1 x2 h = some res) : Ct l D vwCl tys A yX7_takes (Cond.code yX7_takes cX7_takes 5 (some .boolean) :: wsG) rmX7_takes [.ref x0, .int x1, .int x2] h (some (.int res.1)) res.2 := by
  refine Met.ofW (cc := cX7_takes) (maxL := 5) (ret := (some .boolean)) (by decide) rfl ?_
  intro p e s m args below meth c s₁ B hml hv
  obtain ⟨rfl, hA, hR, hK, hN⟩ := hv
  have hr := B.returns
  have hts : ∀ w ∈ wsG, w.before [.ref x0, .int x1, .int x2].toArray s = true := fun w hw => atoms_spec (ws := Cond.code yX7_takes cX7_takes 5 (some .boolean) :: wsG) B.pre w (List.mem_cons_of_mem _ hw)
  have X : Cx p s m [.ref x0, .int x1, .int x2].toArray meth c D vwCl tys cX7_takes 5 RX7 wsG := ⟨⟨B.exec, B.bytes, hml, findClass_of_methodNamed B.named, hts⟩, hK, B.notSynchronized, hT⟩
  have hx := B.exec
  have hb := B.bytes
  have I : In D vwCl tys A s h s.heap [] := ⟨hR, va_S.rf, hA⟩
  have hl := lv_entry [.ref x0, .int x1, .int x2] (n := 5) (Nat.le_of_ble_eq_true rfl)
  rw [lg_entry_eq]
  generalize (lg_sl [.ref x0, .int x1, .int x2] ++ List.replicate (5 - (lg_sl [.ref x0, .int x1, .int x2]).length) Slot.unset).toArray = ls at hl ⊢
  have hl : lv_has ls 5 [(0, .ref x0), (1, .int x1), (2, .int x2)] := hl
  have ho := X.1.2.2.2.1
  rw [J_Mod_takes] at hJ
  refine lv_iconst (v := 0) hx hb dX7_takes_0 (by decide) ?_
  refine lv_istore_n (lv' := [(3, .int (0 : Int32)), (0, .ref x0), (1, .int x1), (2, .int x2)]) hx hb dX7_takes_1 rfl hl (by decide) rfl (fun ls hl => ?_)
  refine lv_iconst (v := 0) hx hb dX7_takes_2 (by decide) ?_
  refine lv_istore (lv' := [(4, .int (0 : Int32)), (3, .int (0 : Int32)), (0, .ref x0), (1, .int x1), (2, .int x2)]) hx hb dX7_takes_3 hl (by decide) rfl (fun ls hl => ?_)
  exact w_Mod_takes_5 X hN hr N _ _ _ _ _ _ _ _ _ hJ I (lv_sub hl [2, 3, 4, 1, 0] rfl)
def rmX7_count : Room := { frames := 0, cells := 0, slots := 0, locals := 0 }
def J_Mod_count_70 (N : Nat)  : Nat → Nat → Int32 → Int32 → Hp → Option (Int32 × Hp)
  | 0, _, _, _, _ => none
  | n + 1, x0, x2, x3, h =>
  if (64 : Int32) ≤ x3 then
  (some (x2, h))
  else
  ((fR h 7 x0 1).bind fun v6 =>
  (aI h 1 v6 x3).bind fun v7 =>
  if v7 = 0 then
  ((J_Mod_count_70 N n) x0 (x2 + (0 : Int32)) (x3 + (1 : Int32)) h)
  else
  ((J_Mod_count_70 N n) x0 (x2 + (1 : Int32)) (x3 + (1 : Int32)) h))
def J_Mod_count_103 (N : Nat)  : Nat → Nat → Int32 → Int32 → Hp → Option (Int32 × Hp)
  | 0, _, _, _, _ => none
  | n + 1, x0, x2, x3, h =>
  if (40 : Int32) ≤ x3 then
  (some (x2, h))
  else
  ((fR h 7 x0 4).bind fun v8 =>
  (aI h 1 v8 x3).bind fun v9 =>
  if v9 = 0 then
  ((J_Mod_count_103 N n) x0 (x2 + (0 : Int32)) (x3 + (1 : Int32)) h)
  else
  ((J_Mod_count_103 N n) x0 (x2 + (1 : Int32)) (x3 + (1 : Int32)) h))
def J_Mod_count (N : Nat) (x0 : Nat) (x1 : Int32) (h : Hp) : Option (Int32 × Hp) :=
  (sF h 7 x0 0 (.int (0 : Int32))).bind fun h1 =>
  if x1 = (0 : Int32) then
  ((fI h1 7 x0 29).bind fun v2 =>
  some (v2, h1))
  else if x1 = (1 : Int32) then
  ((fI h1 7 x0 28).bind fun v3 =>
  some (v3, h1))
  else if x1 = (2 : Int32) then
  ((fI h1 7 x0 30).bind fun v4 =>
  some (v4, h1))
  else if x1 = (3 : Int32) then
  ((fI h1 7 x0 31).bind fun v5 =>
  some (v5, h1))
  else if x1 = (4 : Int32) then
  (J_Mod_count_70 N N x0 (0 : Int32) (0 : Int32) h1)
  else if x1 = (5 : Int32) then
  (J_Mod_count_103 N N x0 (0 : Int32) (0 : Int32) h1)
  else (some ((-1 : Int32), h1))
set_option maxHeartbeats 4000000 in
set_option maxRecDepth 100000 in
theorem w_Mod_count_70 (X : Cx p s m args meth c D vwCl tys cX7_count 4 RX7 wsG) (hN : nwS s) (hr : meth.sig.returnType = (some .int)) {res : (Int32 × Hp)} {N : Nat}   : ∀ (n : Nat) (x0 : Nat) (x2 : Int32) (x3 : Int32)  (h : Hp) (H : Heap) (locs : List Loc) (ls : Array Slot), J_Mod_count_70 N n x0 x2 x3 h = some res → In D vwCl tys A s h H locs → lv_has ls 4 [(0, .ref x0), (2, .int x2), (3, .int x3)] → W p l e rmX7_count s m args below meth c H locs 0 0 (MQ below (Qr D vwCl tys A (some (.int res.1)) res.2) args s 0 0 A) (F0 m 70 ls []) := by
  have hx := X.1.1
  have hb := X.1.2.1
  have hml := X.1.2.2.1
  have ho := X.1.2.2.2.1
  have hts := X.1.2.2.2.2
  have hK := X.2.1
  have hT := X.2.2.2
  intro n
  induction n with
  | zero =>
    intro x0 x2 x3  h H locs ls hJ I hl
    exact nomatch (show (none : Option (Int32 × Hp)) = some res from hJ)
  | succ n k70 =>
    intro x0 x2 x3  h H locs ls hJ I hl
    rw [J_Mod_count_70] at hJ
    refine lv_iload_n hx hb dX7_count_70 rfl (lv_at hl 2 rfl) ?_
    refine lv_bipush (v := 64) hx hb dX7_count_71 (by decide) ?_
    refine lv_icmp_ge (tgt := 99) hx hb dX7_count_73 (by decide) (fun c9 => ?_) (fun c9 => ?_)
    · rw [if_pos c9] at hJ
      refine lv_iload_n hx hb dX7_count_99 rfl (lv_at hl 1 rfl) ?_
      exact rp_iret X hr hJ I dX7_count_100
    · rw [if_neg c9] at hJ
      refine lv_iload_n hx hb dX7_count_76 rfl (lv_at hl 1 rfl) ?_
      refine lv_aload_n hx hb dX7_count_77 rfl (lv_at hl 0 rfl) ?_
      obtain ⟨v6, e9, hJ⟩ := rp_b hJ
      obtain ⟨f9, g9, e9⟩ := fR_s e9
      refine rp_get X I g9 e9 rfl wiX7 (by decide) wm_534 dX7_count_78 ?_
      refine lv_iload_n hx hb dX7_count_81 rfl (lv_at hl 2 rfl) ?_
      obtain ⟨v7, e9, hJ⟩ := rp_b hJ
      refine rp_zald X I e9 rfl dX7_count_82 ?_
      refine lv_if_eq (tgt := 90) hx hb dX7_count_83 (by decide) (fun c9 => ?_) (fun c9 => ?_)
      · rw [if_pos c9] at hJ
        refine lv_iconst (v := 0) hx hb dX7_count_90 (by decide) ?_
        refine lv_iadd hx hb dX7_count_91 ?_
        refine lv_istore_n (lv' := [(2, .int (x2 + (0 : Int32))), (0, .ref x0), (3, .int x3)]) hx hb dX7_count_92 rfl hl (by decide) rfl (fun ls hl => ?_)
        refine lv_iinc (v := (x3 + (1 : Int32))) (lv' := [(3, .int (x3 + (1 : Int32))), (2, .int (x2 + (0 : Int32))), (0, .ref x0)]) hx hb dX7_count_93 hl (k := 2) rfl rfl (by decide) rfl (fun ls hl => ?_)
        refine lv_goto (tgt := 70) hx hb dX7_count_96 (by decide) ?_
        exact k70 _ _ _ _ _ _ _ hJ I (lv_sub hl [2, 1, 0] rfl)
      · rw [if_neg c9] at hJ
        refine lv_iconst (v := 1) hx hb dX7_count_86 (by decide) ?_
        refine lv_goto (tgt := 91) hx hb dX7_count_87 (by decide) ?_
        refine lv_iadd hx hb dX7_count_91 ?_
        refine lv_istore_n (lv' := [(2, .int (x2 + (1 : Int32))), (0, .ref x0), (3, .int x3)]) hx hb dX7_count_92 rfl hl (by decide) rfl (fun ls hl => ?_)
        refine lv_iinc (v := (x3 + (1 : Int32))) (lv' := [(3, .int (x3 + (1 : Int32))), (2, .int (x2 + (1 : Int32))), (0, .ref x0)]) hx hb dX7_count_93 hl (k := 2) rfl rfl (by decide) rfl (fun ls hl => ?_)
        refine lv_goto (tgt := 70) hx hb dX7_count_96 (by decide) ?_
        exact k70 _ _ _ _ _ _ _ hJ I (lv_sub hl [2, 1, 0] rfl)
set_option maxHeartbeats 4000000 in
set_option maxRecDepth 100000 in
theorem w_Mod_count_103 (X : Cx p s m args meth c D vwCl tys cX7_count 4 RX7 wsG) (hN : nwS s) (hr : meth.sig.returnType = (some .int)) {res : (Int32 × Hp)} {N : Nat}   : ∀ (n : Nat) (x0 : Nat) (x2 : Int32) (x3 : Int32)  (h : Hp) (H : Heap) (locs : List Loc) (ls : Array Slot), J_Mod_count_103 N n x0 x2 x3 h = some res → In D vwCl tys A s h H locs → lv_has ls 4 [(0, .ref x0), (2, .int x2), (3, .int x3)] → W p l e rmX7_count s m args below meth c H locs 0 0 (MQ below (Qr D vwCl tys A (some (.int res.1)) res.2) args s 0 0 A) (F0 m 103 ls []) := by
  have hx := X.1.1
  have hb := X.1.2.1
  have hml := X.1.2.2.1
  have ho := X.1.2.2.2.1
  have hts := X.1.2.2.2.2
  have hK := X.2.1
  have hT := X.2.2.2
  intro n
  induction n with
  | zero =>
    intro x0 x2 x3  h H locs ls hJ I hl
    exact nomatch (show (none : Option (Int32 × Hp)) = some res from hJ)
  | succ n k103 =>
    intro x0 x2 x3  h H locs ls hJ I hl
    rw [J_Mod_count_103] at hJ
    refine lv_iload_n hx hb dX7_count_103 rfl (lv_at hl 2 rfl) ?_
    refine lv_bipush (v := 40) hx hb dX7_count_104 (by decide) ?_
    refine lv_icmp_ge (tgt := 132) hx hb dX7_count_106 (by decide) (fun c9 => ?_) (fun c9 => ?_)
    · rw [if_pos c9] at hJ
      refine lv_iload_n hx hb dX7_count_132 rfl (lv_at hl 1 rfl) ?_
      exact rp_iret X hr hJ I dX7_count_133
    · rw [if_neg c9] at hJ
      refine lv_iload_n hx hb dX7_count_109 rfl (lv_at hl 1 rfl) ?_
      refine lv_aload_n hx hb dX7_count_110 rfl (lv_at hl 0 rfl) ?_
      obtain ⟨v8, e9, hJ⟩ := rp_b hJ
      obtain ⟨f9, g9, e9⟩ := fR_s e9
      refine rp_get X I g9 e9 rfl wiX7 (by decide) wm_537 dX7_count_111 ?_
      refine lv_iload_n hx hb dX7_count_114 rfl (lv_at hl 2 rfl) ?_
      obtain ⟨v9, e9, hJ⟩ := rp_b hJ
      refine rp_zald X I e9 rfl dX7_count_115 ?_
      refine lv_if_eq (tgt := 123) hx hb dX7_count_116 (by decide) (fun c9 => ?_) (fun c9 => ?_)
      · rw [if_pos c9] at hJ
        refine lv_iconst (v := 0) hx hb dX7_count_123 (by decide) ?_
        refine lv_iadd hx hb dX7_count_124 ?_
        refine lv_istore_n (lv' := [(2, .int (x2 + (0 : Int32))), (0, .ref x0), (3, .int x3)]) hx hb dX7_count_125 rfl hl (by decide) rfl (fun ls hl => ?_)
        refine lv_iinc (v := (x3 + (1 : Int32))) (lv' := [(3, .int (x3 + (1 : Int32))), (2, .int (x2 + (0 : Int32))), (0, .ref x0)]) hx hb dX7_count_126 hl (k := 2) rfl rfl (by decide) rfl (fun ls hl => ?_)
        refine lv_goto (tgt := 103) hx hb dX7_count_129 (by decide) ?_
        exact k103 _ _ _ _ _ _ _ hJ I (lv_sub hl [2, 1, 0] rfl)
      · rw [if_neg c9] at hJ
        refine lv_iconst (v := 1) hx hb dX7_count_119 (by decide) ?_
        refine lv_goto (tgt := 124) hx hb dX7_count_120 (by decide) ?_
        refine lv_iadd hx hb dX7_count_124 ?_
        refine lv_istore_n (lv' := [(2, .int (x2 + (1 : Int32))), (0, .ref x0), (3, .int x3)]) hx hb dX7_count_125 rfl hl (by decide) rfl (fun ls hl => ?_)
        refine lv_iinc (v := (x3 + (1 : Int32))) (lv' := [(3, .int (x3 + (1 : Int32))), (2, .int (x2 + (1 : Int32))), (0, .ref x0)]) hx hb dX7_count_126 hl (k := 2) rfl rfl (by decide) rfl (fun ls hl => ?_)
        refine lv_goto (tgt := 103) hx hb dX7_count_129 (by decide) ?_
        exact k103 _ _ _ _ _ _ _ hJ I (lv_sub hl [2, 1, 0] rfl)
set_option maxHeartbeats 4000000 in
set_option maxRecDepth 100000 in
theorem c_Mod_count {l : Launch} {D : va_G} {tys : List (ClassId × FieldType)} {A : Nat → Prop} (hT : tys.map (fun q => q.2) = tyS) {N : Nat} {x0 : Nat} {x1 : Int32} {h : Hp} {res : (Int32 × Hp)} (hJ : J_Mod_count N x0 x1 h = some res) : Ct l D vwCl tys A yX7_count (Cond.code yX7_count cX7_count 4 (some .int) :: wsG) rmX7_count [.ref x0, .int x1] h (some (.int res.1)) res.2 := by
  refine Met.ofW (cc := cX7_count) (maxL := 4) (ret := (some .int)) (by decide) rfl ?_
  intro p e s m args below meth c s₁ B hml hv
  obtain ⟨rfl, hA, hR, hK, hN⟩ := hv
  have hr := B.returns
  have hts : ∀ w ∈ wsG, w.before [.ref x0, .int x1].toArray s = true := fun w hw => atoms_spec (ws := Cond.code yX7_count cX7_count 4 (some .int) :: wsG) B.pre w (List.mem_cons_of_mem _ hw)
  have X : Cx p s m [.ref x0, .int x1].toArray meth c D vwCl tys cX7_count 4 RX7 wsG := ⟨⟨B.exec, B.bytes, hml, findClass_of_methodNamed B.named, hts⟩, hK, B.notSynchronized, hT⟩
  have hx := B.exec
  have hb := B.bytes
  have I : In D vwCl tys A s h s.heap [] := ⟨hR, va_S.rf, hA⟩
  have hl := lv_entry [.ref x0, .int x1] (n := 4) (Nat.le_of_ble_eq_true rfl)
  rw [lg_entry_eq]
  generalize (lg_sl [.ref x0, .int x1] ++ List.replicate (4 - (lg_sl [.ref x0, .int x1]).length) Slot.unset).toArray = ls at hl ⊢
  have hl : lv_has ls 4 [(0, .ref x0), (1, .int x1)] := hl
  have ho := X.1.2.2.2.1
  rw [J_Mod_count] at hJ
  refine lv_aload_n hx hb dX7_count_0 rfl (lv_at hl 0 rfl) ?_
  refine lv_iconst (v := 0) hx hb dX7_count_1 (by decide) ?_
  obtain ⟨h1, e9, hJ⟩ := rp_b hJ
  refine rp_put (ty := .int) X I e9 rfl wiX7 tyX7 tyX7_ok nmX7 (by decide) wm_533 rfl (by decide +kernel) rfl rfl dX7_count_2 (fun H locs I => ?_)
  refine lv_iconst (v := 0) hx hb dX7_count_5 (by decide) ?_
  refine lv_istore_n (lv' := [(2, .int (0 : Int32)), (0, .ref x0), (1, .int x1)]) hx hb dX7_count_6 rfl hl (by decide) rfl (fun ls hl => ?_)
  refine lv_iload_n hx hb dX7_count_7 rfl (lv_at hl 2 rfl) ?_
  by_cases c9 : x1 = (0 : Int32)
  · rw [if_pos c9] at hJ
    refine lv_tableIn (tgt := 48) (off := 40) hx hb dX7_count_8 (by rw [c9]; decide) (by rw [c9]; decide) (by rw [c9]; decide) (by decide) ?_
    refine lv_aload_n hx hb dX7_count_48 rfl (lv_at hl 1 rfl) ?_
    obtain ⟨v2, e9, hJ⟩ := rp_b hJ
    obtain ⟨f9, g9, e9⟩ := fI_s e9
    refine rp_get X I g9 e9 rfl wiX7 (by decide) wm_562 dX7_count_49 ?_
    exact rp_iret X hr hJ I dX7_count_52
  rw [if_neg c9] at hJ
  have n0 := c9
  by_cases c9 : x1 = (1 : Int32)
  · rw [if_pos c9] at hJ
    refine lv_tableIn (tgt := 53) (off := 45) hx hb dX7_count_8 (by rw [c9]; decide) (by rw [c9]; decide) (by rw [c9]; decide) (by decide) ?_
    refine lv_aload_n hx hb dX7_count_53 rfl (lv_at hl 1 rfl) ?_
    obtain ⟨v3, e9, hJ⟩ := rp_b hJ
    obtain ⟨f9, g9, e9⟩ := fI_s e9
    refine rp_get X I g9 e9 rfl wiX7 (by decide) wm_561 dX7_count_54 ?_
    exact rp_iret X hr hJ I dX7_count_57
  rw [if_neg c9] at hJ
  have n1 := c9
  by_cases c9 : x1 = (2 : Int32)
  · rw [if_pos c9] at hJ
    refine lv_tableIn (tgt := 58) (off := 50) hx hb dX7_count_8 (by rw [c9]; decide) (by rw [c9]; decide) (by rw [c9]; decide) (by decide) ?_
    refine lv_aload_n hx hb dX7_count_58 rfl (lv_at hl 1 rfl) ?_
    obtain ⟨v4, e9, hJ⟩ := rp_b hJ
    obtain ⟨f9, g9, e9⟩ := fI_s e9
    refine rp_get X I g9 e9 rfl wiX7 (by decide) wm_563 dX7_count_59 ?_
    exact rp_iret X hr hJ I dX7_count_62
  rw [if_neg c9] at hJ
  have n2 := c9
  by_cases c9 : x1 = (3 : Int32)
  · rw [if_pos c9] at hJ
    refine lv_tableIn (tgt := 63) (off := 55) hx hb dX7_count_8 (by rw [c9]; decide) (by rw [c9]; decide) (by rw [c9]; decide) (by decide) ?_
    refine lv_aload_n hx hb dX7_count_63 rfl (lv_at hl 1 rfl) ?_
    obtain ⟨v5, e9, hJ⟩ := rp_b hJ
    obtain ⟨f9, g9, e9⟩ := fI_s e9
    refine rp_get X I g9 e9 rfl wiX7 (by decide) wm_564 dX7_count_64 ?_
    exact rp_iret X hr hJ I dX7_count_67
  rw [if_neg c9] at hJ
  have n3 := c9
  by_cases c9 : x1 = (4 : Int32)
  · rw [if_pos c9] at hJ
    refine lv_tableIn (tgt := 68) (off := 60) hx hb dX7_count_8 (by rw [c9]; decide) (by rw [c9]; decide) (by rw [c9]; decide) (by decide) ?_
    refine lv_iconst (v := 0) hx hb dX7_count_68 (by decide) ?_
    refine lv_istore_n (lv' := [(3, .int (0 : Int32)), (2, .int (0 : Int32)), (0, .ref x0), (1, .int x1)]) hx hb dX7_count_69 rfl hl (by decide) rfl (fun ls hl => ?_)
    exact w_Mod_count_70 X hN hr N _ _ _ _ _ _ _ hJ I (lv_sub hl [2, 1, 0] rfl)
  rw [if_neg c9] at hJ
  have n4 := c9
  by_cases c9 : x1 = (5 : Int32)
  · rw [if_pos c9] at hJ
    refine lv_tableIn (tgt := 101) (off := 93) hx hb dX7_count_8 (by rw [c9]; decide) (by rw [c9]; decide) (by rw [c9]; decide) (by decide) ?_
    refine lv_iconst (v := 0) hx hb dX7_count_101 (by decide) ?_
    refine lv_istore_n (lv' := [(3, .int (0 : Int32)), (2, .int (0 : Int32)), (0, .ref x0), (1, .int x1)]) hx hb dX7_count_102 rfl hl (by decide) rfl (fun ls hl => ?_)
    exact w_Mod_count_103 X hN hr N _ _ _ _ _ _ _ hJ I (lv_sub hl [2, 1, 0] rfl)
  rw [if_neg c9] at hJ
  have n5 := c9
  refine lv_tableOut (tgt := 134) hx hb dX7_count_8 (rp_swOut 6 (by decide) (fun k hk => match k, hk with | 0, _ => n0  | 1, _ => n1  | 2, _ => n2  | 3, _ => n3  | 4, _ => n4  | 5, _ => n5 | k + 6, h => absurd h (by omega))) (by decide) ?_
  refine lv_iconst (v := -1) hx hb dX7_count_134 (by decide) ?_
  exact rp_iret X hr hJ I dX7_count_135
def rmX7_begun : Room := { frames := 0, cells := 0, slots := 0, locals := 0 }
def J_Mod_begun_27 (N : Nat)  (x0 : Nat) (x1 : Int32) (x2 : Int32) (y0 : Nat) (y1 : Int32) (h : Hp) : Option (Int32 × Hp) :=
  (sF h 7 y0 0 (.int y1)).bind fun h1 =>
  (fI h1 7 x0 0).bind fun v2 =>
  if v2 ≤ 0 then
  (if x2 = (0 : Int32) then
  ((fR h1 7 x0 32).bind fun v5 =>
  (aI h1 0 v5 x1).bind fun v6 =>
  some (v6, h1))
  else if x2 = (1 : Int32) then
  ((fR h1 7 x0 33).bind fun v7 =>
  (aI h1 0 v7 x1).bind fun v8 =>
  some (v8, h1))
  else if x2 = (2 : Int32) then
  ((fR h1 7 x0 34).bind fun v9 =>
  (aI h1 0 v9 x1).bind fun v10 =>
  some (v10, h1))
  else if x2 = (3 : Int32) then
  ((fR h1 7 x0 35).bind fun v11 =>
  (aI h1 0 v11 x1).bind fun v12 =>
  some (v12, h1))
  else ((fR h1 7 x0 36).bind fun v3 =>
  (aI h1 0 v3 x1).bind fun v4 =>
  some (v4, h1)))
  else
  (some ((0 : Int32), h1))
def J_Mod_begun (N : Nat) (x0 : Nat) (x1 : Int32) (x2 : Int32) (h : Hp) : Option (Int32 × Hp) :=
  if x1 < 0 then
  (J_Mod_begun_27 N x0 x1 x2 x0 (1 : Int32) h)
  else
  ((fI h 7 x0 28).bind fun v13 =>
  if v13 ≤ x1 then
  (J_Mod_begun_27 N x0 x1 x2 x0 (1 : Int32) h)
  else
  (if x2 < 0 then
  (J_Mod_begun_27 N x0 x1 x2 x0 (1 : Int32) h)
  else
  (if x2 ≤ (4 : Int32) then
  (J_Mod_begun_27 N x0 x1 x2 x0 (0 : Int32) h)
  else
  (J_Mod_begun_27 N x0 x1 x2 x0 (1 : Int32) h))))
set_option maxHeartbeats 4000000 in
set_option maxRecDepth 100000 in
theorem w_Mod_begun_27 (X : Cx p s m args meth c D vwCl tys cX7_begun 3 RX7 wsG) (hN : nwS s) (hr : meth.sig.returnType = (some .int)) {res : (Int32 × Hp)} {N : Nat}   : ∀ (x0 : Nat) (x1 : Int32) (x2 : Int32) (y0 : Nat) (y1 : Int32) (h : Hp) (H : Heap) (locs : List Loc) (ls : Array Slot), J_Mod_begun_27 N x0 x1 x2 y0 y1 h = some res → In D vwCl tys A s h H locs → lv_has ls 3 [(0, .ref x0), (1, .int x1), (2, .int x2)] → W p l e rmX7_begun s m args below meth c H locs 0 0 (MQ below (Qr D vwCl tys A (some (.int res.1)) res.2) args s 0 0 A) (F0 m 27 ls [.int y1, .ref y0]) := by
  have hx := X.1.1
  have hb := X.1.2.1
  have hml := X.1.2.2.1
  have ho := X.1.2.2.2.1
  have hts := X.1.2.2.2.2
  have hK := X.2.1
  have hT := X.2.2.2
  intro x0 x1 x2 y0 y1 h H locs ls hJ I hl
  rw [J_Mod_begun_27] at hJ
  obtain ⟨h1, e9, hJ⟩ := rp_b hJ
  refine rp_put (ty := .int) X I e9 rfl wiX7 tyX7 tyX7_ok nmX7 (by decide) wm_533 rfl (by decide +kernel) rfl rfl dX7_begun_27 (fun H locs I => ?_)
  refine lv_aload_n hx hb dX7_begun_30 rfl (lv_at hl 0 rfl) ?_
  obtain ⟨v2, e9, hJ⟩ := rp_b hJ
  obtain ⟨f9, g9, e9⟩ := fI_s e9
  refine rp_get X I g9 e9 rfl wiX7 (by decide) wm_533 dX7_begun_31 ?_
  refine lv_if_le (tgt := 39) hx hb dX7_begun_34 (by decide) (fun c9 => ?_) (fun c9 => ?_)
  · rw [if_pos c9] at hJ
    refine lv_iload_n hx hb dX7_begun_39 rfl (lv_at hl 2 rfl) ?_
    by_cases c9 : x2 = (0 : Int32)
    · rw [if_pos c9] at hJ
      refine lv_tableIn (tgt := 72) (off := 32) hx hb dX7_begun_40 (by rw [c9]; decide) (by rw [c9]; decide) (by rw [c9]; decide) (by decide) ?_
      refine lv_aload_n hx hb dX7_begun_72 rfl (lv_at hl 0 rfl) ?_
      obtain ⟨v5, e9, hJ⟩ := rp_b hJ
      obtain ⟨f9, g9, e9⟩ := fR_s e9
      refine rp_get X I g9 e9 rfl wiX7 (by decide) wm_565 dX7_begun_73 ?_
      refine lv_iload_n hx hb dX7_begun_76 rfl (lv_at hl 1 rfl) ?_
      obtain ⟨v6, e9, hJ⟩ := rp_b hJ
      refine rp_iald X I e9 rfl dX7_begun_77 ?_
      exact rp_iret X hr hJ I dX7_begun_78
    rw [if_neg c9] at hJ
    have n0 := c9
    by_cases c9 : x2 = (1 : Int32)
    · rw [if_pos c9] at hJ
      refine lv_tableIn (tgt := 79) (off := 39) hx hb dX7_begun_40 (by rw [c9]; decide) (by rw [c9]; decide) (by rw [c9]; decide) (by decide) ?_
      refine lv_aload_n hx hb dX7_begun_79 rfl (lv_at hl 0 rfl) ?_
      obtain ⟨v7, e9, hJ⟩ := rp_b hJ
      obtain ⟨f9, g9, e9⟩ := fR_s e9
      refine rp_get X I g9 e9 rfl wiX7 (by decide) wm_566 dX7_begun_80 ?_
      refine lv_iload_n hx hb dX7_begun_83 rfl (lv_at hl 1 rfl) ?_
      obtain ⟨v8, e9, hJ⟩ := rp_b hJ
      refine rp_iald X I e9 rfl dX7_begun_84 ?_
      exact rp_iret X hr hJ I dX7_begun_85
    rw [if_neg c9] at hJ
    have n1 := c9
    by_cases c9 : x2 = (2 : Int32)
    · rw [if_pos c9] at hJ
      refine lv_tableIn (tgt := 86) (off := 46) hx hb dX7_begun_40 (by rw [c9]; decide) (by rw [c9]; decide) (by rw [c9]; decide) (by decide) ?_
      refine lv_aload_n hx hb dX7_begun_86 rfl (lv_at hl 0 rfl) ?_
      obtain ⟨v9, e9, hJ⟩ := rp_b hJ
      obtain ⟨f9, g9, e9⟩ := fR_s e9
      refine rp_get X I g9 e9 rfl wiX7 (by decide) wm_567 dX7_begun_87 ?_
      refine lv_iload_n hx hb dX7_begun_90 rfl (lv_at hl 1 rfl) ?_
      obtain ⟨v10, e9, hJ⟩ := rp_b hJ
      refine rp_iald X I e9 rfl dX7_begun_91 ?_
      exact rp_iret X hr hJ I dX7_begun_92
    rw [if_neg c9] at hJ
    have n2 := c9
    by_cases c9 : x2 = (3 : Int32)
    · rw [if_pos c9] at hJ
      refine lv_tableIn (tgt := 93) (off := 53) hx hb dX7_begun_40 (by rw [c9]; decide) (by rw [c9]; decide) (by rw [c9]; decide) (by decide) ?_
      refine lv_aload_n hx hb dX7_begun_93 rfl (lv_at hl 0 rfl) ?_
      obtain ⟨v11, e9, hJ⟩ := rp_b hJ
      obtain ⟨f9, g9, e9⟩ := fR_s e9
      refine rp_get X I g9 e9 rfl wiX7 (by decide) wm_568 dX7_begun_94 ?_
      refine lv_iload_n hx hb dX7_begun_97 rfl (lv_at hl 1 rfl) ?_
      obtain ⟨v12, e9, hJ⟩ := rp_b hJ
      refine rp_iald X I e9 rfl dX7_begun_98 ?_
      exact rp_iret X hr hJ I dX7_begun_99
    rw [if_neg c9] at hJ
    have n3 := c9
    refine lv_tableOut (tgt := 100) hx hb dX7_begun_40 (rp_swOut 4 (by decide) (fun k hk => match k, hk with | 0, _ => n0  | 1, _ => n1  | 2, _ => n2  | 3, _ => n3 | k + 4, h => absurd h (by omega))) (by decide) ?_
    refine lv_aload_n hx hb dX7_begun_100 rfl (lv_at hl 0 rfl) ?_
    obtain ⟨v3, e9, hJ⟩ := rp_b hJ
    obtain ⟨f9, g9, e9⟩ := fR_s e9
    refine rp_get X I g9 e9 rfl wiX7 (by decide) wm_569 dX7_begun_101 ?_
    refine lv_iload_n hx hb dX7_begun_104 rfl (lv_at hl 1 rfl) ?_
    obtain ⟨v4, e9, hJ⟩ := rp_b hJ
    refine rp_iald X I e9 rfl dX7_begun_105 ?_
    exact rp_iret X hr hJ I dX7_begun_106
  · rw [if_neg c9] at hJ
    refine lv_iconst (v := 0) hx hb dX7_begun_37 (by decide) ?_
    exact rp_iret X hr hJ I dX7_begun_38
set_option maxHeartbeats 4000000 in
set_option maxRecDepth 100000 in
theorem c_Mod_begun {l : Launch} {D : va_G} {tys : List (ClassId × FieldType)} {A : Nat → Prop} (hT : tys.map (fun q => q.2) = tyS) {N : Nat} {x0 : Nat} {x1 : Int32} {x2 : Int32} {h : Hp} {res : (Int32 × Hp)} (hJ : J_Mod_begun N x0 x1 x2 h = some res) : Ct l D vwCl tys A yX7_begun (Cond.code yX7_begun cX7_begun 3 (some .int) :: wsG) rmX7_begun [.ref x0, .int x1, .int x2] h (some (.int res.1)) res.2 := by
  refine Met.ofW (cc := cX7_begun) (maxL := 3) (ret := (some .int)) (by decide) rfl ?_
  intro p e s m args below meth c s₁ B hml hv
  obtain ⟨rfl, hA, hR, hK, hN⟩ := hv
  have hr := B.returns
  have hts : ∀ w ∈ wsG, w.before [.ref x0, .int x1, .int x2].toArray s = true := fun w hw => atoms_spec (ws := Cond.code yX7_begun cX7_begun 3 (some .int) :: wsG) B.pre w (List.mem_cons_of_mem _ hw)
  have X : Cx p s m [.ref x0, .int x1, .int x2].toArray meth c D vwCl tys cX7_begun 3 RX7 wsG := ⟨⟨B.exec, B.bytes, hml, findClass_of_methodNamed B.named, hts⟩, hK, B.notSynchronized, hT⟩
  have hx := B.exec
  have hb := B.bytes
  have I : In D vwCl tys A s h s.heap [] := ⟨hR, va_S.rf, hA⟩
  have hl := lv_entry [.ref x0, .int x1, .int x2] (n := 3) (Nat.le_of_ble_eq_true rfl)
  rw [lg_entry_eq]
  generalize (lg_sl [.ref x0, .int x1, .int x2] ++ List.replicate (3 - (lg_sl [.ref x0, .int x1, .int x2]).length) Slot.unset).toArray = ls at hl ⊢
  have hl : lv_has ls 3 [(0, .ref x0), (1, .int x1), (2, .int x2)] := hl
  have ho := X.1.2.2.2.1
  rw [J_Mod_begun] at hJ
  refine lv_aload_n hx hb dX7_begun_0 rfl (lv_at hl 0 rfl) ?_
  refine lv_iload_n hx hb dX7_begun_1 rfl (lv_at hl 1 rfl) ?_
  refine lv_if_lt (tgt := 22) hx hb dX7_begun_2 (by decide) (fun c9 => ?_) (fun c9 => ?_)
  · rw [if_pos c9] at hJ
    refine lv_iconst (v := 1) hx hb dX7_begun_22 (by decide) ?_
    refine lv_goto (tgt := 27) hx hb dX7_begun_23 (by decide) ?_
    exact w_Mod_begun_27 X hN hr _ _ _ _ _ _ _ _ _ hJ I (lv_sub hl [0, 1, 2] rfl)
  · rw [if_neg c9] at hJ
    refine lv_iload_n hx hb dX7_begun_5 rfl (lv_at hl 1 rfl) ?_
    refine lv_aload_n hx hb dX7_begun_6 rfl (lv_at hl 0 rfl) ?_
    obtain ⟨v13, e9, hJ⟩ := rp_b hJ
    obtain ⟨f9, g9, e9⟩ := fI_s e9
    refine rp_get X I g9 e9 rfl wiX7 (by decide) wm_561 dX7_begun_7 ?_
    refine lv_icmp_ge (tgt := 22) hx hb dX7_begun_10 (by decide) (fun c9 => ?_) (fun c9 => ?_)
    · rw [if_pos c9] at hJ
      refine lv_iconst (v := 1) hx hb dX7_begun_22 (by decide) ?_
      refine lv_goto (tgt := 27) hx hb dX7_begun_23 (by decide) ?_
      exact w_Mod_begun_27 X hN hr _ _ _ _ _ _ _ _ _ hJ I (lv_sub hl [0, 1, 2] rfl)
    · rw [if_neg c9] at hJ
      refine lv_iload_n hx hb dX7_begun_13 rfl (lv_at hl 2 rfl) ?_
      refine lv_if_lt (tgt := 22) hx hb dX7_begun_14 (by decide) (fun c9 => ?_) (fun c9 => ?_)
      · rw [if_pos c9] at hJ
        refine lv_iconst (v := 1) hx hb dX7_begun_22 (by decide) ?_
        refine lv_goto (tgt := 27) hx hb dX7_begun_23 (by decide) ?_
        exact w_Mod_begun_27 X hN hr _ _ _ _ _ _ _ _ _ hJ I (lv_sub hl [0, 1, 2] rfl)
      · rw [if_neg c9] at hJ
        refine lv_iload_n hx hb dX7_begun_17 rfl (lv_at hl 2 rfl) ?_
        refine lv_iconst (v := 4) hx hb dX7_begun_18 (by decide) ?_
        refine lv_icmp_le (tgt := 26) hx hb dX7_begun_19 (by decide) (fun c9 => ?_) (fun c9 => ?_)
        · rw [if_pos c9] at hJ
          refine lv_iconst (v := 0) hx hb dX7_begun_26 (by decide) ?_
          exact w_Mod_begun_27 X hN hr _ _ _ _ _ _ _ _ _ hJ I (lv_sub hl [0, 1, 2] rfl)
        · rw [if_neg c9] at hJ
          refine lv_iconst (v := 1) hx hb dX7_begun_22 (by decide) ?_
          refine lv_goto (tgt := 27) hx hb dX7_begun_23 (by decide) ?_
          exact w_Mod_begun_27 X hN hr _ _ _ _ _ _ _ _ _ hJ I (lv_sub hl [0, 1, 2] rfl)
def rmX7_cycle : Room := { frames := 0, cells := 0, slots := 0, locals := 0 }
def J_Mod_cycle_18 (N : Nat)  (x0 : Nat) (x1 : Int32) (y0 : Nat) (y1 : Int32) (h : Hp) : Option (Int32 × Hp) :=
  (sF h 7 y0 0 (.int y1)).bind fun h1 =>
  (fI h1 7 x0 0).bind fun v2 =>
  if v2 ≤ 0 then
  ((fR h1 7 x0 38).bind fun v3 =>
  (aI h1 0 v3 x1).bind fun v4 =>
  some (v4, h1))
  else
  (some ((0 : Int32), h1))
def J_Mod_cycle (N : Nat) (x0 : Nat) (x1 : Int32) (h : Hp) : Option (Int32 × Hp) :=
  if x1 < 0 then
  (J_Mod_cycle_18 N x0 x1 x0 (1 : Int32) h)
  else
  ((fI h 7 x0 37).bind fun v5 =>
  if x1 < v5 then
  (J_Mod_cycle_18 N x0 x1 x0 (0 : Int32) h)
  else
  (J_Mod_cycle_18 N x0 x1 x0 (1 : Int32) h))
set_option maxHeartbeats 4000000 in
set_option maxRecDepth 100000 in
theorem w_Mod_cycle_18 (X : Cx p s m args meth c D vwCl tys cX7_cycle 2 RX7 wsG) (hN : nwS s) (hr : meth.sig.returnType = (some .int)) {res : (Int32 × Hp)} {N : Nat}   : ∀ (x0 : Nat) (x1 : Int32) (y0 : Nat) (y1 : Int32) (h : Hp) (H : Heap) (locs : List Loc) (ls : Array Slot), J_Mod_cycle_18 N x0 x1 y0 y1 h = some res → In D vwCl tys A s h H locs → lv_has ls 2 [(0, .ref x0), (1, .int x1)] → W p l e rmX7_cycle s m args below meth c H locs 0 0 (MQ below (Qr D vwCl tys A (some (.int res.1)) res.2) args s 0 0 A) (F0 m 18 ls [.int y1, .ref y0]) := by
  have hx := X.1.1
  have hb := X.1.2.1
  have hml := X.1.2.2.1
  have ho := X.1.2.2.2.1
  have hts := X.1.2.2.2.2
  have hK := X.2.1
  have hT := X.2.2.2
  intro x0 x1 y0 y1 h H locs ls hJ I hl
  rw [J_Mod_cycle_18] at hJ
  obtain ⟨h1, e9, hJ⟩ := rp_b hJ
  refine rp_put (ty := .int) X I e9 rfl wiX7 tyX7 tyX7_ok nmX7 (by decide) wm_533 rfl (by decide +kernel) rfl rfl dX7_cycle_18 (fun H locs I => ?_)
  refine lv_aload_n hx hb dX7_cycle_21 rfl (lv_at hl 0 rfl) ?_
  obtain ⟨v2, e9, hJ⟩ := rp_b hJ
  obtain ⟨f9, g9, e9⟩ := fI_s e9
  refine rp_get X I g9 e9 rfl wiX7 (by decide) wm_533 dX7_cycle_22 ?_
  refine lv_if_le (tgt := 32) hx hb dX7_cycle_25 (by decide) (fun c9 => ?_) (fun c9 => ?_)
  · rw [if_pos c9] at hJ
    refine lv_aload_n hx hb dX7_cycle_32 rfl (lv_at hl 0 rfl) ?_
    obtain ⟨v3, e9, hJ⟩ := rp_b hJ
    obtain ⟨f9, g9, e9⟩ := fR_s e9
    refine rp_get X I g9 e9 rfl wiX7 (by decide) wm_571 dX7_cycle_33 ?_
    refine lv_iload_n hx hb dX7_cycle_36 rfl (lv_at hl 1 rfl) ?_
    obtain ⟨v4, e9, hJ⟩ := rp_b hJ
    refine rp_iald X I e9 rfl dX7_cycle_37 ?_
    exact rp_iret X hr hJ I dX7_cycle_38
  · rw [if_neg c9] at hJ
    refine lv_iconst (v := 0) hx hb dX7_cycle_28 (by decide) ?_
    refine lv_goto (tgt := 38) hx hb dX7_cycle_29 (by decide) ?_
    exact rp_iret X hr hJ I dX7_cycle_38
set_option maxHeartbeats 4000000 in
set_option maxRecDepth 100000 in
theorem c_Mod_cycle {l : Launch} {D : va_G} {tys : List (ClassId × FieldType)} {A : Nat → Prop} (hT : tys.map (fun q => q.2) = tyS) {N : Nat} {x0 : Nat} {x1 : Int32} {h : Hp} {res : (Int32 × Hp)} (hJ : J_Mod_cycle N x0 x1 h = some res) : Ct l D vwCl tys A yX7_cycle (Cond.code yX7_cycle cX7_cycle 2 (some .int) :: wsG) rmX7_cycle [.ref x0, .int x1] h (some (.int res.1)) res.2 := by
  refine Met.ofW (cc := cX7_cycle) (maxL := 2) (ret := (some .int)) (by decide) rfl ?_
  intro p e s m args below meth c s₁ B hml hv
  obtain ⟨rfl, hA, hR, hK, hN⟩ := hv
  have hr := B.returns
  have hts : ∀ w ∈ wsG, w.before [.ref x0, .int x1].toArray s = true := fun w hw => atoms_spec (ws := Cond.code yX7_cycle cX7_cycle 2 (some .int) :: wsG) B.pre w (List.mem_cons_of_mem _ hw)
  have X : Cx p s m [.ref x0, .int x1].toArray meth c D vwCl tys cX7_cycle 2 RX7 wsG := ⟨⟨B.exec, B.bytes, hml, findClass_of_methodNamed B.named, hts⟩, hK, B.notSynchronized, hT⟩
  have hx := B.exec
  have hb := B.bytes
  have I : In D vwCl tys A s h s.heap [] := ⟨hR, va_S.rf, hA⟩
  have hl := lv_entry [.ref x0, .int x1] (n := 2) (Nat.le_of_ble_eq_true rfl)
  rw [lg_entry_eq]
  generalize (lg_sl [.ref x0, .int x1] ++ List.replicate (2 - (lg_sl [.ref x0, .int x1]).length) Slot.unset).toArray = ls at hl ⊢
  have hl : lv_has ls 2 [(0, .ref x0), (1, .int x1)] := hl
  have ho := X.1.2.2.2.1
  rw [J_Mod_cycle] at hJ
  refine lv_aload_n hx hb dX7_cycle_0 rfl (lv_at hl 0 rfl) ?_
  refine lv_iload_n hx hb dX7_cycle_1 rfl (lv_at hl 1 rfl) ?_
  refine lv_if_lt (tgt := 13) hx hb dX7_cycle_2 (by decide) (fun c9 => ?_) (fun c9 => ?_)
  · rw [if_pos c9] at hJ
    refine lv_iconst (v := 1) hx hb dX7_cycle_13 (by decide) ?_
    refine lv_goto (tgt := 18) hx hb dX7_cycle_14 (by decide) ?_
    exact w_Mod_cycle_18 X hN hr _ _ _ _ _ _ _ _ hJ I (lv_sub hl [0, 1] rfl)
  · rw [if_neg c9] at hJ
    refine lv_iload_n hx hb dX7_cycle_5 rfl (lv_at hl 1 rfl) ?_
    refine lv_aload_n hx hb dX7_cycle_6 rfl (lv_at hl 0 rfl) ?_
    obtain ⟨v5, e9, hJ⟩ := rp_b hJ
    obtain ⟨f9, g9, e9⟩ := fI_s e9
    refine rp_get X I g9 e9 rfl wiX7 (by decide) wm_570 dX7_cycle_7 ?_
    refine lv_icmp_lt (tgt := 17) hx hb dX7_cycle_10 (by decide) (fun c9 => ?_) (fun c9 => ?_)
    · rw [if_pos c9] at hJ
      refine lv_iconst (v := 0) hx hb dX7_cycle_17 (by decide) ?_
      exact w_Mod_cycle_18 X hN hr _ _ _ _ _ _ _ _ hJ I (lv_sub hl [0, 1] rfl)
    · rw [if_neg c9] at hJ
      refine lv_iconst (v := 1) hx hb dX7_cycle_13 (by decide) ?_
      refine lv_goto (tgt := 18) hx hb dX7_cycle_14 (by decide) ?_
      exact w_Mod_cycle_18 X hN hr _ _ _ _ _ _ _ _ hJ I (lv_sub hl [0, 1] rfl)
def rmX7_content : Room := { frames := 1, cells := 0, slots := 0, locals := 20 }
def J_Mod_content_22 (N : Nat)  (x0 : Nat) (x1 : Int32) (y0 : Nat) (y1 : Int32) (h : Hp) : Option (Int32 × Hp) :=
  (sF h 7 y0 0 (.int y1)).bind fun h2 =>
  (fI h2 7 x0 0).bind fun v3 =>
  if v3 ≤ 0 then
  ((fR h2 7 x0 2).bind fun v4 =>
  (aI h2 0 v4 x1).bind fun v5 =>
  some (v5, h2))
  else
  (some ((0 : Int32), h2))
def J_Mod_content_21 (N : Nat)  (x0 : Nat) (x1 : Int32) (y0 : Nat) (h : Hp) : Option (Int32 × Hp) :=
  J_Mod_content_22 N x0 x1 y0 (1 : Int32) h
def J_Mod_content (N : Nat) (x0 : Nat) (x1 : Int32) (h : Hp) : Option (Int32 × Hp) :=
  (J_Mod_isFile N x1 h).bind fun q1 =>
 if q1.1 = 0 then
  (J_Mod_content_21 N x0 x1 x0 q1.2)
  else
  ((fR q1.2 7 x0 1).bind fun v6 =>
  (aI q1.2 1 v6 x1).bind fun v7 =>
  if v7 = 0 then
  (J_Mod_content_21 N x0 x1 x0 q1.2)
  else
  (J_Mod_content_22 N x0 x1 x0 (0 : Int32) q1.2))
set_option maxHeartbeats 4000000 in
set_option maxRecDepth 100000 in
theorem w_Mod_content_22 (X : Cx p s m args meth c D vwCl tys cX7_content 2 RX7 wsG) (hN : nwS s) (hr : meth.sig.returnType = (some .int)) {res : (Int32 × Hp)} {N : Nat}   : ∀ (x0 : Nat) (x1 : Int32) (y0 : Nat) (y1 : Int32) (h : Hp) (H : Heap) (locs : List Loc) (ls : Array Slot), J_Mod_content_22 N x0 x1 y0 y1 h = some res → In D vwCl tys A s h H locs → lv_has ls 2 [(0, .ref x0), (1, .int x1)] → W p l e rmX7_content s m args below meth c H locs 0 0 (MQ below (Qr D vwCl tys A (some (.int res.1)) res.2) args s 0 0 A) (F0 m 22 ls [.int y1, .ref y0]) := by
  have hx := X.1.1
  have hb := X.1.2.1
  have hml := X.1.2.2.1
  have ho := X.1.2.2.2.1
  have hts := X.1.2.2.2.2
  have hK := X.2.1
  have hT := X.2.2.2
  intro x0 x1 y0 y1 h H locs ls hJ I hl
  rw [J_Mod_content_22] at hJ
  obtain ⟨h2, e9, hJ⟩ := rp_b hJ
  refine rp_put (ty := .int) X I e9 rfl wiX7 tyX7 tyX7_ok nmX7 (by decide) wm_533 rfl (by decide +kernel) rfl rfl dX7_content_22 (fun H locs I => ?_)
  refine lv_aload_n hx hb dX7_content_25 rfl (lv_at hl 0 rfl) ?_
  obtain ⟨v3, e9, hJ⟩ := rp_b hJ
  obtain ⟨f9, g9, e9⟩ := fI_s e9
  refine rp_get X I g9 e9 rfl wiX7 (by decide) wm_533 dX7_content_26 ?_
  refine lv_if_le (tgt := 36) hx hb dX7_content_29 (by decide) (fun c9 => ?_) (fun c9 => ?_)
  · rw [if_pos c9] at hJ
    refine lv_aload_n hx hb dX7_content_36 rfl (lv_at hl 0 rfl) ?_
    obtain ⟨v4, e9, hJ⟩ := rp_b hJ
    obtain ⟨f9, g9, e9⟩ := fR_s e9
    refine rp_get X I g9 e9 rfl wiX7 (by decide) wm_535 dX7_content_37 ?_
    refine lv_iload_n hx hb dX7_content_40 rfl (lv_at hl 1 rfl) ?_
    obtain ⟨v5, e9, hJ⟩ := rp_b hJ
    refine rp_iald X I e9 rfl dX7_content_41 ?_
    exact rp_iret X hr hJ I dX7_content_42
  · rw [if_neg c9] at hJ
    refine lv_iconst (v := 0) hx hb dX7_content_32 (by decide) ?_
    refine lv_goto (tgt := 42) hx hb dX7_content_33 (by decide) ?_
    exact rp_iret X hr hJ I dX7_content_42
set_option maxHeartbeats 4000000 in
set_option maxRecDepth 100000 in
theorem w_Mod_content_21 (X : Cx p s m args meth c D vwCl tys cX7_content 2 RX7 wsG) (hN : nwS s) (hr : meth.sig.returnType = (some .int)) {res : (Int32 × Hp)} {N : Nat}   : ∀ (x0 : Nat) (x1 : Int32) (y0 : Nat) (h : Hp) (H : Heap) (locs : List Loc) (ls : Array Slot), J_Mod_content_21 N x0 x1 y0 h = some res → In D vwCl tys A s h H locs → lv_has ls 2 [(0, .ref x0), (1, .int x1)] → W p l e rmX7_content s m args below meth c H locs 0 0 (MQ below (Qr D vwCl tys A (some (.int res.1)) res.2) args s 0 0 A) (F0 m 21 ls [.ref y0]) := by
  have hx := X.1.1
  have hb := X.1.2.1
  have hml := X.1.2.2.1
  have ho := X.1.2.2.2.1
  have hts := X.1.2.2.2.2
  have hK := X.2.1
  have hT := X.2.2.2
  intro x0 x1 y0 h H locs ls hJ I hl
  rw [J_Mod_content_21] at hJ
  refine lv_iconst (v := 1) hx hb dX7_content_21 (by decide) ?_
  exact w_Mod_content_22 X hN hr _ _ _ _ _ _ _ _ hJ I (lv_sub hl [0, 1] rfl)
set_option maxHeartbeats 4000000 in
set_option maxRecDepth 100000 in
theorem c_Mod_content {l : Launch} {D : va_G} {tys : List (ClassId × FieldType)} {A : Nat → Prop} (hT : tys.map (fun q => q.2) = tyS) {N : Nat} {x0 : Nat} {x1 : Int32} {h : Hp} {res : (Int32 × Hp)} (hJ : J_Mod_content N x0 x1 h = some res) : Ct l D vwCl tys A yX7_content (Cond.code yX7_content cX7_content 2 (some .int) :: wsG) rmX7_content [.ref x0, .int x1] h (some (.int res.1)) res.2 := by
  refine Met.ofW (cc := cX7_content) (maxL := 2) (ret := (some .int)) (by decide) rfl ?_
  intro p e s m args below meth c s₁ B hml hv
  obtain ⟨rfl, hA, hR, hK, hN⟩ := hv
  have hr := B.returns
  have hts : ∀ w ∈ wsG, w.before [.ref x0, .int x1].toArray s = true := fun w hw => atoms_spec (ws := Cond.code yX7_content cX7_content 2 (some .int) :: wsG) B.pre w (List.mem_cons_of_mem _ hw)
  have X : Cx p s m [.ref x0, .int x1].toArray meth c D vwCl tys cX7_content 2 RX7 wsG := ⟨⟨B.exec, B.bytes, hml, findClass_of_methodNamed B.named, hts⟩, hK, B.notSynchronized, hT⟩
  have hx := B.exec
  have hb := B.bytes
  have I : In D vwCl tys A s h s.heap [] := ⟨hR, va_S.rf, hA⟩
  have hl := lv_entry [.ref x0, .int x1] (n := 2) (Nat.le_of_ble_eq_true rfl)
  rw [lg_entry_eq]
  generalize (lg_sl [.ref x0, .int x1] ++ List.replicate (2 - (lg_sl [.ref x0, .int x1]).length) Slot.unset).toArray = ls at hl ⊢
  have hl : lv_has ls 2 [(0, .ref x0), (1, .int x1)] := hl
  have ho := X.1.2.2.2.1
  rw [J_Mod_content] at hJ
  refine lv_aload_n hx hb dX7_content_0 rfl (lv_at hl 0 rfl) ?_
  refine lv_iload_n hx hb dX7_content_1 rfl (lv_at hl 1 rfl) ?_
  obtain ⟨q1, e9, hJ⟩ := rp_b hJ
  refine rp_callS (As := [.int x1]) (rest := [.ref x0]) X hN I (c_Mod_isFile hT e9) (cwS 1 hts (gdS wm_629 wm_630 wm_40 wm_631) rfl rfl rfl (by decide +kernel) ⟨Nat.le_of_ble_eq_true rfl, Nat.le_of_ble_eq_true rfl⟩) rfl hl.1 rfl (Nat.le_of_ble_eq_true rfl) dX7_content_2 ⟨(Nat.le_of_ble_eq_true rfl), (Nat.le_of_ble_eq_true rfl)⟩ (fun H locs I => ?_)
  refine W.cs (cells' := 0) (slots' := 0) rfl rfl ?_
  refine lv_if_eq (tgt := 21) hx hb dX7_content_5 (by decide) (fun c9 => ?_) (fun c9 => ?_)
  · rw [if_pos c9] at hJ
    exact w_Mod_content_21 X hN hr _ _ _ _ _ _ _ hJ I (lv_sub hl [0, 1] rfl)
  · rw [if_neg c9] at hJ
    refine lv_aload_n hx hb dX7_content_8 rfl (lv_at hl 0 rfl) ?_
    obtain ⟨v6, e9, hJ⟩ := rp_b hJ
    obtain ⟨f9, g9, e9⟩ := fR_s e9
    refine rp_get X I g9 e9 rfl wiX7 (by decide) wm_534 dX7_content_9 ?_
    refine lv_iload_n hx hb dX7_content_12 rfl (lv_at hl 1 rfl) ?_
    obtain ⟨v7, e9, hJ⟩ := rp_b hJ
    refine rp_zald X I e9 rfl dX7_content_13 ?_
    refine lv_if_eq (tgt := 21) hx hb dX7_content_14 (by decide) (fun c9 => ?_) (fun c9 => ?_)
    · rw [if_pos c9] at hJ
      exact w_Mod_content_21 X hN hr _ _ _ _ _ _ _ hJ I (lv_sub hl [0, 1] rfl)
    · rw [if_neg c9] at hJ
      refine lv_iconst (v := 0) hx hb dX7_content_17 (by decide) ?_
      refine lv_goto (tgt := 22) hx hb dX7_content_18 (by decide) ?_
      exact w_Mod_content_22 X hN hr _ _ _ _ _ _ _ _ hJ I (lv_sub hl [0, 1] rfl)
end GW
