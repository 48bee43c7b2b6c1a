section GW
variable {p : Program} {l : Launch} {e : Env} {s : State} {m : MethodId} {args : Array Value} {below : List Frame} {meth : Method} {c : Code} {D : va_G} {tys : List (ClassId × FieldType)} {A : Nat → Prop}
def rmX6_isStepNumber : Room := { frames := 0, cells := 0, slots := 0, locals := 0 }
def J_Desk_isStepNumber_14 (N : Nat)    (h : Hp) : Option (Int32 × Hp) :=
  some ((0 : Int32), h)
def J_Desk_isStepNumber (N : Nat) (x0 : Int32) (h : Hp) : Option (Int32 × Hp) :=
  if x0 < 0 then
  (J_Desk_isStepNumber_14 N h)
  else
  (if (40 : Int32) ≤ x0 then
  (J_Desk_isStepNumber_14 N h)
  else
  (some ((1 : Int32), h)))
set_option maxHeartbeats 4000000 in
set_option maxRecDepth 100000 in
theorem w_Desk_isStepNumber_14 (X : Cx p s m args meth c D vwCl tys cX6_isStepNumber 1 RX6 wsG) (hN : nwS s) (hr : meth.sig.returnType = (some .boolean)) {res : (Int32 × Hp)} {N : Nat}   : ∀   (h : Hp) (H : Heap) (locs : List Loc) (ls : Array Slot), J_Desk_isStepNumber_14 N h = some res → In D vwCl tys A s h H locs → lv_has ls 1 [] → W p l e rmX6_isStepNumber s m args below meth c H locs 0 0 (MQ below (Qr D vwCl tys A (some (.int res.1)) res.2) args s 0 0 A) (F0 m 14 ls []) := by
  have hx := X.1.1
  have hb := X.1.2.1
  have hml := X.1.2.2.1
  have ho := X.1.2.2.2.1
  have hts := X.1.2.2.2.2
  have hK := X.2.1
  have hT := X.2.2.2
  intro   h H locs ls hJ I hl
  rw [J_Desk_isStepNumber_14] at hJ
  refine lv_iconst (v := 0) hx hb dX6_isStepNumber_14 (by decide) ?_
  exact rp_zret X hr (Or.inl rfl) hJ I dX6_isStepNumber_15
set_option maxHeartbeats 4000000 in
set_option maxRecDepth 100000 in
theorem c_Desk_isStepNumber {l : Launch} {D : va_G} {tys : List (ClassId × FieldType)} {A : Nat → Prop} (hT : tys.map (fun q => q.2) = tyS) {N : Nat} {x0 : Int32} {h : Hp} {res : (Int32 × Hp)} (hJ : J_Desk_isStepNumber N x0 h = some res) : Ct l D vwCl tys A yX6_isStepNumber (Cond.code yX6_isStepNumber cX6_isStepNumber 1 (some .boolean) :: wsG) rmX6_isStepNumber [.int x0] h (some (.int res.1)) res.2 := by
  refine Met.ofW (cc := cX6_isStepNumber) (maxL := 1) (ret := (some .boolean)) (by decide) rfl ?_
  intro p e s m args below meth c s₁ B hml hv
  obtain ⟨rfl, hA, hR, hK, hN⟩ := hv
  have hr := B.returns
  have hts : ∀ w ∈ wsG, w.before [.int x0].toArray s = true := fun w hw => atoms_spec (ws := Cond.code yX6_isStepNumber cX6_isStepNumber 1 (some .boolean) :: wsG) B.pre w (List.mem_cons_of_mem _ hw)
  have X : Cx p s m [.int x0].toArray meth c D vwCl tys cX6_isStepNumber 1 RX6 wsG := ⟨⟨B.exec, B.bytes, hml, findClass_of_methodNamed B.named, hts⟩, hK, B.notSynchronized, hT⟩
  have hx := B.exec
  have hb := B.bytes
  have I : In D vwCl tys A s h s.heap [] := ⟨hR, va_S.rf, hA⟩
  have hl := lv_entry [.int x0] (n := 1) (Nat.le_of_ble_eq_true rfl)
  rw [lg_entry_eq]
  generalize (lg_sl [.int x0] ++ List.replicate (1 - (lg_sl [.int x0]).length) Slot.unset).toArray = ls at hl ⊢
  have hl : lv_has ls 1 [(0, .int x0)] := hl
  have ho := X.1.2.2.2.1
  rw [J_Desk_isStepNumber] at hJ
  refine lv_iload_n hx hb dX6_isStepNumber_0 rfl (lv_at hl 0 rfl) ?_
  refine lv_if_lt (tgt := 14) hx hb dX6_isStepNumber_1 (by decide) (fun c9 => ?_) (fun c9 => ?_)
  · rw [if_pos c9] at hJ
    exact w_Desk_isStepNumber_14 X hN hr _ _ _ _ hJ I (lv_sub hl [] rfl)
  · rw [if_neg c9] at hJ
    refine lv_iload_n hx hb dX6_isStepNumber_4 rfl (lv_at hl 0 rfl) ?_
    refine lv_bipush (v := 40) hx hb dX6_isStepNumber_5 (by decide) ?_
    refine lv_icmp_ge (tgt := 14) hx hb dX6_isStepNumber_7 (by decide) (fun c9 => ?_) (fun c9 => ?_)
    · rw [if_pos c9] at hJ
      exact w_Desk_isStepNumber_14 X hN hr _ _ _ _ hJ I (lv_sub hl [] rfl)
    · rw [if_neg c9] at hJ
      refine lv_iconst (v := 1) hx hb dX6_isStepNumber_10 (by decide) ?_
      refine lv_goto (tgt := 15) hx hb dX6_isStepNumber_11 (by decide) ?_
      exact rp_zret X hr (Or.inr rfl) hJ I dX6_isStepNumber_15
def rmX6_step : Room := { frames := 1, cells := 0, slots := 0, locals := 23 }
def J_Desk_step (N : Nat) (x0 : Nat) (x1 : Int32) (x2 : Int32) (x3 : Int32) (x4 : Int32) (h : Hp) : Option (Int32 × Hp) :=
  (J_Desk_isStepNumber N x1 h).bind fun q1 =>
 if q1.1 = 0 then
  (some ((0 : Int32), q1.2))
  else
  (if x4 < (1 : Int32) then
  (some ((0 : Int32), q1.2))
  else
  (if x4 ≤ (100 : Int32) then
  ((fR q1.2 6 x0 1).bind fun v2 =>
  (aR q1.2 3 v2 x1).bind fun v3 =>
  (isO q1.2 5 v3).bind fun _ =>
  (J_Step_tell N v3 x2 x3 x4 q1.2).bind fun q4 =>
 some ((1 : Int32), q4.2))
  else
  (some ((0 : Int32), q1.2))))
set_option maxHeartbeats 4000000 in
set_option maxRecDepth 100000 in
theorem c_Desk_step {l : Launch} {D : va_G} {tys : List (ClassId × FieldType)} {A : Nat → Prop} (hT : tys.map (fun q => q.2) = tyS) {N : Nat} {x0 : Nat} {x1 : Int32} {x2 : Int32} {x3 : Int32} {x4 : Int32} {h : Hp} {res : (Int32 × Hp)} (hJ : J_Desk_step N x0 x1 x2 x3 x4 h = some res) : Ct l D vwCl tys A yX6_step (Cond.code yX6_step cX6_step 5 (some .boolean) :: wsG) rmX6_step [.ref x0, .int x1, .int x2, .int x3, .int x4] h (some (.int res.1)) res.2 := by
  refine Met.ofW (cc := cX6_step) (maxL := 5) (ret := (some .boolean)) (by decide) rfl ?_
  intro p e s m args below meth c s₁ B hml hv
  obtain ⟨rfl, hA, hR, hK, hN⟩ := hv
  have hr := B.returns
  have hts : ∀ w ∈ wsG, w.before [.ref x0, .int x1, .int x2, .int x3, .int x4].toArray s = true := fun w hw => atoms_spec (ws := Cond.code yX6_step cX6_step 5 (some .boolean) :: wsG) B.pre w (List.mem_cons_of_mem _ hw)
  have X : Cx p s m [.ref x0, .int x1, .int x2, .int x3, .int x4].toArray meth c D vwCl tys cX6_step 5 RX6 wsG := ⟨⟨B.exec, B.bytes, hml, findClass_of_methodNamed B.named, hts⟩, hK, B.notSynchronized, hT⟩
  have hx := B.exec
  have hb := B.bytes
  have I : In D vwCl tys A s h s.heap [] := ⟨hR, va_S.rf, hA⟩
  have hl := lv_entry [.ref x0, .int x1, .int x2, .int x3, .int x4] (n := 5) (Nat.le_of_ble_eq_true rfl)
  rw [lg_entry_eq]
  generalize (lg_sl [.ref x0, .int x1, .int x2, .int x3, .int x4] ++ List.replicate (5 - (lg_sl [.ref x0, .int x1, .int x2, .int x3, .int x4]).length) Slot.unset).toArray = ls at hl ⊢
  have hl : lv_has ls 5 [(0, .ref x0), (1, .int x1), (2, .int x2), (3, .int x3), (4, .int x4)] := hl
  have ho := X.1.2.2.2.1
  rw [J_Desk_step] at hJ
  refine lv_iload_n hx hb dX6_step_0 rfl (lv_at hl 1 rfl) ?_
  obtain ⟨q1, e9, hJ⟩ := rp_b hJ
  refine rp_callS (As := [.int x1]) (rest := []) X hN I (c_Desk_isStepNumber hT e9) (cwS 1 hts (gdS wm_183 wm_184 wm_33 wm_185) rfl rfl rfl (by decide +kernel) ⟨Nat.le_of_ble_eq_true rfl, Nat.le_of_ble_eq_true rfl⟩) rfl hl.1 rfl (Nat.le_of_ble_eq_true rfl) dX6_step_1 ⟨(Nat.le_of_ble_eq_true rfl), (Nat.le_of_ble_eq_true rfl)⟩ (fun H locs I => ?_)
  refine W.cs (cells' := 0) (slots' := 0) rfl rfl ?_
  refine lv_if_eq (tgt := 20) hx hb dX6_step_4 (by decide) (fun c9 => ?_) (fun c9 => ?_)
  · rw [if_pos c9] at hJ
    refine lv_iconst (v := 0) hx hb dX6_step_20 (by decide) ?_
    exact rp_zret X hr (Or.inl rfl) hJ I dX6_step_21
  · rw [if_neg c9] at hJ
    refine lv_iload hx hb dX6_step_7 (lv_at hl 4 rfl) ?_
    refine lv_iconst (v := 1) hx hb dX6_step_9 (by decide) ?_
    refine lv_icmp_lt (tgt := 20) hx hb dX6_step_10 (by decide) (fun c9 => ?_) (fun c9 => ?_)
    · rw [if_pos c9] at hJ
      refine lv_iconst (v := 0) hx hb dX6_step_20 (by decide) ?_
      exact rp_zret X hr (Or.inl rfl) hJ I dX6_step_21
    · rw [if_neg c9] at hJ
      refine lv_iload hx hb dX6_step_13 (lv_at hl 4 rfl) ?_
      refine lv_bipush (v := 100) hx hb dX6_step_15 (by decide) ?_
      refine lv_icmp_le (tgt := 22) hx hb dX6_step_17 (by decide) (fun c9 => ?_) (fun c9 => ?_)
      · rw [if_pos c9] at hJ
        refine lv_aload_n hx hb dX6_step_22 rfl (lv_at hl 0 rfl) ?_
        obtain ⟨v2, e9, hJ⟩ := rp_b hJ
        obtain ⟨f9, g9, e9⟩ := fR_s e9
        refine rp_get X I g9 e9 rfl wiX6 (by decide) wm_167 dX6_step_23 ?_
        refine lv_iload_n hx hb dX6_step_26 rfl (lv_at hl 1 rfl) ?_
        obtain ⟨v3, e9, hJ⟩ := rp_b hJ
        refine rp_aald X I e9 rfl dX6_step_27 ?_
        refine lv_iload_n hx hb dX6_step_28 rfl (lv_at hl 2 rfl) ?_
        refine lv_iload_n hx hb dX6_step_29 rfl (lv_at hl 3 rfl) ?_
        refine lv_iload hx hb dX6_step_30 (lv_at hl 4 rfl) ?_
        obtain ⟨u9, i9, hJ⟩ := rp_b hJ
        obtain ⟨f9, i9⟩ := isO_s i9
        obtain ⟨q4, e9, hJ⟩ := rp_b hJ
        refine rp_callV (As := [.int x2, .int x3, .int x4]) (rest := []) X hN I (c_Step_tell hT e9) (cwV 3 hts (gdV wm_186 wm_187 wm_188 wm_35 wm_189) rfl rfl rfl (by decide +kernel) ⟨Nat.le_of_ble_eq_true rfl, Nat.le_of_ble_eq_true rfl⟩) i9 rfl rfl hl.1 rfl (Nat.le_of_ble_eq_true rfl) dX6_step_32 ⟨(Nat.le_of_ble_eq_true rfl), (Nat.le_of_ble_eq_true rfl)⟩ (fun H locs I => ?_)
        refine W.cs (cells' := 0) (slots' := 0) rfl rfl ?_
        refine lv_iconst (v := 1) hx hb dX6_step_35 (by decide) ?_
        exact rp_zret X hr (Or.inr rfl) hJ I dX6_step_36
      · rw [if_neg c9] at hJ
        refine lv_iconst (v := 0) hx hb dX6_step_20 (by decide) ?_
        exact rp_zret X hr (Or.inl rfl) hJ I dX6_step_21
def rmX6_isThere : Room := { frames := 1, cells := 0, slots := 0, locals := 20 }
def J_Desk_isThere_23 (N : Nat)    (h : Hp) : Option (Int32 × Hp) :=
  some ((0 : Int32), h)
def J_Desk_isThere (N : Nat) (x0 : Nat) (x1 : Int32) (h : Hp) : Option (Int32 × Hp) :=
  (J_Desk_isStepNumber N x1 h).bind fun q1 =>
 if q1.1 = 0 then
  (J_Desk_isThere_23 N q1.2)
  else
  ((fR q1.2 6 x0 1).bind fun v2 =>
  (aR q1.2 3 v2 x1).bind fun v3 =>
  (fI q1.2 5 v3 0).bind fun v4 =>
  if v4 = 0 then
  (J_Desk_isThere_23 N q1.2)
  else
  (some ((1 : Int32), q1.2)))
set_option maxHeartbeats 4000000 in
set_option maxRecDepth 100000 in
theorem w_Desk_isThere_23 (X : Cx p s m args meth c D vwCl tys cX6_isThere 2 RX6 wsG) (hN : nwS s) (hr : meth.sig.returnType = (some .boolean)) {res : (Int32 × Hp)} {N : Nat}   : ∀   (h : Hp) (H : Heap) (locs : List Loc) (ls : Array Slot), J_Desk_isThere_23 N h = some res → In D vwCl tys A s h H locs → lv_has ls 2 [] → W p l e rmX6_isThere s m args below meth c H locs 0 0 (MQ below (Qr D vwCl tys A (some (.int res.1)) res.2) args s 0 0 A) (F0 m 23 ls []) := by
  have hx := X.1.1
  have hb := X.1.2.1
  have hml := X.1.2.2.1
  have ho := X.1.2.2.2.1
  have hts := X.1.2.2.2.2
  have hK := X.2.1
  have hT := X.2.2.2
  intro   h H locs ls hJ I hl
  rw [J_Desk_isThere_23] at hJ
  refine lv_iconst (v := 0) hx hb dX6_isThere_23 (by decide) ?_
  exact rp_zret X hr (Or.inl rfl) hJ I dX6_isThere_24
set_option maxHeartbeats 4000000 in
set_option maxRecDepth 100000 in
theorem c_Desk_isThere {l : Launch} {D : va_G} {tys : List (ClassId × FieldType)} {A : Nat → Prop} (hT : tys.map (fun q => q.2) = tyS) {N : Nat} {x0 : Nat} {x1 : Int32} {h : Hp} {res : (Int32 × Hp)} (hJ : J_Desk_isThere N x0 x1 h = some res) : Ct l D vwCl tys A yX6_isThere (Cond.code yX6_isThere cX6_isThere 2 (some .boolean) :: wsG) rmX6_isThere [.ref x0, .int x1] h (some (.int res.1)) res.2 := by
  refine Met.ofW (cc := cX6_isThere) (maxL := 2) (ret := (some .boolean)) (by decide) rfl ?_
  intro p e s m args below meth c s₁ B hml hv
  obtain ⟨rfl, hA, hR, hK, hN⟩ := hv
  have hr := B.returns
  have hts : ∀ w ∈ wsG, w.before [.ref x0, .int x1].toArray s = true := fun w hw => atoms_spec (ws := Cond.code yX6_isThere cX6_isThere 2 (some .boolean) :: wsG) B.pre w (List.mem_cons_of_mem _ hw)
  have X : Cx p s m [.ref x0, .int x1].toArray meth c D vwCl tys cX6_isThere 2 RX6 wsG := ⟨⟨B.exec, B.bytes, hml, findClass_of_methodNamed B.named, hts⟩, hK, B.notSynchronized, hT⟩
  have hx := B.exec
  have hb := B.bytes
  have I : In D vwCl tys A s h s.heap [] := ⟨hR, va_S.rf, hA⟩
  have hl := lv_entry [.ref x0, .int x1] (n := 2) (Nat.le_of_ble_eq_true rfl)
  rw [lg_entry_eq]
  generalize (lg_sl [.ref x0, .int x1] ++ List.replicate (2 - (lg_sl [.ref x0, .int x1]).length) Slot.unset).toArray = ls at hl ⊢
  have hl : lv_has ls 2 [(0, .ref x0), (1, .int x1)] := hl
  have ho := X.1.2.2.2.1
  rw [J_Desk_isThere] at hJ
  refine lv_iload_n hx hb dX6_isThere_0 rfl (lv_at hl 1 rfl) ?_
  obtain ⟨q1, e9, hJ⟩ := rp_b hJ
  refine rp_callS (As := [.int x1]) (rest := []) X hN I (c_Desk_isStepNumber hT e9) (cwS 1 hts (gdS wm_183 wm_184 wm_33 wm_185) rfl rfl rfl (by decide +kernel) ⟨Nat.le_of_ble_eq_true rfl, Nat.le_of_ble_eq_true rfl⟩) rfl hl.1 rfl (Nat.le_of_ble_eq_true rfl) dX6_isThere_1 ⟨(Nat.le_of_ble_eq_true rfl), (Nat.le_of_ble_eq_true rfl)⟩ (fun H locs I => ?_)
  refine W.cs (cells' := 0) (slots' := 0) rfl rfl ?_
  refine lv_if_eq (tgt := 23) hx hb dX6_isThere_4 (by decide) (fun c9 => ?_) (fun c9 => ?_)
  · rw [if_pos c9] at hJ
    exact w_Desk_isThere_23 X hN hr _ _ _ _ hJ I (lv_sub hl [] rfl)
  · rw [if_neg c9] at hJ
    refine lv_aload_n hx hb dX6_isThere_7 rfl (lv_at hl 0 rfl) ?_
    obtain ⟨v2, e9, hJ⟩ := rp_b hJ
    obtain ⟨f9, g9, e9⟩ := fR_s e9
    refine rp_get X I g9 e9 rfl wiX6 (by decide) wm_167 dX6_isThere_8 ?_
    refine lv_iload_n hx hb dX6_isThere_11 rfl (lv_at hl 1 rfl) ?_
    obtain ⟨v3, e9, hJ⟩ := rp_b hJ
    refine rp_aald X I e9 rfl dX6_isThere_12 ?_
    obtain ⟨v4, e9, hJ⟩ := rp_b hJ
    obtain ⟨f9, g9, e9⟩ := fI_s e9
    refine rp_getN (host := "BuildDesk") X I g9 e9 rfl wiX5 (by decide) (hN.1 _ (by decide +kernel)) dX6_isThere_13 ?_
    refine lv_if_eq (tgt := 23) hx hb dX6_isThere_16 (by decide) (fun c9 => ?_) (fun c9 => ?_)
    · rw [if_pos c9] at hJ
      exact w_Desk_isThere_23 X hN hr _ _ _ _ hJ I (lv_sub hl [] rfl)
    · rw [if_neg c9] at hJ
      refine lv_iconst (v := 1) hx hb dX6_isThere_19 (by decide) ?_
      refine lv_goto (tgt := 24) hx hb dX6_isThere_20 (by decide) ?_
      exact rp_zret X hr (Or.inr rfl) hJ I dX6_isThere_24
def rmX6_isFile : Room := { frames := 0, cells := 0, slots := 0, locals := 0 }
def J_Desk_isFile_14 (N : Nat)    (h : Hp) : Option (Int32 × Hp) :=
  some ((0 : Int32), h)
def J_Desk_isFile (N : Nat) (x0 : Int32) (h : Hp) : Option (Int32 × Hp) :=
  if x0 < 0 then
  (J_Desk_isFile_14 N h)
  else
  (if (64 : Int32) ≤ x0 then
  (J_Desk_isFile_14 N h)
  else
  (some ((1 : Int32), h)))
set_option maxHeartbeats 4000000 in
set_option maxRecDepth 100000 in
theorem w_Desk_isFile_14 (X : Cx p s m args meth c D vwCl tys cX6_isFile 1 RX6 wsG) (hN : nwS s) (hr : meth.sig.returnType = (some .boolean)) {res : (Int32 × Hp)} {N : Nat}   : ∀   (h : Hp) (H : Heap) (locs : List Loc) (ls : Array Slot), J_Desk_isFile_14 N h = some res → In D vwCl tys A s h H locs → lv_has ls 1 [] → W p l e rmX6_isFile s m args below meth c H locs 0 0 (MQ below (Qr D vwCl tys A (some (.int res.1)) res.2) args s 0 0 A) (F0 m 14 ls []) := by
  have hx := X.1.1
  have hb := X.1.2.1
  have hml := X.1.2.2.1
  have ho := X.1.2.2.2.1
  have hts := X.1.2.2.2.2
  have hK := X.2.1
  have hT := X.2.2.2
  intro   h H locs ls hJ I hl
  rw [J_Desk_isFile_14] at hJ
  refine lv_iconst (v := 0) hx hb dX6_isFile_14 (by decide) ?_
  exact rp_zret X hr (Or.inl rfl) hJ I dX6_isFile_15
set_option maxHeartbeats 4000000 in
set_option maxRecDepth 100000 in
theorem c_Desk_isFile {l : Launch} {D : va_G} {tys : List (ClassId × FieldType)} {A : Nat → Prop} (hT : tys.map (fun q => q.2) = tyS) {N : Nat} {x0 : Int32} {h : Hp} {res : (Int32 × Hp)} (hJ : J_Desk_isFile N x0 h = some res) : Ct l D vwCl tys A yX6_isFile (Cond.code yX6_isFile cX6_isFile 1 (some .boolean) :: wsG) rmX6_isFile [.int x0] h (some (.int res.1)) res.2 := by
  refine Met.ofW (cc := cX6_isFile) (maxL := 1) (ret := (some .boolean)) (by decide) rfl ?_
  intro p e s m args below meth c s₁ B hml hv
  obtain ⟨rfl, hA, hR, hK, hN⟩ := hv
  have hr := B.returns
  have hts : ∀ w ∈ wsG, w.before [.int x0].toArray s = true := fun w hw => atoms_spec (ws := Cond.code yX6_isFile cX6_isFile 1 (some .boolean) :: wsG) B.pre w (List.mem_cons_of_mem _ hw)
  have X : Cx p s m [.int x0].toArray meth c D vwCl tys cX6_isFile 1 RX6 wsG := ⟨⟨B.exec, B.bytes, hml, findClass_of_methodNamed B.named, hts⟩, hK, B.notSynchronized, hT⟩
  have hx := B.exec
  have hb := B.bytes
  have I : In D vwCl tys A s h s.heap [] := ⟨hR, va_S.rf, hA⟩
  have hl := lv_entry [.int x0] (n := 1) (Nat.le_of_ble_eq_true rfl)
  rw [lg_entry_eq]
  generalize (lg_sl [.int x0] ++ List.replicate (1 - (lg_sl [.int x0]).length) Slot.unset).toArray = ls at hl ⊢
  have hl : lv_has ls 1 [(0, .int x0)] := hl
  have ho := X.1.2.2.2.1
  rw [J_Desk_isFile] at hJ
  refine lv_iload_n hx hb dX6_isFile_0 rfl (lv_at hl 0 rfl) ?_
  refine lv_if_lt (tgt := 14) hx hb dX6_isFile_1 (by decide) (fun c9 => ?_) (fun c9 => ?_)
  · rw [if_pos c9] at hJ
    exact w_Desk_isFile_14 X hN hr _ _ _ _ hJ I (lv_sub hl [] rfl)
  · rw [if_neg c9] at hJ
    refine lv_iload_n hx hb dX6_isFile_4 rfl (lv_at hl 0 rfl) ?_
    refine lv_bipush (v := 64) hx hb dX6_isFile_5 (by decide) ?_
    refine lv_icmp_ge (tgt := 14) hx hb dX6_isFile_7 (by decide) (fun c9 => ?_) (fun c9 => ?_)
    · rw [if_pos c9] at hJ
      exact w_Desk_isFile_14 X hN hr _ _ _ _ hJ I (lv_sub hl [] rfl)
    · rw [if_neg c9] at hJ
      refine lv_iconst (v := 1) hx hb dX6_isFile_10 (by decide) ?_
      refine lv_goto (tgt := 15) hx hb dX6_isFile_11 (by decide) ?_
      exact rp_zret X hr (Or.inr rfl) hJ I dX6_isFile_15
def rmX6_input : Room := { frames := 2, cells := 0, slots := 0, locals := 41 }
def J_Desk_input_32 (N : Nat)    (h : Hp) : Option (Int32 × Hp) :=
  some ((0 : Int32), h)
def J_Desk_input (N : Nat) (x0 : Nat) (x1 : Int32) (x2 : Int32) (h : Hp) : Option (Int32 × Hp) :=
  (isO h 6 x0).bind fun _ =>
  (J_Desk_isThere N x0 x1 h).bind fun q1 =>
 if q1.1 = 0 then
  (J_Desk_input_32 N q1.2)
  else
  ((J_Desk_isFile N x2 q1.2).bind fun q2 =>
 if q2.1 = 0 then
  (J_Desk_input_32 N q2.2)
  else
  ((fR q2.2 6 x0 1).bind fun v3 =>
  (aR q2.2 3 v3 x1).bind fun v4 =>
  (isO q2.2 5 v4).bind fun _ =>
  (J_Step_addInput N v4 x2 q2.2).bind fun q5 =>
 if q5.1 = 0 then
  (J_Desk_input_32 N q5.2)
  else
  (some ((1 : Int32), q5.2))))
set_option maxHeartbeats 4000000 in
set_option maxRecDepth 100000 in
theorem w_Desk_input_32 (X : Cx p s m args meth c D vwCl tys cX6_input 3 RX6 wsG) (hN : nwS s) (hr : meth.sig.returnType = (some .boolean)) {res : (Int32 × Hp)} {N : Nat}   : ∀   (h : Hp) (H : Heap) (locs : List Loc) (ls : Array Slot), J_Desk_input_32 N h = some res → In D vwCl tys A s h H locs → lv_has ls 3 [] → W p l e rmX6_input s m args below meth c H locs 0 0 (MQ below (Qr D vwCl tys A (some (.int res.1)) res.2) args s 0 0 A) (F0 m 32 ls []) := by
  have hx := X.1.1
  have hb := X.1.2.1
  have hml := X.1.2.2.1
  have ho := X.1.2.2.2.1
  have hts := X.1.2.2.2.2
  have hK := X.2.1
  have hT := X.2.2.2
  intro   h H locs ls hJ I hl
  rw [J_Desk_input_32] at hJ
  refine lv_iconst (v := 0) hx hb dX6_input_32 (by decide) ?_
  exact rp_zret X hr (Or.inl rfl) hJ I dX6_input_33
set_option maxHeartbeats 4000000 in
set_option maxRecDepth 100000 in
theorem c_Desk_input {l : Launch} {D : va_G} {tys : List (ClassId × FieldType)} {A : Nat → Prop} (hT : tys.map (fun q => q.2) = tyS) {N : Nat} {x0 : Nat} {x1 : Int32} {x2 : Int32} {h : Hp} {res : (Int32 × Hp)} (hJ : J_Desk_input N x0 x1 x2 h = some res) : Ct l D vwCl tys A yX6_input (Cond.code yX6_input cX6_input 3 (some .boolean) :: wsG) rmX6_input [.ref x0, .int x1, .int x2] h (some (.int res.1)) res.2 := by
  refine Met.ofW (cc := cX6_input) (maxL := 3) (ret := (some .boolean)) (by decide) rfl ?_
  intro p e s m args below meth c s₁ B hml hv
  obtain ⟨rfl, hA, hR, hK, hN⟩ := hv
  have hr := B.returns
  have hts : ∀ w ∈ wsG, w.before [.ref x0, .int x1, .int x2].toArray s = true := fun w hw => atoms_spec (ws := Cond.code yX6_input cX6_input 3 (some .boolean) :: wsG) B.pre w (List.mem_cons_of_mem _ hw)
  have X : Cx p s m [.ref x0, .int x1, .int x2].toArray meth c D vwCl tys cX6_input 3 RX6 wsG := ⟨⟨B.exec, B.bytes, hml, findClass_of_methodNamed B.named, hts⟩, hK, B.notSynchronized, hT⟩
  have hx := B.exec
  have hb := B.bytes
  have I : In D vwCl tys A s h s.heap [] := ⟨hR, va_S.rf, hA⟩
  have hl := lv_entry [.ref x0, .int x1, .int x2] (n := 3) (Nat.le_of_ble_eq_true rfl)
  rw [lg_entry_eq]
  generalize (lg_sl [.ref x0, .int x1, .int x2] ++ List.replicate (3 - (lg_sl [.ref x0, .int x1, .int x2]).length) Slot.unset).toArray = ls at hl ⊢
  have hl : lv_has ls 3 [(0, .ref x0), (1, .int x1), (2, .int x2)] := hl
  have ho := X.1.2.2.2.1
  rw [J_Desk_input] at hJ
  refine lv_aload_n hx hb dX6_input_0 rfl (lv_at hl 0 rfl) ?_
  refine lv_iload_n hx hb dX6_input_1 rfl (lv_at hl 1 rfl) ?_
  obtain ⟨u9, i9, hJ⟩ := rp_b hJ
  obtain ⟨f9, i9⟩ := isO_s i9
  obtain ⟨q1, e9, hJ⟩ := rp_b hJ
  refine rp_callV (As := [.int x1]) (rest := []) X hN I (c_Desk_isThere hT e9) (cwV 1 hts (gdV wm_194 wm_195 wm_0 wm_33 wm_196) rfl rfl rfl (by decide +kernel) ⟨Nat.le_of_ble_eq_true rfl, Nat.le_of_ble_eq_true rfl⟩) i9 rfl rfl hl.1 rfl (Nat.le_of_ble_eq_true rfl) dX6_input_2 ⟨(Nat.le_of_ble_eq_true rfl), (Nat.le_of_ble_eq_true rfl)⟩ (fun H locs I => ?_)
  refine W.cs (cells' := 0) (slots' := 0) rfl rfl ?_
  refine lv_if_eq (tgt := 32) hx hb dX6_input_5 (by decide) (fun c9 => ?_) (fun c9 => ?_)
  · rw [if_pos c9] at hJ
    exact w_Desk_input_32 X hN hr _ _ _ _ hJ I (lv_sub hl [] rfl)
  · rw [if_neg c9] at hJ
    refine lv_iload_n hx hb dX6_input_8 rfl (lv_at hl 2 rfl) ?_
    obtain ⟨q2, e9, hJ⟩ := rp_b hJ
    refine rp_callS (As := [.int x2]) (rest := []) X hN I (c_Desk_isFile hT e9) (cwS 1 hts (gdS wm_197 wm_198 wm_33 wm_199) rfl rfl rfl (by decide +kernel) ⟨Nat.le_of_ble_eq_true rfl, Nat.le_of_ble_eq_true rfl⟩) rfl hl.1 rfl (Nat.le_of_ble_eq_true rfl) dX6_input_9 ⟨(Nat.le_of_ble_eq_true rfl), (Nat.le_of_ble_eq_true rfl)⟩ (fun H locs I => ?_)
    refine W.cs (cells' := 0) (slots' := 0) rfl rfl ?_
    refine lv_if_eq (tgt := 32) hx hb dX6_input_12 (by decide) (fun c9 => ?_) (fun c9 => ?_)
    · rw [if_pos c9] at hJ
      exact w_Desk_input_32 X hN hr _ _ _ _ hJ I (lv_sub hl [] rfl)
    · rw [if_neg c9] at hJ
      refine lv_aload_n hx hb dX6_input_15 rfl (lv_at hl 0 rfl) ?_
      obtain ⟨v3, e9, hJ⟩ := rp_b hJ
      obtain ⟨f9, g9, e9⟩ := fR_s e9
      refine rp_get X I g9 e9 rfl wiX6 (by decide) wm_167 dX6_input_16 ?_
      refine lv_iload_n hx hb dX6_input_19 rfl (lv_at hl 1 rfl) ?_
      obtain ⟨v4, e9, hJ⟩ := rp_b hJ
      refine rp_aald X I e9 rfl dX6_input_20 ?_
      refine lv_iload_n hx hb dX6_input_21 rfl (lv_at hl 2 rfl) ?_
      obtain ⟨u9, i9, hJ⟩ := rp_b hJ
      obtain ⟨f9, i9⟩ := isO_s i9
      obtain ⟨q5, e9, hJ⟩ := rp_b hJ
      refine rp_callV (As := [.int x2]) (rest := []) X hN I (c_Step_addInput hT e9) (cwV 1 hts (gdV wm_200 wm_201 wm_202 wm_35 wm_203) rfl rfl rfl (by decide +kernel) ⟨Nat.le_of_ble_eq_true rfl, Nat.le_of_ble_eq_true rfl⟩) i9 rfl rfl hl.1 rfl (Nat.le_of_ble_eq_true rfl) dX6_input_22 ⟨(Nat.le_of_ble_eq_true rfl), (Nat.le_of_ble_eq_true rfl)⟩ (fun H locs I => ?_)
      refine W.cs (cells' := 0) (slots' := 0) rfl rfl ?_
      refine lv_if_eq (tgt := 32) hx hb dX6_input_25 (by decide) (fun c9 => ?_) (fun c9 => ?_)
      · rw [if_pos c9] at hJ
        exact w_Desk_input_32 X hN hr _ _ _ _ hJ I (lv_sub hl [] rfl)
      · rw [if_neg c9] at hJ
        refine lv_iconst (v := 1) hx hb dX6_input_28 (by decide) ?_
        refine lv_goto (tgt := 33) hx hb dX6_input_29 (by decide) ?_
        exact rp_zret X hr (Or.inr rfl) hJ I dX6_input_33
def rmX6_isSource : Room := { frames := 1, cells := 0, slots := 0, locals := 21 }
def J_Desk_isSource_23 (N : Nat)    (h : Hp) : Option (Int32 × Hp) :=
  some ((0 : Int32), h)
def J_Desk_isSource (N : Nat) (x0 : Nat) (x1 : Int32) (h : Hp) : Option (Int32 × Hp) :=
  (J_Desk_isFile N x1 h).bind fun q1 =>
 if q1.1 = 0 then
  (J_Desk_isSource_23 N q1.2)
  else
  ((fR q1.2 6 x0 0).bind fun v2 =>
  (isO q1.2 1 v2).bind fun _ =>
  (J_File_makerOf N v2 x1 q1.2).bind fun q3 =>
 if q3.1 = (-1 : Int32) then
  (some ((1 : Int32), q3.2))
  else
  (J_Desk_isSource_23 N q3.2))
set_option maxHeartbeats 4000000 in
set_option maxRecDepth 100000 in
theorem w_Desk_isSource_23 (X : Cx p s m args meth c D vwCl tys cX6_isSource 2 RX6 wsG) (hN : nwS s) (hr : meth.sig.returnType = (some .boolean)) {res : (Int32 × Hp)} {N : Nat}   : ∀   (h : Hp) (H : Heap) (locs : List Loc) (ls : Array Slot), J_Desk_isSource_23 N h = some res → In D vwCl tys A s h H locs → lv_has ls 2 [] → W p l e rmX6_isSource s m args below meth c H locs 0 0 (MQ below (Qr D vwCl tys A (some (.int res.1)) res.2) args s 0 0 A) (F0 m 23 ls []) := by
  have hx := X.1.1
  have hb := X.1.2.1
  have hml := X.1.2.2.1
  have ho := X.1.2.2.2.1
  have hts := X.1.2.2.2.2
  have hK := X.2.1
  have hT := X.2.2.2
  intro   h H locs ls hJ I hl
  rw [J_Desk_isSource_23] at hJ
  refine lv_iconst (v := 0) hx hb dX6_isSource_23 (by decide) ?_
  exact rp_zret X hr (Or.inl rfl) hJ I dX6_isSource_24
set_option maxHeartbeats 4000000 in
set_option maxRecDepth 100000 in
theorem c_Desk_isSource {l : Launch} {D : va_G} {tys : List (ClassId × FieldType)} {A : Nat → Prop} (hT : tys.map (fun q => q.2) = tyS) {N : Nat} {x0 : Nat} {x1 : Int32} {h : Hp} {res : (Int32 × Hp)} (hJ : J_Desk_isSource N x0 x1 h = some res) : Ct l D vwCl tys A yX6_isSource (Cond.code yX6_isSource cX6_isSource 2 (some .boolean) :: wsG) rmX6_isSource [.ref x0, .int x1] h (some (.int res.1)) res.2 := by
  refine Met.ofW (cc := cX6_isSource) (maxL := 2) (ret := (some .boolean)) (by decide) rfl ?_
  intro p e s m args below meth c s₁ B hml hv
  obtain ⟨rfl, hA, hR, hK, hN⟩ := hv
  have hr := B.returns
  have hts : ∀ w ∈ wsG, w.before [.ref x0, .int x1].toArray s = true := fun w hw => atoms_spec (ws := Cond.code yX6_isSource cX6_isSource 2 (some .boolean) :: wsG) B.pre w (List.mem_cons_of_mem _ hw)
  have X : Cx p s m [.ref x0, .int x1].toArray meth c D vwCl tys cX6_isSource 2 RX6 wsG := ⟨⟨B.exec, B.bytes, hml, findClass_of_methodNamed B.named, hts⟩, hK, B.notSynchronized, hT⟩
  have hx := B.exec
  have hb := B.bytes
  have I : In D vwCl tys A s h s.heap [] := ⟨hR, va_S.rf, hA⟩
  have hl := lv_entry [.ref x0, .int x1] (n := 2) (Nat.le_of_ble_eq_true rfl)
  rw [lg_entry_eq]
  generalize (lg_sl [.ref x0, .int x1] ++ List.replicate (2 - (lg_sl [.ref x0, .int x1]).length) Slot.unset).toArray = ls at hl ⊢
  have hl : lv_has ls 2 [(0, .ref x0), (1, .int x1)] := hl
  have ho := X.1.2.2.2.1
  rw [J_Desk_isSource] at hJ
  refine lv_iload_n hx hb dX6_isSource_0 rfl (lv_at hl 1 rfl) ?_
  obtain ⟨q1, e9, hJ⟩ := rp_b hJ
  refine rp_callS (As := [.int x1]) (rest := []) X hN I (c_Desk_isFile hT e9) (cwS 1 hts (gdS wm_197 wm_198 wm_33 wm_199) rfl rfl rfl (by decide +kernel) ⟨Nat.le_of_ble_eq_true rfl, Nat.le_of_ble_eq_true rfl⟩) rfl hl.1 rfl (Nat.le_of_ble_eq_true rfl) dX6_isSource_1 ⟨(Nat.le_of_ble_eq_true rfl), (Nat.le_of_ble_eq_true rfl)⟩ (fun H locs I => ?_)
  refine W.cs (cells' := 0) (slots' := 0) rfl rfl ?_
  refine lv_if_eq (tgt := 23) hx hb dX6_isSource_4 (by decide) (fun c9 => ?_) (fun c9 => ?_)
  · rw [if_pos c9] at hJ
    exact w_Desk_isSource_23 X hN hr _ _ _ _ hJ I (lv_sub hl [] rfl)
  · rw [if_neg c9] at hJ
    refine lv_aload_n hx hb dX6_isSource_7 rfl (lv_at hl 0 rfl) ?_
    obtain ⟨v2, e9, hJ⟩ := rp_b hJ
    obtain ⟨f9, g9, e9⟩ := fR_s e9
    refine rp_get X I g9 e9 rfl wiX6 (by decide) wm_166 dX6_isSource_8 ?_
    refine lv_iload_n hx hb dX6_isSource_11 rfl (lv_at hl 1 rfl) ?_
    obtain ⟨u9, i9, hJ⟩ := rp_b hJ
    obtain ⟨f9, i9⟩ := isO_s i9
    obtain ⟨q3, e9, hJ⟩ := rp_b hJ
    refine rp_callV (As := [.int x1]) (rest := []) X hN I (c_File_makerOf hT e9) (cwV 1 hts (gdV wm_211 wm_212 wm_213 wm_34 wm_214) rfl rfl rfl (by decide +kernel) ⟨Nat.le_of_ble_eq_true rfl, Nat.le_of_ble_eq_true rfl⟩) i9 rfl rfl hl.1 rfl (Nat.le_of_ble_eq_true rfl) dX6_isSource_12 ⟨(Nat.le_of_ble_eq_true rfl), (Nat.le_of_ble_eq_true rfl)⟩ (fun H locs I => ?_)
    refine W.cs (cells' := 0) (slots' := 0) rfl rfl ?_
    refine lv_iconst (v := -1) hx hb dX6_isSource_15 (by decide) ?_
    refine lv_icmp_ne (tgt := 23) hx hb dX6_isSource_16 (by decide) (fun c9 => ?_) (fun c9 => ?_)
    · rw [if_neg c9] at hJ
      exact w_Desk_isSource_23 X hN hr _ _ _ _ hJ I (lv_sub hl [] rfl)
    · rw [if_pos c9] at hJ
      refine lv_iconst (v := 1) hx hb dX6_isSource_19 (by decide) ?_
      refine lv_goto (tgt := 24) hx hb dX6_isSource_20 (by decide) ?_
      exact rp_zret X hr (Or.inr rfl) hJ I dX6_isSource_24
def rmX6_output : Room := { frames := 2, cells := 0, slots := 0, locals := 42 }
def J_Desk_output (N : Nat) (x0 : Nat) (x1 : Int32) (x2 : Int32) (h : Hp) : Option (Int32 × Hp) :=
  (isO h 6 x0).bind fun _ =>
  (J_Desk_isThere N x0 x1 h).bind fun q1 =>
 if q1.1 = 0 then
  (some ((0 : Int32), q1.2))
  else
  ((isO q1.2 6 x0).bind fun _ =>
  (J_Desk_isSource N x0 x2 q1.2).bind fun q2 =>
 if q2.1 = 0 then
  (some ((0 : Int32), q2.2))
  else
  ((fR q2.2 6 x0 1).bind fun v3 =>
  (aR q2.2 3 v3 x1).bind fun v4 =>
  (isO q2.2 5 v4).bind fun _ =>
  (J_Step_addOutput N v4 x2 q2.2).bind fun q5 =>
 if q5.1 = 0 then
  (some ((0 : Int32), q5.2))
  else
  ((fR q5.2 6 x0 0).bind fun v6 =>
  (isO q5.2 1 v6).bind fun _ =>
  (J_File_setMaker N v6 x2 x1 q5.2).bind fun q7 =>
 some ((1 : Int32), q7.2))))
set_option maxHeartbeats 4000000 in
set_option maxRecDepth 100000 in
theorem c_Desk_output {l : Launch} {D : va_G} {tys : List (ClassId × FieldType)} {A : Nat → Prop} (hT : tys.map (fun q => q.2) = tyS) {N : Nat} {x0 : Nat} {x1 : Int32} {x2 : Int32} {h : Hp} {res : (Int32 × Hp)} (hJ : J_Desk_output N x0 x1 x2 h = some res) : Ct l D vwCl tys A yX6_output (Cond.code yX6_output cX6_output 3 (some .boolean) :: wsG) rmX6_output [.ref x0, .int x1, .int x2] h (some (.int res.1)) res.2 := by
  refine Met.ofW (cc := cX6_output) (maxL := 3) (ret := (some .boolean)) (by decide) rfl ?_
  intro p e s m args below meth c s₁ B hml hv
  obtain ⟨rfl, hA, hR, hK, hN⟩ := hv
  have hr := B.returns
  have hts : ∀ w ∈ wsG, w.before [.ref x0, .int x1, .int x2].toArray s = true := fun w hw => atoms_spec (ws := Cond.code yX6_output cX6_output 3 (some .boolean) :: wsG) B.pre w (List.mem_cons_of_mem _ hw)
  have X : Cx p s m [.ref x0, .int x1, .int x2].toArray meth c D vwCl tys cX6_output 3 RX6 wsG := ⟨⟨B.exec, B.bytes, hml, findClass_of_methodNamed B.named, hts⟩, hK, B.notSynchronized, hT⟩
  have hx := B.exec
  have hb := B.bytes
  have I : In D vwCl tys A s h s.heap [] := ⟨hR, va_S.rf, hA⟩
  have hl := lv_entry [.ref x0, .int x1, .int x2] (n := 3) (Nat.le_of_ble_eq_true rfl)
  rw [lg_entry_eq]
  generalize (lg_sl [.ref x0, .int x1, .int x2] ++ List.replicate (3 - (lg_sl [.ref x0, .int x1, .int x2]).length) Slot.unset).toArray = ls at hl ⊢
  have hl : lv_has ls 3 [(0, .ref x0), (1, .int x1), (2, .int x2)] := hl
  have ho := X.1.2.2.2.1
  rw [J_Desk_output] at hJ
  refine lv_aload_n hx hb dX6_output_0 rfl (lv_at hl 0 rfl) ?_
  refine lv_iload_n hx hb dX6_output_1 rfl (lv_at hl 1 rfl) ?_
  obtain ⟨u9, i9, hJ⟩ := rp_b hJ
  obtain ⟨f9, i9⟩ := isO_s i9
  obtain ⟨q1, e9, hJ⟩ := rp_b hJ
  refine rp_callV (As := [.int x1]) (rest := []) X hN I (c_Desk_isThere hT e9) (cwV 1 hts (gdV wm_194 wm_195 wm_0 wm_33 wm_196) rfl rfl rfl (by decide +kernel) ⟨Nat.le_of_ble_eq_true rfl, Nat.le_of_ble_eq_true rfl⟩) i9 rfl rfl hl.1 rfl (Nat.le_of_ble_eq_true rfl) dX6_output_2 ⟨(Nat.le_of_ble_eq_true rfl), (Nat.le_of_ble_eq_true rfl)⟩ (fun H locs I => ?_)
  refine W.cs (cells' := 0) (slots' := 0) rfl rfl ?_
  refine lv_if_eq (tgt := 29) hx hb dX6_output_5 (by decide) (fun c9 => ?_) (fun c9 => ?_)
  · rw [if_pos c9] at hJ
    refine lv_iconst (v := 0) hx hb dX6_output_29 (by decide) ?_
    exact rp_zret X hr (Or.inl rfl) hJ I dX6_output_30
  · rw [if_neg c9] at hJ
    refine lv_aload_n hx hb dX6_output_8 rfl (lv_at hl 0 rfl) ?_
    refine lv_iload_n hx hb dX6_output_9 rfl (lv_at hl 2 rfl) ?_
    obtain ⟨u9, i9, hJ⟩ := rp_b hJ
    obtain ⟨f9, i9⟩ := isO_s i9
    obtain ⟨q2, e9, hJ⟩ := rp_b hJ
    refine rp_callV (As := [.int x2]) (rest := []) X hN I (c_Desk_isSource hT e9) (cwV 1 hts (gdV wm_208 wm_209 wm_1 wm_33 wm_210) rfl rfl rfl (by decide +kernel) ⟨Nat.le_of_ble_eq_true rfl, Nat.le_of_ble_eq_true rfl⟩) i9 rfl rfl hl.1 rfl (Nat.le_of_ble_eq_true rfl) dX6_output_10 ⟨(Nat.le_of_ble_eq_true rfl), (Nat.le_of_ble_eq_true rfl)⟩ (fun H locs I => ?_)
    refine W.cs (cells' := 0) (slots' := 0) rfl rfl ?_
    refine lv_if_eq (tgt := 29) hx hb dX6_output_13 (by decide) (fun c9 => ?_) (fun c9 => ?_)
    · rw [if_pos c9] at hJ
      refine lv_iconst (v := 0) hx hb dX6_output_29 (by decide) ?_
      exact rp_zret X hr (Or.inl rfl) hJ I dX6_output_30
    · rw [if_neg c9] at hJ
      refine lv_aload_n hx hb dX6_output_16 rfl (lv_at hl 0 rfl) ?_
      obtain ⟨v3, e9, hJ⟩ := rp_b hJ
      obtain ⟨f9, g9, e9⟩ := fR_s e9
      refine rp_get X I g9 e9 rfl wiX6 (by decide) wm_167 dX6_output_17 ?_
      refine lv_iload_n hx hb dX6_output_20 rfl (lv_at hl 1 rfl) ?_
      obtain ⟨v4, e9, hJ⟩ := rp_b hJ
      refine rp_aald X I e9 rfl dX6_output_21 ?_
      refine lv_iload_n hx hb dX6_output_22 rfl (lv_at hl 2 rfl) ?_
      obtain ⟨u9, i9, hJ⟩ := rp_b hJ
      obtain ⟨f9, i9⟩ := isO_s i9
      obtain ⟨q5, e9, hJ⟩ := rp_b hJ
      refine rp_callV (As := [.int x2]) (rest := []) X hN I (c_Step_addOutput hT e9) (cwV 1 hts (gdV wm_215 wm_216 wm_217 wm_35 wm_218) rfl rfl rfl (by decide +kernel) ⟨Nat.le_of_ble_eq_true rfl, Nat.le_of_ble_eq_true rfl⟩) i9 rfl rfl hl.1 rfl (Nat.le_of_ble_eq_true rfl) dX6_output_23 ⟨(Nat.le_of_ble_eq_true rfl), (Nat.le_of_ble_eq_true rfl)⟩ (fun H locs I => ?_)
      refine W.cs (cells' := 0) (slots' := 0) rfl rfl ?_
      refine lv_if_ne (tgt := 31) hx hb dX6_output_26 (by decide) (fun c9 => ?_) (fun c9 => ?_)
      · rw [if_neg c9] at hJ
        refine lv_aload_n hx hb dX6_output_31 rfl (lv_at hl 0 rfl) ?_
        obtain ⟨v6, e9, hJ⟩ := rp_b hJ
        obtain ⟨f9, g9, e9⟩ := fR_s e9
        refine rp_get X I g9 e9 rfl wiX6 (by decide) wm_166 dX6_output_32 ?_
        refine lv_iload_n hx hb dX6_output_35 rfl (lv_at hl 2 rfl) ?_
        refine lv_iload_n hx hb dX6_output_36 rfl (lv_at hl 1 rfl) ?_
        obtain ⟨u9, i9, hJ⟩ := rp_b hJ
        obtain ⟨f9, i9⟩ := isO_s i9
        obtain ⟨q7, e9, hJ⟩ := rp_b hJ
        refine rp_callV (As := [.int x2, .int x1]) (rest := []) X hN I (c_File_setMaker hT e9) (cwV 2 hts (gdV wm_219 wm_220 wm_221 wm_34 wm_222) rfl rfl rfl (by decide +kernel) ⟨Nat.le_of_ble_eq_true rfl, Nat.le_of_ble_eq_true rfl⟩) i9 rfl rfl hl.1 rfl (Nat.le_of_ble_eq_true rfl) dX6_output_37 ⟨(Nat.le_of_ble_eq_true rfl), (Nat.le_of_ble_eq_true rfl)⟩ (fun H locs I => ?_)
        refine W.cs (cells' := 0) (slots' := 0) rfl rfl ?_
        refine lv_iconst (v := 1) hx hb dX6_output_40 (by decide) ?_
        exact rp_zret X hr (Or.inr rfl) hJ I dX6_output_41
      · rw [if_pos c9] at hJ
        refine lv_iconst (v := 0) hx hb dX6_output_29 (by decide) ?_
        exact rp_zret X hr (Or.inl rfl) hJ I dX6_output_30
def rmX6_drop : Room := { frames := 2, cells := 0, slots := 0, locals := 44 }
def J_Desk_drop (N : Nat) (x0 : Nat) (x1 : Int32) (h : Hp) : Option (Int32 × Hp) :=
  (isO h 6 x0).bind fun _ =>
  (J_Desk_isThere N x0 x1 h).bind fun q1 =>
 if q1.1 = 0 then
  (some ((0 : Int32), q1.2))
  else
  ((fR q1.2 6 x0 1).bind fun v2 =>
  (aR q1.2 3 v2 x1).bind fun v3 =>
  (fR q1.2 6 x0 0).bind fun v4 =>
  (isO q1.2 5 v3).bind fun _ =>
  (J_Step_leave N v3 v4 q1.2).bind fun q5 =>
 some ((1 : Int32), q5.2))
set_option maxHeartbeats 4000000 in
set_option maxRecDepth 100000 in
theorem c_Desk_drop {l : Launch} {D : va_G} {tys : List (ClassId × FieldType)} {A : Nat → Prop} (hT : tys.map (fun q => q.2) = tyS) {N : Nat} {x0 : Nat} {x1 : Int32} {h : Hp} {res : (Int32 × Hp)} (hJ : J_Desk_drop N x0 x1 h = some res) : Ct l D vwCl tys A yX6_drop (Cond.code yX6_drop cX6_drop 2 (some .boolean) :: wsG) rmX6_drop [.ref x0, .int x1] h (some (.int res.1)) res.2 := by
  refine Met.ofW (cc := cX6_drop) (maxL := 2) (ret := (some .boolean)) (by decide) rfl ?_
  intro p e s m args below meth c s₁ B hml hv
  obtain ⟨rfl, hA, hR, hK, hN⟩ := hv
  have hr := B.returns
  have hts : ∀ w ∈ wsG, w.before [.ref x0, .int x1].toArray s = true := fun w hw => atoms_spec (ws := Cond.code yX6_drop cX6_drop 2 (some .boolean) :: wsG) B.pre w (List.mem_cons_of_mem _ hw)
  have X : Cx p s m [.ref x0, .int x1].toArray meth c D vwCl tys cX6_drop 2 RX6 wsG := ⟨⟨B.exec, B.bytes, hml, findClass_of_methodNamed B.named, hts⟩, hK, B.notSynchronized, hT⟩
  have hx := B.exec
  have hb := B.bytes
  have I : In D vwCl tys A s h s.heap [] := ⟨hR, va_S.rf, hA⟩
  have hl := lv_entry [.ref x0, .int x1] (n := 2) (Nat.le_of_ble_eq_true rfl)
  rw [lg_entry_eq]
  generalize (lg_sl [.ref x0, .int x1] ++ List.replicate (2 - (lg_sl [.ref x0, .int x1]).length) Slot.unset).toArray = ls at hl ⊢
  have hl : lv_has ls 2 [(0, .ref x0), (1, .int x1)] := hl
  have ho := X.1.2.2.2.1
  rw [J_Desk_drop] at hJ
  refine lv_aload_n hx hb dX6_drop_0 rfl (lv_at hl 0 rfl) ?_
  refine lv_iload_n hx hb dX6_drop_1 rfl (lv_at hl 1 rfl) ?_
  obtain ⟨u9, i9, hJ⟩ := rp_b hJ
  obtain ⟨f9, i9⟩ := isO_s i9
  obtain ⟨q1, e9, hJ⟩ := rp_b hJ
  refine rp_callV (As := [.int x1]) (rest := []) X hN I (c_Desk_isThere hT e9) (cwV 1 hts (gdV wm_194 wm_195 wm_0 wm_33 wm_196) rfl rfl rfl (by decide +kernel) ⟨Nat.le_of_ble_eq_true rfl, Nat.le_of_ble_eq_true rfl⟩) i9 rfl rfl hl.1 rfl (Nat.le_of_ble_eq_true rfl) dX6_drop_2 ⟨(Nat.le_of_ble_eq_true rfl), (Nat.le_of_ble_eq_true rfl)⟩ (fun H locs I => ?_)
  refine W.cs (cells' := 0) (slots' := 0) rfl rfl ?_
  refine lv_if_ne (tgt := 10) hx hb dX6_drop_5 (by decide) (fun c9 => ?_) (fun c9 => ?_)
  · rw [if_neg c9] at hJ
    refine lv_aload_n hx hb dX6_drop_10 rfl (lv_at hl 0 rfl) ?_
    obtain ⟨v2, e9, hJ⟩ := rp_b hJ
    obtain ⟨f9, g9, e9⟩ := fR_s e9
    refine rp_get X I g9 e9 rfl wiX6 (by decide) wm_167 dX6_drop_11 ?_
    refine lv_iload_n hx hb dX6_drop_14 rfl (lv_at hl 1 rfl) ?_
    obtain ⟨v3, e9, hJ⟩ := rp_b hJ
    refine rp_aald X I e9 rfl dX6_drop_15 ?_
    refine lv_aload_n hx hb dX6_drop_16 rfl (lv_at hl 0 rfl) ?_
    obtain ⟨v4, e9, hJ⟩ := rp_b hJ
    obtain ⟨f9, g9, e9⟩ := fR_s e9
    refine rp_get X I g9 e9 rfl wiX6 (by decide) wm_166 dX6_drop_17 ?_
    obtain ⟨u9, i9, hJ⟩ := rp_b hJ
    obtain ⟨f9, i9⟩ := isO_s i9
    obtain ⟨q5, e9, hJ⟩ := rp_b hJ
    refine rp_callV (As := [.ref v4]) (rest := []) X hN I (c_Step_leave hT e9) (cwV 1 hts (gdV wm_227 wm_228 wm_229 wm_35 wm_230) rfl rfl rfl (by decide +kernel) ⟨Nat.le_of_ble_eq_true rfl, Nat.le_of_ble_eq_true rfl⟩) i9 rfl rfl hl.1 rfl (Nat.le_of_ble_eq_true rfl) dX6_drop_20 ⟨(Nat.le_of_ble_eq_true rfl), (Nat.le_of_ble_eq_true rfl)⟩ (fun H locs I => ?_)
    refine W.cs (cells' := 0) (slots' := 0) rfl rfl ?_
    refine lv_iconst (v := 1) hx hb dX6_drop_23 (by decide) ?_
    exact rp_zret X hr (Or.inr rfl) hJ I dX6_drop_24
  · rw [if_pos c9] at hJ
    refine lv_iconst (v := 0) hx hb dX6_drop_8 (by decide) ?_
    exact rp_zret X hr (Or.inl rfl) hJ I dX6_drop_9
def rmX6_source : Room := { frames := 2, cells := 0, slots := 0, locals := 42 }
def J_Desk_source (N : Nat) (x0 : Nat) (x1 : Int32) (x2 : Int32) (h : Hp) : Option (Int32 × Hp) :=
  (isO h 6 x0).bind fun _ =>
  (J_Desk_isSource N x0 x1 h).bind fun q1 =>
 if q1.1 = 0 then
  (some ((0 : Int32), q1.2))
  else
  ((fR q1.2 6 x0 0).bind fun v2 =>
  (isO q1.2 1 v2).bind fun _ =>
  (J_File_fill N v2 x1 x2 q1.2).bind fun q3 =>
 some ((1 : Int32), q3.2))
set_option maxHeartbeats 4000000 in
set_option maxRecDepth 100000 in
theorem c_Desk_source {l : Launch} {D : va_G} {tys : List (ClassId × FieldType)} {A : Nat → Prop} (hT : tys.map (fun q => q.2) = tyS) {N : Nat} {x0 : Nat} {x1 : Int32} {x2 : Int32} {h : Hp} {res : (Int32 × Hp)} (hJ : J_Desk_source N x0 x1 x2 h = some res) : Ct l D vwCl tys A yX6_source (Cond.code yX6_source cX6_source 3 (some .boolean) :: wsG) rmX6_source [.ref x0, .int x1, .int x2] h (some (.int res.1)) res.2 := by
  refine Met.ofW (cc := cX6_source) (maxL := 3) (ret := (some .boolean)) (by decide) rfl ?_
  intro p e s m args below meth c s₁ B hml hv
  obtain ⟨rfl, hA, hR, hK, hN⟩ := hv
  have hr := B.returns
  have hts : ∀ w ∈ wsG, w.before [.ref x0, .int x1, .int x2].toArray s = true := fun w hw => atoms_spec (ws := Cond.code yX6_source cX6_source 3 (some .boolean) :: wsG) B.pre w (List.mem_cons_of_mem _ hw)
  have X : Cx p s m [.ref x0, .int x1, .int x2].toArray meth c D vwCl tys cX6_source 3 RX6 wsG := ⟨⟨B.exec, B.bytes, hml, findClass_of_methodNamed B.named, hts⟩, hK, B.notSynchronized, hT⟩
  have hx := B.exec
  have hb := B.bytes
  have I : In D vwCl tys A s h s.heap [] := ⟨hR, va_S.rf, hA⟩
  have hl := lv_entry [.ref x0, .int x1, .int x2] (n := 3) (Nat.le_of_ble_eq_true rfl)
  rw [lg_entry_eq]
  generalize (lg_sl [.ref x0, .int x1, .int x2] ++ List.replicate (3 - (lg_sl [.ref x0, .int x1, .int x2]).length) Slot.unset).toArray = ls at hl ⊢
  have hl : lv_has ls 3 [(0, .ref x0), (1, .int x1), (2, .int x2)] := hl
  have ho := X.1.2.2.2.1
  rw [J_Desk_source] at hJ
  refine lv_aload_n hx hb dX6_source_0 rfl (lv_at hl 0 rfl) ?_
  refine lv_iload_n hx hb dX6_source_1 rfl (lv_at hl 1 rfl) ?_
  obtain ⟨u9, i9, hJ⟩ := rp_b hJ
  obtain ⟨f9, i9⟩ := isO_s i9
  obtain ⟨q1, e9, hJ⟩ := rp_b hJ
  refine rp_callV (As := [.int x1]) (rest := []) X hN I (c_Desk_isSource hT e9) (cwV 1 hts (gdV wm_208 wm_209 wm_1 wm_33 wm_210) rfl rfl rfl (by decide +kernel) ⟨Nat.le_of_ble_eq_true rfl, Nat.le_of_ble_eq_true rfl⟩) i9 rfl rfl hl.1 rfl (Nat.le_of_ble_eq_true rfl) dX6_source_2 ⟨(Nat.le_of_ble_eq_true rfl), (Nat.le_of_ble_eq_true rfl)⟩ (fun H locs I => ?_)
  refine W.cs (cells' := 0) (slots' := 0) rfl rfl ?_
  refine lv_if_ne (tgt := 10) hx hb dX6_source_5 (by decide) (fun c9 => ?_) (fun c9 => ?_)
  · rw [if_neg c9] at hJ
    refine lv_aload_n hx hb dX6_source_10 rfl (lv_at hl 0 rfl) ?_
    obtain ⟨v2, e9, hJ⟩ := rp_b hJ
    obtain ⟨f9, g9, e9⟩ := fR_s e9
    refine rp_get X I g9 e9 rfl wiX6 (by decide) wm_166 dX6_source_11 ?_
    refine lv_iload_n hx hb dX6_source_14 rfl (lv_at hl 1 rfl) ?_
    refine lv_iload_n hx hb dX6_source_15 rfl (lv_at hl 2 rfl) ?_
    obtain ⟨u9, i9, hJ⟩ := rp_b hJ
    obtain ⟨f9, i9⟩ := isO_s i9
    obtain ⟨q3, e9, hJ⟩ := rp_b hJ
    refine rp_callV (As := [.int x1, .int x2]) (rest := []) X hN I (c_File_fill hT e9) (cwV 2 hts (gdV wm_236 wm_237 wm_238 wm_34 wm_239) rfl rfl rfl (by decide +kernel) ⟨Nat.le_of_ble_eq_true rfl, Nat.le_of_ble_eq_true rfl⟩) i9 rfl rfl hl.1 rfl (Nat.le_of_ble_eq_true rfl) dX6_source_16 ⟨(Nat.le_of_ble_eq_true rfl), (Nat.le_of_ble_eq_true rfl)⟩ (fun H locs I => ?_)
    refine W.cs (cells' := 0) (slots' := 0) rfl rfl ?_
    refine lv_iconst (v := 1) hx hb dX6_source_19 (by decide) ?_
    exact rp_zret X hr (Or.inr rfl) hJ I dX6_source_20
  · rw [if_pos c9] at hJ
    refine lv_iconst (v := 0) hx hb dX6_source_8 (by decide) ?_
    exact rp_zret X hr (Or.inl rfl) hJ I dX6_source_9
def rmX6_spoil : Room := { frames := 1, cells := 0, slots := 0, locals := 22 }
def J_Desk_spoil_22 (N : Nat)    (h : Hp) : Option (Int32 × Hp) :=
  some ((0 : Int32), h)
def J_Desk_spoil (N : Nat) (x0 : Nat) (x1 : Int32) (h : Hp) : Option (Int32 × Hp) :=
  (J_Desk_isFile N x1 h).bind fun q1 =>
 if q1.1 = 0 then
  (J_Desk_spoil_22 N q1.2)
  else
  ((fR q1.2 6 x0 0).bind fun v2 =>
  (isO q1.2 1 v2).bind fun _ =>
  (J_File_empty N v2 x1 q1.2).bind fun q3 =>
 if q3.1 = 0 then
  (J_Desk_spoil_22 N q3.2)
  else
  (some ((1 : Int32), q3.2)))
set_option maxHeartbeats 4000000 in
set_option maxRecDepth 100000 in
theorem w_Desk_spoil_22 (X : Cx p s m args meth c D vwCl tys cX6_spoil 2 RX6 wsG) (hN : nwS s) (hr : meth.sig.returnType = (some .boolean)) {res : (Int32 × Hp)} {N : Nat}   : ∀   (h : Hp) (H : Heap) (locs : List Loc) (ls : Array Slot), J_Desk_spoil_22 N h = some res → In D vwCl tys A s h H locs → lv_has ls 2 [] → W p l e rmX6_spoil s m args below meth c H locs 0 0 (MQ below (Qr D vwCl tys A (some (.int res.1)) res.2) args s 0 0 A) (F0 m 22 ls []) := by
  have hx := X.1.1
  have hb := X.1.2.1
  have hml := X.1.2.2.1
  have ho := X.1.2.2.2.1
  have hts := X.1.2.2.2.2
  have hK := X.2.1
  have hT := X.2.2.2
  intro   h H locs ls hJ I hl
  rw [J_Desk_spoil_22] at hJ
  refine lv_iconst (v := 0) hx hb dX6_spoil_22 (by decide) ?_
  exact rp_zret X hr (Or.inl rfl) hJ I dX6_spoil_23
set_option maxHeartbeats 4000000 in
set_option maxRecDepth 100000 in
theorem c_Desk_spoil {l : Launch} {D : va_G} {tys : List (ClassId × FieldType)} {A : Nat → Prop} (hT : tys.map (fun q => q.2) = tyS) {N : Nat} {x0 : Nat} {x1 : Int32} {h : Hp} {res : (Int32 × Hp)} (hJ : J_Desk_spoil N x0 x1 h = some res) : Ct l D vwCl tys A yX6_spoil (Cond.code yX6_spoil cX6_spoil 2 (some .boolean) :: wsG) rmX6_spoil [.ref x0, .int x1] h (some (.int res.1)) res.2 := by
  refine Met.ofW (cc := cX6_spoil) (maxL := 2) (ret := (some .boolean)) (by decide) rfl ?_
  intro p e s m args below meth c s₁ B hml hv
  obtain ⟨rfl, hA, hR, hK, hN⟩ := hv
  have hr := B.returns
  have hts : ∀ w ∈ wsG, w.before [.ref x0, .int x1].toArray s = true := fun w hw => atoms_spec (ws := Cond.code yX6_spoil cX6_spoil 2 (some .boolean) :: wsG) B.pre w (List.mem_cons_of_mem _ hw)
  have X : Cx p s m [.ref x0, .int x1].toArray meth c D vwCl tys cX6_spoil 2 RX6 wsG := ⟨⟨B.exec, B.bytes, hml, findClass_of_methodNamed B.named, hts⟩, hK, B.notSynchronized, hT⟩
  have hx := B.exec
  have hb := B.bytes
  have I : In D vwCl tys A s h s.heap [] := ⟨hR, va_S.rf, hA⟩
  have hl := lv_entry [.ref x0, .int x1] (n := 2) (Nat.le_of_ble_eq_true rfl)
  rw [lg_entry_eq]
  generalize (lg_sl [.ref x0, .int x1] ++ List.replicate (2 - (lg_sl [.ref x0, .int x1]).length) Slot.unset).toArray = ls at hl ⊢
  have hl : lv_has ls 2 [(0, .ref x0), (1, .int x1)] := hl
  have ho := X.1.2.2.2.1
  rw [J_Desk_spoil] at hJ
  refine lv_iload_n hx hb dX6_spoil_0 rfl (lv_at hl 1 rfl) ?_
  obtain ⟨q1, e9, hJ⟩ := rp_b hJ
  refine rp_callS (As := [.int x1]) (rest := []) X hN I (c_Desk_isFile hT e9) (cwS 1 hts (gdS wm_197 wm_198 wm_33 wm_199) rfl rfl rfl (by decide +kernel) ⟨Nat.le_of_ble_eq_true rfl, Nat.le_of_ble_eq_true rfl⟩) rfl hl.1 rfl (Nat.le_of_ble_eq_true rfl) dX6_spoil_1 ⟨(Nat.le_of_ble_eq_true rfl), (Nat.le_of_ble_eq_true rfl)⟩ (fun H locs I => ?_)
  refine W.cs (cells' := 0) (slots' := 0) rfl rfl ?_
  refine lv_if_eq (tgt := 22) hx hb dX6_spoil_4 (by decide) (fun c9 => ?_) (fun c9 => ?_)
  · rw [if_pos c9] at hJ
    exact w_Desk_spoil_22 X hN hr _ _ _ _ hJ I (lv_sub hl [] rfl)
  · rw [if_neg c9] at hJ
    refine lv_aload_n hx hb dX6_spoil_7 rfl (lv_at hl 0 rfl) ?_
    obtain ⟨v2, e9, hJ⟩ := rp_b hJ
    obtain ⟨f9, g9, e9⟩ := fR_s e9
    refine rp_get X I g9 e9 rfl wiX6 (by decide) wm_166 dX6_spoil_8 ?_
    refine lv_iload_n hx hb dX6_spoil_11 rfl (lv_at hl 1 rfl) ?_
    obtain ⟨u9, i9, hJ⟩ := rp_b hJ
    obtain ⟨f9, i9⟩ := isO_s i9
    obtain ⟨q3, e9, hJ⟩ := rp_b hJ
    refine rp_callV (As := [.int x1]) (rest := []) X hN I (c_File_empty hT e9) (cwV 1 hts (gdV wm_244 wm_245 wm_246 wm_34 wm_247) rfl rfl rfl (by decide +kernel) ⟨Nat.le_of_ble_eq_true rfl, Nat.le_of_ble_eq_true rfl⟩) i9 rfl rfl hl.1 rfl (Nat.le_of_ble_eq_true rfl) dX6_spoil_12 ⟨(Nat.le_of_ble_eq_true rfl), (Nat.le_of_ble_eq_true rfl)⟩ (fun H locs I => ?_)
    refine W.cs (cells' := 0) (slots' := 0) rfl rfl ?_
    refine lv_if_eq (tgt := 22) hx hb dX6_spoil_15 (by decide) (fun c9 => ?_) (fun c9 => ?_)
    · rw [if_pos c9] at hJ
      exact w_Desk_spoil_22 X hN hr _ _ _ _ hJ I (lv_sub hl [] rfl)
    · rw [if_neg c9] at hJ
      refine lv_iconst (v := 1) hx hb dX6_spoil_18 (by decide) ?_
      refine lv_goto (tgt := 23) hx hb dX6_spoil_19 (by decide) ?_
      exact rp_zret X hr (Or.inr rfl) hJ I dX6_spoil_23
def rmX6_sourceLacks : Room := { frames := 2, cells := 0, slots := 0, locals := 43 }
def J_Desk_sourceLacks_15 (N : Nat)  : Nat → Nat → Int32 → Hp → Option (Int32 × Hp)
  | 0, _, _, _ => none
  | n + 1, x0, x2, h =>
  if (40 : Int32) ≤ x2 then
  (some ((0 : Int32), h))
  else
  ((fR h 6 x0 2).bind fun v3 =>
  (fJ h 2 v3 4).bind fun v4 =>
  (J_Desk_isIn N v4 x2 h).bind fun q5 =>
 if q5.1 = 0 then
  ((J_Desk_sourceLacks_15 N n) x0 (x2 + (1 : Int32)) q5.2)
  else
  ((fR q5.2 6 x0 1).bind fun v6 =>
  (aR q5.2 3 v6 x2).bind fun v7 =>
  (fR q5.2 6 x0 0).bind fun v8 =>
  (isO q5.2 5 v7).bind fun _ =>
  (J_Step_lacksSource N v7 v8 q5.2).bind fun q9 =>
 if q9.1 = 0 then
  ((J_Desk_sourceLacks_15 N n) x0 (x2 + (1 : Int32)) q9.2)
  else
  (some ((1 : Int32), q9.2))))
def J_Desk_sourceLacks (N : Nat) (x0 : Nat) (x1 : Int32) (h : Hp) : Option (Int32 × Hp) :=
  (fR h 6 x0 0).bind fun v1 =>
  (isO h 1 v1).bind fun _ =>
  (J_File_lacksSource N v1 x1 h).bind fun q2 =>
 if q2.1 = 0 then
  (J_Desk_sourceLacks_15 N N x0 (0 : Int32) q2.2)
  else
  (some ((1 : Int32), q2.2))
set_option maxHeartbeats 4000000 in
set_option maxRecDepth 100000 in
theorem w_Desk_sourceLacks_15 (X : Cx p s m args meth c D vwCl tys cX6_sourceLacks 3 RX6 wsG) (hN : nwS s) (hr : meth.sig.returnType = (some .boolean)) {res : (Int32 × Hp)} {N : Nat}   : ∀ (n : Nat) (x0 : Nat) (x2 : Int32)  (h : Hp) (H : Heap) (locs : List Loc) (ls : Array Slot), J_Desk_sourceLacks_15 N n x0 x2 h = some res → In D vwCl tys A s h H locs → lv_has ls 3 [(0, .ref x0), (2, .int x2)] → W p l e rmX6_sourceLacks s m args below meth c H locs 0 0 (MQ below (Qr D vwCl tys A (some (.int res.1)) res.2) args s 0 0 A) (F0 m 15 ls []) := by
  have hx := X.1.1
  have hb := X.1.2.1
  have hml := X.1.2.2.1
  have ho := X.1.2.2.2.1
  have hts := X.1.2.2.2.2
  have hK := X.2.1
  have hT := X.2.2.2
  intro n
  induction n with
  | zero =>
    intro x0 x2  h H locs ls hJ I hl
    exact nomatch (show (none : Option (Int32 × Hp)) = some res from hJ)
  | succ n k15 =>
    intro x0 x2  h H locs ls hJ I hl
    rw [J_Desk_sourceLacks_15] at hJ
    refine lv_iload_n hx hb dX6_sourceLacks_15 rfl (lv_at hl 1 rfl) ?_
    refine lv_bipush (v := 40) hx hb dX6_sourceLacks_16 (by decide) ?_
    refine lv_icmp_ge (tgt := 59) hx hb dX6_sourceLacks_18 (by decide) (fun c9 => ?_) (fun c9 => ?_)
    · rw [if_pos c9] at hJ
      refine lv_iconst (v := 0) hx hb dX6_sourceLacks_59 (by decide) ?_
      exact rp_zret X hr (Or.inl rfl) hJ I dX6_sourceLacks_60
    · rw [if_neg c9] at hJ
      refine lv_aload_n hx hb dX6_sourceLacks_21 rfl (lv_at hl 0 rfl) ?_
      obtain ⟨v3, e9, hJ⟩ := rp_b hJ
      obtain ⟨f9, g9, e9⟩ := fR_s e9
      refine rp_get X I g9 e9 rfl wiX6 (by decide) wm_168 dX6_sourceLacks_22 ?_
      obtain ⟨v4, e9, hJ⟩ := rp_b hJ
      obtain ⟨f9, g9, e9⟩ := fJ_s e9
      refine rp_getN (host := "BuildDesk") X I g9 e9 rfl wiX2 (by decide) (hN.1 _ (by decide +kernel)) dX6_sourceLacks_25 ?_
      refine lv_iload_n hx hb dX6_sourceLacks_28 rfl (lv_at hl 1 rfl) ?_
      obtain ⟨q5, e9, hJ⟩ := rp_b hJ
      refine rp_callS (As := [.long v4, .int x2]) (rest := []) X hN I (c_Desk_isIn hT e9) (cwS 2 hts (gdS wm_399 wm_353 wm_33 wm_354) rfl rfl rfl (by decide +kernel) ⟨Nat.le_of_ble_eq_true rfl, Nat.le_of_ble_eq_true rfl⟩) rfl hl.1 rfl (Nat.le_of_ble_eq_true rfl) dX6_sourceLacks_29 ⟨(Nat.le_of_ble_eq_true rfl), (Nat.le_of_ble_eq_true rfl)⟩ (fun H locs I => ?_)
      refine W.cs (cells' := 0) (slots' := 0) rfl rfl ?_
      refine lv_if_eq (tgt := 53) hx hb dX6_sourceLacks_32 (by decide) (fun c9 => ?_) (fun c9 => ?_)
      · rw [if_pos c9] at hJ
        refine lv_iinc (v := (x2 + (1 : Int32))) (lv' := [(2, .int (x2 + (1 : Int32))), (0, .ref x0)]) hx hb dX6_sourceLacks_53 hl (k := 1) rfl rfl (by decide) rfl (fun ls hl => ?_)
        refine lv_goto (tgt := 15) hx hb dX6_sourceLacks_56 (by decide) ?_
        exact k15 _ _ _ _ _ _ hJ I (lv_sub hl [1, 0] rfl)
      · rw [if_neg c9] at hJ
        refine lv_aload_n hx hb dX6_sourceLacks_35 rfl (lv_at hl 0 rfl) ?_
        obtain ⟨v6, e9, hJ⟩ := rp_b hJ
        obtain ⟨f9, g9, e9⟩ := fR_s e9
        refine rp_get X I g9 e9 rfl wiX6 (by decide) wm_167 dX6_sourceLacks_36 ?_
        refine lv_iload_n hx hb dX6_sourceLacks_39 rfl (lv_at hl 1 rfl) ?_
        obtain ⟨v7, e9, hJ⟩ := rp_b hJ
        refine rp_aald X I e9 rfl dX6_sourceLacks_40 ?_
        refine lv_aload_n hx hb dX6_sourceLacks_41 rfl (lv_at hl 0 rfl) ?_
        obtain ⟨v8, e9, hJ⟩ := rp_b hJ
        obtain ⟨f9, g9, e9⟩ := fR_s e9
        refine rp_get X I g9 e9 rfl wiX6 (by decide) wm_166 dX6_sourceLacks_42 ?_
        obtain ⟨u9, i9, hJ⟩ := rp_b hJ
        obtain ⟨f9, i9⟩ := isO_s i9
        obtain ⟨q9, e9, hJ⟩ := rp_b hJ
        refine rp_callV (As := [.ref v8]) (rest := []) X hN I (c_Step_lacksSource hT e9) (cwV 1 hts (gdV wm_400 wm_401 wm_402 wm_35 wm_403) rfl rfl rfl (by decide +kernel) ⟨Nat.le_of_ble_eq_true rfl, Nat.le_of_ble_eq_true rfl⟩) i9 rfl rfl hl.1 rfl (Nat.le_of_ble_eq_true rfl) dX6_sourceLacks_45 ⟨(Nat.le_of_ble_eq_true rfl), (Nat.le_of_ble_eq_true rfl)⟩ (fun H locs I => ?_)
        refine W.cs (cells' := 0) (slots' := 0) rfl rfl ?_
        refine lv_if_eq (tgt := 53) hx hb dX6_sourceLacks_48 (by decide) (fun c9 => ?_) (fun c9 => ?_)
        · rw [if_pos c9] at hJ
          refine lv_iinc (v := (x2 + (1 : Int32))) (lv' := [(2, .int (x2 + (1 : Int32))), (0, .ref x0)]) hx hb dX6_sourceLacks_53 hl (k := 1) rfl rfl (by decide) rfl (fun ls hl => ?_)
          refine lv_goto (tgt := 15) hx hb dX6_sourceLacks_56 (by decide) ?_
          exact k15 _ _ _ _ _ _ hJ I (lv_sub hl [1, 0] rfl)
        · rw [if_neg c9] at hJ
          refine lv_iconst (v := 1) hx hb dX6_sourceLacks_51 (by decide) ?_
          exact rp_zret X hr (Or.inr rfl) hJ I dX6_sourceLacks_52
set_option maxHeartbeats 4000000 in
set_option maxRecDepth 100000 in
theorem c_Desk_sourceLacks {l : Launch} {D : va_G} {tys : List (ClassId × FieldType)} {A : Nat → Prop} (hT : tys.map (fun q => q.2) = tyS) {N : Nat} {x0 : Nat} {x1 : Int32} {h : Hp} {res : (Int32 × Hp)} (hJ : J_Desk_sourceLacks N x0 x1 h = some res) : Ct l D vwCl tys A yX6_sourceLacks (Cond.code yX6_sourceLacks cX6_sourceLacks 3 (some .boolean) :: wsG) rmX6_sourceLacks [.ref x0, .int x1] h (some (.int res.1)) res.2 := by
  refine Met.ofW (cc := cX6_sourceLacks) (maxL := 3) (ret := (some .boolean)) (by decide) rfl ?_
  intro p e s m args below meth c s₁ B hml hv
  obtain ⟨rfl, hA, hR, hK, hN⟩ := hv
  have hr := B.returns
  have hts : ∀ w ∈ wsG, w.before [.ref x0, .int x1].toArray s = true := fun w hw => atoms_spec (ws := Cond.code yX6_sourceLacks cX6_sourceLacks 3 (some .boolean) :: wsG) B.pre w (List.mem_cons_of_mem _ hw)
  have X : Cx p s m [.ref x0, .int x1].toArray meth c D vwCl tys cX6_sourceLacks 3 RX6 wsG := ⟨⟨B.exec, B.bytes, hml, findClass_of_methodNamed B.named, hts⟩, hK, B.notSynchronized, hT⟩
  have hx := B.exec
  have hb := B.bytes
  have I : In D vwCl tys A s h s.heap [] := ⟨hR, va_S.rf, hA⟩
  have hl := lv_entry [.ref x0, .int x1] (n := 3) (Nat.le_of_ble_eq_true rfl)
  rw [lg_entry_eq]
  generalize (lg_sl [.ref x0, .int x1] ++ List.replicate (3 - (lg_sl [.ref x0, .int x1]).length) Slot.unset).toArray = ls at hl ⊢
  have hl : lv_has ls 3 [(0, .ref x0), (1, .int x1)] := hl
  have ho := X.1.2.2.2.1
  rw [J_Desk_sourceLacks] at hJ
  refine lv_aload_n hx hb dX6_sourceLacks_0 rfl (lv_at hl 0 rfl) ?_
  obtain ⟨v1, e9, hJ⟩ := rp_b hJ
  obtain ⟨f9, g9, e9⟩ := fR_s e9
  refine rp_get X I g9 e9 rfl wiX6 (by decide) wm_166 dX6_sourceLacks_1 ?_
  refine lv_iload_n hx hb dX6_sourceLacks_4 rfl (lv_at hl 1 rfl) ?_
  obtain ⟨u9, i9, hJ⟩ := rp_b hJ
  obtain ⟨f9, i9⟩ := isO_s i9
  obtain ⟨q2, e9, hJ⟩ := rp_b hJ
  refine rp_callV (As := [.int x1]) (rest := []) X hN I (c_File_lacksSource hT e9) (cwV 1 hts (gdV wm_395 wm_396 wm_397 wm_34 wm_398) rfl rfl rfl (by decide +kernel) ⟨Nat.le_of_ble_eq_true rfl, Nat.le_of_ble_eq_true rfl⟩) i9 rfl rfl hl.1 rfl (Nat.le_of_ble_eq_true rfl) dX6_sourceLacks_5 ⟨(Nat.le_of_ble_eq_true rfl), (Nat.le_of_ble_eq_true rfl)⟩ (fun H locs I => ?_)
  refine W.cs (cells' := 0) (slots' := 0) rfl rfl ?_
  refine lv_if_eq (tgt := 13) hx hb dX6_sourceLacks_8 (by decide) (fun c9 => ?_) (fun c9 => ?_)
  · rw [if_pos c9] at hJ
    refine lv_iconst (v := 0) hx hb dX6_sourceLacks_13 (by decide) ?_
    refine lv_istore_n (lv' := [(2, .int (0 : Int32)), (0, .ref x0), (1, .int x1)]) hx hb dX6_sourceLacks_14 rfl hl (by decide) rfl (fun ls hl => ?_)
    exact w_Desk_sourceLacks_15 X hN hr N _ _ _ _ _ _ hJ I (lv_sub hl [1, 0] rfl)
  · rw [if_neg c9] at hJ
    refine lv_iconst (v := 1) hx hb dX6_sourceLacks_11 (by decide) ?_
    exact rp_zret X hr (Or.inr rfl) hJ I dX6_sourceLacks_12
def rmX6_endSteps : Room := { frames := 3, cells := 0, slots := 0, locals := 64 }
def J_Desk_endSteps_2 (N : Nat)  : Nat → Nat → Int32 → Int32 → Hp → Option (Unit × Hp)
  | 0, _, _, _, _ => none
  | n + 1, x0, x1, x2, h =>
  if (40 : Int32) ≤ x2 then
  (some ((), h))
  else
  ((fR h 6 x0 3).bind fun v1 =>
  (isO h 0 v1).bind fun _ =>
  (J_Crew_endsAt N v1 x2 x1 h).bind fun q2 =>
 if q2.1 = 0 then
  ((J_Desk_endSteps_2 N n) x0 x1 (x2 + (1 : Int32)) q2.2)
  else
  ((fR q2.2 6 x0 1).bind fun v3 =>
  (aR q2.2 3 v3 x2).bind fun v4 =>
  (fR q2.2 6 x0 0).bind fun v5 =>
  (isO q2.2 5 v4).bind fun _ =>
  (J_Step_make N v4 v5 q2.2).bind fun q6 =>
 (fR q6.2 6 x0 3).bind fun v7 =>
  (isO q6.2 0 v7).bind fun _ =>
  (J_Crew_end N v7 x2 q6.2).bind fun q8 =>
 (J_Desk_endSteps_2 N n) x0 x1 (x2 + (1 : Int32)) q8.2))
def J_Desk_endSteps (N : Nat) (x0 : Nat) (x1 : Int32) (h : Hp) : Option (Unit × Hp) :=
  J_Desk_endSteps_2 N N x0 x1 (0 : Int32) h
set_option maxHeartbeats 4000000 in
set_option maxRecDepth 100000 in
theorem w_Desk_endSteps_2 (X : Cx p s m args meth c D vwCl tys cX6_endSteps 3 RX6 wsG) (hN : nwS s) (hr : meth.sig.returnType = none) {res : (Unit × Hp)} {N : Nat}   : ∀ (n : Nat) (x0 : Nat) (x1 : Int32) (x2 : Int32)  (h : Hp) (H : Heap) (locs : List Loc) (ls : Array Slot), J_Desk_endSteps_2 N n x0 x1 x2 h = some res → In D vwCl tys A s h H locs → lv_has ls 3 [(0, .ref x0), (1, .int x1), (2, .int x2)] → W p l e rmX6_endSteps s m args below meth c H locs 0 0 (MQ below (Qr D vwCl tys A none res.2) args s 0 0 A) (F0 m 2 ls []) := by
  have hx := X.1.1
  have hb := X.1.2.1
  have hml := X.1.2.2.1
  have ho := X.1.2.2.2.1
  have hts := X.1.2.2.2.2
  have hK := X.2.1
  have hT := X.2.2.2
  intro n
  induction n with
  | zero =>
    intro x0 x1 x2  h H locs ls hJ I hl
    exact nomatch (show (none : Option (Unit × Hp)) = some res from hJ)
  | succ n k2 =>
    intro x0 x1 x2  h H locs ls hJ I hl
    rw [J_Desk_endSteps_2] at hJ
    refine lv_iload_n hx hb dX6_endSteps_2 rfl (lv_at hl 2 rfl) ?_
    refine lv_bipush (v := 40) hx hb dX6_endSteps_3 (by decide) ?_
    refine lv_icmp_ge (tgt := 47) hx hb dX6_endSteps_5 (by decide) (fun c9 => ?_) (fun c9 => ?_)
    · rw [if_pos c9] at hJ
      exact rp_vret X hr hJ I dX6_endSteps_47
    · rw [if_neg c9] at hJ
      refine lv_aload_n hx hb dX6_endSteps_8 rfl (lv_at hl 0 rfl) ?_
      obtain ⟨v1, e9, hJ⟩ := rp_b hJ
      obtain ⟨f9, g9, e9⟩ := fR_s e9
      refine rp_get X I g9 e9 rfl wiX6 (by decide) wm_169 dX6_endSteps_9 ?_
      refine lv_iload_n hx hb dX6_endSteps_12 rfl (lv_at hl 2 rfl) ?_
      refine lv_iload_n hx hb dX6_endSteps_13 rfl (lv_at hl 1 rfl) ?_
      obtain ⟨u9, i9, hJ⟩ := rp_b hJ
      obtain ⟨f9, i9⟩ := isO_s i9
      obtain ⟨q2, e9, hJ⟩ := rp_b hJ
      refine rp_callV (As := [.int x2, .int x1]) (rest := []) X hN I (c_Crew_endsAt hT e9) (cwV 2 hts (gdV wm_430 wm_431 wm_432 wm_37 wm_433) rfl rfl rfl (by decide +kernel) ⟨Nat.le_of_ble_eq_true rfl, Nat.le_of_ble_eq_true rfl⟩) i9 rfl rfl hl.1 rfl (Nat.le_of_ble_eq_true rfl) dX6_endSteps_14 ⟨(Nat.le_of_ble_eq_true rfl), (Nat.le_of_ble_eq_true rfl)⟩ (fun H locs I => ?_)
      refine W.cs (cells' := 0) (slots' := 0) rfl rfl ?_
      refine lv_if_eq (tgt := 41) hx hb dX6_endSteps_17 (by decide) (fun c9 => ?_) (fun c9 => ?_)
      · rw [if_pos c9] at hJ
        refine lv_iinc (v := (x2 + (1 : Int32))) (lv' := [(2, .int (x2 + (1 : Int32))), (0, .ref x0), (1, .int x1)]) hx hb dX6_endSteps_41 hl (k := 2) rfl rfl (by decide) rfl (fun ls hl => ?_)
        refine lv_goto (tgt := 2) hx hb dX6_endSteps_44 (by decide) ?_
        exact k2 _ _ _ _ _ _ _ hJ I (lv_sub hl [1, 2, 0] rfl)
      · rw [if_neg c9] at hJ
        refine lv_aload_n hx hb dX6_endSteps_20 rfl (lv_at hl 0 rfl) ?_
        obtain ⟨v3, e9, hJ⟩ := rp_b hJ
        obtain ⟨f9, g9, e9⟩ := fR_s e9
        refine rp_get X I g9 e9 rfl wiX6 (by decide) wm_167 dX6_endSteps_21 ?_
        refine lv_iload_n hx hb dX6_endSteps_24 rfl (lv_at hl 2 rfl) ?_
        obtain ⟨v4, e9, hJ⟩ := rp_b hJ
        refine rp_aald X I e9 rfl dX6_endSteps_25 ?_
        refine lv_aload_n hx hb dX6_endSteps_26 rfl (lv_at hl 0 rfl) ?_
        obtain ⟨v5, e9, hJ⟩ := rp_b hJ
        obtain ⟨f9, g9, e9⟩ := fR_s e9
        refine rp_get X I g9 e9 rfl wiX6 (by decide) wm_166 dX6_endSteps_27 ?_
        obtain ⟨u9, i9, hJ⟩ := rp_b hJ
        obtain ⟨f9, i9⟩ := isO_s i9
        obtain ⟨q6, e9, hJ⟩ := rp_b hJ
        refine rp_callV (As := [.ref v5]) (rest := []) X hN I (c_Step_make hT e9) (cwV 1 hts (gdV wm_434 wm_435 wm_436 wm_35 wm_437) rfl rfl rfl (by decide +kernel) ⟨Nat.le_of_ble_eq_true rfl, Nat.le_of_ble_eq_true rfl⟩) i9 rfl rfl hl.1 rfl (Nat.le_of_ble_eq_true rfl) dX6_endSteps_30 ⟨(Nat.le_of_ble_eq_true rfl), (Nat.le_of_ble_eq_true rfl)⟩ (fun H locs I => ?_)
        refine W.cs (cells' := 0) (slots' := 0) rfl rfl ?_
        refine lv_aload_n hx hb dX6_endSteps_33 rfl (lv_at hl 0 rfl) ?_
        obtain ⟨v7, e9, hJ⟩ := rp_b hJ
        obtain ⟨f9, g9, e9⟩ := fR_s e9
        refine rp_get X I g9 e9 rfl wiX6 (by decide) wm_169 dX6_endSteps_34 ?_
        refine lv_iload_n hx hb dX6_endSteps_37 rfl (lv_at hl 2 rfl) ?_
        obtain ⟨u9, i9, hJ⟩ := rp_b hJ
        obtain ⟨f9, i9⟩ := isO_s i9
        obtain ⟨q8, e9, hJ⟩ := rp_b hJ
        refine rp_callV (As := [.int x2]) (rest := []) X hN I (c_Crew_end hT e9) (cwV 1 hts (gdV wm_440 wm_441 wm_442 wm_37 wm_443) rfl rfl rfl (by decide +kernel) ⟨Nat.le_of_ble_eq_true rfl, Nat.le_of_ble_eq_true rfl⟩) i9 rfl rfl hl.1 rfl (Nat.le_of_ble_eq_true rfl) dX6_endSteps_38 ⟨(Nat.le_of_ble_eq_true rfl), (Nat.le_of_ble_eq_true rfl)⟩ (fun H locs I => ?_)
        refine W.cs (cells' := 0) (slots' := 0) rfl rfl ?_
        refine lv_iinc (v := (x2 + (1 : Int32))) (lv' := [(2, .int (x2 + (1 : Int32))), (0, .ref x0), (1, .int x1)]) hx hb dX6_endSteps_41 hl (k := 2) rfl rfl (by decide) rfl (fun ls hl => ?_)
        refine lv_goto (tgt := 2) hx hb dX6_endSteps_44 (by decide) ?_
        exact k2 _ _ _ _ _ _ _ hJ I (lv_sub hl [1, 2, 0] rfl)
set_option maxHeartbeats 4000000 in
set_option maxRecDepth 100000 in
theorem c_Desk_endSteps {l : Launch} {D : va_G} {tys : List (ClassId × FieldType)} {A : Nat → Prop} (hT : tys.map (fun q => q.2) = tyS) {N : Nat} {x0 : Nat} {x1 : Int32} {h : Hp} {res : (Unit × Hp)} (hJ : J_Desk_endSteps N x0 x1 h = some res) : Ct l D vwCl tys A yX6_endSteps (Cond.code yX6_endSteps cX6_endSteps 3 none :: wsG) rmX6_endSteps [.ref x0, .int x1] h none res.2 := by
  refine Met.ofW (cc := cX6_endSteps) (maxL := 3) (ret := none) (by decide) rfl ?_
  intro p e s m args below meth c s₁ B hml hv
  obtain ⟨rfl, hA, hR, hK, hN⟩ := hv
  have hr := B.returns
  have hts : ∀ w ∈ wsG, w.before [.ref x0, .int x1].toArray s = true := fun w hw => atoms_spec (ws := Cond.code yX6_endSteps cX6_endSteps 3 none :: wsG) B.pre w (List.mem_cons_of_mem _ hw)
  have X : Cx p s m [.ref x0, .int x1].toArray meth c D vwCl tys cX6_endSteps 3 RX6 wsG := ⟨⟨B.exec, B.bytes, hml, findClass_of_methodNamed B.named, hts⟩, hK, B.notSynchronized, hT⟩
  have hx := B.exec
  have hb := B.bytes
  have I : In D vwCl tys A s h s.heap [] := ⟨hR, va_S.rf, hA⟩
  have hl := lv_entry [.ref x0, .int x1] (n := 3) (Nat.le_of_ble_eq_true rfl)
  rw [lg_entry_eq]
  generalize (lg_sl [.ref x0, .int x1] ++ List.replicate (3 - (lg_sl [.ref x0, .int x1]).length) Slot.unset).toArray = ls at hl ⊢
  have hl : lv_has ls 3 [(0, .ref x0), (1, .int x1)] := hl
  have ho := X.1.2.2.2.1
  rw [J_Desk_endSteps] at hJ
  refine lv_iconst (v := 0) hx hb dX6_endSteps_0 (by decide) ?_
  refine lv_istore_n (lv' := [(2, .int (0 : Int32)), (0, .ref x0), (1, .int x1)]) hx hb dX6_endSteps_1 rfl hl (by decide) rfl (fun ls hl => ?_)
  exact w_Desk_endSteps_2 X hN hr N _ _ _ _ _ _ _ hJ I (lv_sub hl [1, 2, 0] rfl)
def rmX6_isReady : Room := { frames := 3, cells := 0, slots := 0, locals := 63 }
def J_Desk_isReady_48 (N : Nat)    (h : Hp) : Option (Int32 × Hp) :=
  some ((0 : Int32), h)
def J_Desk_isReady (N : Nat) (x0 : Nat) (x1 : Int32) (h : Hp) : Option (Int32 × Hp) :=
  (fR h 6 x0 2).bind fun v1 =>
  (fJ h 2 v1 4).bind fun v2 =>
  (J_Desk_isIn N v2 x1 h).bind fun q3 =>
 if q3.1 = 0 then
  (J_Desk_isReady_48 N q3.2)
  else
  ((fR q3.2 6 x0 3).bind fun v4 =>
  (isO q3.2 0 v4).bind fun _ =>
  (J_Crew_isOpen N v4 x1 q3.2).bind fun q5 =>
 if q5.1 = 0 then
  (J_Desk_isReady_48 N q5.2)
  else
  ((fR q5.2 6 x0 3).bind fun v6 =>
  (fR q5.2 6 x0 2).bind fun v7 =>
  (fR q5.2 2 v7 0).bind fun v8 =>
  (aJ q5.2 2 v8 x1).bind fun v9 =>
  (isO q5.2 0 v6).bind fun _ =>
  (J_Crew_areDone N v6 v9 q5.2).bind fun q10 =>
 if q10.1 = 0 then
  (J_Desk_isReady_48 N q10.2)
  else
  (some ((1 : Int32), q10.2))))
set_option maxHeartbeats 4000000 in
set_option maxRecDepth 100000 in
theorem w_Desk_isReady_48 (X : Cx p s m args meth c D vwCl tys cX6_isReady 2 RX6 wsG) (hN : nwS s) (hr : meth.sig.returnType = (some .boolean)) {res : (Int32 × Hp)} {N : Nat}   : ∀   (h : Hp) (H : Heap) (locs : List Loc) (ls : Array Slot), J_Desk_isReady_48 N h = some res → In D vwCl tys A s h H locs → lv_has ls 2 [] → W p l e rmX6_isReady s m args below meth c H locs 0 0 (MQ below (Qr D vwCl tys A (some (.int res.1)) res.2) args s 0 0 A) (F0 m 48 ls []) := by
  have hx := X.1.1
  have hb := X.1.2.1
  have hml := X.1.2.2.1
  have ho := X.1.2.2.2.1
  have hts := X.1.2.2.2.2
  have hK := X.2.1
  have hT := X.2.2.2
  intro   h H locs ls hJ I hl
  rw [J_Desk_isReady_48] at hJ
  refine lv_iconst (v := 0) hx hb dX6_isReady_48 (by decide) ?_
  exact rp_zret X hr (Or.inl rfl) hJ I dX6_isReady_49
set_option maxHeartbeats 4000000 in
set_option maxRecDepth 100000 in
theorem c_Desk_isReady {l : Launch} {D : va_G} {tys : List (ClassId × FieldType)} {A : Nat → Prop} (hT : tys.map (fun q => q.2) = tyS) {N : Nat} {x0 : Nat} {x1 : Int32} {h : Hp} {res : (Int32 × Hp)} (hJ : J_Desk_isReady N x0 x1 h = some res) : Ct l D vwCl tys A yX6_isReady (Cond.code yX6_isReady cX6_isReady 2 (some .boolean) :: wsG) rmX6_isReady [.ref x0, .int x1] h (some (.int res.1)) res.2 := by
  refine Met.ofW (cc := cX6_isReady) (maxL := 2) (ret := (some .boolean)) (by decide) rfl ?_
  intro p e s m args below meth c s₁ B hml hv
  obtain ⟨rfl, hA, hR, hK, hN⟩ := hv
  have hr := B.returns
  have hts : ∀ w ∈ wsG, w.before [.ref x0, .int x1].toArray s = true := fun w hw => atoms_spec (ws := Cond.code yX6_isReady cX6_isReady 2 (some .boolean) :: wsG) B.pre w (List.mem_cons_of_mem _ hw)
  have X : Cx p s m [.ref x0, .int x1].toArray meth c D vwCl tys cX6_isReady 2 RX6 wsG := ⟨⟨B.exec, B.bytes, hml, findClass_of_methodNamed B.named, hts⟩, hK, B.notSynchronized, hT⟩
  have hx := B.exec
  have hb := B.bytes
  have I : In D vwCl tys A s h s.heap [] := ⟨hR, va_S.rf, hA⟩
  have hl := lv_entry [.ref x0, .int x1] (n := 2) (Nat.le_of_ble_eq_true rfl)
  rw [lg_entry_eq]
  generalize (lg_sl [.ref x0, .int x1] ++ List.replicate (2 - (lg_sl [.ref x0, .int x1]).length) Slot.unset).toArray = ls at hl ⊢
  have hl : lv_has ls 2 [(0, .ref x0), (1, .int x1)] := hl
  have ho := X.1.2.2.2.1
  rw [J_Desk_isReady] at hJ
  refine lv_aload_n hx hb dX6_isReady_0 rfl (lv_at hl 0 rfl) ?_
  obtain ⟨v1, e9, hJ⟩ := rp_b hJ
  obtain ⟨f9, g9, e9⟩ := fR_s e9
  refine rp_get X I g9 e9 rfl wiX6 (by decide) wm_168 dX6_isReady_1 ?_
  obtain ⟨v2, e9, hJ⟩ := rp_b hJ
  obtain ⟨f9, g9, e9⟩ := fJ_s e9
  refine rp_getN (host := "BuildDesk") X I g9 e9 rfl wiX2 (by decide) (hN.1 _ (by decide +kernel)) dX6_isReady_4 ?_
  refine lv_iload_n hx hb dX6_isReady_7 rfl (lv_at hl 1 rfl) ?_
  obtain ⟨q3, e9, hJ⟩ := rp_b hJ
  refine rp_callS (As := [.long v2, .int x1]) (rest := []) X hN I (c_Desk_isIn hT e9) (cwS 2 hts (gdS wm_399 wm_353 wm_33 wm_354) rfl rfl rfl (by decide +kernel) ⟨Nat.le_of_ble_eq_true rfl, Nat.le_of_ble_eq_true rfl⟩) rfl hl.1 rfl (Nat.le_of_ble_eq_true rfl) dX6_isReady_8 ⟨(Nat.le_of_ble_eq_true rfl), (Nat.le_of_ble_eq_true rfl)⟩ (fun H locs I => ?_)
  refine W.cs (cells' := 0) (slots' := 0) rfl rfl ?_
  refine lv_if_eq (tgt := 48) hx hb dX6_isReady_11 (by decide) (fun c9 => ?_) (fun c9 => ?_)
  · rw [if_pos c9] at hJ
    exact w_Desk_isReady_48 X hN hr _ _ _ _ hJ I (lv_sub hl [] rfl)
  · rw [if_neg c9] at hJ
    refine lv_aload_n hx hb dX6_isReady_14 rfl (lv_at hl 0 rfl) ?_
    obtain ⟨v4, e9, hJ⟩ := rp_b hJ
    obtain ⟨f9, g9, e9⟩ := fR_s e9
    refine rp_get X I g9 e9 rfl wiX6 (by decide) wm_169 dX6_isReady_15 ?_
    refine lv_iload_n hx hb dX6_isReady_18 rfl (lv_at hl 1 rfl) ?_
    obtain ⟨u9, i9, hJ⟩ := rp_b hJ
    obtain ⟨f9, i9⟩ := isO_s i9
    obtain ⟨q5, e9, hJ⟩ := rp_b hJ
    refine rp_callV (As := [.int x1]) (rest := []) X hN I (c_Crew_isOpen hT e9) (cwV 1 hts (gdV wm_451 wm_452 wm_453 wm_37 wm_454) rfl rfl rfl (by decide +kernel) ⟨Nat.le_of_ble_eq_true rfl, Nat.le_of_ble_eq_true rfl⟩) i9 rfl rfl hl.1 rfl (Nat.le_of_ble_eq_true rfl) dX6_isReady_19 ⟨(Nat.le_of_ble_eq_true rfl), (Nat.le_of_ble_eq_true rfl)⟩ (fun H locs I => ?_)
    refine W.cs (cells' := 0) (slots' := 0) rfl rfl ?_
    refine lv_if_eq (tgt := 48) hx hb dX6_isReady_22 (by decide) (fun c9 => ?_) (fun c9 => ?_)
    · rw [if_pos c9] at hJ
      exact w_Desk_isReady_48 X hN hr _ _ _ _ hJ I (lv_sub hl [] rfl)
    · rw [if_neg c9] at hJ
      refine lv_aload_n hx hb dX6_isReady_25 rfl (lv_at hl 0 rfl) ?_
      obtain ⟨v6, e9, hJ⟩ := rp_b hJ
      obtain ⟨f9, g9, e9⟩ := fR_s e9
      refine rp_get X I g9 e9 rfl wiX6 (by decide) wm_169 dX6_isReady_26 ?_
      refine lv_aload_n hx hb dX6_isReady_29 rfl (lv_at hl 0 rfl) ?_
      obtain ⟨v7, e9, hJ⟩ := rp_b hJ
      obtain ⟨f9, g9, e9⟩ := fR_s e9
      refine rp_get X I g9 e9 rfl wiX6 (by decide) wm_168 dX6_isReady_30 ?_
      obtain ⟨v8, e9, hJ⟩ := rp_b hJ
      obtain ⟨f9, g9, e9⟩ := fR_s e9
      refine rp_getN (host := "BuildDesk") X I g9 e9 rfl wiX2 (by decide) (hN.1 _ (by decide +kernel)) dX6_isReady_33 ?_
      refine lv_iload_n hx hb dX6_isReady_36 rfl (lv_at hl 1 rfl) ?_
      obtain ⟨v9, e9, hJ⟩ := rp_b hJ
      refine rp_lald X I e9 rfl dX6_isReady_37 ?_
      obtain ⟨u9, i9, hJ⟩ := rp_b hJ
      obtain ⟨f9, i9⟩ := isO_s i9
      obtain ⟨q10, e9, hJ⟩ := rp_b hJ
      refine rp_callV (As := [.long v9]) (rest := []) X hN I (c_Crew_areDone hT e9) (cwV 1 hts (gdV wm_455 wm_456 wm_457 wm_37 wm_458) rfl rfl rfl (by decide +kernel) ⟨Nat.le_of_ble_eq_true rfl, Nat.le_of_ble_eq_true rfl⟩) i9 rfl rfl hl.1 rfl (Nat.le_of_ble_eq_true rfl) dX6_isReady_38 ⟨(Nat.le_of_ble_eq_true rfl), (Nat.le_of_ble_eq_true rfl)⟩ (fun H locs I => ?_)
      refine W.cs (cells' := 0) (slots' := 0) rfl rfl ?_
      refine lv_if_eq (tgt := 48) hx hb dX6_isReady_41 (by decide) (fun c9 => ?_) (fun c9 => ?_)
      · rw [if_pos c9] at hJ
        exact w_Desk_isReady_48 X hN hr _ _ _ _ hJ I (lv_sub hl [] rfl)
      · rw [if_neg c9] at hJ
        refine lv_iconst (v := 1) hx hb dX6_isReady_44 (by decide) ?_
        refine lv_goto (tgt := 49) hx hb dX6_isReady_45 (by decide) ?_
        exact rp_zret X hr (Or.inr rfl) hJ I dX6_isReady_49
def rmX6_passOverSteps : Room := { frames := 4, cells := 0, slots := 0, locals := 84 }
def J_Desk_passOverSteps_18 (N : Nat) (r4 : Nat → Int32 → Int32 → Hp → Option (Unit × Hp)) : Nat → Nat → Int32 → Int32 → Int32 → Hp → Option (Unit × Hp)
  | 0, _, _, _, _, _ => none
  | n + 1, x0, x1, x2, x3, h =>
  if (40 : Int32) ≤ x3 then
  (r4 x0 x1 (x2 + (1 : Int32)) h)
  else
  ((isO h 6 x0).bind fun _ =>
  (J_Desk_isReady N x0 x3 h).bind fun q1 =>
 if q1.1 = 0 then
  ((J_Desk_passOverSteps_18 N r4 n) x0 x1 x2 (x3 + (1 : Int32)) q1.2)
  else
  ((fR q1.2 6 x0 1).bind fun v2 =>
  (aR q1.2 3 v2 x3).bind fun v3 =>
  (fR q1.2 6 x0 0).bind fun v4 =>
  (isO q1.2 5 v3).bind fun _ =>
  (J_Step_whyDue N v3 v4 q1.2).bind fun q5 =>
 if q5.1 = 0 then
  ((fR q5.2 6 x0 3).bind fun v6 =>
  (isO q5.2 0 v6).bind fun _ =>
  (J_Crew_passOver N v6 x3 q5.2).bind fun q7 =>
 (J_Desk_passOverSteps_18 N r4 n) x0 (1 : Int32) x2 (x3 + (1 : Int32)) q7.2)
  else
  ((J_Desk_passOverSteps_18 N r4 n) x0 x1 x2 (x3 + (1 : Int32)) q5.2)))
def J_Desk_passOverSteps_4 (N : Nat)  : Nat → Nat → Int32 → Int32 → Hp → Option (Unit × Hp)
  | 0, _, _, _, _ => none
  | n + 1, x0, x1, x2, h =>
  if x1 = 0 then
  (some ((), h))
  else
  (if (40 : Int32) ≤ x2 then
  (some ((), h))
  else
  (J_Desk_passOverSteps_18 N (J_Desk_passOverSteps_4 N n) N x0 (0 : Int32) x2 (0 : Int32) h))
def J_Desk_passOverSteps (N : Nat) (x0 : Nat) (h : Hp) : Option (Unit × Hp) :=
  J_Desk_passOverSteps_4 N N x0 (1 : Int32) (0 : Int32) h
set_option maxHeartbeats 4000000 in
set_option maxRecDepth 100000 in
theorem w_Desk_passOverSteps_18 (X : Cx p s m args meth c D vwCl tys cX6_passOverSteps 4 RX6 wsG) (hN : nwS s) (hr : meth.sig.returnType = none) {res : (Unit × Hp)} {N : Nat} {r4 : Nat → Int32 → Int32 → Hp → Option (Unit × Hp)} (k4 : ∀ (x0 : Nat) (x1 : Int32) (x2 : Int32) (h : Hp) (H : Heap) (locs : List Loc) (ls : Array Slot), r4 x0 x1 x2 h = some res → In D vwCl tys A s h H locs → lv_has ls 4 [(0, .ref x0), (1, .int x1), (2, .int x2)] → W p l e rmX6_passOverSteps s m args below meth c H locs 0 0 (MQ below (Qr D vwCl tys A none res.2) args s 0 0 A) (F0 m 4 ls [])) : ∀ (n : Nat) (x0 : Nat) (x1 : Int32) (x2 : Int32) (x3 : Int32)  (h : Hp) (H : Heap) (locs : List Loc) (ls : Array Slot), J_Desk_passOverSteps_18 N r4 n x0 x1 x2 x3 h = some res → In D vwCl tys A s h H locs → lv_has ls 4 [(0, .ref x0), (1, .int x1), (2, .int x2), (3, .int x3)] → W p l e rmX6_passOverSteps s m args below meth c H locs 0 0 (MQ below (Qr D vwCl tys A none res.2) args s 0 0 A) (F0 m 18 ls []) := by
  have hx := X.1.1
  have hb := X.1.2.1
  have hml := X.1.2.2.1
  have ho := X.1.2.2.2.1
  have hts := X.1.2.2.2.2
  have hK := X.2.1
  have hT := X.2.2.2
  intro n
  induction n with
  | zero =>
    intro x0 x1 x2 x3  h H locs ls hJ I hl
    exact nomatch (show (none : Option (Unit × Hp)) = some res from hJ)
  | succ n k18 =>
    intro x0 x1 x2 x3  h H locs ls hJ I hl
    rw [J_Desk_passOverSteps_18] at hJ
    refine lv_iload_n hx hb dX6_passOverSteps_18 rfl (lv_at hl 3 rfl) ?_
    refine lv_bipush (v := 40) hx hb dX6_passOverSteps_19 (by decide) ?_
    refine lv_icmp_ge (tgt := 64) hx hb dX6_passOverSteps_21 (by decide) (fun c9 => ?_) (fun c9 => ?_)
    · rw [if_pos c9] at hJ
      refine lv_iinc (v := (x2 + (1 : Int32))) (lv' := [(2, .int (x2 + (1 : Int32))), (0, .ref x0), (1, .int x1), (3, .int x3)]) hx hb dX6_passOverSteps_64 hl (k := 2) rfl rfl (by decide) rfl (fun ls hl => ?_)
      refine lv_goto (tgt := 4) hx hb dX6_passOverSteps_67 (by decide) ?_
      exact k4 _ _ _ _ _ _ _ hJ I (lv_sub hl [1, 2, 0] rfl)
    · rw [if_neg c9] at hJ
      refine lv_aload_n hx hb dX6_passOverSteps_24 rfl (lv_at hl 0 rfl) ?_
      refine lv_iload_n hx hb dX6_passOverSteps_25 rfl (lv_at hl 3 rfl) ?_
      obtain ⟨u9, i9, hJ⟩ := rp_b hJ
      obtain ⟨f9, i9⟩ := isO_s i9
      obtain ⟨q1, e9, hJ⟩ := rp_b hJ
      refine rp_callV (As := [.int x3]) (rest := []) X hN I (c_Desk_isReady hT e9) (cwV 1 hts (gdV wm_448 wm_449 wm_13 wm_33 wm_450) rfl rfl rfl (by decide +kernel) ⟨Nat.le_of_ble_eq_true rfl, Nat.le_of_ble_eq_true rfl⟩) i9 rfl rfl hl.1 rfl (Nat.le_of_ble_eq_true rfl) dX6_passOverSteps_26 ⟨(Nat.le_of_ble_eq_true rfl), (Nat.le_of_ble_eq_true rfl)⟩ (fun H locs I => ?_)
      refine W.cs (cells' := 0) (slots' := 0) rfl rfl ?_
      refine lv_if_eq (tgt := 58) hx hb dX6_passOverSteps_29 (by decide) (fun c9 => ?_) (fun c9 => ?_)
      · rw [if_pos c9] at hJ
        refine lv_iinc (v := (x3 + (1 : Int32))) (lv' := [(3, .int (x3 + (1 : Int32))), (0, .ref x0), (1, .int x1), (2, .int x2)]) hx hb dX6_passOverSteps_58 hl (k := 3) rfl rfl (by decide) rfl (fun ls hl => ?_)
        refine lv_goto (tgt := 18) hx hb dX6_passOverSteps_61 (by decide) ?_
        exact k18 _ _ _ _ _ _ _ _ hJ I (lv_sub hl [1, 2, 3, 0] rfl)
      · rw [if_neg c9] at hJ
        refine lv_aload_n hx hb dX6_passOverSteps_32 rfl (lv_at hl 0 rfl) ?_
        obtain ⟨v2, e9, hJ⟩ := rp_b hJ
        obtain ⟨f9, g9, e9⟩ := fR_s e9
        refine rp_get X I g9 e9 rfl wiX6 (by decide) wm_167 dX6_passOverSteps_33 ?_
        refine lv_iload_n hx hb dX6_passOverSteps_36 rfl (lv_at hl 3 rfl) ?_
        obtain ⟨v3, e9, hJ⟩ := rp_b hJ
        refine rp_aald X I e9 rfl dX6_passOverSteps_37 ?_
        refine lv_aload_n hx hb dX6_passOverSteps_38 rfl (lv_at hl 0 rfl) ?_
        obtain ⟨v4, e9, hJ⟩ := rp_b hJ
        obtain ⟨f9, g9, e9⟩ := fR_s e9
        refine rp_get X I g9 e9 rfl wiX6 (by decide) wm_166 dX6_passOverSteps_39 ?_
        obtain ⟨u9, i9, hJ⟩ := rp_b hJ
        obtain ⟨f9, i9⟩ := isO_s i9
        obtain ⟨q5, e9, hJ⟩ := rp_b hJ
        refine rp_callV (As := [.ref v4]) (rest := []) X hN I (c_Step_whyDue hT e9) (cwV 1 hts (gdV wm_263 wm_264 wm_265 wm_35 wm_266) rfl rfl rfl (by decide +kernel) ⟨Nat.le_of_ble_eq_true rfl, Nat.le_of_ble_eq_true rfl⟩) i9 rfl rfl hl.1 rfl (Nat.le_of_ble_eq_true rfl) dX6_passOverSteps_42 ⟨(Nat.le_of_ble_eq_true rfl), (Nat.le_of_ble_eq_true rfl)⟩ (fun H locs I => ?_)
        refine W.cs (cells' := 0) (slots' := 0) rfl rfl ?_
        refine lv_if_ne (tgt := 58) hx hb dX6_passOverSteps_45 (by decide) (fun c9 => ?_) (fun c9 => ?_)
        · rw [if_neg c9] at hJ
          refine lv_iinc (v := (x3 + (1 : Int32))) (lv' := [(3, .int (x3 + (1 : Int32))), (0, .ref x0), (1, .int x1), (2, .int x2)]) hx hb dX6_passOverSteps_58 hl (k := 3) rfl rfl (by decide) rfl (fun ls hl => ?_)
          refine lv_goto (tgt := 18) hx hb dX6_passOverSteps_61 (by decide) ?_
          exact k18 _ _ _ _ _ _ _ _ hJ I (lv_sub hl [1, 2, 3, 0] rfl)
        · rw [if_pos c9] at hJ
          refine lv_aload_n hx hb dX6_passOverSteps_48 rfl (lv_at hl 0 rfl) ?_
          obtain ⟨v6, e9, hJ⟩ := rp_b hJ
          obtain ⟨f9, g9, e9⟩ := fR_s e9
          refine rp_get X I g9 e9 rfl wiX6 (by decide) wm_169 dX6_passOverSteps_49 ?_
          refine lv_iload_n hx hb dX6_passOverSteps_52 rfl (lv_at hl 3 rfl) ?_
          obtain ⟨u9, i9, hJ⟩ := rp_b hJ
          obtain ⟨f9, i9⟩ := isO_s i9
          obtain ⟨q7, e9, hJ⟩ := rp_b hJ
          refine rp_callV (As := [.int x3]) (rest := []) X hN I (c_Crew_passOver hT e9) (cwV 1 hts (gdV wm_459 wm_460 wm_461 wm_37 wm_462) rfl rfl rfl (by decide +kernel) ⟨Nat.le_of_ble_eq_true rfl, Nat.le_of_ble_eq_true rfl⟩) i9 rfl rfl hl.1 rfl (Nat.le_of_ble_eq_true rfl) dX6_passOverSteps_53 ⟨(Nat.le_of_ble_eq_true rfl), (Nat.le_of_ble_eq_true rfl)⟩ (fun H locs I => ?_)
          refine W.cs (cells' := 0) (slots' := 0) rfl rfl ?_
          refine lv_iconst (v := 1) hx hb dX6_passOverSteps_56 (by decide) ?_
          refine lv_istore_n (lv' := [(1, .int (1 : Int32)), (0, .ref x0), (2, .int x2), (3, .int x3)]) hx hb dX6_passOverSteps_57 rfl hl (by decide) rfl (fun ls hl => ?_)
          refine lv_iinc (v := (x3 + (1 : Int32))) (lv' := [(3, .int (x3 + (1 : Int32))), (1, .int (1 : Int32)), (0, .ref x0), (2, .int x2)]) hx hb dX6_passOverSteps_58 hl (k := 3) rfl rfl (by decide) rfl (fun ls hl => ?_)
          refine lv_goto (tgt := 18) hx hb dX6_passOverSteps_61 (by decide) ?_
          exact k18 _ _ _ _ _ _ _ _ hJ I (lv_sub hl [2, 1, 3, 0] rfl)
set_option maxHeartbeats 4000000 in
set_option maxRecDepth 100000 in
theorem w_Desk_passOverSteps_4 (X : Cx p s m args meth c D vwCl tys cX6_passOverSteps 4 RX6 wsG) (hN : nwS s) (hr : meth.sig.returnType = none) {res : (Unit × Hp)} {N : Nat}   : ∀ (n : Nat) (x0 : Nat) (x1 : Int32) (x2 : Int32)  (h : Hp) (H : Heap) (locs : List Loc) (ls : Array Slot), J_Desk_passOverSteps_4 N n x0 x1 x2 h = some res → In D vwCl tys A s h H locs → lv_has ls 4 [(0, .ref x0), (1, .int x1), (2, .int x2)] → W p l e rmX6_passOverSteps s m args below meth c H locs 0 0 (MQ below (Qr D vwCl tys A none res.2) args s 0 0 A) (F0 m 4 ls []) := by
  have hx := X.1.1
  have hb := X.1.2.1
  have hml := X.1.2.2.1
  have ho := X.1.2.2.2.1
  have hts := X.1.2.2.2.2
  have hK := X.2.1
  have hT := X.2.2.2
  intro n
  induction n with
  | zero =>
    intro x0 x1 x2  h H locs ls hJ I hl
    exact nomatch (show (none : Option (Unit × Hp)) = some res from hJ)
  | succ n k4 =>
    intro x0 x1 x2  h H locs ls hJ I hl
    rw [J_Desk_passOverSteps_4] at hJ
    refine lv_iload_n hx hb dX6_passOverSteps_4 rfl (lv_at hl 1 rfl) ?_
    refine lv_if_eq (tgt := 70) hx hb dX6_passOverSteps_5 (by decide) (fun c9 => ?_) (fun c9 => ?_)
    · rw [if_pos c9] at hJ
      exact rp_vret X hr hJ I dX6_passOverSteps_70
    · rw [if_neg c9] at hJ
      refine lv_iload_n hx hb dX6_passOverSteps_8 rfl (lv_at hl 2 rfl) ?_
      refine lv_bipush (v := 40) hx hb dX6_passOverSteps_9 (by decide) ?_
      refine lv_icmp_ge (tgt := 70) hx hb dX6_passOverSteps_11 (by decide) (fun c9 => ?_) (fun c9 => ?_)
      · rw [if_pos c9] at hJ
        exact rp_vret X hr hJ I dX6_passOverSteps_70
      · rw [if_neg c9] at hJ
        refine lv_iconst (v := 0) hx hb dX6_passOverSteps_14 (by decide) ?_
        refine lv_istore_n (lv' := [(1, .int (0 : Int32)), (0, .ref x0), (2, .int x2)]) hx hb dX6_passOverSteps_15 rfl hl (by decide) rfl (fun ls hl => ?_)
        refine lv_iconst (v := 0) hx hb dX6_passOverSteps_16 (by decide) ?_
        refine lv_istore_n (lv' := [(3, .int (0 : Int32)), (1, .int (0 : Int32)), (0, .ref x0), (2, .int x2)]) hx hb dX6_passOverSteps_17 rfl hl (by decide) rfl (fun ls hl => ?_)
        exact w_Desk_passOverSteps_18 X hN hr k4 N _ _ _ _ _ _ _ _ hJ I (lv_sub hl [2, 1, 3, 0] rfl)
set_option maxHeartbeats 4000000 in
set_option maxRecDepth 100000 in
theorem c_Desk_passOverSteps {l : Launch} {D : va_G} {tys : List (ClassId × FieldType)} {A : Nat → Prop} (hT : tys.map (fun q => q.2) = tyS) {N : Nat} {x0 : Nat} {h : Hp} {res : (Unit × Hp)} (hJ : J_Desk_passOverSteps N x0 h = some res) : Ct l D vwCl tys A yX6_passOverSteps (Cond.code yX6_passOverSteps cX6_passOverSteps 4 none :: wsG) rmX6_passOverSteps [.ref x0] h none res.2 := by
  refine Met.ofW (cc := cX6_passOverSteps) (maxL := 4) (ret := none) (by decide) rfl ?_
  intro p e s m args below meth c s₁ B hml hv
  obtain ⟨rfl, hA, hR, hK, hN⟩ := hv
  have hr := B.returns
  have hts : ∀ w ∈ wsG, w.before [.ref x0].toArray s = true := fun w hw => atoms_spec (ws := Cond.code yX6_passOverSteps cX6_passOverSteps 4 none :: wsG) B.pre w (List.mem_cons_of_mem _ hw)
  have X : Cx p s m [.ref x0].toArray meth c D vwCl tys cX6_passOverSteps 4 RX6 wsG := ⟨⟨B.exec, B.bytes, hml, findClass_of_methodNamed B.named, hts⟩, hK, B.notSynchronized, hT⟩
  have hx := B.exec
  have hb := B.bytes
  have I : In D vwCl tys A s h s.heap [] := ⟨hR, va_S.rf, hA⟩
  have hl := lv_entry [.ref x0] (n := 4) (Nat.le_of_ble_eq_true rfl)
  rw [lg_entry_eq]
  generalize (lg_sl [.ref x0] ++ List.replicate (4 - (lg_sl [.ref x0]).length) Slot.unset).toArray = ls at hl ⊢
  have hl : lv_has ls 4 [(0, .ref x0)] := hl
  have ho := X.1.2.2.2.1
  rw [J_Desk_passOverSteps] at hJ
  refine lv_iconst (v := 1) hx hb dX6_passOverSteps_0 (by decide) ?_
  refine lv_istore_n (lv' := [(1, .int (1 : Int32)), (0, .ref x0)]) hx hb dX6_passOverSteps_1 rfl hl (by decide) rfl (fun ls hl => ?_)
  refine lv_iconst (v := 0) hx hb dX6_passOverSteps_2 (by decide) ?_
  refine lv_istore_n (lv' := [(2, .int (0 : Int32)), (1, .int (1 : Int32)), (0, .ref x0)]) hx hb dX6_passOverSteps_3 rfl hl (by decide) rfl (fun ls hl => ?_)
  exact w_Desk_passOverSteps_4 X hN hr N _ _ _ _ _ _ _ hJ I (lv_sub hl [2, 1, 0] rfl)
def rmX6_nextToBegin : Room := { frames := 4, cells := 0, slots := 0, locals := 84 }
def J_Desk_nextToBegin_6 (N : Nat)  : Nat → Nat → Int32 → Int32 → Int32 → Hp → Option (Int32 × Hp)
  | 0, _, _, _, _, _ => none
  | n + 1, x0, x1, x2, x3, h =>
  if (40 : Int32) ≤ x3 then
  (some (x1, h))
  else
  ((isO h 6 x0).bind fun _ =>
  (J_Desk_isReady N x0 x3 h).bind fun q1 =>
 if q1.1 = 0 then
  ((J_Desk_nextToBegin_6 N n) x0 x1 x2 (x3 + (1 : Int32)) q1.2)
  else
  ((fR q1.2 6 x0 2).bind fun v2 =>
  (fR q1.2 2 v2 3).bind fun v3 =>
  (aI q1.2 0 v3 x3).bind fun v4 =>
  if v4 ≤ x2 then
  ((J_Desk_nextToBegin_6 N n) x0 x1 x2 (x3 + (1 : Int32)) q1.2)
  else
  ((fR q1.2 6 x0 2).bind fun v5 =>
  (fR q1.2 2 v5 3).bind fun v6 =>
  (aI q1.2 0 v6 x3).bind fun v7 =>
  (J_Desk_nextToBegin_6 N n) x0 x3 v7 (x3 + (1 : Int32)) q1.2)))
def J_Desk_nextToBegin (N : Nat) (x0 : Nat) (h : Hp) : Option (Int32 × Hp) :=
  J_Desk_nextToBegin_6 N N x0 (-1 : Int32) (0 : Int32) (0 : Int32) h
set_option maxHeartbeats 4000000 in
set_option maxRecDepth 100000 in
theorem w_Desk_nextToBegin_6 (X : Cx p s m args meth c D vwCl tys cX6_nextToBegin 4 RX6 wsG) (hN : nwS s) (hr : meth.sig.returnType = (some .int)) {res : (Int32 × Hp)} {N : Nat}   : ∀ (n : Nat) (x0 : Nat) (x1 : Int32) (x2 : Int32) (x3 : Int32)  (h : Hp) (H : Heap) (locs : List Loc) (ls : Array Slot), J_Desk_nextToBegin_6 N n x0 x1 x2 x3 h = some res → In D vwCl tys A s h H locs → lv_has ls 4 [(0, .ref x0), (1, .int x1), (2, .int x2), (3, .int x3)] → W p l e rmX6_nextToBegin s m args below meth c H locs 0 0 (MQ below (Qr D vwCl tys A (some (.int res.1)) res.2) args s 0 0 A) (F0 m 6 ls []) := by
  have hx := X.1.1
  have hb := X.1.2.1
  have hml := X.1.2.2.1
  have ho := X.1.2.2.2.1
  have hts := X.1.2.2.2.2
  have hK := X.2.1
  have hT := X.2.2.2
  intro n
  induction n with
  | zero =>
    intro x0 x1 x2 x3  h H locs ls hJ I hl
    exact nomatch (show (none : Option (Int32 × Hp)) = some res from hJ)
  | succ n k6 =>
    intro x0 x1 x2 x3  h H locs ls hJ I hl
    rw [J_Desk_nextToBegin_6] at hJ
    refine lv_iload_n hx hb dX6_nextToBegin_6 rfl (lv_at hl 3 rfl) ?_
    refine lv_bipush (v := 40) hx hb dX6_nextToBegin_7 (by decide) ?_
    refine lv_icmp_ge (tgt := 51) hx hb dX6_nextToBegin_9 (by decide) (fun c9 => ?_) (fun c9 => ?_)
    · rw [if_pos c9] at hJ
      refine lv_iload_n hx hb dX6_nextToBegin_51 rfl (lv_at hl 1 rfl) ?_
      exact rp_iret X hr hJ I dX6_nextToBegin_52
    · rw [if_neg c9] at hJ
      refine lv_aload_n hx hb dX6_nextToBegin_12 rfl (lv_at hl 0 rfl) ?_
      refine lv_iload_n hx hb dX6_nextToBegin_13 rfl (lv_at hl 3 rfl) ?_
      obtain ⟨u9, i9, hJ⟩ := rp_b hJ
      obtain ⟨f9, i9⟩ := isO_s i9
      obtain ⟨q1, e9, hJ⟩ := rp_b hJ
      refine rp_callV (As := [.int x3]) (rest := []) X hN I (c_Desk_isReady hT e9) (cwV 1 hts (gdV wm_448 wm_449 wm_13 wm_33 wm_450) rfl rfl rfl (by decide +kernel) ⟨Nat.le_of_ble_eq_true rfl, Nat.le_of_ble_eq_true rfl⟩) i9 rfl rfl hl.1 rfl (Nat.le_of_ble_eq_true rfl) dX6_nextToBegin_14 ⟨(Nat.le_of_ble_eq_true rfl), (Nat.le_of_ble_eq_true rfl)⟩ (fun H locs I => ?_)
      refine W.cs (cells' := 0) (slots' := 0) rfl rfl ?_
      refine lv_if_eq (tgt := 45) hx hb dX6_nextToBegin_17 (by decide) (fun c9 => ?_) (fun c9 => ?_)
      · rw [if_pos c9] at hJ
        refine lv_iinc (v := (x3 + (1 : Int32))) (lv' := [(3, .int (x3 + (1 : Int32))), (0, .ref x0), (1, .int x1), (2, .int x2)]) hx hb dX6_nextToBegin_45 hl (k := 3) rfl rfl (by decide) rfl (fun ls hl => ?_)
        refine lv_goto (tgt := 6) hx hb dX6_nextToBegin_48 (by decide) ?_
        exact k6 _ _ _ _ _ _ _ _ hJ I (lv_sub hl [1, 2, 3, 0] rfl)
      · rw [if_neg c9] at hJ
        refine lv_aload_n hx hb dX6_nextToBegin_20 rfl (lv_at hl 0 rfl) ?_
        obtain ⟨v2, e9, hJ⟩ := rp_b hJ
        obtain ⟨f9, g9, e9⟩ := fR_s e9
        refine rp_get X I g9 e9 rfl wiX6 (by decide) wm_168 dX6_nextToBegin_21 ?_
        obtain ⟨v3, e9, hJ⟩ := rp_b hJ
        obtain ⟨f9, g9, e9⟩ := fR_s e9
        refine rp_getN (host := "BuildDesk") X I g9 e9 rfl wiX2 (by decide) (hN.1 _ (by decide +kernel)) dX6_nextToBegin_24 ?_
        refine lv_iload_n hx hb dX6_nextToBegin_27 rfl (lv_at hl 3 rfl) ?_
        obtain ⟨v4, e9, hJ⟩ := rp_b hJ
        refine rp_iald X I e9 rfl dX6_nextToBegin_28 ?_
        refine lv_iload_n hx hb dX6_nextToBegin_29 rfl (lv_at hl 2 rfl) ?_
        refine lv_icmp_le (tgt := 45) hx hb dX6_nextToBegin_30 (by decide) (fun c9 => ?_) (fun c9 => ?_)
        · rw [if_pos c9] at hJ
          refine lv_iinc (v := (x3 + (1 : Int32))) (lv' := [(3, .int (x3 + (1 : Int32))), (0, .ref x0), (1, .int x1), (2, .int x2)]) hx hb dX6_nextToBegin_45 hl (k := 3) rfl rfl (by decide) rfl (fun ls hl => ?_)
          refine lv_goto (tgt := 6) hx hb dX6_nextToBegin_48 (by decide) ?_
          exact k6 _ _ _ _ _ _ _ _ hJ I (lv_sub hl [1, 2, 3, 0] rfl)
        · rw [if_neg c9] at hJ
          refine lv_iload_n hx hb dX6_nextToBegin_33 rfl (lv_at hl 3 rfl) ?_
          refine lv_istore_n (lv' := [(1, .int x3), (0, .ref x0), (2, .int x2), (3, .int x3)]) hx hb dX6_nextToBegin_34 rfl hl (by decide) rfl (fun ls hl => ?_)
          refine lv_aload_n hx hb dX6_nextToBegin_35 rfl (lv_at hl 1 rfl) ?_
          obtain ⟨v5, e9, hJ⟩ := rp_b hJ
          obtain ⟨f9, g9, e9⟩ := fR_s e9
          refine rp_get X I g9 e9 rfl wiX6 (by decide) wm_168 dX6_nextToBegin_36 ?_
          obtain ⟨v6, e9, hJ⟩ := rp_b hJ
          obtain ⟨f9, g9, e9⟩ := fR_s e9
          refine rp_getN (host := "BuildDesk") X I g9 e9 rfl wiX2 (by decide) (hN.1 _ (by decide +kernel)) dX6_nextToBegin_39 ?_
          refine lv_iload_n hx hb dX6_nextToBegin_42 rfl (lv_at hl 3 rfl) ?_
          obtain ⟨v7, e9, hJ⟩ := rp_b hJ
          refine rp_iald X I e9 rfl dX6_nextToBegin_43 ?_
          refine lv_istore_n (lv' := [(2, .int v7), (1, .int x3), (0, .ref x0), (3, .int x3)]) hx hb dX6_nextToBegin_44 rfl hl (by decide) rfl (fun ls hl => ?_)
          refine lv_iinc (v := (x3 + (1 : Int32))) (lv' := [(3, .int (x3 + (1 : Int32))), (2, .int v7), (1, .int x3), (0, .ref x0)]) hx hb dX6_nextToBegin_45 hl (k := 3) rfl rfl (by decide) rfl (fun ls hl => ?_)
          refine lv_goto (tgt := 6) hx hb dX6_nextToBegin_48 (by decide) ?_
          exact k6 _ _ _ _ _ _ _ _ hJ I (lv_sub hl [3, 2, 1, 0] rfl)
set_option maxHeartbeats 4000000 in
set_option maxRecDepth 100000 in
theorem c_Desk_nextToBegin {l : Launch} {D : va_G} {tys : List (ClassId × FieldType)} {A : Nat → Prop} (hT : tys.map (fun q => q.2) = tyS) {N : Nat} {x0 : Nat} {h : Hp} {res : (Int32 × Hp)} (hJ : J_Desk_nextToBegin N x0 h = some res) : Ct l D vwCl tys A yX6_nextToBegin (Cond.code yX6_nextToBegin cX6_nextToBegin 4 (some .int) :: wsG) rmX6_nextToBegin [.ref x0] h (some (.int res.1)) res.2 := by
  refine Met.ofW (cc := cX6_nextToBegin) (maxL := 4) (ret := (some .int)) (by decide) rfl ?_
  intro p e s m args below meth c s₁ B hml hv
  obtain ⟨rfl, hA, hR, hK, hN⟩ := hv
  have hr := B.returns
  have hts : ∀ w ∈ wsG, w.before [.ref x0].toArray s = true := fun w hw => atoms_spec (ws := Cond.code yX6_nextToBegin cX6_nextToBegin 4 (some .int) :: wsG) B.pre w (List.mem_cons_of_mem _ hw)
  have X : Cx p s m [.ref x0].toArray meth c D vwCl tys cX6_nextToBegin 4 RX6 wsG := ⟨⟨B.exec, B.bytes, hml, findClass_of_methodNamed B.named, hts⟩, hK, B.notSynchronized, hT⟩
  have hx := B.exec
  have hb := B.bytes
  have I : In D vwCl tys A s h s.heap [] := ⟨hR, va_S.rf, hA⟩
  have hl := lv_entry [.ref x0] (n := 4) (Nat.le_of_ble_eq_true rfl)
  rw [lg_entry_eq]
  generalize (lg_sl [.ref x0] ++ List.replicate (4 - (lg_sl [.ref x0]).length) Slot.unset).toArray = ls at hl ⊢
  have hl : lv_has ls 4 [(0, .ref x0)] := hl
  have ho := X.1.2.2.2.1
  rw [J_Desk_nextToBegin] at hJ
  refine lv_iconst (v := -1) hx hb dX6_nextToBegin_0 (by decide) ?_
  refine lv_istore_n (lv' := [(1, .int (-1 : Int32)), (0, .ref x0)]) hx hb dX6_nextToBegin_1 rfl hl (by decide) rfl (fun ls hl => ?_)
  refine lv_iconst (v := 0) hx hb dX6_nextToBegin_2 (by decide) ?_
  refine lv_istore_n (lv' := [(2, .int (0 : Int32)), (1, .int (-1 : Int32)), (0, .ref x0)]) hx hb dX6_nextToBegin_3 rfl hl (by decide) rfl (fun ls hl => ?_)
  refine lv_iconst (v := 0) hx hb dX6_nextToBegin_4 (by decide) ?_
  refine lv_istore_n (lv' := [(3, .int (0 : Int32)), (2, .int (0 : Int32)), (1, .int (-1 : Int32)), (0, .ref x0)]) hx hb dX6_nextToBegin_5 rfl hl (by decide) rfl (fun ls hl => ?_)
  exact w_Desk_nextToBegin_6 X hN hr N _ _ _ _ _ _ _ _ hJ I (lv_sub hl [3, 2, 1, 0] rfl)
def rmX6_beginSteps : Room := { frames := 5, cells := 0, slots := 0, locals := 107 }
def J_Desk_beginSteps_2 (N : Nat)  : Nat → Nat → Int32 → Int32 → Int32 → Hp → Option (Unit × Hp)
  | 0, _, _, _, _, _ => none
  | n + 1, x0, x1, x2, x3, h =>
  if x2 ≤ x3 then
  (some ((), h))
  else
  (if (8 : Int32) ≤ x3 then
  (some ((), h))
  else
  ((fR h 6 x0 3).bind fun v1 =>
  (isO h 0 v1).bind fun _ =>
  (J_Crew_isBusy N v1 x3 h).bind fun q2 =>
 if q2.1 = 0 then
  ((isO q2.2 6 x0).bind fun _ =>
  (J_Desk_nextToBegin N x0 q2.2).bind fun q3 =>
 if q3.1 = (-1 : Int32) then
  (some ((), q3.2))
  else
  ((fR q3.2 6 x0 1).bind fun v4 =>
  (aR q3.2 3 v4 q3.1).bind fun v5 =>
  (fI q3.2 5 v5 3).bind fun v6 =>
  (fR q3.2 6 x0 4).bind fun v7 =>
  (fR q3.2 6 x0 1).bind fun v8 =>
  (aR q3.2 3 v8 q3.1).bind fun v9 =>
  (fR q3.2 6 x0 0).bind fun v10 =>
  (isO q3.2 5 v9).bind fun _ =>
  (J_Step_whyDue N v9 v10 q3.2).bind fun q11 =>
 (isO q11.2 3 v7).bind fun _ =>
  (J_Rep_add N v7 q3.1 x1 (x1 + v6) x3 q11.1 q11.2).bind fun q12 =>
 (fR q12.2 6 x0 3).bind fun v13 =>
  (isO q12.2 0 v13).bind fun _ =>
  (J_Crew_begin N v13 q3.1 x3 (x1 + v6) q12.2).bind fun q14 =>
 (J_Desk_beginSteps_2 N n) x0 x1 x2 (x3 + (1 : Int32)) q14.2))
  else
  ((J_Desk_beginSteps_2 N n) x0 x1 x2 (x3 + (1 : Int32)) q2.2)))
def J_Desk_beginSteps (N : Nat) (x0 : Nat) (x1 : Int32) (x2 : Int32) (h : Hp) : Option (Unit × Hp) :=
  J_Desk_beginSteps_2 N N x0 x1 x2 (0 : Int32) h
set_option maxHeartbeats 4000000 in
set_option maxRecDepth 100000 in
theorem w_Desk_beginSteps_2 (X : Cx p s m args meth c D vwCl tys cX6_beginSteps 6 RX6 wsG) (hN : nwS s) (hr : meth.sig.returnType = none) {res : (Unit × Hp)} {N : Nat}   : ∀ (n : Nat) (x0 : Nat) (x1 : Int32) (x2 : Int32) (x3 : Int32)  (h : Hp) (H : Heap) (locs : List Loc) (ls : Array Slot), J_Desk_beginSteps_2 N n x0 x1 x2 x3 h = some res → In D vwCl tys A s h H locs → lv_has ls 6 [(0, .ref x0), (1, .int x1), (2, .int x2), (3, .int x3)] → W p l e rmX6_beginSteps s m args below meth c H locs 0 0 (MQ below (Qr D vwCl tys A none res.2) args s 0 0 A) (F0 m 2 ls []) := by
  have hx := X.1.1
  have hb := X.1.2.1
  have hml := X.1.2.2.1
  have ho := X.1.2.2.2.1
  have hts := X.1.2.2.2.2
  have hK := X.2.1
  have hT := X.2.2.2
  intro n
  induction n with
  | zero =>
    intro x0 x1 x2 x3  h H locs ls hJ I hl
    exact nomatch (show (none : Option (Unit × Hp)) = some res from hJ)
  | succ n k2 =>
    intro x0 x1 x2 x3  h H locs ls hJ I hl
    rw [J_Desk_beginSteps_2] at hJ
    refine lv_iload_n hx hb dX6_beginSteps_2 rfl (lv_at hl 3 rfl) ?_
    refine lv_iload_n hx hb dX6_beginSteps_3 rfl (lv_at hl 2 rfl) ?_
    refine lv_icmp_ge (tgt := 96) hx hb dX6_beginSteps_4 (by decide) (fun c9 => ?_) (fun c9 => ?_)
    · rw [if_pos c9] at hJ
      exact rp_vret X hr hJ I dX6_beginSteps_96
    · rw [if_neg c9] at hJ
      refine lv_iload_n hx hb dX6_beginSteps_7 rfl (lv_at hl 3 rfl) ?_
      refine lv_bipush (v := 8) hx hb dX6_beginSteps_8 (by decide) ?_
      refine lv_icmp_ge (tgt := 96) hx hb dX6_beginSteps_10 (by decide) (fun c9 => ?_) (fun c9 => ?_)
      · rw [if_pos c9] at hJ
        exact rp_vret X hr hJ I dX6_beginSteps_96
      · rw [if_neg c9] at hJ
        refine lv_aload_n hx hb dX6_beginSteps_13 rfl (lv_at hl 0 rfl) ?_
        obtain ⟨v1, e9, hJ⟩ := rp_b hJ
        obtain ⟨f9, g9, e9⟩ := fR_s e9
        refine rp_get X I g9 e9 rfl wiX6 (by decide) wm_169 dX6_beginSteps_14 ?_
        refine lv_iload_n hx hb dX6_beginSteps_17 rfl (lv_at hl 3 rfl) ?_
        obtain ⟨u9, i9, hJ⟩ := rp_b hJ
        obtain ⟨f9, i9⟩ := isO_s i9
        obtain ⟨q2, e9, hJ⟩ := rp_b hJ
        refine rp_callV (As := [.int x3]) (rest := []) X hN I (c_Crew_isBusy hT e9) (cwV 1 hts (gdV wm_466 wm_467 wm_468 wm_37 wm_469) rfl rfl rfl (by decide +kernel) ⟨Nat.le_of_ble_eq_true rfl, Nat.le_of_ble_eq_true rfl⟩) i9 rfl rfl hl.1 rfl (Nat.le_of_ble_eq_true rfl) dX6_beginSteps_18 ⟨(Nat.le_of_ble_eq_true rfl), (Nat.le_of_ble_eq_true rfl)⟩ (fun H locs I => ?_)
        refine W.cs (cells' := 0) (slots' := 0) rfl rfl ?_
        refine lv_if_ne (tgt := 90) hx hb dX6_beginSteps_21 (by decide) (fun c9 => ?_) (fun c9 => ?_)
        · rw [if_neg c9] at hJ
          refine lv_iinc (v := (x3 + (1 : Int32))) (lv' := [(3, .int (x3 + (1 : Int32))), (0, .ref x0), (1, .int x1), (2, .int x2)]) hx hb dX6_beginSteps_90 hl (k := 3) rfl rfl (by decide) rfl (fun ls hl => ?_)
          refine lv_goto (tgt := 2) hx hb dX6_beginSteps_93 (by decide) ?_
          exact k2 _ _ _ _ _ _ _ _ hJ I (lv_sub hl [1, 2, 3, 0] rfl)
        · rw [if_pos c9] at hJ
          refine lv_aload_n hx hb dX6_beginSteps_24 rfl (lv_at hl 0 rfl) ?_
          obtain ⟨u9, i9, hJ⟩ := rp_b hJ
          obtain ⟨f9, i9⟩ := isO_s i9
          obtain ⟨q3, e9, hJ⟩ := rp_b hJ
          refine rp_callV (As := []) (rest := []) X hN I (c_Desk_nextToBegin hT e9) (cwV 0 hts (gdV wm_470 wm_471 wm_15 wm_33 wm_472) rfl rfl rfl (by decide +kernel) ⟨Nat.le_of_ble_eq_true rfl, Nat.le_of_ble_eq_true rfl⟩) i9 rfl rfl hl.1 rfl (Nat.le_of_ble_eq_true rfl) dX6_beginSteps_25 ⟨(Nat.le_of_ble_eq_true rfl), (Nat.le_of_ble_eq_true rfl)⟩ (fun H locs I => ?_)
          refine W.cs (cells' := 0) (slots' := 0) rfl rfl ?_
          refine lv_istore (lv' := [(4, .int q3.1), (0, .ref x0), (1, .int x1), (2, .int x2), (3, .int x3)]) hx hb dX6_beginSteps_28 hl (by decide) rfl (fun ls hl => ?_)
          refine lv_iload hx hb dX6_beginSteps_30 (lv_at hl 0 rfl) ?_
          refine lv_iconst (v := -1) hx hb dX6_beginSteps_32 (by decide) ?_
          refine lv_icmp_ne (tgt := 37) hx hb dX6_beginSteps_33 (by decide) (fun c9 => ?_) (fun c9 => ?_)
          · rw [if_neg c9] at hJ
            refine lv_iload_n hx hb dX6_beginSteps_37 rfl (lv_at hl 2 rfl) ?_
            refine lv_aload_n hx hb dX6_beginSteps_38 rfl (lv_at hl 1 rfl) ?_
            obtain ⟨v4, e9, hJ⟩ := rp_b hJ
            obtain ⟨f9, g9, e9⟩ := fR_s e9
            refine rp_get X I g9 e9 rfl wiX6 (by decide) wm_167 dX6_beginSteps_39 ?_
            refine lv_iload hx hb dX6_beginSteps_42 (lv_at hl 0 rfl) ?_
            obtain ⟨v5, e9, hJ⟩ := rp_b hJ
            refine rp_aald X I e9 rfl dX6_beginSteps_44 ?_
            obtain ⟨v6, e9, hJ⟩ := rp_b hJ
            obtain ⟨f9, g9, e9⟩ := fI_s e9
            refine rp_getN (host := "BuildDesk") X I g9 e9 rfl wiX5 (by decide) (hN.1 _ (by decide +kernel)) dX6_beginSteps_45 ?_
            refine lv_iadd hx hb dX6_beginSteps_48 ?_
            refine lv_istore (lv' := [(5, .int (x1 + v6)), (4, .int q3.1), (0, .ref x0), (1, .int x1), (2, .int x2), (3, .int x3)]) hx hb dX6_beginSteps_49 hl (by decide) rfl (fun ls hl => ?_)
            refine lv_aload_n hx hb dX6_beginSteps_51 rfl (lv_at hl 2 rfl) ?_
            obtain ⟨v7, e9, hJ⟩ := rp_b hJ
            obtain ⟨f9, g9, e9⟩ := fR_s e9
            refine rp_get X I g9 e9 rfl wiX6 (by decide) wm_170 dX6_beginSteps_52 ?_
            refine lv_iload hx hb dX6_beginSteps_55 (lv_at hl 1 rfl) ?_
            refine lv_iload_n hx hb dX6_beginSteps_57 rfl (lv_at hl 3 rfl) ?_
            refine lv_iload hx hb dX6_beginSteps_58 (lv_at hl 0 rfl) ?_
            refine lv_iload_n hx hb dX6_beginSteps_60 rfl (lv_at hl 5 rfl) ?_
            refine lv_aload_n hx hb dX6_beginSteps_61 rfl (lv_at hl 2 rfl) ?_
            obtain ⟨v8, e9, hJ⟩ := rp_b hJ
            obtain ⟨f9, g9, e9⟩ := fR_s e9
            refine rp_get X I g9 e9 rfl wiX6 (by decide) wm_167 dX6_beginSteps_62 ?_
            refine lv_iload hx hb dX6_beginSteps_65 (lv_at hl 1 rfl) ?_
            obtain ⟨v9, e9, hJ⟩ := rp_b hJ
            refine rp_aald X I e9 rfl dX6_beginSteps_67 ?_
            refine lv_aload_n hx hb dX6_beginSteps_68 rfl (lv_at hl 2 rfl) ?_
            obtain ⟨v10, e9, hJ⟩ := rp_b hJ
            obtain ⟨f9, g9, e9⟩ := fR_s e9
            refine rp_get X I g9 e9 rfl wiX6 (by decide) wm_166 dX6_beginSteps_69 ?_
            obtain ⟨u9, i9, hJ⟩ := rp_b hJ
            obtain ⟨f9, i9⟩ := isO_s i9
            obtain ⟨q11, e9, hJ⟩ := rp_b hJ
            refine rp_callV (As := [.ref v10]) (rest := [.int x3, .int (x1 + v6), .int x1, .int q3.1, .ref v7]) X hN I (c_Step_whyDue hT e9) (cwV 1 hts (gdV wm_263 wm_264 wm_265 wm_35 wm_266) rfl rfl rfl (by decide +kernel) ⟨Nat.le_of_ble_eq_true rfl, Nat.le_of_ble_eq_true rfl⟩) i9 rfl rfl hl.1 rfl (Nat.le_of_ble_eq_true rfl) dX6_beginSteps_72 ⟨(Nat.le_of_ble_eq_true rfl), (Nat.le_of_ble_eq_true rfl)⟩ (fun H locs I => ?_)
            refine W.cs (cells' := 0) (slots' := 0) rfl rfl ?_
            obtain ⟨u9, i9, hJ⟩ := rp_b hJ
            obtain ⟨f9, i9⟩ := isO_s i9
            obtain ⟨q12, e9, hJ⟩ := rp_b hJ
            refine rp_callV (As := [.int q3.1, .int x1, .int (x1 + v6), .int x3, .int q11.1]) (rest := []) X hN I (c_Rep_add hT e9) (cwV 5 hts (gdV wm_473 wm_474 wm_475 wm_38 wm_476) rfl rfl rfl (by decide +kernel) ⟨Nat.le_of_ble_eq_true rfl, Nat.le_of_ble_eq_true rfl⟩) i9 rfl rfl hl.1 rfl (Nat.le_of_ble_eq_true rfl) dX6_beginSteps_75 ⟨(Nat.le_of_ble_eq_true rfl), (Nat.le_of_ble_eq_true rfl)⟩ (fun H locs I => ?_)
            refine W.cs (cells' := 0) (slots' := 0) rfl rfl ?_
            refine lv_aload_n hx hb dX6_beginSteps_78 rfl (lv_at hl 2 rfl) ?_
            obtain ⟨v13, e9, hJ⟩ := rp_b hJ
            obtain ⟨f9, g9, e9⟩ := fR_s e9
            refine rp_get X I g9 e9 rfl wiX6 (by decide) wm_169 dX6_beginSteps_79 ?_
            refine lv_iload hx hb dX6_beginSteps_82 (lv_at hl 1 rfl) ?_
            refine lv_iload_n hx hb dX6_beginSteps_84 rfl (lv_at hl 5 rfl) ?_
            refine lv_iload hx hb dX6_beginSteps_85 (lv_at hl 0 rfl) ?_
            obtain ⟨u9, i9, hJ⟩ := rp_b hJ
            obtain ⟨f9, i9⟩ := isO_s i9
            obtain ⟨q14, e9, hJ⟩ := rp_b hJ
            refine rp_callV (As := [.int q3.1, .int x3, .int (x1 + v6)]) (rest := []) X hN I (c_Crew_begin hT e9) (cwV 3 hts (gdV wm_477 wm_478 wm_479 wm_37 wm_480) rfl rfl rfl (by decide +kernel) ⟨Nat.le_of_ble_eq_true rfl, Nat.le_of_ble_eq_true rfl⟩) i9 rfl rfl hl.1 rfl (Nat.le_of_ble_eq_true rfl) dX6_beginSteps_87 ⟨(Nat.le_of_ble_eq_true rfl), (Nat.le_of_ble_eq_true rfl)⟩ (fun H locs I => ?_)
            refine W.cs (cells' := 0) (slots' := 0) rfl rfl ?_
            refine lv_iinc (v := (x3 + (1 : Int32))) (lv' := [(3, .int (x3 + (1 : Int32))), (5, .int (x1 + v6)), (4, .int q3.1), (0, .ref x0), (1, .int x1), (2, .int x2)]) hx hb dX6_beginSteps_90 hl (k := 5) rfl rfl (by decide) rfl (fun ls hl => ?_)
            refine lv_goto (tgt := 2) hx hb dX6_beginSteps_93 (by decide) ?_
            exact k2 _ _ _ _ _ _ _ _ hJ I (lv_sub hl [3, 4, 5, 0] rfl)
          · rw [if_pos c9] at hJ
            exact rp_vret X hr hJ I dX6_beginSteps_36
set_option maxHeartbeats 4000000 in
set_option maxRecDepth 100000 in
theorem c_Desk_beginSteps {l : Launch} {D : va_G} {tys : List (ClassId × FieldType)} {A : Nat → Prop} (hT : tys.map (fun q => q.2) = tyS) {N : Nat} {x0 : Nat} {x1 : Int32} {x2 : Int32} {h : Hp} {res : (Unit × Hp)} (hJ : J_Desk_beginSteps N x0 x1 x2 h = some res) : Ct l D vwCl tys A yX6_beginSteps (Cond.code yX6_beginSteps cX6_beginSteps 6 none :: wsG) rmX6_beginSteps [.ref x0, .int x1, .int x2] h none res.2 := by
  refine Met.ofW (cc := cX6_beginSteps) (maxL := 6) (ret := none) (by decide) rfl ?_
  intro p e s m args below meth c s₁ B hml hv
  obtain ⟨rfl, hA, hR, hK, hN⟩ := hv
  have hr := B.returns
  have hts : ∀ w ∈ wsG, w.before [.ref x0, .int x1, .int x2].toArray s = true := fun w hw => atoms_spec (ws := Cond.code yX6_beginSteps cX6_beginSteps 6 none :: wsG) B.pre w (List.mem_cons_of_mem _ hw)
  have X : Cx p s m [.ref x0, .int x1, .int x2].toArray meth c D vwCl tys cX6_beginSteps 6 RX6 wsG := ⟨⟨B.exec, B.bytes, hml, findClass_of_methodNamed B.named, hts⟩, hK, B.notSynchronized, hT⟩
  have hx := B.exec
  have hb := B.bytes
  have I : In D vwCl tys A s h s.heap [] := ⟨hR, va_S.rf, hA⟩
  have hl := lv_entry [.ref x0, .int x1, .int x2] (n := 6) (Nat.le_of_ble_eq_true rfl)
  rw [lg_entry_eq]
  generalize (lg_sl [.ref x0, .int x1, .int x2] ++ List.replicate (6 - (lg_sl [.ref x0, .int x1, .int x2]).length) Slot.unset).toArray = ls at hl ⊢
  have hl : lv_has ls 6 [(0, .ref x0), (1, .int x1), (2, .int x2)] := hl
  have ho := X.1.2.2.2.1
  rw [J_Desk_beginSteps] at hJ
  refine lv_iconst (v := 0) hx hb dX6_beginSteps_0 (by decide) ?_
  refine lv_istore_n (lv' := [(3, .int (0 : Int32)), (0, .ref x0), (1, .int x1), (2, .int x2)]) hx hb dX6_beginSteps_1 rfl hl (by decide) rfl (fun ls hl => ?_)
  exact w_Desk_beginSteps_2 X hN hr N _ _ _ _ _ _ _ _ hJ I (lv_sub hl [1, 2, 3, 0] rfl)
def rmX6_makeNeeded : Room := { frames := 6, cells := 0, slots := 0, locals := 132 }
def J_Desk_makeNeeded_11 (N : Nat)  : Nat → Nat → Int32 → Int32 → Int32 → Hp → Option (Int32 × Hp)
  | 0, _, _, _, _, _ => none
  | n + 1, x0, x1, x2, x3, h =>
  if (40 : Int32) < x3 then
  (some (x2, h))
  else
  ((isO h 6 x0).bind fun _ =>
  (J_Desk_endSteps N x0 x2 h).bind fun q3 =>
 (isO q3.2 6 x0).bind fun _ =>
  (J_Desk_passOverSteps N x0 q3.2).bind fun q4 =>
 (isO q4.2 6 x0).bind fun _ =>
  (J_Desk_beginSteps N x0 x2 x1 q4.2).bind fun q5 =>
 (fR q5.2 6 x0 3).bind fun v6 =>
  (isO q5.2 0 v6).bind fun _ =>
  (J_Crew_nextEnd N v6 q5.2).bind fun q7 =>
 if q7.1 = (-1 : Int32) then
  (some (x2, q7.2))
  else
  ((J_Desk_makeNeeded_11 N n) x0 x1 q7.1 (x3 + (1 : Int32)) q7.2))
def J_Desk_makeNeeded (N : Nat) (x0 : Nat) (x1 : Int32) (h : Hp) : Option (Int32 × Hp) :=
  (fR h 6 x0 3).bind fun v1 =>
  (isO h 0 v1).bind fun _ =>
  (J_Crew_comeIn N v1 h).bind fun q2 =>
 J_Desk_makeNeeded_11 N N x0 x1 (0 : Int32) (0 : Int32) q2.2
set_option maxHeartbeats 4000000 in
set_option maxRecDepth 100000 in
theorem w_Desk_makeNeeded_11 (X : Cx p s m args meth c D vwCl tys cX6_makeNeeded 5 RX6 wsG) (hN : nwS s) (hr : meth.sig.returnType = (some .int)) {res : (Int32 × Hp)} {N : Nat}   : ∀ (n : Nat) (x0 : Nat) (x1 : Int32) (x2 : Int32) (x3 : Int32)  (h : Hp) (H : Heap) (locs : List Loc) (ls : Array Slot), J_Desk_makeNeeded_11 N n x0 x1 x2 x3 h = some res → In D vwCl tys A s h H locs → lv_has ls 5 [(0, .ref x0), (1, .int x1), (2, .int x2), (3, .int x3)] → W p l e rmX6_makeNeeded s m args below meth c H locs 0 0 (MQ below (Qr D vwCl tys A (some (.int res.1)) res.2) args s 0 0 A) (F0 m 11 ls []) := by
  have hx := X.1.1
  have hb := X.1.2.1
  have hml := X.1.2.2.1
  have ho := X.1.2.2.2.1
  have hts := X.1.2.2.2.2
  have hK := X.2.1
  have hT := X.2.2.2
  intro n
  induction n with
  | zero =>
    intro x0 x1 x2 x3  h H locs ls hJ I hl
    exact nomatch (show (none : Option (Int32 × Hp)) = some res from hJ)
  | succ n k11 =>
    intro x0 x1 x2 x3  h H locs ls hJ I hl
    rw [J_Desk_makeNeeded_11] at hJ
    refine lv_iload_n hx hb dX6_makeNeeded_11 rfl (lv_at hl 3 rfl) ?_
    refine lv_bipush (v := 40) hx hb dX6_makeNeeded_12 (by decide) ?_
    refine lv_icmp_gt (tgt := 58) hx hb dX6_makeNeeded_14 (by decide) (fun c9 => ?_) (fun c9 => ?_)
    · rw [if_pos c9] at hJ
      refine lv_iload_n hx hb dX6_makeNeeded_58 rfl (lv_at hl 2 rfl) ?_
      exact rp_iret X hr hJ I dX6_makeNeeded_59
    · rw [if_neg c9] at hJ
      refine lv_aload_n hx hb dX6_makeNeeded_17 rfl (lv_at hl 0 rfl) ?_
      refine lv_iload_n hx hb dX6_makeNeeded_18 rfl (lv_at hl 2 rfl) ?_
      obtain ⟨u9, i9, hJ⟩ := rp_b hJ
      obtain ⟨f9, i9⟩ := isO_s i9
      obtain ⟨q3, e9, hJ⟩ := rp_b hJ
      refine rp_callV (As := [.int x2]) (rest := []) X hN I (c_Desk_endSteps hT e9) (cwV 1 hts (gdV wm_427 wm_428 wm_11 wm_33 wm_429) rfl rfl rfl (by decide +kernel) ⟨Nat.le_of_ble_eq_true rfl, Nat.le_of_ble_eq_true rfl⟩) i9 rfl rfl hl.1 rfl (Nat.le_of_ble_eq_true rfl) dX6_makeNeeded_19 ⟨(Nat.le_of_ble_eq_true rfl), (Nat.le_of_ble_eq_true rfl)⟩ (fun H locs I => ?_)
      refine W.cs (cells' := 0) (slots' := 0) rfl rfl ?_
      refine lv_aload_n hx hb dX6_makeNeeded_22 rfl (lv_at hl 0 rfl) ?_
      obtain ⟨u9, i9, hJ⟩ := rp_b hJ
      obtain ⟨f9, i9⟩ := isO_s i9
      obtain ⟨q4, e9, hJ⟩ := rp_b hJ
      refine rp_callV (As := []) (rest := []) X hN I (c_Desk_passOverSteps hT e9) (cwV 0 hts (gdV wm_445 wm_446 wm_12 wm_33 wm_447) rfl rfl rfl (by decide +kernel) ⟨Nat.le_of_ble_eq_true rfl, Nat.le_of_ble_eq_true rfl⟩) i9 rfl rfl hl.1 rfl (Nat.le_of_ble_eq_true rfl) dX6_makeNeeded_23 ⟨(Nat.le_of_ble_eq_true rfl), (Nat.le_of_ble_eq_true rfl)⟩ (fun H locs I => ?_)
      refine W.cs (cells' := 0) (slots' := 0) rfl rfl ?_
      refine lv_aload_n hx hb dX6_makeNeeded_26 rfl (lv_at hl 0 rfl) ?_
      refine lv_iload_n hx hb dX6_makeNeeded_27 rfl (lv_at hl 2 rfl) ?_
      refine lv_iload_n hx hb dX6_makeNeeded_28 rfl (lv_at hl 1 rfl) ?_
      obtain ⟨u9, i9, hJ⟩ := rp_b hJ
      obtain ⟨f9, i9⟩ := isO_s i9
      obtain ⟨q5, e9, hJ⟩ := rp_b hJ
      refine rp_callV (As := [.int x2, .int x1]) (rest := []) X hN I (c_Desk_beginSteps hT e9) (cwV 2 hts (gdV wm_463 wm_464 wm_14 wm_33 wm_465) rfl rfl rfl (by decide +kernel) ⟨Nat.le_of_ble_eq_true rfl, Nat.le_of_ble_eq_true rfl⟩) i9 rfl rfl hl.1 rfl (Nat.le_of_ble_eq_true rfl) dX6_makeNeeded_29 ⟨(Nat.le_of_ble_eq_true rfl), (Nat.le_of_ble_eq_true rfl)⟩ (fun H locs I => ?_)
      refine W.cs (cells' := 0) (slots' := 0) rfl rfl ?_
      refine lv_aload_n hx hb dX6_makeNeeded_32 rfl (lv_at hl 0 rfl) ?_
      obtain ⟨v6, e9, hJ⟩ := rp_b hJ
      obtain ⟨f9, g9, e9⟩ := fR_s e9
      refine rp_get X I g9 e9 rfl wiX6 (by decide) wm_169 dX6_makeNeeded_33 ?_
      obtain ⟨u9, i9, hJ⟩ := rp_b hJ
      obtain ⟨f9, i9⟩ := isO_s i9
      obtain ⟨q7, e9, hJ⟩ := rp_b hJ
      refine rp_callV (As := []) (rest := []) X hN I (c_Crew_nextEnd hT e9) (cwV 0 hts (gdV wm_481 wm_482 wm_483 wm_37 wm_484) rfl rfl rfl (by decide +kernel) ⟨Nat.le_of_ble_eq_true rfl, Nat.le_of_ble_eq_true rfl⟩) i9 rfl rfl hl.1 rfl (Nat.le_of_ble_eq_true rfl) dX6_makeNeeded_36 ⟨(Nat.le_of_ble_eq_true rfl), (Nat.le_of_ble_eq_true rfl)⟩ (fun H locs I => ?_)
      refine W.cs (cells' := 0) (slots' := 0) rfl rfl ?_
      refine lv_istore (lv' := [(4, .int q7.1), (0, .ref x0), (1, .int x1), (2, .int x2), (3, .int x3)]) hx hb dX6_makeNeeded_39 hl (by decide) rfl (fun ls hl => ?_)
      refine lv_iload hx hb dX6_makeNeeded_41 (lv_at hl 0 rfl) ?_
      refine lv_iconst (v := -1) hx hb dX6_makeNeeded_43 (by decide) ?_
      refine lv_icmp_ne (tgt := 49) hx hb dX6_makeNeeded_44 (by decide) (fun c9 => ?_) (fun c9 => ?_)
      · rw [if_neg c9] at hJ
        refine lv_iload hx hb dX6_makeNeeded_49 (lv_at hl 0 rfl) ?_
        refine lv_istore_n (lv' := [(2, .int q7.1), (4, .int q7.1), (0, .ref x0), (1, .int x1), (3, .int x3)]) hx hb dX6_makeNeeded_51 rfl hl (by decide) rfl (fun ls hl => ?_)
        refine lv_iinc (v := (x3 + (1 : Int32))) (lv' := [(3, .int (x3 + (1 : Int32))), (2, .int q7.1), (4, .int q7.1), (0, .ref x0), (1, .int x1)]) hx hb dX6_makeNeeded_52 hl (k := 4) rfl rfl (by decide) rfl (fun ls hl => ?_)
        refine lv_goto (tgt := 11) hx hb dX6_makeNeeded_55 (by decide) ?_
        exact k11 _ _ _ _ _ _ _ _ hJ I (lv_sub hl [3, 4, 1, 0] rfl)
      · rw [if_pos c9] at hJ
        refine lv_iload_n hx hb dX6_makeNeeded_47 rfl (lv_at hl 3 rfl) ?_
        exact rp_iret X hr hJ I dX6_makeNeeded_48
set_option maxHeartbeats 4000000 in
set_option maxRecDepth 100000 in
theorem c_Desk_makeNeeded {l : Launch} {D : va_G} {tys : List (ClassId × FieldType)} {A : Nat → Prop} (hT : tys.map (fun q => q.2) = tyS) {N : Nat} {x0 : Nat} {x1 : Int32} {h : Hp} {res : (Int32 × Hp)} (hJ : J_Desk_makeNeeded N x0 x1 h = some res) : Ct l D vwCl tys A yX6_makeNeeded (Cond.code yX6_makeNeeded cX6_makeNeeded 5 (some .int) :: wsG) rmX6_makeNeeded [.ref x0, .int x1] h (some (.int res.1)) res.2 := by
  refine Met.ofW (cc := cX6_makeNeeded) (maxL := 5) (ret := (some .int)) (by decide) rfl ?_
  intro p e s m args below meth c s₁ B hml hv
  obtain ⟨rfl, hA, hR, hK, hN⟩ := hv
  have hr := B.returns
  have hts : ∀ w ∈ wsG, w.before [.ref x0, .int x1].toArray s = true := fun w hw => atoms_spec (ws := Cond.code yX6_makeNeeded cX6_makeNeeded 5 (some .int) :: wsG) B.pre w (List.mem_cons_of_mem _ hw)
  have X : Cx p s m [.ref x0, .int x1].toArray meth c D vwCl tys cX6_makeNeeded 5 RX6 wsG := ⟨⟨B.exec, B.bytes, hml, findClass_of_methodNamed B.named, hts⟩, hK, B.notSynchronized, hT⟩
  have hx := B.exec
  have hb := B.bytes
  have I : In D vwCl tys A s h s.heap [] := ⟨hR, va_S.rf, hA⟩
  have hl := lv_entry [.ref x0, .int x1] (n := 5) (Nat.le_of_ble_eq_true rfl)
  rw [lg_entry_eq]
  generalize (lg_sl [.ref x0, .int x1] ++ List.replicate (5 - (lg_sl [.ref x0, .int x1]).length) Slot.unset).toArray = ls at hl ⊢
  have hl : lv_has ls 5 [(0, .ref x0), (1, .int x1)] := hl
  have ho := X.1.2.2.2.1
  rw [J_Desk_makeNeeded] at hJ
  refine lv_aload_n hx hb dX6_makeNeeded_0 rfl (lv_at hl 0 rfl) ?_
  obtain ⟨v1, e9, hJ⟩ := rp_b hJ
  obtain ⟨f9, g9, e9⟩ := fR_s e9
  refine rp_get X I g9 e9 rfl wiX6 (by decide) wm_169 dX6_makeNeeded_1 ?_
  obtain ⟨u9, i9, hJ⟩ := rp_b hJ
  obtain ⟨f9, i9⟩ := isO_s i9
  obtain ⟨q2, e9, hJ⟩ := rp_b hJ
  refine rp_callV (As := []) (rest := []) X hN I (c_Crew_comeIn hT e9) (cwV 0 hts (gdV wm_423 wm_424 wm_425 wm_37 wm_426) rfl rfl rfl (by decide +kernel) ⟨Nat.le_of_ble_eq_true rfl, Nat.le_of_ble_eq_true rfl⟩) i9 rfl rfl hl.1 rfl (Nat.le_of_ble_eq_true rfl) dX6_makeNeeded_4 ⟨(Nat.le_of_ble_eq_true rfl), (Nat.le_of_ble_eq_true rfl)⟩ (fun H locs I => ?_)
  refine W.cs (cells' := 0) (slots' := 0) rfl rfl ?_
  refine lv_iconst (v := 0) hx hb dX6_makeNeeded_7 (by decide) ?_
  refine lv_istore_n (lv' := [(2, .int (0 : Int32)), (0, .ref x0), (1, .int x1)]) hx hb dX6_makeNeeded_8 rfl hl (by decide) rfl (fun ls hl => ?_)
  refine lv_iconst (v := 0) hx hb dX6_makeNeeded_9 (by decide) ?_
  refine lv_istore_n (lv' := [(3, .int (0 : Int32)), (2, .int (0 : Int32)), (0, .ref x0), (1, .int x1)]) hx hb dX6_makeNeeded_10 rfl hl (by decide) rfl (fun ls hl => ?_)
  exact w_Desk_makeNeeded_11 X hN hr N _ _ _ _ _ _ _ _ hJ I (lv_sub hl [2, 3, 1, 0] rfl)
def rmX6_countSteps : Room := { frames := 0, cells := 0, slots := 0, locals := 0 }
def J_Desk_countSteps_4 (N : Nat)  : Nat → Nat → Int32 → Int32 → Hp → Option (Int32 × Hp)
  | 0, _, _, _, _ => none
  | n + 1, x0, x1, x2, h =>
  if (40 : Int32) ≤ x2 then
  (some (x1, h))
  else
  ((fR h 6 x0 1).bind fun v1 =>
  (aR h 3 v1 x2).bind fun v2 =>
  (fI h 5 v2 0).bind fun v3 =>
  if v3 = 0 then
  ((J_Desk_countSteps_4 N n) x0 x1 (x2 + (1 : Int32)) h)
  else
  ((J_Desk_countSteps_4 N n) x0 (x1 + (1 : Int32)) (x2 + (1 : Int32)) h))
def J_Desk_countSteps (N : Nat) (x0 : Nat) (h : Hp) : Option (Int32 × Hp) :=
  J_Desk_countSteps_4 N N x0 (0 : Int32) (0 : Int32) h
set_option maxHeartbeats 4000000 in
set_option maxRecDepth 100000 in
theorem w_Desk_countSteps_4 (X : Cx p s m args meth c D vwCl tys cX6_countSteps 3 RX6 wsG) (hN : nwS s) (hr : meth.sig.returnType = (some .int)) {res : (Int32 × Hp)} {N : Nat}   : ∀ (n : Nat) (x0 : Nat) (x1 : Int32) (x2 : Int32)  (h : Hp) (H : Heap) (locs : List Loc) (ls : Array Slot), J_Desk_countSteps_4 N n x0 x1 x2 h = some res → In D vwCl tys A s h H locs → lv_has ls 3 [(0, .ref x0), (1, .int x1), (2, .int x2)] → W p l e rmX6_countSteps s m args below meth c H locs 0 0 (MQ below (Qr D vwCl tys A (some (.int res.1)) res.2) args s 0 0 A) (F0 m 4 ls []) := by
  have hx := X.1.1
  have hb := X.1.2.1
  have hml := X.1.2.2.1
  have ho := X.1.2.2.2.1
  have hts := X.1.2.2.2.2
  have hK := X.2.1
  have hT := X.2.2.2
  intro n
  induction n with
  | zero =>
    intro x0 x1 x2  h H locs ls hJ I hl
    exact nomatch (show (none : Option (Int32 × Hp)) = some res from hJ)
  | succ n k4 =>
    intro x0 x1 x2  h H locs ls hJ I hl
    rw [J_Desk_countSteps_4] at hJ
    refine lv_iload_n hx hb dX6_countSteps_4 rfl (lv_at hl 2 rfl) ?_
    refine lv_bipush (v := 40) hx hb dX6_countSteps_5 (by decide) ?_
    refine lv_icmp_ge (tgt := 31) hx hb dX6_countSteps_7 (by decide) (fun c9 => ?_) (fun c9 => ?_)
    · rw [if_pos c9] at hJ
      refine lv_iload_n hx hb dX6_countSteps_31 rfl (lv_at hl 1 rfl) ?_
      exact rp_iret X hr hJ I dX6_countSteps_32
    · rw [if_neg c9] at hJ
      refine lv_aload_n hx hb dX6_countSteps_10 rfl (lv_at hl 0 rfl) ?_
      obtain ⟨v1, e9, hJ⟩ := rp_b hJ
      obtain ⟨f9, g9, e9⟩ := fR_s e9
      refine rp_get X I g9 e9 rfl wiX6 (by decide) wm_167 dX6_countSteps_11 ?_
      refine lv_iload_n hx hb dX6_countSteps_14 rfl (lv_at hl 2 rfl) ?_
      obtain ⟨v2, e9, hJ⟩ := rp_b hJ
      refine rp_aald X I e9 rfl dX6_countSteps_15 ?_
      obtain ⟨v3, e9, hJ⟩ := rp_b hJ
      obtain ⟨f9, g9, e9⟩ := fI_s e9
      refine rp_getN (host := "BuildDesk") X I g9 e9 rfl wiX5 (by decide) (hN.1 _ (by decide +kernel)) dX6_countSteps_16 ?_
      refine lv_if_eq (tgt := 25) hx hb dX6_countSteps_19 (by decide) (fun c9 => ?_) (fun c9 => ?_)
      · rw [if_pos c9] at hJ
        refine lv_iinc (v := (x2 + (1 : Int32))) (lv' := [(2, .int (x2 + (1 : Int32))), (0, .ref x0), (1, .int x1)]) hx hb dX6_countSteps_25 hl (k := 2) rfl rfl (by decide) rfl (fun ls hl => ?_)
        refine lv_goto (tgt := 4) hx hb dX6_countSteps_28 (by decide) ?_
        exact k4 _ _ _ _ _ _ _ hJ I (lv_sub hl [1, 2, 0] rfl)
      · rw [if_neg c9] at hJ
        refine lv_iinc (v := (x1 + (1 : Int32))) (lv' := [(1, .int (x1 + (1 : Int32))), (0, .ref x0), (2, .int x2)]) hx hb dX6_countSteps_22 hl (k := 1) rfl rfl (by decide) rfl (fun ls hl => ?_)
        refine lv_iinc (v := (x2 + (1 : Int32))) (lv' := [(2, .int (x2 + (1 : Int32))), (1, .int (x1 + (1 : Int32))), (0, .ref x0)]) hx hb dX6_countSteps_25 hl (k := 2) rfl rfl (by decide) rfl (fun ls hl => ?_)
        refine lv_goto (tgt := 4) hx hb dX6_countSteps_28 (by decide) ?_
        exact k4 _ _ _ _ _ _ _ hJ I (lv_sub hl [2, 1, 0] rfl)
set_option maxHeartbeats 4000000 in
set_option maxRecDepth 100000 in
theorem c_Desk_countSteps {l : Launch} {D : va_G} {tys : List (ClassId × FieldType)} {A : Nat → Prop} (hT : tys.map (fun q => q.2) = tyS) {N : Nat} {x0 : Nat} {h : Hp} {res : (Int32 × Hp)} (hJ : J_Desk_countSteps N x0 h = some res) : Ct l D vwCl tys A yX6_countSteps (Cond.code yX6_countSteps cX6_countSteps 3 (some .int) :: wsG) rmX6_countSteps [.ref x0] h (some (.int res.1)) res.2 := by
  refine Met.ofW (cc := cX6_countSteps) (maxL := 3) (ret := (some .int)) (by decide) rfl ?_
  intro p e s m args below meth c s₁ B hml hv
  obtain ⟨rfl, hA, hR, hK, hN⟩ := hv
  have hr := B.returns
  have hts : ∀ w ∈ wsG, w.before [.ref x0].toArray s = true := fun w hw => atoms_spec (ws := Cond.code yX6_countSteps cX6_countSteps 3 (some .int) :: wsG) B.pre w (List.mem_cons_of_mem _ hw)
  have X : Cx p s m [.ref x0].toArray meth c D vwCl tys cX6_countSteps 3 RX6 wsG := ⟨⟨B.exec, B.bytes, hml, findClass_of_methodNamed B.named, hts⟩, hK, B.notSynchronized, hT⟩
  have hx := B.exec
  have hb := B.bytes
  have I : In D vwCl tys A s h s.heap [] := ⟨hR, va_S.rf, hA⟩
  have hl := lv_entry [.ref x0] (n := 3) (Nat.le_of_ble_eq_true rfl)
  rw [lg_entry_eq]
  generalize (lg_sl [.ref x0] ++ List.replicate (3 - (lg_sl [.ref x0]).length) Slot.unset).toArray = ls at hl ⊢
  have hl : lv_has ls 3 [(0, .ref x0)] := hl
  have ho := X.1.2.2.2.1
  rw [J_Desk_countSteps] at hJ
  refine lv_iconst (v := 0) hx hb dX6_countSteps_0 (by decide) ?_
  refine lv_istore_n (lv' := [(1, .int (0 : Int32)), (0, .ref x0)]) hx hb dX6_countSteps_1 rfl hl (by decide) rfl (fun ls hl => ?_)
  refine lv_iconst (v := 0) hx hb dX6_countSteps_2 (by decide) ?_
  refine lv_istore_n (lv' := [(2, .int (0 : Int32)), (1, .int (0 : Int32)), (0, .ref x0)]) hx hb dX6_countSteps_3 rfl hl (by decide) rfl (fun ls hl => ?_)
  exact w_Desk_countSteps_4 X hN hr N _ _ _ _ _ _ _ hJ I (lv_sub hl [2, 1, 0] rfl)
def rmX6_count : Room := { frames := 1, cells := 0, slots := 0, locals := 22 }
def J_Desk_count (N : Nat) (x0 : Nat) (x1 : Int32) (h : Hp) : Option (Int32 × Hp) :=
  if x1 = (0 : Int32) then
  ((fR h 6 x0 4).bind fun v1 =>
  (fI h 3 v1 0).bind fun v2 =>
  some (v2, h))
  else if x1 = (1 : Int32) then
  ((fR h 6 x0 4).bind fun v3 =>
  (fI h 3 v3 1).bind fun v4 =>
  some (v4, h))
  else if x1 = (2 : Int32) then
  ((fR h 6 x0 4).bind fun v5 =>
  (fI h 3 v5 2).bind fun v6 =>
  some (v6, h))
  else if x1 = (3 : Int32) then
  ((fR h 6 x0 4).bind fun v7 =>
  (fI h 3 v7 3).bind fun v8 =>
  some (v8, h))
  else if x1 = (4 : Int32) then
  ((fR h 6 x0 0).bind fun v9 =>
  (isO h 1 v9).bind fun _ =>
  (J_File_countFilled N v9 h).bind fun q10 =>
 some (q10.1, q10.2))
  else if x1 = (5 : Int32) then
  ((isO h 6 x0).bind fun _ =>
  (J_Desk_countSteps N x0 h).bind fun q11 =>
 some (q11.1, q11.2))
  else (some ((-1 : Int32), h))
set_option maxHeartbeats 4000000 in
set_option maxRecDepth 100000 in
theorem c_Desk_count {l : Launch} {D : va_G} {tys : List (ClassId × FieldType)} {A : Nat → Prop} (hT : tys.map (fun q => q.2) = tyS) {N : Nat} {x0 : Nat} {x1 : Int32} {h : Hp} {res : (Int32 × Hp)} (hJ : J_Desk_count N x0 x1 h = some res) : Ct l D vwCl tys A yX6_count (Cond.code yX6_count cX6_count 2 (some .int) :: wsG) rmX6_count [.ref x0, .int x1] h (some (.int res.1)) res.2 := by
  refine Met.ofW (cc := cX6_count) (maxL := 2) (ret := (some .int)) (by decide) rfl ?_
  intro p e s m args below meth c s₁ B hml hv
  obtain ⟨rfl, hA, hR, hK, hN⟩ := hv
  have hr := B.returns
  have hts : ∀ w ∈ wsG, w.before [.ref x0, .int x1].toArray s = true := fun w hw => atoms_spec (ws := Cond.code yX6_count cX6_count 2 (some .int) :: wsG) B.pre w (List.mem_cons_of_mem _ hw)
  have X : Cx p s m [.ref x0, .int x1].toArray meth c D vwCl tys cX6_count 2 RX6 wsG := ⟨⟨B.exec, B.bytes, hml, findClass_of_methodNamed B.named, hts⟩, hK, B.notSynchronized, hT⟩
  have hx := B.exec
  have hb := B.bytes
  have I : In D vwCl tys A s h s.heap [] := ⟨hR, va_S.rf, hA⟩
  have hl := lv_entry [.ref x0, .int x1] (n := 2) (Nat.le_of_ble_eq_true rfl)
  rw [lg_entry_eq]
  generalize (lg_sl [.ref x0, .int x1] ++ List.replicate (2 - (lg_sl [.ref x0, .int x1]).length) Slot.unset).toArray = ls at hl ⊢
  have hl : lv_has ls 2 [(0, .ref x0), (1, .int x1)] := hl
  have ho := X.1.2.2.2.1
  rw [J_Desk_count] at hJ
  refine lv_iload_n hx hb dX6_count_0 rfl (lv_at hl 1 rfl) ?_
  by_cases c9 : x1 = (0 : Int32)
  · rw [if_pos c9] at hJ
    refine lv_tableIn (tgt := 40) (off := 39) hx hb dX6_count_1 (by rw [c9]; decide) (by rw [c9]; decide) (by rw [c9]; decide) (by decide) ?_
    refine lv_aload_n hx hb dX6_count_40 rfl (lv_at hl 0 rfl) ?_
    obtain ⟨v1, e9, hJ⟩ := rp_b hJ
    obtain ⟨f9, g9, e9⟩ := fR_s e9
    refine rp_get X I g9 e9 rfl wiX6 (by decide) wm_170 dX6_count_41 ?_
    obtain ⟨v2, e9, hJ⟩ := rp_b hJ
    obtain ⟨f9, g9, e9⟩ := fI_s e9
    refine rp_getN (host := "BuildDesk") X I g9 e9 rfl wiX3 (by decide) (hN.1 _ (by decide +kernel)) dX6_count_44 ?_
    exact rp_iret X hr hJ I dX6_count_47
  rw [if_neg c9] at hJ
  have n0 := c9
  by_cases c9 : x1 = (1 : Int32)
  · rw [if_pos c9] at hJ
    refine lv_tableIn (tgt := 48) (off := 47) hx hb dX6_count_1 (by rw [c9]; decide) (by rw [c9]; decide) (by rw [c9]; decide) (by decide) ?_
    refine lv_aload_n hx hb dX6_count_48 rfl (lv_at hl 0 rfl) ?_
    obtain ⟨v3, e9, hJ⟩ := rp_b hJ
    obtain ⟨f9, g9, e9⟩ := fR_s e9
    refine rp_get X I g9 e9 rfl wiX6 (by decide) wm_170 dX6_count_49 ?_
    obtain ⟨v4, e9, hJ⟩ := rp_b hJ
    obtain ⟨f9, g9, e9⟩ := fI_s e9
    refine rp_getN (host := "BuildDesk") X I g9 e9 rfl wiX3 (by decide) (hN.1 _ (by decide +kernel)) dX6_count_52 ?_
    exact rp_iret X hr hJ I dX6_count_55
  rw [if_neg c9] at hJ
  have n1 := c9
  by_cases c9 : x1 = (2 : Int32)
  · rw [if_pos c9] at hJ
    refine lv_tableIn (tgt := 56) (off := 55) hx hb dX6_count_1 (by rw [c9]; decide) (by rw [c9]; decide) (by rw [c9]; decide) (by decide) ?_
    refine lv_aload_n hx hb dX6_count_56 rfl (lv_at hl 0 rfl) ?_
    obtain ⟨v5, e9, hJ⟩ := rp_b hJ
    obtain ⟨f9, g9, e9⟩ := fR_s e9
    refine rp_get X I g9 e9 rfl wiX6 (by decide) wm_170 dX6_count_57 ?_
    obtain ⟨v6, e9, hJ⟩ := rp_b hJ
    obtain ⟨f9, g9, e9⟩ := fI_s e9
    refine rp_getN (host := "BuildDesk") X I g9 e9 rfl wiX3 (by decide) (hN.1 _ (by decide +kernel)) dX6_count_60 ?_
    exact rp_iret X hr hJ I dX6_count_63
  rw [if_neg c9] at hJ
  have n2 := c9
  by_cases c9 : x1 = (3 : Int32)
  · rw [if_pos c9] at hJ
    refine lv_tableIn (tgt := 64) (off := 63) hx hb dX6_count_1 (by rw [c9]; decide) (by rw [c9]; decide) (by rw [c9]; decide) (by decide) ?_
    refine lv_aload_n hx hb dX6_count_64 rfl (lv_at hl 0 rfl) ?_
    obtain ⟨v7, e9, hJ⟩ := rp_b hJ
    obtain ⟨f9, g9, e9⟩ := fR_s e9
    refine rp_get X I g9 e9 rfl wiX6 (by decide) wm_170 dX6_count_65 ?_
    obtain ⟨v8, e9, hJ⟩ := rp_b hJ
    obtain ⟨f9, g9, e9⟩ := fI_s e9
    refine rp_getN (host := "BuildDesk") X I g9 e9 rfl wiX3 (by decide) (hN.1 _ (by decide +kernel)) dX6_count_68 ?_
    exact rp_iret X hr hJ I dX6_count_71
  rw [if_neg c9] at hJ
  have n3 := c9
  by_cases c9 : x1 = (4 : Int32)
  · rw [if_pos c9] at hJ
    refine lv_tableIn (tgt := 72) (off := 71) hx hb dX6_count_1 (by rw [c9]; decide) (by rw [c9]; decide) (by rw [c9]; decide) (by decide) ?_
    refine lv_aload_n hx hb dX6_count_72 rfl (lv_at hl 0 rfl) ?_
    obtain ⟨v9, e9, hJ⟩ := rp_b hJ
    obtain ⟨f9, g9, e9⟩ := fR_s e9
    refine rp_get X I g9 e9 rfl wiX6 (by decide) wm_166 dX6_count_73 ?_
    obtain ⟨u9, i9, hJ⟩ := rp_b hJ
    obtain ⟨f9, i9⟩ := isO_s i9
    obtain ⟨q10, e9, hJ⟩ := rp_b hJ
    refine rp_callV (As := []) (rest := []) X hN I (c_File_countFilled hT e9) (cwV 0 hts (gdV wm_252 wm_253 wm_254 wm_34 wm_255) rfl rfl rfl (by decide +kernel) ⟨Nat.le_of_ble_eq_true rfl, Nat.le_of_ble_eq_true rfl⟩) i9 rfl rfl hl.1 rfl (Nat.le_of_ble_eq_true rfl) dX6_count_76 ⟨(Nat.le_of_ble_eq_true rfl), (Nat.le_of_ble_eq_true rfl)⟩ (fun H locs I => ?_)
    refine W.cs (cells' := 0) (slots' := 0) rfl rfl ?_
    exact rp_iret X hr hJ I dX6_count_79
  rw [if_neg c9] at hJ
  have n4 := c9
  by_cases c9 : x1 = (5 : Int32)
  · rw [if_pos c9] at hJ
    refine lv_tableIn (tgt := 80) (off := 79) hx hb dX6_count_1 (by rw [c9]; decide) (by rw [c9]; decide) (by rw [c9]; decide) (by decide) ?_
    refine lv_aload_n hx hb dX6_count_80 rfl (lv_at hl 0 rfl) ?_
    obtain ⟨u9, i9, hJ⟩ := rp_b hJ
    obtain ⟨f9, i9⟩ := isO_s i9
    obtain ⟨q11, e9, hJ⟩ := rp_b hJ
    refine rp_callV (As := []) (rest := []) X hN I (c_Desk_countSteps hT e9) (cwV 0 hts (gdV wm_256 wm_257 wm_2 wm_33 wm_258) rfl rfl rfl (by decide +kernel) ⟨Nat.le_of_ble_eq_true rfl, Nat.le_of_ble_eq_true rfl⟩) i9 rfl rfl hl.1 rfl (Nat.le_of_ble_eq_true rfl) dX6_count_81 ⟨(Nat.le_of_ble_eq_true rfl), (Nat.le_of_ble_eq_true rfl)⟩ (fun H locs I => ?_)
    refine W.cs (cells' := 0) (slots' := 0) rfl rfl ?_
    exact rp_iret X hr hJ I dX6_count_84
  rw [if_neg c9] at hJ
  have n5 := c9
  refine lv_tableOut (tgt := 85) hx hb dX6_count_1 (rp_swOut 6 (by decide) (fun k hk => match k, hk with | 0, _ => n0  | 1, _ => n1  | 2, _ => n2  | 3, _ => n3  | 4, _ => n4  | 5, _ => n5 | k + 6, h => absurd h (by omega))) (by decide) ?_
  refine lv_iconst (v := -1) hx hb dX6_count_85 (by decide) ?_
  exact rp_iret X hr hJ I dX6_count_86
def rmX6_reason : Room := { frames := 3, cells := 0, slots := 0, locals := 65 }
def J_Desk_reason (N : Nat) (x0 : Nat) (x1 : Int32) (h : Hp) : Option (Int32 × Hp) :=
  (isO h 6 x0).bind fun _ =>
  (J_Desk_isThere N x0 x1 h).bind fun q1 =>
 if q1.1 = 0 then
  (some ((-1 : Int32), q1.2))
  else
  ((fR q1.2 6 x0 1).bind fun v2 =>
  (aR q1.2 3 v2 x1).bind fun v3 =>
  (fR q1.2 6 x0 0).bind fun v4 =>
  (isO q1.2 5 v3).bind fun _ =>
  (J_Step_whyDue N v3 v4 q1.2).bind fun q5 =>
 some (q5.1, q5.2))
set_option maxHeartbeats 4000000 in
set_option maxRecDepth 100000 in
theorem c_Desk_reason {l : Launch} {D : va_G} {tys : List (ClassId × FieldType)} {A : Nat → Prop} (hT : tys.map (fun q => q.2) = tyS) {N : Nat} {x0 : Nat} {x1 : Int32} {h : Hp} {res : (Int32 × Hp)} (hJ : J_Desk_reason N x0 x1 h = some res) : Ct l D vwCl tys A yX6_reason (Cond.code yX6_reason cX6_reason 2 (some .int) :: wsG) rmX6_reason [.ref x0, .int x1] h (some (.int res.1)) res.2 := by
  refine Met.ofW (cc := cX6_reason) (maxL := 2) (ret := (some .int)) (by decide) rfl ?_
  intro p e s m args below meth c s₁ B hml hv
  obtain ⟨rfl, hA, hR, hK, hN⟩ := hv
  have hr := B.returns
  have hts : ∀ w ∈ wsG, w.before [.ref x0, .int x1].toArray s = true := fun w hw => atoms_spec (ws := Cond.code yX6_reason cX6_reason 2 (some .int) :: wsG) B.pre w (List.mem_cons_of_mem _ hw)
  have X : Cx p s m [.ref x0, .int x1].toArray meth c D vwCl tys cX6_reason 2 RX6 wsG := ⟨⟨B.exec, B.bytes, hml, findClass_of_methodNamed B.named, hts⟩, hK, B.notSynchronized, hT⟩
  have hx := B.exec
  have hb := B.bytes
  have I : In D vwCl tys A s h s.heap [] := ⟨hR, va_S.rf, hA⟩
  have hl := lv_entry [.ref x0, .int x1] (n := 2) (Nat.le_of_ble_eq_true rfl)
  rw [lg_entry_eq]
  generalize (lg_sl [.ref x0, .int x1] ++ List.replicate (2 - (lg_sl [.ref x0, .int x1]).length) Slot.unset).toArray = ls at hl ⊢
  have hl : lv_has ls 2 [(0, .ref x0), (1, .int x1)] := hl
  have ho := X.1.2.2.2.1
  rw [J_Desk_reason] at hJ
  refine lv_aload_n hx hb dX6_reason_0 rfl (lv_at hl 0 rfl) ?_
  refine lv_iload_n hx hb dX6_reason_1 rfl (lv_at hl 1 rfl) ?_
  obtain ⟨u9, i9, hJ⟩ := rp_b hJ
  obtain ⟨f9, i9⟩ := isO_s i9
  obtain ⟨q1, e9, hJ⟩ := rp_b hJ
  refine rp_callV (As := [.int x1]) (rest := []) X hN I (c_Desk_isThere hT e9) (cwV 1 hts (gdV wm_194 wm_195 wm_0 wm_33 wm_196) rfl rfl rfl (by decide +kernel) ⟨Nat.le_of_ble_eq_true rfl, Nat.le_of_ble_eq_true rfl⟩) i9 rfl rfl hl.1 rfl (Nat.le_of_ble_eq_true rfl) dX6_reason_2 ⟨(Nat.le_of_ble_eq_true rfl), (Nat.le_of_ble_eq_true rfl)⟩ (fun H locs I => ?_)
  refine W.cs (cells' := 0) (slots' := 0) rfl rfl ?_
  refine lv_if_eq (tgt := 24) hx hb dX6_reason_5 (by decide) (fun c9 => ?_) (fun c9 => ?_)
  · rw [if_pos c9] at hJ
    refine lv_iconst (v := -1) hx hb dX6_reason_24 (by decide) ?_
    exact rp_iret X hr hJ I dX6_reason_25
  · rw [if_neg c9] at hJ
    refine lv_aload_n hx hb dX6_reason_8 rfl (lv_at hl 0 rfl) ?_
    obtain ⟨v2, e9, hJ⟩ := rp_b hJ
    obtain ⟨f9, g9, e9⟩ := fR_s e9
    refine rp_get X I g9 e9 rfl wiX6 (by decide) wm_167 dX6_reason_9 ?_
    refine lv_iload_n hx hb dX6_reason_12 rfl (lv_at hl 1 rfl) ?_
    obtain ⟨v3, e9, hJ⟩ := rp_b hJ
    refine rp_aald X I e9 rfl dX6_reason_13 ?_
    refine lv_aload_n hx hb dX6_reason_14 rfl (lv_at hl 0 rfl) ?_
    obtain ⟨v4, e9, hJ⟩ := rp_b hJ
    obtain ⟨f9, g9, e9⟩ := fR_s e9
    refine rp_get X I g9 e9 rfl wiX6 (by decide) wm_166 dX6_reason_15 ?_
    obtain ⟨u9, i9, hJ⟩ := rp_b hJ
    obtain ⟨f9, i9⟩ := isO_s i9
    obtain ⟨q5, e9, hJ⟩ := rp_b hJ
    refine rp_callV (As := [.ref v4]) (rest := []) X hN I (c_Step_whyDue hT e9) (cwV 1 hts (gdV wm_263 wm_264 wm_265 wm_35 wm_266) rfl rfl rfl (by decide +kernel) ⟨Nat.le_of_ble_eq_true rfl, Nat.le_of_ble_eq_true rfl⟩) i9 rfl rfl hl.1 rfl (Nat.le_of_ble_eq_true rfl) dX6_reason_18 ⟨(Nat.le_of_ble_eq_true rfl), (Nat.le_of_ble_eq_true rfl)⟩ (fun H locs I => ?_)
    refine W.cs (cells' := 0) (slots' := 0) rfl rfl ?_
    refine lv_goto (tgt := 25) hx hb dX6_reason_21 (by decide) ?_
    exact rp_iret X hr hJ I dX6_reason_25
end GW
