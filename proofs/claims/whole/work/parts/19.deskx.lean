section GW
variable {p : Program} {l : Launch} {e : Env} {s : State} {m : MethodId} {args : Array Value} {below : List Frame} {meth : Method} {c : Code} {D : va_G} {tys : List (ClassId × FieldType)} {A : Nat → Prop}
def rmX6_build : Room := { frames := 7, cells := 1, slots := 6, locals := 156 }
def J_Desk_build (N : Nat) (x0 : Nat) (x1 : Int32) (x2 : Int32) (h : Hp) : Option ((Nat ⊕ Int32) × Hp) :=
  (J_Desk_isFile N x1 h).bind fun q1 =>
 if q1.1 = 0 then
  (some (.inl 0, (q1.2.1 + 1, q1.2.2)))
  else
  (if x2 < (1 : Int32) then
  (some (.inl 0, (q1.2.1 + 1, q1.2.2)))
  else
  (if x2 ≤ (8 : Int32) then
  ((fR q1.2 6 x0 2).bind fun v2 =>
  (fR q1.2 6 x0 0).bind fun v3 =>
  (isO q1.2 1 v3).bind fun _ =>
  (J_File_makerOf N v3 x1 q1.2).bind fun q4 =>
 (fR q4.2 6 x0 1).bind fun v5 =>
  (fR q4.2 6 x0 0).bind fun v6 =>
  (isO q4.2 2 v2).bind fun _ =>
  (J_Plan_findNeeded N v2 q4.1 v5 v6 q4.2).bind fun q7 =>
 (fR q7.2 6 x0 2).bind fun v8 =>
  (isO q7.2 2 v8).bind fun _ =>
  (J_Plan_lineUp N v8 q7.2).bind fun q9 =>
 if q9.1 = 0 then
  ((fR q9.2 6 x0 5).bind fun v18 =>
  (fR q9.2 6 x0 2).bind fun v19 =>
  (isO q9.2 4 v18).bind fun _ =>
  (J_Round_find N v18 v19 q9.2).bind fun q20 =>
 some (.inl 1, (q20.2.1 + 1, q20.2.2)))
  else
  ((isO q9.2 6 x0).bind fun _ =>
  (J_Desk_sourceLacks N x0 x1 q9.2).bind fun q10 =>
 if q10.1 = 0 then
  ((fR q10.2 6 x0 2).bind fun v11 =>
  (fR q10.2 6 x0 1).bind fun v12 =>
  (isO q10.2 2 v11).bind fun _ =>
  (J_Plan_rankSteps N v11 v12 q10.2).bind fun q13 =>
 (fR q13.2 6 x0 4).bind fun v14 =>
  (fR q13.2 6 x0 2).bind fun v15 =>
  (isO q13.2 3 v14).bind fun _ =>
  (J_Rep_open N v14 v15 q13.2).bind fun q16 =>
 (isO q16.2 6 x0).bind fun _ =>
  (J_Desk_makeNeeded N x0 x2 q16.2).bind fun q17 =>
 some (.inr q17.1, q17.2))
  else
  (some (.inl 1, (q10.2.1 + 1, q10.2.2)))))
  else
  (some (.inl 0, (q1.2.1 + 1, q1.2.2)))))
set_option maxHeartbeats 4000000 in
set_option maxRecDepth 100000 in
theorem c_Desk_build {l : Launch} {D : va_G} {tys : List (ClassId × FieldType)} {A : Nat → Prop} (hT : tys.map (fun q => q.2) = tyS) {N : Nat} {x0 : Nat} {x1 : Int32} {x2 : Int32} {h : Hp} {res : ((Nat ⊕ Int32) × Hp)} (hJ : J_Desk_build N x0 x1 x2 h = some res) (hfl : l.flags = flags0) : CtX l D vwCl tys A yX6_build (Cond.code yX6_build cX6_build 3 (some .int) :: wsG) rmX6_build [.ref x0, .int x1, .int x2] h res := by
  refine CtX.ofW (cc := cX6_build) (maxL := 3) (ret := (some .int)) (by decide) rfl ?_
  intro p e s m args below meth c s₁ B hml hv
  obtain ⟨rfl, ⟨hA, hR, hK, hN⟩, hth⟩ := hv
  have hr := B.returns
  have hts : ∀ w ∈ wsG, w.before [.ref x0, .int x1, .int x2].toArray s = true := fun w hw => atoms_spec (ws := Cond.code yX6_build cX6_build 3 (some .int) :: wsG) B.pre w (List.mem_cons_of_mem _ hw)
  have X : Cx p s m [.ref x0, .int x1, .int x2].toArray meth c D vwCl tys cX6_build 3 RX6 wsG := ⟨⟨B.exec, B.bytes, hml, findClass_of_methodNamed B.named, hts⟩, hK, B.notSynchronized, hT⟩
  have hex : c.exceptionTable.isEmpty = true := B.noHandlers (atoms_spec (ws := Cond.code yX6_build cX6_build 3 (some .int) :: wsG) B.pre _ List.mem_cons_self)
  have hx := B.exec
  have hb := B.bytes
  have I : In D vwCl tys A s h s.heap [] := ⟨hR, va_S.rf, hA⟩
  have hl := lv_entry [.ref x0, .int x1, .int x2] (n := 3) (Nat.le_of_ble_eq_true rfl)
  rw [lg_entry_eq]
  generalize (lg_sl [.ref x0, .int x1, .int x2] ++ List.replicate (3 - (lg_sl [.ref x0, .int x1, .int x2]).length) Slot.unset).toArray = ls at hl ⊢
  have hl : lv_has ls 3 [(0, .ref x0), (1, .int x1), (2, .int x2)] := hl
  have ho := X.1.2.2.2.1
  rw [J_Desk_build] at hJ
  refine lv_iload_n hx hb dX6_build_0 rfl (lv_at hl 1 rfl) ?_
  obtain ⟨q1, e9, hJ⟩ := rp_b hJ
  refine rp_callS (As := [.int x1]) (rest := []) X hN I (c_Desk_isFile hT e9) (cwS 1 hts (gdS wm_197 wm_198 wm_33 wm_199) rfl rfl rfl (by decide +kernel) ⟨Nat.le_of_ble_eq_true rfl, Nat.le_of_ble_eq_true rfl⟩) rfl hl.1 rfl (Nat.le_of_ble_eq_true rfl) dX6_build_1 ⟨(Nat.le_of_ble_eq_true rfl), (Nat.le_of_ble_eq_true rfl)⟩ (fun H locs I => ?_)
  refine W.cs (cells' := 0) (slots' := 0) rfl rfl ?_
  refine lv_if_ne (tgt := 17) hx hb dX6_build_4 (by decide) (fun c9 => ?_) (fun c9 => ?_)
  · rw [if_neg c9] at hJ
    refine lv_iload_n hx hb dX6_build_17 rfl (lv_at hl 2 rfl) ?_
    refine lv_iconst (v := 1) hx hb dX6_build_18 (by decide) ?_
    refine lv_icmp_lt (tgt := 28) hx hb dX6_build_19 (by decide) (fun c9 => ?_) (fun c9 => ?_)
    · rw [if_pos c9] at hJ
      exact rp_throw (k := 0) (tx := "workers are 1 to 8") X hfl hex hth I hl.1 hJ wm_293 wm_294 wm_44 th_92 (by decide +kernel) (by decide +kernel) (by decide +kernel) (by decide +kernel) (by decide +kernel) (by decide +kernel) dX6_build_28 dX6_build_31 dX6_build_32 dX6_build_34 dX6_build_37 (Nat.le_of_ble_eq_true rfl) (Nat.le_of_ble_eq_true rfl) (Nat.le_of_ble_eq_true rfl) (Nat.le_of_ble_eq_true rfl)
    · rw [if_neg c9] at hJ
      refine lv_iload_n hx hb dX6_build_22 rfl (lv_at hl 2 rfl) ?_
      refine lv_bipush (v := 8) hx hb dX6_build_23 (by decide) ?_
      refine lv_icmp_le (tgt := 38) hx hb dX6_build_25 (by decide) (fun c9 => ?_) (fun c9 => ?_)
      · rw [if_pos c9] at hJ
        refine lv_aload_n hx hb dX6_build_38 rfl (lv_at hl 0 rfl) ?_
        obtain ⟨v2, e9, hJ⟩ := rp_b hJ
        obtain ⟨f9, g9, e9⟩ := fR_s e9
        refine rp_get X I g9 e9 rfl wiX6 (by decide) wm_168 dX6_build_39 ?_
        refine lv_aload_n hx hb dX6_build_42 rfl (lv_at hl 0 rfl) ?_
        obtain ⟨v3, e9, hJ⟩ := rp_b hJ
        obtain ⟨f9, g9, e9⟩ := fR_s e9
        refine rp_get X I g9 e9 rfl wiX6 (by decide) wm_166 dX6_build_43 ?_
        refine lv_iload_n hx hb dX6_build_46 rfl (lv_at hl 1 rfl) ?_
        obtain ⟨u9, i9, hJ⟩ := rp_b hJ
        obtain ⟨f9, i9⟩ := isO_s i9
        obtain ⟨q4, e9, hJ⟩ := rp_b hJ
        refine rp_callV (As := [.int x1]) (rest := [.ref v2]) X hN I (c_File_makerOf hT e9) (cwV 1 hts (gdV wm_211 wm_212 wm_213 wm_34 wm_214) rfl rfl rfl (by decide +kernel) ⟨Nat.le_of_ble_eq_true rfl, Nat.le_of_ble_eq_true rfl⟩) i9 rfl rfl hl.1 rfl (Nat.le_of_ble_eq_true rfl) dX6_build_47 ⟨(Nat.le_of_ble_eq_true rfl), (Nat.le_of_ble_eq_true rfl)⟩ (fun H locs I => ?_)
        refine W.cs (cells' := 0) (slots' := 0) rfl rfl ?_
        refine lv_aload_n hx hb dX6_build_50 rfl (lv_at hl 0 rfl) ?_
        obtain ⟨v5, e9, hJ⟩ := rp_b hJ
        obtain ⟨f9, g9, e9⟩ := fR_s e9
        refine rp_get X I g9 e9 rfl wiX6 (by decide) wm_167 dX6_build_51 ?_
        refine lv_aload_n hx hb dX6_build_54 rfl (lv_at hl 0 rfl) ?_
        obtain ⟨v6, e9, hJ⟩ := rp_b hJ
        obtain ⟨f9, g9, e9⟩ := fR_s e9
        refine rp_get X I g9 e9 rfl wiX6 (by decide) wm_166 dX6_build_55 ?_
        obtain ⟨u9, i9, hJ⟩ := rp_b hJ
        obtain ⟨f9, i9⟩ := isO_s i9
        obtain ⟨q7, e9, hJ⟩ := rp_b hJ
        refine rp_callV (As := [.int q4.1, .ref v5, .ref v6]) (rest := []) X hN I (c_Plan_findNeeded hT e9) (cwV 3 hts (gdV wm_342 wm_343 wm_344 wm_36 wm_345) rfl rfl rfl (by decide +kernel) ⟨Nat.le_of_ble_eq_true rfl, Nat.le_of_ble_eq_true rfl⟩) i9 rfl rfl hl.1 rfl (Nat.le_of_ble_eq_true rfl) dX6_build_58 ⟨(Nat.le_of_ble_eq_true rfl), (Nat.le_of_ble_eq_true rfl)⟩ (fun H locs I => ?_)
        refine W.cs (cells' := 0) (slots' := 0) rfl rfl ?_
        refine lv_aload_n hx hb dX6_build_61 rfl (lv_at hl 0 rfl) ?_
        obtain ⟨v8, e9, hJ⟩ := rp_b hJ
        obtain ⟨f9, g9, e9⟩ := fR_s e9
        refine rp_get X I g9 e9 rfl wiX6 (by decide) wm_168 dX6_build_62 ?_
        obtain ⟨u9, i9, hJ⟩ := rp_b hJ
        obtain ⟨f9, i9⟩ := isO_s i9
        obtain ⟨q9, e9, hJ⟩ := rp_b hJ
        refine rp_callV (As := []) (rest := []) X hN I (c_Plan_lineUp hT e9) (cwV 0 hts (gdV wm_356 wm_357 wm_358 wm_36 wm_359) rfl rfl rfl (by decide +kernel) ⟨Nat.le_of_ble_eq_true rfl, Nat.le_of_ble_eq_true rfl⟩) i9 rfl rfl hl.1 rfl (Nat.le_of_ble_eq_true rfl) dX6_build_65 ⟨(Nat.le_of_ble_eq_true rfl), (Nat.le_of_ble_eq_true rfl)⟩ (fun H locs I => ?_)
        refine W.cs (cells' := 0) (slots' := 0) rfl rfl ?_
        refine lv_if_ne (tgt := 92) hx hb dX6_build_68 (by decide) (fun c9 => ?_) (fun c9 => ?_)
        · rw [if_neg c9] at hJ
          refine lv_aload_n hx hb dX6_build_92 rfl (lv_at hl 0 rfl) ?_
          refine lv_iload_n hx hb dX6_build_93 rfl (lv_at hl 1 rfl) ?_
          obtain ⟨u9, i9, hJ⟩ := rp_b hJ
          obtain ⟨f9, i9⟩ := isO_s i9
          obtain ⟨q10, e9, hJ⟩ := rp_b hJ
          refine rp_callV (As := [.int x1]) (rest := []) X hN I (c_Desk_sourceLacks hT e9) (cwV 1 hts (gdV wm_392 wm_393 wm_9 wm_33 wm_394) rfl rfl rfl (by decide +kernel) ⟨Nat.le_of_ble_eq_true rfl, Nat.le_of_ble_eq_true rfl⟩) i9 rfl rfl hl.1 rfl (Nat.le_of_ble_eq_true rfl) dX6_build_94 ⟨(Nat.le_of_ble_eq_true rfl), (Nat.le_of_ble_eq_true rfl)⟩ (fun H locs I => ?_)
          refine W.cs (cells' := 0) (slots' := 0) rfl rfl ?_
          refine lv_if_eq (tgt := 110) hx hb dX6_build_97 (by decide) (fun c9 => ?_) (fun c9 => ?_)
          · rw [if_pos c9] at hJ
            refine lv_aload_n hx hb dX6_build_110 rfl (lv_at hl 0 rfl) ?_
            obtain ⟨v11, e9, hJ⟩ := rp_b hJ
            obtain ⟨f9, g9, e9⟩ := fR_s e9
            refine rp_get X I g9 e9 rfl wiX6 (by decide) wm_168 dX6_build_111 ?_
            refine lv_aload_n hx hb dX6_build_114 rfl (lv_at hl 0 rfl) ?_
            obtain ⟨v12, e9, hJ⟩ := rp_b hJ
            obtain ⟨f9, g9, e9⟩ := fR_s e9
            refine rp_get X I g9 e9 rfl wiX6 (by decide) wm_167 dX6_build_115 ?_
            obtain ⟨u9, i9, hJ⟩ := rp_b hJ
            obtain ⟨f9, i9⟩ := isO_s i9
            obtain ⟨q13, e9, hJ⟩ := rp_b hJ
            refine rp_callV (As := [.ref v12]) (rest := []) X hN I (c_Plan_rankSteps hT e9) (cwV 1 hts (gdV wm_405 wm_406 wm_407 wm_36 wm_408) rfl rfl rfl (by decide +kernel) ⟨Nat.le_of_ble_eq_true rfl, Nat.le_of_ble_eq_true rfl⟩) i9 rfl rfl hl.1 rfl (Nat.le_of_ble_eq_true rfl) dX6_build_118 ⟨(Nat.le_of_ble_eq_true rfl), (Nat.le_of_ble_eq_true rfl)⟩ (fun H locs I => ?_)
            refine W.cs (cells' := 0) (slots' := 0) rfl rfl ?_
            refine lv_aload_n hx hb dX6_build_121 rfl (lv_at hl 0 rfl) ?_
            obtain ⟨v14, e9, hJ⟩ := rp_b hJ
            obtain ⟨f9, g9, e9⟩ := fR_s e9
            refine rp_get X I g9 e9 rfl wiX6 (by decide) wm_170 dX6_build_122 ?_
            refine lv_aload_n hx hb dX6_build_125 rfl (lv_at hl 0 rfl) ?_
            obtain ⟨v15, e9, hJ⟩ := rp_b hJ
            obtain ⟨f9, g9, e9⟩ := fR_s e9
            refine rp_get X I g9 e9 rfl wiX6 (by decide) wm_168 dX6_build_126 ?_
            obtain ⟨u9, i9, hJ⟩ := rp_b hJ
            obtain ⟨f9, i9⟩ := isO_s i9
            obtain ⟨q16, e9, hJ⟩ := rp_b hJ
            refine rp_callV (As := [.ref v15]) (rest := []) X hN I (c_Rep_open hT e9) (cwV 1 hts (gdV wm_412 wm_413 wm_414 wm_38 wm_415) rfl rfl rfl (by decide +kernel) ⟨Nat.le_of_ble_eq_true rfl, Nat.le_of_ble_eq_true rfl⟩) i9 rfl rfl hl.1 rfl (Nat.le_of_ble_eq_true rfl) dX6_build_129 ⟨(Nat.le_of_ble_eq_true rfl), (Nat.le_of_ble_eq_true rfl)⟩ (fun H locs I => ?_)
            refine W.cs (cells' := 0) (slots' := 0) rfl rfl ?_
            refine lv_aload_n hx hb dX6_build_132 rfl (lv_at hl 0 rfl) ?_
            refine lv_iload_n hx hb dX6_build_133 rfl (lv_at hl 2 rfl) ?_
            obtain ⟨u9, i9, hJ⟩ := rp_b hJ
            obtain ⟨f9, i9⟩ := isO_s i9
            obtain ⟨q17, e9, hJ⟩ := rp_b hJ
            refine rp_callV (As := [.int x2]) (rest := []) X hN I (c_Desk_makeNeeded hT e9) (cwV 1 hts (gdV wm_420 wm_421 wm_10 wm_33 wm_422) rfl rfl rfl (by decide +kernel) ⟨Nat.le_of_ble_eq_true rfl, Nat.le_of_ble_eq_true rfl⟩) i9 rfl rfl hl.1 rfl (Nat.le_of_ble_eq_true rfl) dX6_build_134 ⟨(Nat.le_of_ble_eq_true rfl), (Nat.le_of_ble_eq_true rfl)⟩ (fun H locs I => ?_)
            refine W.cs (cells' := 0) (slots' := 0) rfl rfl ?_
            refine W.widen (k := 1) (n := 6) (Nat.le_of_ble_eq_true rfl) (Nat.le_of_ble_eq_true rfl) ?_
            exact rp_xret X hr hJ I dX6_build_137
          · rw [if_neg c9] at hJ
            exact rp_throw (k := 1) (tx := "a source has no content") X hfl hex hth I hl.1 hJ wm_378 wm_379 wm_45 th_117 (by decide +kernel) (by decide +kernel) (by decide +kernel) (by decide +kernel) (by decide +kernel) (by decide +kernel) dX6_build_100 dX6_build_103 dX6_build_104 dX6_build_106 dX6_build_109 (Nat.le_of_ble_eq_true rfl) (Nat.le_of_ble_eq_true rfl) (Nat.le_of_ble_eq_true rfl) (Nat.le_of_ble_eq_true rfl)
        · rw [if_pos c9] at hJ
          refine lv_aload_n hx hb dX6_build_71 rfl (lv_at hl 0 rfl) ?_
          obtain ⟨v18, e9, hJ⟩ := rp_b hJ
          obtain ⟨f9, g9, e9⟩ := fR_s e9
          refine rp_get X I g9 e9 rfl wiX6 (by decide) wm_171 dX6_build_72 ?_
          refine lv_aload_n hx hb dX6_build_75 rfl (lv_at hl 0 rfl) ?_
          obtain ⟨v19, e9, hJ⟩ := rp_b hJ
          obtain ⟨f9, g9, e9⟩ := fR_s e9
          refine rp_get X I g9 e9 rfl wiX6 (by decide) wm_168 dX6_build_76 ?_
          obtain ⟨u9, i9, hJ⟩ := rp_b hJ
          obtain ⟨f9, i9⟩ := isO_s i9
          obtain ⟨q20, e9, hJ⟩ := rp_b hJ
          refine rp_callV (As := [.ref v19]) (rest := []) X hN I (c_Round_find hT e9) (cwV 1 hts (gdV wm_361 wm_362 wm_363 wm_39 wm_364) rfl rfl rfl (by decide +kernel) ⟨Nat.le_of_ble_eq_true rfl, Nat.le_of_ble_eq_true rfl⟩) i9 rfl rfl hl.1 rfl (Nat.le_of_ble_eq_true rfl) dX6_build_79 ⟨(Nat.le_of_ble_eq_true rfl), (Nat.le_of_ble_eq_true rfl)⟩ (fun H locs I => ?_)
          refine W.cs (cells' := 0) (slots' := 0) rfl rfl ?_
          exact rp_throw (k := 1) (tx := "steps wait for one another") X hfl hex hth I hl.1 hJ wm_378 wm_379 wm_45 th_117 (by decide +kernel) (by decide +kernel) (by decide +kernel) (by decide +kernel) (by decide +kernel) (by decide +kernel) dX6_build_82 dX6_build_85 dX6_build_86 dX6_build_88 dX6_build_91 (Nat.le_of_ble_eq_true rfl) (Nat.le_of_ble_eq_true rfl) (Nat.le_of_ble_eq_true rfl) (Nat.le_of_ble_eq_true rfl)
      · rw [if_neg c9] at hJ
        exact rp_throw (k := 0) (tx := "workers are 1 to 8") X hfl hex hth I hl.1 hJ wm_293 wm_294 wm_44 th_92 (by decide +kernel) (by decide +kernel) (by decide +kernel) (by decide +kernel) (by decide +kernel) (by decide +kernel) dX6_build_28 dX6_build_31 dX6_build_32 dX6_build_34 dX6_build_37 (Nat.le_of_ble_eq_true rfl) (Nat.le_of_ble_eq_true rfl) (Nat.le_of_ble_eq_true rfl) (Nat.le_of_ble_eq_true rfl)
  · rw [if_pos c9] at hJ
    exact rp_throw (k := 0) (tx := "no such file") X hfl hex hth I hl.1 hJ wm_293 wm_294 wm_44 th_92 (by decide +kernel) (by decide +kernel) (by decide +kernel) (by decide +kernel) (by decide +kernel) (by decide +kernel) dX6_build_7 dX6_build_10 dX6_build_11 dX6_build_13 dX6_build_16 (Nat.le_of_ble_eq_true rfl) (Nat.le_of_ble_eq_true rfl) (Nat.le_of_ble_eq_true rfl) (Nat.le_of_ble_eq_true rfl)
def rmX6_begun : Room := { frames := 6, cells := 1, slots := 6, locals := 82 }
def J_Desk_begun (N : Nat) (x0 : Nat) (x1 : Int32) (x2 : Int32) (h : Hp) : Option ((Nat ⊕ Int32) × Hp) :=
  if x1 < 0 then
  (some (.inl 2, (h.1 + 1, h.2)))
  else
  ((fR h 6 x0 4).bind fun v1 =>
  (fI h 3 v1 1).bind fun v2 =>
  if v2 ≤ x1 then
  (some (.inl 2, (h.1 + 1, h.2)))
  else
  (if x2 < 0 then
  (some (.inl 2, (h.1 + 1, h.2)))
  else
  (if x2 < (5 : Int32) then
  ((fR h 6 x0 4).bind fun v3 =>
  (isO h 3 v3).bind fun _ =>
  (J_Rep_cell N v3 x1 x2 h).bind fun q4 =>
 some (.inr q4.1, q4.2))
  else
  (some (.inl 2, (h.1 + 1, h.2))))))
set_option maxHeartbeats 4000000 in
set_option maxRecDepth 100000 in
theorem c_Desk_begun {l : Launch} {D : va_G} {tys : List (ClassId × FieldType)} {A : Nat → Prop} (hT : tys.map (fun q => q.2) = tyS) {N : Nat} {x0 : Nat} {x1 : Int32} {x2 : Int32} {h : Hp} {res : ((Nat ⊕ Int32) × Hp)} (hJ : J_Desk_begun N x0 x1 x2 h = some res) (hfl : l.flags = flags0) : CtX l D vwCl tys A yX6_begun (Cond.code yX6_begun cX6_begun 3 (some .int) :: wsG) rmX6_begun [.ref x0, .int x1, .int x2] h res := by
  refine CtX.ofW (cc := cX6_begun) (maxL := 3) (ret := (some .int)) (by decide) rfl ?_
  intro p e s m args below meth c s₁ B hml hv
  obtain ⟨rfl, ⟨hA, hR, hK, hN⟩, hth⟩ := hv
  have hr := B.returns
  have hts : ∀ w ∈ wsG, w.before [.ref x0, .int x1, .int x2].toArray s = true := fun w hw => atoms_spec (ws := Cond.code yX6_begun cX6_begun 3 (some .int) :: wsG) B.pre w (List.mem_cons_of_mem _ hw)
  have X : Cx p s m [.ref x0, .int x1, .int x2].toArray meth c D vwCl tys cX6_begun 3 RX6 wsG := ⟨⟨B.exec, B.bytes, hml, findClass_of_methodNamed B.named, hts⟩, hK, B.notSynchronized, hT⟩
  have hex : c.exceptionTable.isEmpty = true := B.noHandlers (atoms_spec (ws := Cond.code yX6_begun cX6_begun 3 (some .int) :: wsG) B.pre _ List.mem_cons_self)
  have hx := B.exec
  have hb := B.bytes
  have I : In D vwCl tys A s h s.heap [] := ⟨hR, va_S.rf, hA⟩
  have hl := lv_entry [.ref x0, .int x1, .int x2] (n := 3) (Nat.le_of_ble_eq_true rfl)
  rw [lg_entry_eq]
  generalize (lg_sl [.ref x0, .int x1, .int x2] ++ List.replicate (3 - (lg_sl [.ref x0, .int x1, .int x2]).length) Slot.unset).toArray = ls at hl ⊢
  have hl : lv_has ls 3 [(0, .ref x0), (1, .int x1), (2, .int x2)] := hl
  have ho := X.1.2.2.2.1
  rw [J_Desk_begun] at hJ
  refine lv_iload_n hx hb dX6_begun_0 rfl (lv_at hl 1 rfl) ?_
  refine lv_if_lt (tgt := 24) hx hb dX6_begun_1 (by decide) (fun c9 => ?_) (fun c9 => ?_)
  · rw [if_pos c9] at hJ
    exact rp_throw (k := 2) (tx := "nothing such began") X hfl hex hth I hl.1 hJ wm_493 wm_494 wm_47 th_157 (by decide +kernel) (by decide +kernel) (by decide +kernel) (by decide +kernel) (by decide +kernel) (by decide +kernel) dX6_begun_24 dX6_begun_27 dX6_begun_28 dX6_begun_30 dX6_begun_33 (Nat.le_of_ble_eq_true rfl) (Nat.le_of_ble_eq_true rfl) (Nat.le_of_ble_eq_true rfl) (Nat.le_of_ble_eq_true rfl)
  · rw [if_neg c9] at hJ
    refine lv_iload_n hx hb dX6_begun_4 rfl (lv_at hl 1 rfl) ?_
    refine lv_aload_n hx hb dX6_begun_5 rfl (lv_at hl 0 rfl) ?_
    obtain ⟨v1, e9, hJ⟩ := rp_b hJ
    obtain ⟨f9, g9, e9⟩ := fR_s e9
    refine rp_get X I g9 e9 rfl wiX6 (by decide) wm_170 dX6_begun_6 ?_
    obtain ⟨v2, e9, hJ⟩ := rp_b hJ
    obtain ⟨f9, g9, e9⟩ := fI_s e9
    refine rp_getN (host := "BuildDesk") X I g9 e9 rfl wiX3 (by decide) (hN.1 _ (by decide +kernel)) dX6_begun_9 ?_
    refine lv_icmp_ge (tgt := 24) hx hb dX6_begun_12 (by decide) (fun c9 => ?_) (fun c9 => ?_)
    · rw [if_pos c9] at hJ
      exact rp_throw (k := 2) (tx := "nothing such began") X hfl hex hth I hl.1 hJ wm_493 wm_494 wm_47 th_157 (by decide +kernel) (by decide +kernel) (by decide +kernel) (by decide +kernel) (by decide +kernel) (by decide +kernel) dX6_begun_24 dX6_begun_27 dX6_begun_28 dX6_begun_30 dX6_begun_33 (Nat.le_of_ble_eq_true rfl) (Nat.le_of_ble_eq_true rfl) (Nat.le_of_ble_eq_true rfl) (Nat.le_of_ble_eq_true rfl)
    · rw [if_neg c9] at hJ
      refine lv_iload_n hx hb dX6_begun_15 rfl (lv_at hl 2 rfl) ?_
      refine lv_if_lt (tgt := 24) hx hb dX6_begun_16 (by decide) (fun c9 => ?_) (fun c9 => ?_)
      · rw [if_pos c9] at hJ
        exact rp_throw (k := 2) (tx := "nothing such began") X hfl hex hth I hl.1 hJ wm_493 wm_494 wm_47 th_157 (by decide +kernel) (by decide +kernel) (by decide +kernel) (by decide +kernel) (by decide +kernel) (by decide +kernel) dX6_begun_24 dX6_begun_27 dX6_begun_28 dX6_begun_30 dX6_begun_33 (Nat.le_of_ble_eq_true rfl) (Nat.le_of_ble_eq_true rfl) (Nat.le_of_ble_eq_true rfl) (Nat.le_of_ble_eq_true rfl)
      · rw [if_neg c9] at hJ
        refine lv_iload_n hx hb dX6_begun_19 rfl (lv_at hl 2 rfl) ?_
        refine lv_iconst (v := 5) hx hb dX6_begun_20 (by decide) ?_
        refine lv_icmp_lt (tgt := 34) hx hb dX6_begun_21 (by decide) (fun c9 => ?_) (fun c9 => ?_)
        · rw [if_pos c9] at hJ
          refine lv_aload_n hx hb dX6_begun_34 rfl (lv_at hl 0 rfl) ?_
          obtain ⟨v3, e9, hJ⟩ := rp_b hJ
          obtain ⟨f9, g9, e9⟩ := fR_s e9
          refine rp_get X I g9 e9 rfl wiX6 (by decide) wm_170 dX6_begun_35 ?_
          refine lv_iload_n hx hb dX6_begun_38 rfl (lv_at hl 1 rfl) ?_
          refine lv_iload_n hx hb dX6_begun_39 rfl (lv_at hl 2 rfl) ?_
          obtain ⟨u9, i9, hJ⟩ := rp_b hJ
          obtain ⟨f9, i9⟩ := isO_s i9
          obtain ⟨q4, e9, hJ⟩ := rp_b hJ
          refine rp_callV (As := [.int x1, .int x2]) (rest := []) X hN I (c_Rep_cell hT e9) (cwV 2 hts (gdV wm_507 wm_508 wm_509 wm_38 wm_510) rfl rfl rfl (by decide +kernel) ⟨Nat.le_of_ble_eq_true rfl, Nat.le_of_ble_eq_true rfl⟩) i9 rfl rfl hl.1 rfl (Nat.le_of_ble_eq_true rfl) dX6_begun_40 ⟨(Nat.le_of_ble_eq_true rfl), (Nat.le_of_ble_eq_true rfl)⟩ (fun H locs I => ?_)
          refine W.cs (cells' := 0) (slots' := 0) rfl rfl ?_
          refine W.widen (k := 1) (n := 6) (Nat.le_of_ble_eq_true rfl) (Nat.le_of_ble_eq_true rfl) ?_
          exact rp_xret X hr hJ I dX6_begun_43
        · rw [if_neg c9] at hJ
          exact rp_throw (k := 2) (tx := "nothing such began") X hfl hex hth I hl.1 hJ wm_493 wm_494 wm_47 th_157 (by decide +kernel) (by decide +kernel) (by decide +kernel) (by decide +kernel) (by decide +kernel) (by decide +kernel) dX6_begun_24 dX6_begun_27 dX6_begun_28 dX6_begun_30 dX6_begun_33 (Nat.le_of_ble_eq_true rfl) (Nat.le_of_ble_eq_true rfl) (Nat.le_of_ble_eq_true rfl) (Nat.le_of_ble_eq_true rfl)
def rmX6_cycle : Room := { frames := 6, cells := 1, slots := 6, locals := 82 }
def J_Desk_cycle (N : Nat) (x0 : Nat) (x1 : Int32) (h : Hp) : Option ((Nat ⊕ Int32) × Hp) :=
  if x1 < 0 then
  (some (.inl 2, (h.1 + 1, h.2)))
  else
  ((fR h 6 x0 5).bind fun v1 =>
  (fI h 4 v1 1).bind fun v2 =>
  if x1 < v2 then
  ((fR h 6 x0 5).bind fun v3 =>
  (fR h 4 v3 0).bind fun v4 =>
  (aI h 0 v4 x1).bind fun v5 =>
  some (.inr v5, h))
  else
  (some (.inl 2, (h.1 + 1, h.2))))
set_option maxHeartbeats 4000000 in
set_option maxRecDepth 100000 in
theorem c_Desk_cycle {l : Launch} {D : va_G} {tys : List (ClassId × FieldType)} {A : Nat → Prop} (hT : tys.map (fun q => q.2) = tyS) {N : Nat} {x0 : Nat} {x1 : Int32} {h : Hp} {res : ((Nat ⊕ Int32) × Hp)} (hJ : J_Desk_cycle N x0 x1 h = some res) (hfl : l.flags = flags0) : CtX l D vwCl tys A yX6_cycle (Cond.code yX6_cycle cX6_cycle 2 (some .int) :: wsG) rmX6_cycle [.ref x0, .int x1] h res := by
  refine CtX.ofW (cc := cX6_cycle) (maxL := 2) (ret := (some .int)) (by decide) rfl ?_
  intro p e s m args below meth c s₁ B hml hv
  obtain ⟨rfl, ⟨hA, hR, hK, hN⟩, hth⟩ := hv
  have hr := B.returns
  have hts : ∀ w ∈ wsG, w.before [.ref x0, .int x1].toArray s = true := fun w hw => atoms_spec (ws := Cond.code yX6_cycle cX6_cycle 2 (some .int) :: wsG) B.pre w (List.mem_cons_of_mem _ hw)
  have X : Cx p s m [.ref x0, .int x1].toArray meth c D vwCl tys cX6_cycle 2 RX6 wsG := ⟨⟨B.exec, B.bytes, hml, findClass_of_methodNamed B.named, hts⟩, hK, B.notSynchronized, hT⟩
  have hex : c.exceptionTable.isEmpty = true := B.noHandlers (atoms_spec (ws := Cond.code yX6_cycle cX6_cycle 2 (some .int) :: wsG) B.pre _ List.mem_cons_self)
  have hx := B.exec
  have hb := B.bytes
  have I : In D vwCl tys A s h s.heap [] := ⟨hR, va_S.rf, hA⟩
  have hl := lv_entry [.ref x0, .int x1] (n := 2) (Nat.le_of_ble_eq_true rfl)
  rw [lg_entry_eq]
  generalize (lg_sl [.ref x0, .int x1] ++ List.replicate (2 - (lg_sl [.ref x0, .int x1]).length) Slot.unset).toArray = ls at hl ⊢
  have hl : lv_has ls 2 [(0, .ref x0), (1, .int x1)] := hl
  have ho := X.1.2.2.2.1
  rw [J_Desk_cycle] at hJ
  refine lv_iload_n hx hb dX6_cycle_0 rfl (lv_at hl 1 rfl) ?_
  refine lv_if_lt (tgt := 15) hx hb dX6_cycle_1 (by decide) (fun c9 => ?_) (fun c9 => ?_)
  · rw [if_pos c9] at hJ
    exact rp_throw (k := 2) (tx := "no such step of a round") X hfl hex hth I hl.1 hJ wm_493 wm_494 wm_47 th_157 (by decide +kernel) (by decide +kernel) (by decide +kernel) (by decide +kernel) (by decide +kernel) (by decide +kernel) dX6_cycle_15 dX6_cycle_18 dX6_cycle_19 dX6_cycle_21 dX6_cycle_24 (Nat.le_of_ble_eq_true rfl) (Nat.le_of_ble_eq_true rfl) (Nat.le_of_ble_eq_true rfl) (Nat.le_of_ble_eq_true rfl)
  · rw [if_neg c9] at hJ
    refine lv_iload_n hx hb dX6_cycle_4 rfl (lv_at hl 1 rfl) ?_
    refine lv_aload_n hx hb dX6_cycle_5 rfl (lv_at hl 0 rfl) ?_
    obtain ⟨v1, e9, hJ⟩ := rp_b hJ
    obtain ⟨f9, g9, e9⟩ := fR_s e9
    refine rp_get X I g9 e9 rfl wiX6 (by decide) wm_171 dX6_cycle_6 ?_
    obtain ⟨v2, e9, hJ⟩ := rp_b hJ
    obtain ⟨f9, g9, e9⟩ := fI_s e9
    refine rp_getN (host := "BuildDesk") X I g9 e9 rfl wiX4 (by decide) (hN.1 _ (by decide +kernel)) dX6_cycle_9 ?_
    refine lv_icmp_lt (tgt := 25) hx hb dX6_cycle_12 (by decide) (fun c9 => ?_) (fun c9 => ?_)
    · rw [if_pos c9] at hJ
      refine lv_aload_n hx hb dX6_cycle_25 rfl (lv_at hl 0 rfl) ?_
      obtain ⟨v3, e9, hJ⟩ := rp_b hJ
      obtain ⟨f9, g9, e9⟩ := fR_s e9
      refine rp_get X I g9 e9 rfl wiX6 (by decide) wm_171 dX6_cycle_26 ?_
      obtain ⟨v4, e9, hJ⟩ := rp_b hJ
      obtain ⟨f9, g9, e9⟩ := fR_s e9
      refine rp_getN (host := "BuildDesk") X I g9 e9 rfl wiX4 (by decide) (hN.1 _ (by decide +kernel)) dX6_cycle_29 ?_
      refine lv_iload_n hx hb dX6_cycle_32 rfl (lv_at hl 1 rfl) ?_
      obtain ⟨v5, e9, hJ⟩ := rp_b hJ
      refine rp_iald X I e9 rfl dX6_cycle_33 ?_
      refine W.widen (k := 1) (n := 6) (Nat.le_of_ble_eq_true rfl) (Nat.le_of_ble_eq_true rfl) ?_
      exact rp_xret X hr hJ I dX6_cycle_34
    · rw [if_neg c9] at hJ
      exact rp_throw (k := 2) (tx := "no such step of a round") X hfl hex hth I hl.1 hJ wm_493 wm_494 wm_47 th_157 (by decide +kernel) (by decide +kernel) (by decide +kernel) (by decide +kernel) (by decide +kernel) (by decide +kernel) dX6_cycle_15 dX6_cycle_18 dX6_cycle_19 dX6_cycle_21 dX6_cycle_24 (Nat.le_of_ble_eq_true rfl) (Nat.le_of_ble_eq_true rfl) (Nat.le_of_ble_eq_true rfl) (Nat.le_of_ble_eq_true rfl)
def rmX6_content : Room := { frames := 6, cells := 1, slots := 6, locals := 82 }
def J_Desk_content (N : Nat) (x0 : Nat) (x1 : Int32) (h : Hp) : Option ((Nat ⊕ Int32) × Hp) :=
  (J_Desk_isFile N x1 h).bind fun q1 =>
 if q1.1 = 0 then
  (some (.inl 2, (q1.2.1 + 1, q1.2.2)))
  else
  ((fR q1.2 6 x0 0).bind fun v2 =>
  (isO q1.2 1 v2).bind fun _ =>
  (J_File_isFilled N v2 x1 q1.2).bind fun q3 =>
 if q3.1 = 0 then
  (some (.inl 2, (q3.2.1 + 1, q3.2.2)))
  else
  ((fR q3.2 6 x0 0).bind fun v4 =>
  (isO q3.2 1 v4).bind fun _ =>
  (J_File_contentOf N v4 x1 q3.2).bind fun q5 =>
 some (.inr q5.1, q5.2)))
set_option maxHeartbeats 4000000 in
set_option maxRecDepth 100000 in
theorem c_Desk_content {l : Launch} {D : va_G} {tys : List (ClassId × FieldType)} {A : Nat → Prop} (hT : tys.map (fun q => q.2) = tyS) {N : Nat} {x0 : Nat} {x1 : Int32} {h : Hp} {res : ((Nat ⊕ Int32) × Hp)} (hJ : J_Desk_content N x0 x1 h = some res) (hfl : l.flags = flags0) : CtX l D vwCl tys A yX6_content (Cond.code yX6_content cX6_content 2 (some .int) :: wsG) rmX6_content [.ref x0, .int x1] h res := by
  refine CtX.ofW (cc := cX6_content) (maxL := 2) (ret := (some .int)) (by decide) rfl ?_
  intro p e s m args below meth c s₁ B hml hv
  obtain ⟨rfl, ⟨hA, hR, hK, hN⟩, hth⟩ := hv
  have hr := B.returns
  have hts : ∀ w ∈ wsG, w.before [.ref x0, .int x1].toArray s = true := fun w hw => atoms_spec (ws := Cond.code yX6_content cX6_content 2 (some .int) :: wsG) B.pre w (List.mem_cons_of_mem _ hw)
  have X : Cx p s m [.ref x0, .int x1].toArray meth c D vwCl tys cX6_content 2 RX6 wsG := ⟨⟨B.exec, B.bytes, hml, findClass_of_methodNamed B.named, hts⟩, hK, B.notSynchronized, hT⟩
  have hex : c.exceptionTable.isEmpty = true := B.noHandlers (atoms_spec (ws := Cond.code yX6_content cX6_content 2 (some .int) :: wsG) B.pre _ List.mem_cons_self)
  have hx := B.exec
  have hb := B.bytes
  have I : In D vwCl tys A s h s.heap [] := ⟨hR, va_S.rf, hA⟩
  have hl := lv_entry [.ref x0, .int x1] (n := 2) (Nat.le_of_ble_eq_true rfl)
  rw [lg_entry_eq]
  generalize (lg_sl [.ref x0, .int x1] ++ List.replicate (2 - (lg_sl [.ref x0, .int x1]).length) Slot.unset).toArray = ls at hl ⊢
  have hl : lv_has ls 2 [(0, .ref x0), (1, .int x1)] := hl
  have ho := X.1.2.2.2.1
  rw [J_Desk_content] at hJ
  refine lv_iload_n hx hb dX6_content_0 rfl (lv_at hl 1 rfl) ?_
  obtain ⟨q1, e9, hJ⟩ := rp_b hJ
  refine rp_callS (As := [.int x1]) (rest := []) X hN I (c_Desk_isFile hT e9) (cwS 1 hts (gdS wm_197 wm_198 wm_33 wm_199) rfl rfl rfl (by decide +kernel) ⟨Nat.le_of_ble_eq_true rfl, Nat.le_of_ble_eq_true rfl⟩) rfl hl.1 rfl (Nat.le_of_ble_eq_true rfl) dX6_content_1 ⟨(Nat.le_of_ble_eq_true rfl), (Nat.le_of_ble_eq_true rfl)⟩ (fun H locs I => ?_)
  refine W.cs (cells' := 0) (slots' := 0) rfl rfl ?_
  refine lv_if_eq (tgt := 18) hx hb dX6_content_4 (by decide) (fun c9 => ?_) (fun c9 => ?_)
  · rw [if_pos c9] at hJ
    exact rp_throw (k := 2) (tx := "no content") X hfl hex hth I hl.1 hJ wm_493 wm_494 wm_47 th_157 (by decide +kernel) (by decide +kernel) (by decide +kernel) (by decide +kernel) (by decide +kernel) (by decide +kernel) dX6_content_18 dX6_content_21 dX6_content_22 dX6_content_24 dX6_content_27 (Nat.le_of_ble_eq_true rfl) (Nat.le_of_ble_eq_true rfl) (Nat.le_of_ble_eq_true rfl) (Nat.le_of_ble_eq_true rfl)
  · rw [if_neg c9] at hJ
    refine lv_aload_n hx hb dX6_content_7 rfl (lv_at hl 0 rfl) ?_
    obtain ⟨v2, e9, hJ⟩ := rp_b hJ
    obtain ⟨f9, g9, e9⟩ := fR_s e9
    refine rp_get X I g9 e9 rfl wiX6 (by decide) wm_166 dX6_content_8 ?_
    refine lv_iload_n hx hb dX6_content_11 rfl (lv_at hl 1 rfl) ?_
    obtain ⟨u9, i9, hJ⟩ := rp_b hJ
    obtain ⟨f9, i9⟩ := isO_s i9
    obtain ⟨q3, e9, hJ⟩ := rp_b hJ
    refine rp_callV (As := [.int x1]) (rest := []) X hN I (c_File_isFilled hT e9) (cwV 1 hts (gdV wm_525 wm_274 wm_275 wm_34 wm_276) rfl rfl rfl (by decide +kernel) ⟨Nat.le_of_ble_eq_true rfl, Nat.le_of_ble_eq_true rfl⟩) i9 rfl rfl hl.1 rfl (Nat.le_of_ble_eq_true rfl) dX6_content_12 ⟨(Nat.le_of_ble_eq_true rfl), (Nat.le_of_ble_eq_true rfl)⟩ (fun H locs I => ?_)
    refine W.cs (cells' := 0) (slots' := 0) rfl rfl ?_
    refine lv_if_ne (tgt := 28) hx hb dX6_content_15 (by decide) (fun c9 => ?_) (fun c9 => ?_)
    · rw [if_neg c9] at hJ
      refine lv_aload_n hx hb dX6_content_28 rfl (lv_at hl 0 rfl) ?_
      obtain ⟨v4, e9, hJ⟩ := rp_b hJ
      obtain ⟨f9, g9, e9⟩ := fR_s e9
      refine rp_get X I g9 e9 rfl wiX6 (by decide) wm_166 dX6_content_29 ?_
      refine lv_iload_n hx hb dX6_content_32 rfl (lv_at hl 1 rfl) ?_
      obtain ⟨u9, i9, hJ⟩ := rp_b hJ
      obtain ⟨f9, i9⟩ := isO_s i9
      obtain ⟨q5, e9, hJ⟩ := rp_b hJ
      refine rp_callV (As := [.int x1]) (rest := []) X hN I (c_File_contentOf hT e9) (cwV 1 hts (gdV wm_526 wm_281 wm_282 wm_34 wm_283) rfl rfl rfl (by decide +kernel) ⟨Nat.le_of_ble_eq_true rfl, Nat.le_of_ble_eq_true rfl⟩) i9 rfl rfl hl.1 rfl (Nat.le_of_ble_eq_true rfl) dX6_content_33 ⟨(Nat.le_of_ble_eq_true rfl), (Nat.le_of_ble_eq_true rfl)⟩ (fun H locs I => ?_)
      refine W.cs (cells' := 0) (slots' := 0) rfl rfl ?_
      refine W.widen (k := 1) (n := 6) (Nat.le_of_ble_eq_true rfl) (Nat.le_of_ble_eq_true rfl) ?_
      exact rp_xret X hr hJ I dX6_content_36
    · rw [if_pos c9] at hJ
      exact rp_throw (k := 2) (tx := "no content") X hfl hex hth I hl.1 hJ wm_493 wm_494 wm_47 th_157 (by decide +kernel) (by decide +kernel) (by decide +kernel) (by decide +kernel) (by decide +kernel) (by decide +kernel) dX6_content_18 dX6_content_21 dX6_content_22 dX6_content_24 dX6_content_27 (Nat.le_of_ble_eq_true rfl) (Nat.le_of_ble_eq_true rfl) (Nat.le_of_ble_eq_true rfl) (Nat.le_of_ble_eq_true rfl)
end GW
