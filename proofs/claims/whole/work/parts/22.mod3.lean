section GW
variable {p : Program} {l : Launch} {e : Env} {s : State} {m : MethodId} {args : Array Value} {below : List Frame} {meth : Method} {c : Code} {D : va_G} {tys : List (ClassId × FieldType)} {A : Nat → Prop}
def rmX7_init : Room := { frames := 1, cells := 33, slots := 2120, locals := 20 }
def J_Mod_init_273 (N : Nat)  : Nat → Nat → Int32 → Hp → Option (Unit × Hp)
  | 0, _, _, _ => none
  | n + 1, x0, x1, h =>
  if (64 : Int32) ≤ x1 then
  (some ((), h))
  else
  ((fR h 7 x0 3).bind fun v67 =>
  (sI h 0 v67 x1 (-1 : Int32)).bind fun h68 =>
  (J_Mod_init_273 N n) x0 (x1 + (1 : Int32)) h68)
def J_Mod_init (N : Nat) (x0 : Nat) (h : Hp) : Option (Unit × Hp) :=
  (nI_ h 1 (64 : Int32)).bind fun q1 =>
  (sF q1.2 7 x0 1 (.ref q1.1)).bind fun h2 =>
  (nI_ h2 0 (64 : Int32)).bind fun q3 =>
  (sF q3.2 7 x0 2 (.ref q3.1)).bind fun h4 =>
  (nI_ h4 0 (64 : Int32)).bind fun q5 =>
  (sF q5.2 7 x0 3 (.ref q5.1)).bind fun h6 =>
  (nI_ h6 1 (40 : Int32)).bind fun q7 =>
  (sF q7.2 7 x0 4 (.ref q7.1)).bind fun h8 =>
  (nI_ h8 0 (40 : Int32)).bind fun q9 =>
  (sF q9.2 7 x0 5 (.ref q9.1)).bind fun h10 =>
  (nI_ h10 0 (40 : Int32)).bind fun q11 =>
  (sF q11.2 7 x0 6 (.ref q11.1)).bind fun h12 =>
  (nI_ h12 0 (40 : Int32)).bind fun q13 =>
  (sF q13.2 7 x0 7 (.ref q13.1)).bind fun h14 =>
  (nI_ h14 0 (40 : Int32)).bind fun q15 =>
  (sF q15.2 7 x0 8 (.ref q15.1)).bind fun h16 =>
  (nI_ h16 0 (40 : Int32)).bind fun q17 =>
  (sF q17.2 7 x0 9 (.ref q17.1)).bind fun h18 =>
  (nI_ h18 0 (240 : Int32)).bind fun q19 =>
  (sF q19.2 7 x0 10 (.ref q19.1)).bind fun h20 =>
  (nI_ h20 0 (120 : Int32)).bind fun q21 =>
  (sF q21.2 7 x0 11 (.ref q21.1)).bind fun h22 =>
  (nI_ h22 1 (40 : Int32)).bind fun q23 =>
  (sF q23.2 7 x0 12 (.ref q23.1)).bind fun h24 =>
  (nI_ h24 0 (40 : Int32)).bind fun q25 =>
  (sF q25.2 7 x0 13 (.ref q25.1)).bind fun h26 =>
  (nI_ h26 0 (40 : Int32)).bind fun q27 =>
  (sF q27.2 7 x0 14 (.ref q27.1)).bind fun h28 =>
  (nI_ h28 0 (40 : Int32)).bind fun q29 =>
  (sF q29.2 7 x0 15 (.ref q29.1)).bind fun h30 =>
  (nI_ h30 0 (40 : Int32)).bind fun q31 =>
  (sF q31.2 7 x0 16 (.ref q31.1)).bind fun h32 =>
  (nI_ h32 0 (240 : Int32)).bind fun q33 =>
  (sF q33.2 7 x0 17 (.ref q33.1)).bind fun h34 =>
  (nI_ h34 0 (120 : Int32)).bind fun q35 =>
  (sF q35.2 7 x0 18 (.ref q35.1)).bind fun h36 =>
  (nI_ h36 0 (240 : Int32)).bind fun q37 =>
  (sF q37.2 7 x0 19 (.ref q37.1)).bind fun h38 =>
  (nI_ h38 1 (40 : Int32)).bind fun q39 =>
  (sF q39.2 7 x0 20 (.ref q39.1)).bind fun h40 =>
  (nI_ h40 0 (40 : Int32)).bind fun q41 =>
  (sF q41.2 7 x0 21 (.ref q41.1)).bind fun h42 =>
  (nI_ h42 0 (40 : Int32)).bind fun q43 =>
  (sF q43.2 7 x0 22 (.ref q43.1)).bind fun h44 =>
  (nI_ h44 0 (40 : Int32)).bind fun q45 =>
  (sF q45.2 7 x0 23 (.ref q45.1)).bind fun h46 =>
  (nI_ h46 0 (40 : Int32)).bind fun q47 =>
  (sF q47.2 7 x0 24 (.ref q47.1)).bind fun h48 =>
  (nI_ h48 0 (40 : Int32)).bind fun q49 =>
  (sF q49.2 7 x0 25 (.ref q49.1)).bind fun h50 =>
  (nI_ h50 1 (8 : Int32)).bind fun q51 =>
  (sF q51.2 7 x0 26 (.ref q51.1)).bind fun h52 =>
  (nI_ h52 0 (40 : Int32)).bind fun q53 =>
  (sF q53.2 7 x0 32 (.ref q53.1)).bind fun h54 =>
  (nI_ h54 0 (40 : Int32)).bind fun q55 =>
  (sF q55.2 7 x0 33 (.ref q55.1)).bind fun h56 =>
  (nI_ h56 0 (40 : Int32)).bind fun q57 =>
  (sF q57.2 7 x0 34 (.ref q57.1)).bind fun h58 =>
  (nI_ h58 0 (40 : Int32)).bind fun q59 =>
  (sF q59.2 7 x0 35 (.ref q59.1)).bind fun h60 =>
  (nI_ h60 0 (40 : Int32)).bind fun q61 =>
  (sF q61.2 7 x0 36 (.ref q61.1)).bind fun h62 =>
  (nI_ h62 0 (40 : Int32)).bind fun q63 =>
  (sF q63.2 7 x0 38 (.ref q63.1)).bind fun h64 =>
  (nI_ h64 0 (40 : Int32)).bind fun q65 =>
  (sF q65.2 7 x0 39 (.ref q65.1)).bind fun h66 =>
  J_Mod_init_273 N N x0 (0 : Int32) h66
set_option maxHeartbeats 4000000 in
set_option maxRecDepth 100000 in
theorem w_Mod_init_273 (X : Cx p s m args meth c D vwCl tys cX7_init 2 RX7 wsG) (hN : nwS s) (hr : meth.sig.returnType = none) (hinit : meth.name = "<init>") {res : (Unit × Hp)} {N : Nat}   : ∀ (n : Nat) (x0 : Nat) (x1 : Int32)  (h : Hp) (H : Heap) (locs : List Loc) (ls : Array Slot), J_Mod_init_273 N n x0 x1 h = some res → In D vwCl tys A s h H locs → lv_has ls 2 [(0, .ref x0), (1, .int x1)] → W p l e rmX7_init s m args below meth c H locs 33 2120 (MQ below (Qr D vwCl tys A none res.2) args s 33 2120 A) (F0 m 273 ls []) := by
  have hx := X.1.1
  have hb := X.1.2.1
  have hml := X.1.2.2.1
  have ho := X.1.2.2.2.1
  have hts := X.1.2.2.2.2
  have hK := X.2.1
  have hT := X.2.2.2
  intro n
  induction n with
  | zero =>
    intro x0 x1  h H locs ls hJ I hl
    exact nomatch (show (none : Option (Unit × Hp)) = some res from hJ)
  | succ n k273 =>
    intro x0 x1  h H locs ls hJ I hl
    rw [J_Mod_init_273] at hJ
    refine lv_iload_n hx hb dX7_init_273 rfl (lv_at hl 1 rfl) ?_
    refine lv_bipush (v := 64) hx hb dX7_init_274 (by decide) ?_
    refine lv_icmp_ge (tgt := 292) hx hb dX7_init_276 (by decide) (fun c9 => ?_) (fun c9 => ?_)
    · rw [if_pos c9] at hJ
      refine W.widen (k := 33) (n := 2120) (Nat.le_of_ble_eq_true rfl) (Nat.le_of_ble_eq_true rfl) ?_
      exact rp_vret X hr hJ I dX7_init_292
    · rw [if_neg c9] at hJ
      refine lv_aload_n hx hb dX7_init_279 rfl (lv_at hl 0 rfl) ?_
      obtain ⟨v67, e9, hJ⟩ := rp_b hJ
      obtain ⟨f9, g9, e9⟩ := fR_s e9
      refine rp_get X I g9 e9 rfl wiX7 (by decide) wm_536 dX7_init_280 ?_
      refine lv_iload_n hx hb dX7_init_283 rfl (lv_at hl 1 rfl) ?_
      refine lv_iconst (v := -1) hx hb dX7_init_284 (by decide) ?_
      obtain ⟨h68, e9, hJ⟩ := rp_b hJ
      refine rp_iast X I e9 rfl dX7_init_285 (fun H locs I => ?_)
      refine lv_iinc (v := (x1 + (1 : Int32))) (lv' := [(1, .int (x1 + (1 : Int32))), (0, .ref x0)]) hx hb dX7_init_286 hl (k := 1) rfl rfl (by decide) rfl (fun ls hl => ?_)
      refine lv_goto (tgt := 273) hx hb dX7_init_289 (by decide) ?_
      exact k273 _ _ _ _ _ _ hJ I (lv_sub hl [1, 0] rfl)
set_option maxHeartbeats 4000000 in
set_option maxRecDepth 100000 in
theorem c_Mod_init {l : Launch} {D : va_G} {tys : List (ClassId × FieldType)} {A : Nat → Prop} (hT : tys.map (fun q => q.2) = tyS) {N : Nat} {x0 : Nat} {h : Hp} {res : (Unit × Hp)} (hJ : J_Mod_init N x0 h = some res) : Ct l D vwCl tys A yX7_init (Cond.code yX7_init cX7_init 2 none :: wsG) rmX7_init [.ref x0] h none res.2 := by
  refine Met.ofW (cc := cX7_init) (maxL := 2) (ret := none) (by decide) rfl ?_
  intro p e s m args below meth c s₁ B hml hv
  obtain ⟨rfl, hA, hR, hK, hN⟩ := hv
  have hr := B.returns
  have hts : ∀ w ∈ wsG, w.before [.ref x0].toArray s = true := fun w hw => atoms_spec (ws := Cond.code yX7_init cX7_init 2 none :: wsG) B.pre w (List.mem_cons_of_mem _ hw)
  have X : Cx p s m [.ref x0].toArray meth c D vwCl tys cX7_init 2 RX7 wsG := ⟨⟨B.exec, B.bytes, hml, findClass_of_methodNamed B.named, hts⟩, hK, B.notSynchronized, hT⟩
  have hinit : meth.name = "<init>" := (name_of_methodNamed B.named B.method).1
  have hx := B.exec
  have hb := B.bytes
  have I : In D vwCl tys A s h s.heap [] := ⟨hR, va_S.rf, hA⟩
  have hl := lv_entry [.ref x0] (n := 2) (Nat.le_of_ble_eq_true rfl)
  rw [lg_entry_eq]
  generalize (lg_sl [.ref x0] ++ List.replicate (2 - (lg_sl [.ref x0]).length) Slot.unset).toArray = ls at hl ⊢
  have hl : lv_has ls 2 [(0, .ref x0)] := hl
  have ho := X.1.2.2.2.1
  rw [J_Mod_init] at hJ
  refine lv_aload_n hx hb dX7_init_0 rfl (lv_at hl 0 rfl) ?_
  refine W.objInit hx hb ho (hts _ wm_532) (hts _ wm_54) (hts _ wm_55) rfl (by rw [hml]; exact hl.1) rfl dX7_init_1 (Nat.le_of_ble_eq_true rfl) (Nat.le_of_ble_eq_true rfl) ?_
  refine W.eq (g2 := F0 m 4 ls []) rfl ?_
  refine lv_aload_n hx hb dX7_init_4 rfl (lv_at hl 0 rfl) ?_
  refine lv_bipush (v := 64) hx hb dX7_init_5 (by decide) ?_
  obtain ⟨q1, e9, hJ⟩ := rp_b hJ
  refine rp_newI (K := 64) (ty := .boolean) X I e9 (by decide) rfl rfl (by decide) wm_70 rfl (fun _ z => z) (Nat.le_of_ble_eq_true rfl) (Nat.le_of_ble_eq_true rfl) dX7_init_7 (fun H I => ?_)
  obtain ⟨h2, e9, hJ⟩ := rp_b hJ
  refine rp_putF (ty := (.array .boolean)) X I e9 rfl wiX7 tyX7 tyX7_ok nmX7 (by decide) wm_534 rfl hinit rfl (by decide +kernel) rfl rfl dX7_init_9 (fun H locs I => ?_)
  refine lv_aload_n hx hb dX7_init_12 rfl (lv_at hl 0 rfl) ?_
  refine lv_bipush (v := 64) hx hb dX7_init_13 (by decide) ?_
  obtain ⟨q3, e9, hJ⟩ := rp_b hJ
  refine rp_newI (K := 64) (ty := .int) X I e9 (by decide) rfl rfl (by decide) wm_69 rfl (fun _ z => z) (Nat.le_of_ble_eq_true rfl) (Nat.le_of_ble_eq_true rfl) dX7_init_15 (fun H I => ?_)
  obtain ⟨h4, e9, hJ⟩ := rp_b hJ
  refine rp_putF (ty := (.array .int)) X I e9 rfl wiX7 tyX7 tyX7_ok nmX7 (by decide) wm_535 rfl hinit rfl (by decide +kernel) rfl rfl dX7_init_17 (fun H locs I => ?_)
  refine lv_aload_n hx hb dX7_init_20 rfl (lv_at hl 0 rfl) ?_
  refine lv_bipush (v := 64) hx hb dX7_init_21 (by decide) ?_
  obtain ⟨q5, e9, hJ⟩ := rp_b hJ
  refine rp_newI (K := 64) (ty := .int) X I e9 (by decide) rfl rfl (by decide) wm_69 rfl (fun _ z => z) (Nat.le_of_ble_eq_true rfl) (Nat.le_of_ble_eq_true rfl) dX7_init_23 (fun H I => ?_)
  obtain ⟨h6, e9, hJ⟩ := rp_b hJ
  refine rp_putF (ty := (.array .int)) X I e9 rfl wiX7 tyX7 tyX7_ok nmX7 (by decide) wm_536 rfl hinit rfl (by decide +kernel) rfl rfl dX7_init_25 (fun H locs I => ?_)
  refine lv_aload_n hx hb dX7_init_28 rfl (lv_at hl 0 rfl) ?_
  refine lv_bipush (v := 40) hx hb dX7_init_29 (by decide) ?_
  obtain ⟨q7, e9, hJ⟩ := rp_b hJ
  refine rp_newI (K := 40) (ty := .boolean) X I e9 (by decide) rfl rfl (by decide) wm_70 rfl (fun _ z => z) (Nat.le_of_ble_eq_true rfl) (Nat.le_of_ble_eq_true rfl) dX7_init_31 (fun H I => ?_)
  obtain ⟨h8, e9, hJ⟩ := rp_b hJ
  refine rp_putF (ty := (.array .boolean)) X I e9 rfl wiX7 tyX7 tyX7_ok nmX7 (by decide) wm_537 rfl hinit rfl (by decide +kernel) rfl rfl dX7_init_33 (fun H locs I => ?_)
  refine lv_aload_n hx hb dX7_init_36 rfl (lv_at hl 0 rfl) ?_
  refine lv_bipush (v := 40) hx hb dX7_init_37 (by decide) ?_
  obtain ⟨q9, e9, hJ⟩ := rp_b hJ
  refine rp_newI (K := 40) (ty := .int) X I e9 (by decide) rfl rfl (by decide) wm_69 rfl (fun _ z => z) (Nat.le_of_ble_eq_true rfl) (Nat.le_of_ble_eq_true rfl) dX7_init_39 (fun H I => ?_)
  obtain ⟨h10, e9, hJ⟩ := rp_b hJ
  refine rp_putF (ty := (.array .int)) X I e9 rfl wiX7 tyX7 tyX7_ok nmX7 (by decide) wm_538 rfl hinit rfl (by decide +kernel) rfl rfl dX7_init_41 (fun H locs I => ?_)
  refine lv_aload_n hx hb dX7_init_44 rfl (lv_at hl 0 rfl) ?_
  refine lv_bipush (v := 40) hx hb dX7_init_45 (by decide) ?_
  obtain ⟨q11, e9, hJ⟩ := rp_b hJ
  refine rp_newI (K := 40) (ty := .int) X I e9 (by decide) rfl rfl (by decide) wm_69 rfl (fun _ z => z) (Nat.le_of_ble_eq_true rfl) (Nat.le_of_ble_eq_true rfl) dX7_init_47 (fun H I => ?_)
  obtain ⟨h12, e9, hJ⟩ := rp_b hJ
  refine rp_putF (ty := (.array .int)) X I e9 rfl wiX7 tyX7 tyX7_ok nmX7 (by decide) wm_539 rfl hinit rfl (by decide +kernel) rfl rfl dX7_init_49 (fun H locs I => ?_)
  refine lv_aload_n hx hb dX7_init_52 rfl (lv_at hl 0 rfl) ?_
  refine lv_bipush (v := 40) hx hb dX7_init_53 (by decide) ?_
  obtain ⟨q13, e9, hJ⟩ := rp_b hJ
  refine rp_newI (K := 40) (ty := .int) X I e9 (by decide) rfl rfl (by decide) wm_69 rfl (fun _ z => z) (Nat.le_of_ble_eq_true rfl) (Nat.le_of_ble_eq_true rfl) dX7_init_55 (fun H I => ?_)
  obtain ⟨h14, e9, hJ⟩ := rp_b hJ
  refine rp_putF (ty := (.array .int)) X I e9 rfl wiX7 tyX7 tyX7_ok nmX7 (by decide) wm_540 rfl hinit rfl (by decide +kernel) rfl rfl dX7_init_57 (fun H locs I => ?_)
  refine lv_aload_n hx hb dX7_init_60 rfl (lv_at hl 0 rfl) ?_
  refine lv_bipush (v := 40) hx hb dX7_init_61 (by decide) ?_
  obtain ⟨q15, e9, hJ⟩ := rp_b hJ
  refine rp_newI (K := 40) (ty := .int) X I e9 (by decide) rfl rfl (by decide) wm_69 rfl (fun _ z => z) (Nat.le_of_ble_eq_true rfl) (Nat.le_of_ble_eq_true rfl) dX7_init_63 (fun H I => ?_)
  obtain ⟨h16, e9, hJ⟩ := rp_b hJ
  refine rp_putF (ty := (.array .int)) X I e9 rfl wiX7 tyX7 tyX7_ok nmX7 (by decide) wm_541 rfl hinit rfl (by decide +kernel) rfl rfl dX7_init_65 (fun H locs I => ?_)
  refine lv_aload_n hx hb dX7_init_68 rfl (lv_at hl 0 rfl) ?_
  refine lv_bipush (v := 40) hx hb dX7_init_69 (by decide) ?_
  obtain ⟨q17, e9, hJ⟩ := rp_b hJ
  refine rp_newI (K := 40) (ty := .int) X I e9 (by decide) rfl rfl (by decide) wm_69 rfl (fun _ z => z) (Nat.le_of_ble_eq_true rfl) (Nat.le_of_ble_eq_true rfl) dX7_init_71 (fun H I => ?_)
  obtain ⟨h18, e9, hJ⟩ := rp_b hJ
  refine rp_putF (ty := (.array .int)) X I e9 rfl wiX7 tyX7 tyX7_ok nmX7 (by decide) wm_542 rfl hinit rfl (by decide +kernel) rfl rfl dX7_init_73 (fun H locs I => ?_)
  refine lv_aload_n hx hb dX7_init_76 rfl (lv_at hl 0 rfl) ?_
  refine lv_sipush (v := 240) hx hb dX7_init_77 (by decide) ?_
  obtain ⟨q19, e9, hJ⟩ := rp_b hJ
  refine rp_newI (K := 240) (ty := .int) X I e9 (by decide) rfl rfl (by decide) wm_69 rfl (fun _ z => z) (Nat.le_of_ble_eq_true rfl) (Nat.le_of_ble_eq_true rfl) dX7_init_80 (fun H I => ?_)
  obtain ⟨h20, e9, hJ⟩ := rp_b hJ
  refine rp_putF (ty := (.array .int)) X I e9 rfl wiX7 tyX7 tyX7_ok nmX7 (by decide) wm_543 rfl hinit rfl (by decide +kernel) rfl rfl dX7_init_82 (fun H locs I => ?_)
  refine lv_aload_n hx hb dX7_init_85 rfl (lv_at hl 0 rfl) ?_
  refine lv_bipush (v := 120) hx hb dX7_init_86 (by decide) ?_
  obtain ⟨q21, e9, hJ⟩ := rp_b hJ
  refine rp_newI (K := 120) (ty := .int) X I e9 (by decide) rfl rfl (by decide) wm_69 rfl (fun _ z => z) (Nat.le_of_ble_eq_true rfl) (Nat.le_of_ble_eq_true rfl) dX7_init_88 (fun H I => ?_)
  obtain ⟨h22, e9, hJ⟩ := rp_b hJ
  refine rp_putF (ty := (.array .int)) X I e9 rfl wiX7 tyX7 tyX7_ok nmX7 (by decide) wm_544 rfl hinit rfl (by decide +kernel) rfl rfl dX7_init_90 (fun H locs I => ?_)
  refine lv_aload_n hx hb dX7_init_93 rfl (lv_at hl 0 rfl) ?_
  refine lv_bipush (v := 40) hx hb dX7_init_94 (by decide) ?_
  obtain ⟨q23, e9, hJ⟩ := rp_b hJ
  refine rp_newI (K := 40) (ty := .boolean) X I e9 (by decide) rfl rfl (by decide) wm_70 rfl (fun _ z => z) (Nat.le_of_ble_eq_true rfl) (Nat.le_of_ble_eq_true rfl) dX7_init_96 (fun H I => ?_)
  obtain ⟨h24, e9, hJ⟩ := rp_b hJ
  refine rp_putF (ty := (.array .boolean)) X I e9 rfl wiX7 tyX7 tyX7_ok nmX7 (by decide) wm_545 rfl hinit rfl (by decide +kernel) rfl rfl dX7_init_98 (fun H locs I => ?_)
  refine lv_aload_n hx hb dX7_init_101 rfl (lv_at hl 0 rfl) ?_
  refine lv_bipush (v := 40) hx hb dX7_init_102 (by decide) ?_
  obtain ⟨q25, e9, hJ⟩ := rp_b hJ
  refine rp_newI (K := 40) (ty := .int) X I e9 (by decide) rfl rfl (by decide) wm_69 rfl (fun _ z => z) (Nat.le_of_ble_eq_true rfl) (Nat.le_of_ble_eq_true rfl) dX7_init_104 (fun H I => ?_)
  obtain ⟨h26, e9, hJ⟩ := rp_b hJ
  refine rp_putF (ty := (.array .int)) X I e9 rfl wiX7 tyX7 tyX7_ok nmX7 (by decide) wm_546 rfl hinit rfl (by decide +kernel) rfl rfl dX7_init_106 (fun H locs I => ?_)
  refine lv_aload_n hx hb dX7_init_109 rfl (lv_at hl 0 rfl) ?_
  refine lv_bipush (v := 40) hx hb dX7_init_110 (by decide) ?_
  obtain ⟨q27, e9, hJ⟩ := rp_b hJ
  refine rp_newI (K := 40) (ty := .int) X I e9 (by decide) rfl rfl (by decide) wm_69 rfl (fun _ z => z) (Nat.le_of_ble_eq_true rfl) (Nat.le_of_ble_eq_true rfl) dX7_init_112 (fun H I => ?_)
  obtain ⟨h28, e9, hJ⟩ := rp_b hJ
  refine rp_putF (ty := (.array .int)) X I e9 rfl wiX7 tyX7 tyX7_ok nmX7 (by decide) wm_547 rfl hinit rfl (by decide +kernel) rfl rfl dX7_init_114 (fun H locs I => ?_)
  refine lv_aload_n hx hb dX7_init_117 rfl (lv_at hl 0 rfl) ?_
  refine lv_bipush (v := 40) hx hb dX7_init_118 (by decide) ?_
  obtain ⟨q29, e9, hJ⟩ := rp_b hJ
  refine rp_newI (K := 40) (ty := .int) X I e9 (by decide) rfl rfl (by decide) wm_69 rfl (fun _ z => z) (Nat.le_of_ble_eq_true rfl) (Nat.le_of_ble_eq_true rfl) dX7_init_120 (fun H I => ?_)
  obtain ⟨h30, e9, hJ⟩ := rp_b hJ
  refine rp_putF (ty := (.array .int)) X I e9 rfl wiX7 tyX7 tyX7_ok nmX7 (by decide) wm_548 rfl hinit rfl (by decide +kernel) rfl rfl dX7_init_122 (fun H locs I => ?_)
  refine lv_aload_n hx hb dX7_init_125 rfl (lv_at hl 0 rfl) ?_
  refine lv_bipush (v := 40) hx hb dX7_init_126 (by decide) ?_
  obtain ⟨q31, e9, hJ⟩ := rp_b hJ
  refine rp_newI (K := 40) (ty := .int) X I e9 (by decide) rfl rfl (by decide) wm_69 rfl (fun _ z => z) (Nat.le_of_ble_eq_true rfl) (Nat.le_of_ble_eq_true rfl) dX7_init_128 (fun H I => ?_)
  obtain ⟨h32, e9, hJ⟩ := rp_b hJ
  refine rp_putF (ty := (.array .int)) X I e9 rfl wiX7 tyX7 tyX7_ok nmX7 (by decide) wm_549 rfl hinit rfl (by decide +kernel) rfl rfl dX7_init_130 (fun H locs I => ?_)
  refine lv_aload_n hx hb dX7_init_133 rfl (lv_at hl 0 rfl) ?_
  refine lv_sipush (v := 240) hx hb dX7_init_134 (by decide) ?_
  obtain ⟨q33, e9, hJ⟩ := rp_b hJ
  refine rp_newI (K := 240) (ty := .int) X I e9 (by decide) rfl rfl (by decide) wm_69 rfl (fun _ z => z) (Nat.le_of_ble_eq_true rfl) (Nat.le_of_ble_eq_true rfl) dX7_init_137 (fun H I => ?_)
  obtain ⟨h34, e9, hJ⟩ := rp_b hJ
  refine rp_putF (ty := (.array .int)) X I e9 rfl wiX7 tyX7 tyX7_ok nmX7 (by decide) wm_550 rfl hinit rfl (by decide +kernel) rfl rfl dX7_init_139 (fun H locs I => ?_)
  refine lv_aload_n hx hb dX7_init_142 rfl (lv_at hl 0 rfl) ?_
  refine lv_bipush (v := 120) hx hb dX7_init_143 (by decide) ?_
  obtain ⟨q35, e9, hJ⟩ := rp_b hJ
  refine rp_newI (K := 120) (ty := .int) X I e9 (by decide) rfl rfl (by decide) wm_69 rfl (fun _ z => z) (Nat.le_of_ble_eq_true rfl) (Nat.le_of_ble_eq_true rfl) dX7_init_145 (fun H I => ?_)
  obtain ⟨h36, e9, hJ⟩ := rp_b hJ
  refine rp_putF (ty := (.array .int)) X I e9 rfl wiX7 tyX7 tyX7_ok nmX7 (by decide) wm_551 rfl hinit rfl (by decide +kernel) rfl rfl dX7_init_147 (fun H locs I => ?_)
  refine lv_aload_n hx hb dX7_init_150 rfl (lv_at hl 0 rfl) ?_
  refine lv_sipush (v := 240) hx hb dX7_init_151 (by decide) ?_
  obtain ⟨q37, e9, hJ⟩ := rp_b hJ
  refine rp_newI (K := 240) (ty := .int) X I e9 (by decide) rfl rfl (by decide) wm_69 rfl (fun _ z => z) (Nat.le_of_ble_eq_true rfl) (Nat.le_of_ble_eq_true rfl) dX7_init_154 (fun H I => ?_)
  obtain ⟨h38, e9, hJ⟩ := rp_b hJ
  refine rp_putF (ty := (.array .int)) X I e9 rfl wiX7 tyX7 tyX7_ok nmX7 (by decide) wm_552 rfl hinit rfl (by decide +kernel) rfl rfl dX7_init_156 (fun H locs I => ?_)
  refine lv_aload_n hx hb dX7_init_159 rfl (lv_at hl 0 rfl) ?_
  refine lv_bipush (v := 40) hx hb dX7_init_160 (by decide) ?_
  obtain ⟨q39, e9, hJ⟩ := rp_b hJ
  refine rp_newI (K := 40) (ty := .boolean) X I e9 (by decide) rfl rfl (by decide) wm_70 rfl (fun _ z => z) (Nat.le_of_ble_eq_true rfl) (Nat.le_of_ble_eq_true rfl) dX7_init_162 (fun H I => ?_)
  obtain ⟨h40, e9, hJ⟩ := rp_b hJ
  refine rp_putF (ty := (.array .boolean)) X I e9 rfl wiX7 tyX7 tyX7_ok nmX7 (by decide) wm_553 rfl hinit rfl (by decide +kernel) rfl rfl dX7_init_164 (fun H locs I => ?_)
  refine lv_aload_n hx hb dX7_init_167 rfl (lv_at hl 0 rfl) ?_
  refine lv_bipush (v := 40) hx hb dX7_init_168 (by decide) ?_
  obtain ⟨q41, e9, hJ⟩ := rp_b hJ
  refine rp_newI (K := 40) (ty := .int) X I e9 (by decide) rfl rfl (by decide) wm_69 rfl (fun _ z => z) (Nat.le_of_ble_eq_true rfl) (Nat.le_of_ble_eq_true rfl) dX7_init_170 (fun H I => ?_)
  obtain ⟨h42, e9, hJ⟩ := rp_b hJ
  refine rp_putF (ty := (.array .int)) X I e9 rfl wiX7 tyX7 tyX7_ok nmX7 (by decide) wm_554 rfl hinit rfl (by decide +kernel) rfl rfl dX7_init_172 (fun H locs I => ?_)
  refine lv_aload_n hx hb dX7_init_175 rfl (lv_at hl 0 rfl) ?_
  refine lv_bipush (v := 40) hx hb dX7_init_176 (by decide) ?_
  obtain ⟨q43, e9, hJ⟩ := rp_b hJ
  refine rp_newI (K := 40) (ty := .int) X I e9 (by decide) rfl rfl (by decide) wm_69 rfl (fun _ z => z) (Nat.le_of_ble_eq_true rfl) (Nat.le_of_ble_eq_true rfl) dX7_init_178 (fun H I => ?_)
  obtain ⟨h44, e9, hJ⟩ := rp_b hJ
  refine rp_putF (ty := (.array .int)) X I e9 rfl wiX7 tyX7 tyX7_ok nmX7 (by decide) wm_555 rfl hinit rfl (by decide +kernel) rfl rfl dX7_init_180 (fun H locs I => ?_)
  refine lv_aload_n hx hb dX7_init_183 rfl (lv_at hl 0 rfl) ?_
  refine lv_bipush (v := 40) hx hb dX7_init_184 (by decide) ?_
  obtain ⟨q45, e9, hJ⟩ := rp_b hJ
  refine rp_newI (K := 40) (ty := .int) X I e9 (by decide) rfl rfl (by decide) wm_69 rfl (fun _ z => z) (Nat.le_of_ble_eq_true rfl) (Nat.le_of_ble_eq_true rfl) dX7_init_186 (fun H I => ?_)
  obtain ⟨h46, e9, hJ⟩ := rp_b hJ
  refine rp_putF (ty := (.array .int)) X I e9 rfl wiX7 tyX7 tyX7_ok nmX7 (by decide) wm_556 rfl hinit rfl (by decide +kernel) rfl rfl dX7_init_188 (fun H locs I => ?_)
  refine lv_aload_n hx hb dX7_init_191 rfl (lv_at hl 0 rfl) ?_
  refine lv_bipush (v := 40) hx hb dX7_init_192 (by decide) ?_
  obtain ⟨q47, e9, hJ⟩ := rp_b hJ
  refine rp_newI (K := 40) (ty := .int) X I e9 (by decide) rfl rfl (by decide) wm_69 rfl (fun _ z => z) (Nat.le_of_ble_eq_true rfl) (Nat.le_of_ble_eq_true rfl) dX7_init_194 (fun H I => ?_)
  obtain ⟨h48, e9, hJ⟩ := rp_b hJ
  refine rp_putF (ty := (.array .int)) X I e9 rfl wiX7 tyX7 tyX7_ok nmX7 (by decide) wm_557 rfl hinit rfl (by decide +kernel) rfl rfl dX7_init_196 (fun H locs I => ?_)
  refine lv_aload_n hx hb dX7_init_199 rfl (lv_at hl 0 rfl) ?_
  refine lv_bipush (v := 40) hx hb dX7_init_200 (by decide) ?_
  obtain ⟨q49, e9, hJ⟩ := rp_b hJ
  refine rp_newI (K := 40) (ty := .int) X I e9 (by decide) rfl rfl (by decide) wm_69 rfl (fun _ z => z) (Nat.le_of_ble_eq_true rfl) (Nat.le_of_ble_eq_true rfl) dX7_init_202 (fun H I => ?_)
  obtain ⟨h50, e9, hJ⟩ := rp_b hJ
  refine rp_putF (ty := (.array .int)) X I e9 rfl wiX7 tyX7 tyX7_ok nmX7 (by decide) wm_558 rfl hinit rfl (by decide +kernel) rfl rfl dX7_init_204 (fun H locs I => ?_)
  refine lv_aload_n hx hb dX7_init_207 rfl (lv_at hl 0 rfl) ?_
  refine lv_bipush (v := 8) hx hb dX7_init_208 (by decide) ?_
  obtain ⟨q51, e9, hJ⟩ := rp_b hJ
  refine rp_newI (K := 8) (ty := .boolean) X I e9 (by decide) rfl rfl (by decide) wm_70 rfl (fun _ z => z) (Nat.le_of_ble_eq_true rfl) (Nat.le_of_ble_eq_true rfl) dX7_init_210 (fun H I => ?_)
  obtain ⟨h52, e9, hJ⟩ := rp_b hJ
  refine rp_putF (ty := (.array .boolean)) X I e9 rfl wiX7 tyX7 tyX7_ok nmX7 (by decide) wm_559 rfl hinit rfl (by decide +kernel) rfl rfl dX7_init_212 (fun H locs I => ?_)
  refine lv_aload_n hx hb dX7_init_215 rfl (lv_at hl 0 rfl) ?_
  refine lv_bipush (v := 40) hx hb dX7_init_216 (by decide) ?_
  obtain ⟨q53, e9, hJ⟩ := rp_b hJ
  refine rp_newI (K := 40) (ty := .int) X I e9 (by decide) rfl rfl (by decide) wm_69 rfl (fun _ z => z) (Nat.le_of_ble_eq_true rfl) (Nat.le_of_ble_eq_true rfl) dX7_init_218 (fun H I => ?_)
  obtain ⟨h54, e9, hJ⟩ := rp_b hJ
  refine rp_putF (ty := (.array .int)) X I e9 rfl wiX7 tyX7 tyX7_ok nmX7 (by decide) wm_565 rfl hinit rfl (by decide +kernel) rfl rfl dX7_init_220 (fun H locs I => ?_)
  refine lv_aload_n hx hb dX7_init_223 rfl (lv_at hl 0 rfl) ?_
  refine lv_bipush (v := 40) hx hb dX7_init_224 (by decide) ?_
  obtain ⟨q55, e9, hJ⟩ := rp_b hJ
  refine rp_newI (K := 40) (ty := .int) X I e9 (by decide) rfl rfl (by decide) wm_69 rfl (fun _ z => z) (Nat.le_of_ble_eq_true rfl) (Nat.le_of_ble_eq_true rfl) dX7_init_226 (fun H I => ?_)
  obtain ⟨h56, e9, hJ⟩ := rp_b hJ
  refine rp_putF (ty := (.array .int)) X I e9 rfl wiX7 tyX7 tyX7_ok nmX7 (by decide) wm_566 rfl hinit rfl (by decide +kernel) rfl rfl dX7_init_228 (fun H locs I => ?_)
  refine lv_aload_n hx hb dX7_init_231 rfl (lv_at hl 0 rfl) ?_
  refine lv_bipush (v := 40) hx hb dX7_init_232 (by decide) ?_
  obtain ⟨q57, e9, hJ⟩ := rp_b hJ
  refine rp_newI (K := 40) (ty := .int) X I e9 (by decide) rfl rfl (by decide) wm_69 rfl (fun _ z => z) (Nat.le_of_ble_eq_true rfl) (Nat.le_of_ble_eq_true rfl) dX7_init_234 (fun H I => ?_)
  obtain ⟨h58, e9, hJ⟩ := rp_b hJ
  refine rp_putF (ty := (.array .int)) X I e9 rfl wiX7 tyX7 tyX7_ok nmX7 (by decide) wm_567 rfl hinit rfl (by decide +kernel) rfl rfl dX7_init_236 (fun H locs I => ?_)
  refine lv_aload_n hx hb dX7_init_239 rfl (lv_at hl 0 rfl) ?_
  refine lv_bipush (v := 40) hx hb dX7_init_240 (by decide) ?_
  obtain ⟨q59, e9, hJ⟩ := rp_b hJ
  refine rp_newI (K := 40) (ty := .int) X I e9 (by decide) rfl rfl (by decide) wm_69 rfl (fun _ z => z) (Nat.le_of_ble_eq_true rfl) (Nat.le_of_ble_eq_true rfl) dX7_init_242 (fun H I => ?_)
  obtain ⟨h60, e9, hJ⟩ := rp_b hJ
  refine rp_putF (ty := (.array .int)) X I e9 rfl wiX7 tyX7 tyX7_ok nmX7 (by decide) wm_568 rfl hinit rfl (by decide +kernel) rfl rfl dX7_init_244 (fun H locs I => ?_)
  refine lv_aload_n hx hb dX7_init_247 rfl (lv_at hl 0 rfl) ?_
  refine lv_bipush (v := 40) hx hb dX7_init_248 (by decide) ?_
  obtain ⟨q61, e9, hJ⟩ := rp_b hJ
  refine rp_newI (K := 40) (ty := .int) X I e9 (by decide) rfl rfl (by decide) wm_69 rfl (fun _ z => z) (Nat.le_of_ble_eq_true rfl) (Nat.le_of_ble_eq_true rfl) dX7_init_250 (fun H I => ?_)
  obtain ⟨h62, e9, hJ⟩ := rp_b hJ
  refine rp_putF (ty := (.array .int)) X I e9 rfl wiX7 tyX7 tyX7_ok nmX7 (by decide) wm_569 rfl hinit rfl (by decide +kernel) rfl rfl dX7_init_252 (fun H locs I => ?_)
  refine lv_aload_n hx hb dX7_init_255 rfl (lv_at hl 0 rfl) ?_
  refine lv_bipush (v := 40) hx hb dX7_init_256 (by decide) ?_
  obtain ⟨q63, e9, hJ⟩ := rp_b hJ
  refine rp_newI (K := 40) (ty := .int) X I e9 (by decide) rfl rfl (by decide) wm_69 rfl (fun _ z => z) (Nat.le_of_ble_eq_true rfl) (Nat.le_of_ble_eq_true rfl) dX7_init_258 (fun H I => ?_)
  obtain ⟨h64, e9, hJ⟩ := rp_b hJ
  refine rp_putF (ty := (.array .int)) X I e9 rfl wiX7 tyX7 tyX7_ok nmX7 (by decide) wm_571 rfl hinit rfl (by decide +kernel) rfl rfl dX7_init_260 (fun H locs I => ?_)
  refine lv_aload_n hx hb dX7_init_263 rfl (lv_at hl 0 rfl) ?_
  refine lv_bipush (v := 40) hx hb dX7_init_264 (by decide) ?_
  obtain ⟨q65, e9, hJ⟩ := rp_b hJ
  refine rp_newI (K := 40) (ty := .int) X I e9 (by decide) rfl rfl (by decide) wm_69 rfl (fun _ z => z) (Nat.le_of_ble_eq_true rfl) (Nat.le_of_ble_eq_true rfl) dX7_init_266 (fun H I => ?_)
  obtain ⟨h66, e9, hJ⟩ := rp_b hJ
  refine rp_putF (ty := (.array .int)) X I e9 rfl wiX7 tyX7 tyX7_ok nmX7 (by decide) wm_572 rfl hinit rfl (by decide +kernel) rfl rfl dX7_init_268 (fun H locs I => ?_)
  refine lv_iconst (v := 0) hx hb dX7_init_271 (by decide) ?_
  refine lv_istore_n (lv' := [(1, .int (0 : Int32)), (0, .ref x0)]) hx hb dX7_init_272 rfl hl (by decide) rfl (fun ls hl => ?_)
  refine W.widen (k := 33) (n := 2120) (Nat.le_of_ble_eq_true rfl) (Nat.le_of_ble_eq_true rfl) ?_
  exact w_Mod_init_273 X hN hr hinit N _ _ _ _ _ _ hJ I (lv_sub hl [1, 0] rfl)
end GW
