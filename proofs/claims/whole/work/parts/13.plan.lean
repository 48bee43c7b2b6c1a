section GW
variable {p : Program} {l : Launch} {e : Env} {s : State} {m : MethodId} {args : Array Value} {below : List Frame} {meth : Method} {c : Code} {D : va_G} {tys : List (ClassId × FieldType)} {A : Nat → Prop}
def rmX2_init : Room := { frames := 1, cells := 3, slots := 120, locals := 20 }
def J_Plan_init (N : Nat) (x0 : Nat) (h : Hp) : Option (Unit × Hp) :=
  (nJ_ h 2 (40 : Int32)).bind fun q1 =>
  (sF q1.2 2 x0 0 (.ref q1.1)).bind fun h2 =>
  (nI_ h2 0 (40 : Int32)).bind fun q3 =>
  (sF q3.2 2 x0 1 (.ref q3.1)).bind fun h4 =>
  (nI_ h4 0 (40 : Int32)).bind fun q5 =>
  (sF q5.2 2 x0 3 (.ref q5.1)).bind fun h6 =>
  some ((), h6)
set_option maxHeartbeats 4000000 in
set_option maxRecDepth 100000 in
theorem c_Plan_init {l : Launch} {D : va_G} {tys : List (ClassId × FieldType)} {A : Nat → Prop} (hT : tys.map (fun q => q.2) = tyS) {N : Nat} {x0 : Nat} {h : Hp} {res : (Unit × Hp)} (hJ : J_Plan_init N x0 h = some res) : Ct l D vwCl tys A yX2_init (Cond.code yX2_init cX2_init 1 none :: wsG) rmX2_init [.ref x0] h none res.2 := by
  refine Met.ofW (cc := cX2_init) (maxL := 1) (ret := none) (by decide) rfl ?_
  intro p e s m args below meth c s₁ B hml hv
  obtain ⟨rfl, hA, hR, hK, hN⟩ := hv
  have hr := B.returns
  have hts : ∀ w ∈ wsG, w.before [.ref x0].toArray s = true := fun w hw => atoms_spec (ws := Cond.code yX2_init cX2_init 1 none :: wsG) B.pre w (List.mem_cons_of_mem _ hw)
  have X : Cx p s m [.ref x0].toArray meth c D vwCl tys cX2_init 1 RX2 wsG := ⟨⟨B.exec, B.bytes, hml, findClass_of_methodNamed B.named, hts⟩, hK, B.notSynchronized, hT⟩
  have hinit : meth.name = "<init>" := (name_of_methodNamed B.named B.method).1
  have hx := B.exec
  have hb := B.bytes
  have I : In D vwCl tys A s h s.heap [] := ⟨hR, va_S.rf, hA⟩
  have hl := lv_entry [.ref x0] (n := 1) (Nat.le_of_ble_eq_true rfl)
  rw [lg_entry_eq]
  generalize (lg_sl [.ref x0] ++ List.replicate (1 - (lg_sl [.ref x0]).length) Slot.unset).toArray = ls at hl ⊢
  have hl : lv_has ls 1 [(0, .ref x0)] := hl
  have ho := X.1.2.2.2.1
  rw [J_Plan_init] at hJ
  refine lv_aload_n hx hb dX2_init_0 rfl (lv_at hl 0 rfl) ?_
  refine W.objInit hx hb ho (hts _ wm_109) (hts _ wm_54) (hts _ wm_55) rfl (by rw [hml]; exact hl.1) rfl dX2_init_1 (Nat.le_of_ble_eq_true rfl) (Nat.le_of_ble_eq_true rfl) ?_
  refine W.eq (g2 := F0 m 4 ls []) rfl ?_
  refine lv_aload_n hx hb dX2_init_4 rfl (lv_at hl 0 rfl) ?_
  refine lv_bipush (v := 40) hx hb dX2_init_5 (by decide) ?_
  obtain ⟨q1, e9, hJ⟩ := rp_b hJ
  refine rp_newJ (K := 40) (ty := .long) X I e9 (by decide) rfl rfl (by decide) wm_121 rfl (fun _ z => z) (Nat.le_of_ble_eq_true rfl) (Nat.le_of_ble_eq_true rfl) dX2_init_7 (fun H I => ?_)
  obtain ⟨h2, e9, hJ⟩ := rp_b hJ
  refine rp_putF (ty := (.array .long)) X I e9 rfl wiX2 tyX2 tyX2_ok nmX2 (by decide) wm_110 rfl hinit rfl (by decide +kernel) rfl rfl dX2_init_9 (fun H locs I => ?_)
  refine lv_aload_n hx hb dX2_init_12 rfl (lv_at hl 0 rfl) ?_
  refine lv_bipush (v := 40) hx hb dX2_init_13 (by decide) ?_
  obtain ⟨q3, e9, hJ⟩ := rp_b hJ
  refine rp_newI (K := 40) (ty := .int) X I e9 (by decide) rfl rfl (by decide) wm_69 rfl (fun _ z => z) (Nat.le_of_ble_eq_true rfl) (Nat.le_of_ble_eq_true rfl) dX2_init_15 (fun H I => ?_)
  obtain ⟨h4, e9, hJ⟩ := rp_b hJ
  refine rp_putF (ty := (.array .int)) X I e9 rfl wiX2 tyX2 tyX2_ok nmX2 (by decide) wm_111 rfl hinit rfl (by decide +kernel) rfl rfl dX2_init_17 (fun H locs I => ?_)
  refine lv_aload_n hx hb dX2_init_20 rfl (lv_at hl 0 rfl) ?_
  refine lv_bipush (v := 40) hx hb dX2_init_21 (by decide) ?_
  obtain ⟨q5, e9, hJ⟩ := rp_b hJ
  refine rp_newI (K := 40) (ty := .int) X I e9 (by decide) rfl rfl (by decide) wm_69 rfl (fun _ z => z) (Nat.le_of_ble_eq_true rfl) (Nat.le_of_ble_eq_true rfl) dX2_init_23 (fun H I => ?_)
  obtain ⟨h6, e9, hJ⟩ := rp_b hJ
  refine rp_putF (ty := (.array .int)) X I e9 rfl wiX2 tyX2 tyX2_ok nmX2 (by decide) wm_113 rfl hinit rfl (by decide +kernel) rfl rfl dX2_init_25 (fun H locs I => ?_)
  refine W.widen (k := 3) (n := 120) (Nat.le_of_ble_eq_true rfl) (Nat.le_of_ble_eq_true rfl) ?_
  exact rp_vret X hr hJ I dX2_init_28
def rmX2_findNeeded : Room := { frames := 2, cells := 0, slots := 0, locals := 46 }
def J_Plan_findNeeded_75 (N : Nat) (r54 : Nat → Int32 → Int32 → Hp → Option (Unit × Hp)) : Nat → Nat → Int32 → Int64 → Int32 → Hp → Option (Unit × Hp)
  | 0, _, _, _, _, _ => none
  | n + 1, x0, x5, x6, x8, h =>
  if (40 : Int32) ≤ x8 then
  ((fJ h 2 x0 4).bind fun v4 =>
  if (lg_cmp v4 x6) = 0 then
  (r54 x0 (0 : Int32) (x5 + (1 : Int32)) h)
  else
  (r54 x0 (1 : Int32) (x5 + (1 : Int32)) h))
  else
  ((fJ h 2 x0 4).bind fun v5 =>
  (J_Desk_isIn N v5 x8 h).bind fun q6 =>
 if q6.1 = 0 then
  ((J_Plan_findNeeded_75 N r54 n) x0 x5 x6 (x8 + (1 : Int32)) q6.2)
  else
  ((fJ q6.2 2 x0 4).bind fun v7 =>
  (fR q6.2 2 x0 0).bind fun v8 =>
  (aJ q6.2 2 v8 x8).bind fun v9 =>
  (sF q6.2 2 x0 4 (.long (v7 ||| v9))).bind fun h10 =>
  (J_Plan_findNeeded_75 N r54 n) x0 x5 x6 (x8 + (1 : Int32)) h10))
def J_Plan_findNeeded_54 (N : Nat)  : Nat → Nat → Int32 → Int32 → Hp → Option (Unit × Hp)
  | 0, _, _, _, _ => none
  | n + 1, x0, x4, x5, h =>
  if x4 = 0 then
  (some ((), h))
  else
  (if (40 : Int32) ≤ x5 then
  (some ((), h))
  else
  ((fJ h 2 x0 4).bind fun v3 =>
  J_Plan_findNeeded_75 N (J_Plan_findNeeded_54 N n) N x0 x5 v3 (0 : Int32) h))
def J_Plan_findNeeded_3 (N : Nat)  : Nat → Nat → Int32 → Nat → Nat → Int32 → Hp → Option (Unit × Hp)
  | 0, _, _, _, _, _, _ => none
  | n + 1, x0, x1, x2, x3, x4, h =>
  if (40 : Int32) ≤ x4 then
  (if x1 = (-1 : Int32) then
  ((sF h 2 x0 4 (.long (0 : Int64))).bind fun h11 =>
  J_Plan_findNeeded_54 N N x0 (1 : Int32) (0 : Int32) h11)
  else
  ((J_Desk_bit N x1 h).bind fun q1 =>
 (sF q1.2 2 x0 4 (.long q1.1)).bind fun h2 =>
  J_Plan_findNeeded_54 N N x0 (1 : Int32) (0 : Int32) h2))
  else
  ((fR h 2 x0 0).bind fun v12 =>
  (aR h 3 x2 x4).bind fun v13 =>
  (isO h 5 v13).bind fun _ =>
  (J_Step_waitsFor N v13 x3 h).bind fun q14 =>
 (sJ q14.2 2 v12 x4 q14.1).bind fun h15 =>
  (J_Plan_findNeeded_3 N n) x0 x1 x2 x3 (x4 + (1 : Int32)) h15)
def J_Plan_findNeeded (N : Nat) (x0 : Nat) (x1 : Int32) (x2 : Nat) (x3 : Nat) (h : Hp) : Option (Unit × Hp) :=
  J_Plan_findNeeded_3 N N x0 x1 x2 x3 (0 : Int32) h
set_option maxHeartbeats 4000000 in
set_option maxRecDepth 100000 in
theorem w_Plan_findNeeded_75 (X : Cx p s m args meth c D vwCl tys cX2_findNeeded 9 RX2 wsG) (hN : nwS s) (hr : meth.sig.returnType = none) {res : (Unit × Hp)} {N : Nat} {r54 : Nat → Int32 → Int32 → Hp → Option (Unit × Hp)} (k54 : ∀ (x0 : Nat) (x4 : Int32) (x5 : Int32) (h : Hp) (H : Heap) (locs : List Loc) (ls : Array Slot), r54 x0 x4 x5 h = some res → In D vwCl tys A s h H locs → lv_has ls 9 [(0, .ref x0), (4, .int x4), (5, .int x5)] → W p l e rmX2_findNeeded s m args below meth c H locs 0 0 (MQ below (Qr D vwCl tys A none res.2) args s 0 0 A) (F0 m 54 ls [])) : ∀ (n : Nat) (x0 : Nat) (x5 : Int32) (x6 : Int64) (x8 : Int32)  (h : Hp) (H : Heap) (locs : List Loc) (ls : Array Slot), J_Plan_findNeeded_75 N r54 n x0 x5 x6 x8 h = some res → In D vwCl tys A s h H locs → lv_has ls 9 [(0, .ref x0), (5, .int x5), (6, .long x6), (8, .int x8)] → W p l e rmX2_findNeeded s m args below meth c H locs 0 0 (MQ below (Qr D vwCl tys A none res.2) args s 0 0 A) (F0 m 75 ls []) := by
  have hx := X.1.1
  have hb := X.1.2.1
  have hml := X.1.2.2.1
  have ho := X.1.2.2.2.1
  have hts := X.1.2.2.2.2
  have hK := X.2.1
  have hT := X.2.2.2
  intro n
  induction n with
  | zero =>
    intro x0 x5 x6 x8  h H locs ls hJ I hl
    exact nomatch (show (none : Option (Unit × Hp)) = some res from hJ)
  | succ n k75 =>
    intro x0 x5 x6 x8  h H locs ls hJ I hl
    rw [J_Plan_findNeeded_75] at hJ
    refine lv_iload hx hb dX2_findNeeded_75 (lv_at hl 3 rfl) ?_
    refine lv_bipush (v := 40) hx hb dX2_findNeeded_77 (by decide) ?_
    refine lv_icmp_ge (tgt := 116) hx hb dX2_findNeeded_79 (by decide) (fun c9 => ?_) (fun c9 => ?_)
    · rw [if_pos c9] at hJ
      refine lv_aload_n hx hb dX2_findNeeded_116 rfl (lv_at hl 0 rfl) ?_
      obtain ⟨v4, e9, hJ⟩ := rp_b hJ
      obtain ⟨f9, g9, e9⟩ := fJ_s e9
      refine rp_get X I g9 e9 rfl wiX2 (by decide) wm_114 dX2_findNeeded_117 ?_
      refine lv_lload hx hb dX2_findNeeded_120 (lv_at hl 2 rfl) ?_
      refine W.lcmp hx hb dX2_findNeeded_122 ?_
      refine lv_if_eq (tgt := 130) hx hb dX2_findNeeded_123 (by decide) (fun c9 => ?_) (fun c9 => ?_)
      · rw [if_pos c9] at hJ
        refine lv_iconst (v := 0) hx hb dX2_findNeeded_130 (by decide) ?_
        refine lv_istore (lv' := [(4, .int (0 : Int32)), (0, .ref x0), (5, .int x5), (6, .long x6), (8, .int x8)]) hx hb dX2_findNeeded_131 hl (by decide) rfl (fun ls hl => ?_)
        refine lv_iinc (v := (x5 + (1 : Int32))) (lv' := [(5, .int (x5 + (1 : Int32))), (4, .int (0 : Int32)), (0, .ref x0), (6, .long x6), (8, .int x8)]) hx hb dX2_findNeeded_133 hl (k := 2) rfl rfl (by decide) rfl (fun ls hl => ?_)
        refine lv_goto (tgt := 54) hx hb dX2_findNeeded_136 (by decide) ?_
        exact k54 _ _ _ _ _ _ _ hJ I (lv_sub hl [2, 1, 0] rfl)
      · rw [if_neg c9] at hJ
        refine lv_iconst (v := 1) hx hb dX2_findNeeded_126 (by decide) ?_
        refine lv_goto (tgt := 131) hx hb dX2_findNeeded_127 (by decide) ?_
        refine lv_istore (lv' := [(4, .int (1 : Int32)), (0, .ref x0), (5, .int x5), (6, .long x6), (8, .int x8)]) hx hb dX2_findNeeded_131 hl (by decide) rfl (fun ls hl => ?_)
        refine lv_iinc (v := (x5 + (1 : Int32))) (lv' := [(5, .int (x5 + (1 : Int32))), (4, .int (1 : Int32)), (0, .ref x0), (6, .long x6), (8, .int x8)]) hx hb dX2_findNeeded_133 hl (k := 2) rfl rfl (by decide) rfl (fun ls hl => ?_)
        refine lv_goto (tgt := 54) hx hb dX2_findNeeded_136 (by decide) ?_
        exact k54 _ _ _ _ _ _ _ hJ I (lv_sub hl [2, 1, 0] rfl)
    · rw [if_neg c9] at hJ
      refine lv_aload_n hx hb dX2_findNeeded_82 rfl (lv_at hl 0 rfl) ?_
      obtain ⟨v5, e9, hJ⟩ := rp_b hJ
      obtain ⟨f9, g9, e9⟩ := fJ_s e9
      refine rp_get X I g9 e9 rfl wiX2 (by decide) wm_114 dX2_findNeeded_83 ?_
      refine lv_iload hx hb dX2_findNeeded_86 (lv_at hl 3 rfl) ?_
      obtain ⟨q6, e9, hJ⟩ := rp_b hJ
      refine rp_callSN (As := [.long v5, .int x8]) (rest := []) X hN I (c_Desk_isIn hT e9) ⟨(va_cnB (host := "BuildDesk") 2 hts (gdC wm_354) rfl rfl rfl (hN.1 _ (by decide +kernel)) (hts _ wm_33) (by decide +kernel) ⟨Nat.le_of_ble_eq_true rfl, Nat.le_of_ble_eq_true rfl⟩), hts _ wm_353, trivial⟩ rfl hl.1 rfl (Nat.le_of_ble_eq_true rfl) dX2_findNeeded_88 ⟨(Nat.le_of_ble_eq_true rfl), (Nat.le_of_ble_eq_true rfl)⟩ (fun H locs I => ?_)
      refine W.cs (cells' := 0) (slots' := 0) rfl rfl ?_
      refine lv_if_eq (tgt := 110) hx hb dX2_findNeeded_91 (by decide) (fun c9 => ?_) (fun c9 => ?_)
      · rw [if_pos c9] at hJ
        refine lv_iinc (v := (x8 + (1 : Int32))) (lv' := [(8, .int (x8 + (1 : Int32))), (0, .ref x0), (5, .int x5), (6, .long x6)]) hx hb dX2_findNeeded_110 hl (k := 3) rfl rfl (by decide) rfl (fun ls hl => ?_)
        refine lv_goto (tgt := 75) hx hb dX2_findNeeded_113 (by decide) ?_
        exact k75 _ _ _ _ _ _ _ _ hJ I (lv_sub hl [1, 2, 3, 0] rfl)
      · rw [if_neg c9] at hJ
        refine lv_aload_n hx hb dX2_findNeeded_94 rfl (lv_at hl 0 rfl) ?_
        refine lv_dup hx hb dX2_findNeeded_95 rfl ?_
        obtain ⟨v7, e9, hJ⟩ := rp_b hJ
        obtain ⟨f9, g9, e9⟩ := fJ_s e9
        refine rp_get X I g9 e9 rfl wiX2 (by decide) wm_114 dX2_findNeeded_96 ?_
        refine lv_aload_n hx hb dX2_findNeeded_99 rfl (lv_at hl 0 rfl) ?_
        obtain ⟨v8, e9, hJ⟩ := rp_b hJ
        obtain ⟨f9, g9, e9⟩ := fR_s e9
        refine rp_get X I g9 e9 rfl wiX2 (by decide) wm_110 dX2_findNeeded_100 ?_
        refine lv_iload hx hb dX2_findNeeded_103 (lv_at hl 3 rfl) ?_
        obtain ⟨v9, e9, hJ⟩ := rp_b hJ
        refine rp_lald X I e9 rfl dX2_findNeeded_105 ?_
        refine lv_lor hx hb dX2_findNeeded_106 ?_
        obtain ⟨h10, e9, hJ⟩ := rp_b hJ
        refine rp_put (ty := .long) X I e9 rfl wiX2 tyX2 tyX2_ok nmX2 (by decide) wm_114 rfl (by decide +kernel) rfl rfl dX2_findNeeded_107 (fun H locs I => ?_)
        refine lv_iinc (v := (x8 + (1 : Int32))) (lv' := [(8, .int (x8 + (1 : Int32))), (0, .ref x0), (5, .int x5), (6, .long x6)]) hx hb dX2_findNeeded_110 hl (k := 3) rfl rfl (by decide) rfl (fun ls hl => ?_)
        refine lv_goto (tgt := 75) hx hb dX2_findNeeded_113 (by decide) ?_
        exact k75 _ _ _ _ _ _ _ _ hJ I (lv_sub hl [1, 2, 3, 0] rfl)
set_option maxHeartbeats 4000000 in
set_option maxRecDepth 100000 in
theorem w_Plan_findNeeded_54 (X : Cx p s m args meth c D vwCl tys cX2_findNeeded 9 RX2 wsG) (hN : nwS s) (hr : meth.sig.returnType = none) {res : (Unit × Hp)} {N : Nat}   : ∀ (n : Nat) (x0 : Nat) (x4 : Int32) (x5 : Int32)  (h : Hp) (H : Heap) (locs : List Loc) (ls : Array Slot), J_Plan_findNeeded_54 N n x0 x4 x5 h = some res → In D vwCl tys A s h H locs → lv_has ls 9 [(0, .ref x0), (4, .int x4), (5, .int x5)] → W p l e rmX2_findNeeded s m args below meth c H locs 0 0 (MQ below (Qr D vwCl tys A none res.2) args s 0 0 A) (F0 m 54 ls []) := by
  have hx := X.1.1
  have hb := X.1.2.1
  have hml := X.1.2.2.1
  have ho := X.1.2.2.2.1
  have hts := X.1.2.2.2.2
  have hK := X.2.1
  have hT := X.2.2.2
  intro n
  induction n with
  | zero =>
    intro x0 x4 x5  h H locs ls hJ I hl
    exact nomatch (show (none : Option (Unit × Hp)) = some res from hJ)
  | succ n k54 =>
    intro x0 x4 x5  h H locs ls hJ I hl
    rw [J_Plan_findNeeded_54] at hJ
    refine lv_iload hx hb dX2_findNeeded_54 (lv_at hl 1 rfl) ?_
    refine lv_if_eq (tgt := 139) hx hb dX2_findNeeded_56 (by decide) (fun c9 => ?_) (fun c9 => ?_)
    · rw [if_pos c9] at hJ
      exact rp_vret X hr hJ I dX2_findNeeded_139
    · rw [if_neg c9] at hJ
      refine lv_iload hx hb dX2_findNeeded_59 (lv_at hl 2 rfl) ?_
      refine lv_bipush (v := 40) hx hb dX2_findNeeded_61 (by decide) ?_
      refine lv_icmp_ge (tgt := 139) hx hb dX2_findNeeded_63 (by decide) (fun c9 => ?_) (fun c9 => ?_)
      · rw [if_pos c9] at hJ
        exact rp_vret X hr hJ I dX2_findNeeded_139
      · rw [if_neg c9] at hJ
        refine lv_aload_n hx hb dX2_findNeeded_66 rfl (lv_at hl 0 rfl) ?_
        obtain ⟨v3, e9, hJ⟩ := rp_b hJ
        obtain ⟨f9, g9, e9⟩ := fJ_s e9
        refine rp_get X I g9 e9 rfl wiX2 (by decide) wm_114 dX2_findNeeded_67 ?_
        refine lv_lstore (lv' := [(6, .long v3), (0, .ref x0), (4, .int x4), (5, .int x5)]) hx hb dX2_findNeeded_70 hl (by decide) rfl (fun ls hl => ?_)
        refine lv_iconst (v := 0) hx hb dX2_findNeeded_72 (by decide) ?_
        refine lv_istore (lv' := [(8, .int (0 : Int32)), (6, .long v3), (0, .ref x0), (4, .int x4), (5, .int x5)]) hx hb dX2_findNeeded_73 hl (by decide) rfl (fun ls hl => ?_)
        exact w_Plan_findNeeded_75 X hN hr k54 N _ _ _ _ _ _ _ _ hJ I (lv_sub hl [2, 4, 1, 0] rfl)
set_option maxHeartbeats 4000000 in
set_option maxRecDepth 100000 in
theorem w_Plan_findNeeded_3 (X : Cx p s m args meth c D vwCl tys cX2_findNeeded 9 RX2 wsG) (hN : nwS s) (hr : meth.sig.returnType = none) {res : (Unit × Hp)} {N : Nat}   : ∀ (n : Nat) (x0 : Nat) (x1 : Int32) (x2 : Nat) (x3 : Nat) (x4 : Int32)  (h : Hp) (H : Heap) (locs : List Loc) (ls : Array Slot), J_Plan_findNeeded_3 N n x0 x1 x2 x3 x4 h = some res → In D vwCl tys A s h H locs → lv_has ls 9 [(0, .ref x0), (1, .int x1), (2, .ref x2), (3, .ref x3), (4, .int x4)] → W p l e rmX2_findNeeded s m args below meth c H locs 0 0 (MQ below (Qr D vwCl tys A none res.2) args s 0 0 A) (F0 m 3 ls []) := by
  have hx := X.1.1
  have hb := X.1.2.1
  have hml := X.1.2.2.1
  have ho := X.1.2.2.2.1
  have hts := X.1.2.2.2.2
  have hK := X.2.1
  have hT := X.2.2.2
  intro n
  induction n with
  | zero =>
    intro x0 x1 x2 x3 x4  h H locs ls hJ I hl
    exact nomatch (show (none : Option (Unit × Hp)) = some res from hJ)
  | succ n k3 =>
    intro x0 x1 x2 x3 x4  h H locs ls hJ I hl
    rw [J_Plan_findNeeded_3] at hJ
    refine lv_iload hx hb dX2_findNeeded_3 (lv_at hl 4 rfl) ?_
    refine lv_bipush (v := 40) hx hb dX2_findNeeded_5 (by decide) ?_
    refine lv_icmp_ge (tgt := 31) hx hb dX2_findNeeded_7 (by decide) (fun c9 => ?_) (fun c9 => ?_)
    · rw [if_pos c9] at hJ
      refine lv_aload_n hx hb dX2_findNeeded_31 rfl (lv_at hl 0 rfl) ?_
      refine lv_iload_n hx hb dX2_findNeeded_32 rfl (lv_at hl 1 rfl) ?_
      refine lv_iconst (v := -1) hx hb dX2_findNeeded_33 (by decide) ?_
      refine lv_icmp_ne (tgt := 41) hx hb dX2_findNeeded_34 (by decide) (fun c9 => ?_) (fun c9 => ?_)
      · rw [if_neg c9] at hJ
        refine lv_iload_n hx hb dX2_findNeeded_41 rfl (lv_at hl 1 rfl) ?_
        obtain ⟨q1, e9, hJ⟩ := rp_b hJ
        refine rp_callSN (As := [.int x1]) (rest := [.ref x0]) X hN I (c_Desk_bit hT e9) ⟨(va_cnB (host := "BuildDesk") 1 hts (gdC wm_352) rfl rfl rfl (hN.1 _ (by decide +kernel)) (hts _ wm_33) (by decide +kernel) ⟨Nat.le_of_ble_eq_true rfl, Nat.le_of_ble_eq_true rfl⟩), hts _ wm_351, trivial⟩ rfl hl.1 rfl (Nat.le_of_ble_eq_true rfl) dX2_findNeeded_42 ⟨(Nat.le_of_ble_eq_true rfl), (Nat.le_of_ble_eq_true rfl)⟩ (fun H locs I => ?_)
        refine W.cs (cells' := 0) (slots' := 0) rfl rfl ?_
        obtain ⟨h2, e9, hJ⟩ := rp_b hJ
        refine rp_put (ty := .long) X I e9 rfl wiX2 tyX2 tyX2_ok nmX2 (by decide) wm_114 rfl (by decide +kernel) rfl rfl dX2_findNeeded_45 (fun H locs I => ?_)
        refine lv_iconst (v := 1) hx hb dX2_findNeeded_48 (by decide) ?_
        refine lv_istore (lv' := [(4, .int (1 : Int32)), (0, .ref x0), (1, .int x1), (2, .ref x2), (3, .ref x3)]) hx hb dX2_findNeeded_49 hl (by decide) rfl (fun ls hl => ?_)
        refine lv_iconst (v := 0) hx hb dX2_findNeeded_51 (by decide) ?_
        refine lv_istore (lv' := [(5, .int (0 : Int32)), (4, .int (1 : Int32)), (0, .ref x0), (1, .int x1), (2, .ref x2), (3, .ref x3)]) hx hb dX2_findNeeded_52 hl (by decide) rfl (fun ls hl => ?_)
        exact w_Plan_findNeeded_54 X hN hr N _ _ _ _ _ _ _ hJ I (lv_sub hl [2, 1, 0] rfl)
      · rw [if_pos c9] at hJ
        refine lv_lconst (v := 0) hx hb dX2_findNeeded_37 (by decide) ?_
        refine lv_goto (tgt := 45) hx hb dX2_findNeeded_38 (by decide) ?_
        obtain ⟨h11, e9, hJ⟩ := rp_b hJ
        refine rp_put (ty := .long) X I e9 rfl wiX2 tyX2 tyX2_ok nmX2 (by decide) wm_114 rfl (by decide +kernel) rfl rfl dX2_findNeeded_45 (fun H locs I => ?_)
        refine lv_iconst (v := 1) hx hb dX2_findNeeded_48 (by decide) ?_
        refine lv_istore (lv' := [(4, .int (1 : Int32)), (0, .ref x0), (1, .int x1), (2, .ref x2), (3, .ref x3)]) hx hb dX2_findNeeded_49 hl (by decide) rfl (fun ls hl => ?_)
        refine lv_iconst (v := 0) hx hb dX2_findNeeded_51 (by decide) ?_
        refine lv_istore (lv' := [(5, .int (0 : Int32)), (4, .int (1 : Int32)), (0, .ref x0), (1, .int x1), (2, .ref x2), (3, .ref x3)]) hx hb dX2_findNeeded_52 hl (by decide) rfl (fun ls hl => ?_)
        exact w_Plan_findNeeded_54 X hN hr N _ _ _ _ _ _ _ hJ I (lv_sub hl [2, 1, 0] rfl)
    · rw [if_neg c9] at hJ
      refine lv_aload_n hx hb dX2_findNeeded_10 rfl (lv_at hl 0 rfl) ?_
      obtain ⟨v12, e9, hJ⟩ := rp_b hJ
      obtain ⟨f9, g9, e9⟩ := fR_s e9
      refine rp_get X I g9 e9 rfl wiX2 (by decide) wm_110 dX2_findNeeded_11 ?_
      refine lv_iload hx hb dX2_findNeeded_14 (lv_at hl 4 rfl) ?_
      refine lv_aload_n hx hb dX2_findNeeded_16 rfl (lv_at hl 2 rfl) ?_
      refine lv_iload hx hb dX2_findNeeded_17 (lv_at hl 4 rfl) ?_
      obtain ⟨v13, e9, hJ⟩ := rp_b hJ
      refine rp_aald X I e9 rfl dX2_findNeeded_19 ?_
      refine lv_aload_n hx hb dX2_findNeeded_20 rfl (lv_at hl 3 rfl) ?_
      obtain ⟨u9, i9, hJ⟩ := rp_b hJ
      obtain ⟨f9, i9⟩ := isO_s i9
      obtain ⟨q14, e9, hJ⟩ := rp_b hJ
      refine rp_callV (As := [.ref x3]) (rest := [.int x4, .ref v12]) X hN I (c_Step_waitsFor hT e9) (cwV 1 hts (gdV wm_346 wm_347 wm_348 wm_35 wm_349) rfl rfl rfl (by decide +kernel) ⟨Nat.le_of_ble_eq_true rfl, Nat.le_of_ble_eq_true rfl⟩) i9 rfl rfl hl.1 rfl (Nat.le_of_ble_eq_true rfl) dX2_findNeeded_21 ⟨(Nat.le_of_ble_eq_true rfl), (Nat.le_of_ble_eq_true rfl)⟩ (fun H locs I => ?_)
      refine W.cs (cells' := 0) (slots' := 0) rfl rfl ?_
      obtain ⟨h15, e9, hJ⟩ := rp_b hJ
      refine rp_last X I e9 rfl dX2_findNeeded_24 (fun H locs I => ?_)
      refine lv_iinc (v := (x4 + (1 : Int32))) (lv' := [(4, .int (x4 + (1 : Int32))), (0, .ref x0), (1, .int x1), (2, .ref x2), (3, .ref x3)]) hx hb dX2_findNeeded_25 hl (k := 4) rfl rfl (by decide) rfl (fun ls hl => ?_)
      refine lv_goto (tgt := 3) hx hb dX2_findNeeded_28 (by decide) ?_
      exact k3 _ _ _ _ _ _ _ _ _ hJ I (lv_sub hl [1, 2, 3, 4, 0] rfl)
set_option maxHeartbeats 4000000 in
set_option maxRecDepth 100000 in
theorem c_Plan_findNeeded {l : Launch} {D : va_G} {tys : List (ClassId × FieldType)} {A : Nat → Prop} (hT : tys.map (fun q => q.2) = tyS) {N : Nat} {x0 : Nat} {x1 : Int32} {x2 : Nat} {x3 : Nat} {h : Hp} {res : (Unit × Hp)} (hJ : J_Plan_findNeeded N x0 x1 x2 x3 h = some res) : Ct l D vwCl tys A yX2_findNeeded (Cond.code yX2_findNeeded cX2_findNeeded 9 none :: wsG) rmX2_findNeeded [.ref x0, .int x1, .ref x2, .ref x3] h none res.2 := by
  refine Met.ofW (cc := cX2_findNeeded) (maxL := 9) (ret := none) (by decide) rfl ?_
  intro p e s m args below meth c s₁ B hml hv
  obtain ⟨rfl, hA, hR, hK, hN⟩ := hv
  have hr := B.returns
  have hts : ∀ w ∈ wsG, w.before [.ref x0, .int x1, .ref x2, .ref x3].toArray s = true := fun w hw => atoms_spec (ws := Cond.code yX2_findNeeded cX2_findNeeded 9 none :: wsG) B.pre w (List.mem_cons_of_mem _ hw)
  have X : Cx p s m [.ref x0, .int x1, .ref x2, .ref x3].toArray meth c D vwCl tys cX2_findNeeded 9 RX2 wsG := ⟨⟨B.exec, B.bytes, hml, findClass_of_methodNamed B.named, hts⟩, hK, B.notSynchronized, hT⟩
  have hx := B.exec
  have hb := B.bytes
  have I : In D vwCl tys A s h s.heap [] := ⟨hR, va_S.rf, hA⟩
  have hl := lv_entry [.ref x0, .int x1, .ref x2, .ref x3] (n := 9) (Nat.le_of_ble_eq_true rfl)
  rw [lg_entry_eq]
  generalize (lg_sl [.ref x0, .int x1, .ref x2, .ref x3] ++ List.replicate (9 - (lg_sl [.ref x0, .int x1, .ref x2, .ref x3]).length) Slot.unset).toArray = ls at hl ⊢
  have hl : lv_has ls 9 [(0, .ref x0), (1, .int x1), (2, .ref x2), (3, .ref x3)] := hl
  have ho := X.1.2.2.2.1
  rw [J_Plan_findNeeded] at hJ
  refine lv_iconst (v := 0) hx hb dX2_findNeeded_0 (by decide) ?_
  refine lv_istore (lv' := [(4, .int (0 : Int32)), (0, .ref x0), (1, .int x1), (2, .ref x2), (3, .ref x3)]) hx hb dX2_findNeeded_1 hl (by decide) rfl (fun ls hl => ?_)
  exact w_Plan_findNeeded_3 X hN hr N _ _ _ _ _ _ _ _ _ hJ I (lv_sub hl [1, 2, 3, 4, 0] rfl)
def rmX2_lineUp : Room := { frames := 2, cells := 0, slots := 0, locals := 42 }
def J_Plan_lineUp_111 (N : Nat)  (x0 : Nat) (x1 : Int64)  (h : Hp) : Option (Int32 × Hp) :=
  (fJ h 2 x0 4).bind fun v3 =>
  if (lg_cmp x1 v3) = 0 then
  (some ((1 : Int32), h))
  else
  (some ((0 : Int32), h))
def J_Plan_lineUp_27 (N : Nat) (r9 : Nat → Int64 → Int32 → Hp → Option (Int32 × Hp)) : Nat → Nat → Int64 → Int32 → Int32 → Hp → Option (Int32 × Hp)
  | 0, _, _, _, _, _ => none
  | n + 1, x0, x1, x3, x4, h =>
  if (40 : Int32) ≤ x4 then
  (r9 x0 x1 (x3 + (1 : Int32)) h)
  else
  ((fJ h 2 x0 4).bind fun v4 =>
  (J_Desk_isIn N (v4 &&& (x1 ^^^ (-1 : Int64))) x4 h).bind fun q5 =>
 if q5.1 = 0 then
  ((J_Plan_lineUp_27 N r9 n) x0 x1 x3 (x4 + (1 : Int32)) q5.2)
  else
  ((fR q5.2 2 x0 0).bind fun v6 =>
  (aJ q5.2 2 v6 x4).bind fun v7 =>
  if (lg_cmp (v7 &&& (x1 ^^^ (-1 : Int64))) (0 : Int64)) = 0 then
  ((fR q5.2 2 x0 1).bind fun v8 =>
  (fI q5.2 2 x0 2).bind fun v9 =>
  (sI q5.2 0 v8 v9 x4).bind fun h10 =>
  (fI h10 2 x0 2).bind fun v11 =>
  (sF h10 2 x0 2 (.int (v11 + (1 : Int32)))).bind fun h12 =>
  (J_Desk_bit N x4 h12).bind fun q13 =>
 (J_Plan_lineUp_27 N r9 n) x0 (x1 ||| q13.1) x3 (x4 + (1 : Int32)) q13.2)
  else
  ((J_Plan_lineUp_27 N r9 n) x0 x1 x3 (x4 + (1 : Int32)) q5.2)))
def J_Plan_lineUp_9 (N : Nat)  : Nat → Nat → Int64 → Int32 → Hp → Option (Int32 × Hp)
  | 0, _, _, _, _ => none
  | n + 1, x0, x1, x3, h =>
  (fJ h 2 x0 4).bind fun v2 =>
  if (lg_cmp x1 v2) = 0 then
  (J_Plan_lineUp_111 N x0 x1 h)
  else
  (if (40 : Int32) ≤ x3 then
  (J_Plan_lineUp_111 N x0 x1 h)
  else
  (J_Plan_lineUp_27 N (J_Plan_lineUp_9 N n) N x0 x1 x3 (0 : Int32) h))
def J_Plan_lineUp (N : Nat) (x0 : Nat) (h : Hp) : Option (Int32 × Hp) :=
  (sF h 2 x0 2 (.int (0 : Int32))).bind fun h1 =>
  J_Plan_lineUp_9 N N x0 (0 : Int64) (0 : Int32) h1
set_option maxHeartbeats 4000000 in
set_option maxRecDepth 100000 in
theorem w_Plan_lineUp_111 (X : Cx p s m args meth c D vwCl tys cX2_lineUp 5 RX2 wsG) (hN : nwS s) (hr : meth.sig.returnType = (some .boolean)) {res : (Int32 × Hp)} {N : Nat}   : ∀ (x0 : Nat) (x1 : Int64)  (h : Hp) (H : Heap) (locs : List Loc) (ls : Array Slot), J_Plan_lineUp_111 N x0 x1 h = some res → In D vwCl tys A s h H locs → lv_has ls 5 [(0, .ref x0), (1, .long x1)] → W p l e rmX2_lineUp s m args below meth c H locs 0 0 (MQ below (Qr D vwCl tys A (some (.int res.1)) res.2) args s 0 0 A) (F0 m 111 ls []) := by
  have hx := X.1.1
  have hb := X.1.2.1
  have hml := X.1.2.2.1
  have ho := X.1.2.2.2.1
  have hts := X.1.2.2.2.2
  have hK := X.2.1
  have hT := X.2.2.2
  intro x0 x1  h H locs ls hJ I hl
  rw [J_Plan_lineUp_111] at hJ
  refine lv_lload_n hx hb dX2_lineUp_111 rfl (lv_at hl 1 rfl) ?_
  refine lv_aload_n hx hb dX2_lineUp_112 rfl (lv_at hl 0 rfl) ?_
  obtain ⟨v3, e9, hJ⟩ := rp_b hJ
  obtain ⟨f9, g9, e9⟩ := fJ_s e9
  refine rp_get X I g9 e9 rfl wiX2 (by decide) wm_114 dX2_lineUp_113 ?_
  refine W.lcmp hx hb dX2_lineUp_116 ?_
  refine lv_if_ne (tgt := 124) hx hb dX2_lineUp_117 (by decide) (fun c9 => ?_) (fun c9 => ?_)
  · rw [if_neg c9] at hJ
    refine lv_iconst (v := 0) hx hb dX2_lineUp_124 (by decide) ?_
    exact rp_zret X hr (Or.inl rfl) hJ I dX2_lineUp_125
  · rw [if_pos c9] at hJ
    refine lv_iconst (v := 1) hx hb dX2_lineUp_120 (by decide) ?_
    refine lv_goto (tgt := 125) hx hb dX2_lineUp_121 (by decide) ?_
    exact rp_zret X hr (Or.inr rfl) hJ I dX2_lineUp_125
set_option maxHeartbeats 4000000 in
set_option maxRecDepth 100000 in
theorem w_Plan_lineUp_27 (X : Cx p s m args meth c D vwCl tys cX2_lineUp 5 RX2 wsG) (hN : nwS s) (hr : meth.sig.returnType = (some .boolean)) {res : (Int32 × Hp)} {N : Nat} {r9 : Nat → Int64 → Int32 → Hp → Option (Int32 × Hp)} (k9 : ∀ (x0 : Nat) (x1 : Int64) (x3 : Int32) (h : Hp) (H : Heap) (locs : List Loc) (ls : Array Slot), r9 x0 x1 x3 h = some res → In D vwCl tys A s h H locs → lv_has ls 5 [(0, .ref x0), (1, .long x1), (3, .int x3)] → W p l e rmX2_lineUp s m args below meth c H locs 0 0 (MQ below (Qr D vwCl tys A (some (.int res.1)) res.2) args s 0 0 A) (F0 m 9 ls [])) : ∀ (n : Nat) (x0 : Nat) (x1 : Int64) (x3 : Int32) (x4 : Int32)  (h : Hp) (H : Heap) (locs : List Loc) (ls : Array Slot), J_Plan_lineUp_27 N r9 n x0 x1 x3 x4 h = some res → In D vwCl tys A s h H locs → lv_has ls 5 [(0, .ref x0), (1, .long x1), (3, .int x3), (4, .int x4)] → W p l e rmX2_lineUp s m args below meth c H locs 0 0 (MQ below (Qr D vwCl tys A (some (.int res.1)) res.2) args s 0 0 A) (F0 m 27 ls []) := by
  have hx := X.1.1
  have hb := X.1.2.1
  have hml := X.1.2.2.1
  have ho := X.1.2.2.2.1
  have hts := X.1.2.2.2.2
  have hK := X.2.1
  have hT := X.2.2.2
  intro n
  induction n with
  | zero =>
    intro x0 x1 x3 x4  h H locs ls hJ I hl
    exact nomatch (show (none : Option (Int32 × Hp)) = some res from hJ)
  | succ n k27 =>
    intro x0 x1 x3 x4  h H locs ls hJ I hl
    rw [J_Plan_lineUp_27] at hJ
    refine lv_iload hx hb dX2_lineUp_27 (lv_at hl 3 rfl) ?_
    refine lv_bipush (v := 40) hx hb dX2_lineUp_29 (by decide) ?_
    refine lv_icmp_ge (tgt := 105) hx hb dX2_lineUp_31 (by decide) (fun c9 => ?_) (fun c9 => ?_)
    · rw [if_pos c9] at hJ
      refine lv_iinc (v := (x3 + (1 : Int32))) (lv' := [(3, .int (x3 + (1 : Int32))), (0, .ref x0), (1, .long x1), (4, .int x4)]) hx hb dX2_lineUp_105 hl (k := 2) rfl rfl (by decide) rfl (fun ls hl => ?_)
      refine lv_goto (tgt := 9) hx hb dX2_lineUp_108 (by decide) ?_
      exact k9 _ _ _ _ _ _ _ hJ I (lv_sub hl [1, 2, 0] rfl)
    · rw [if_neg c9] at hJ
      refine lv_aload_n hx hb dX2_lineUp_34 rfl (lv_at hl 0 rfl) ?_
      obtain ⟨v4, e9, hJ⟩ := rp_b hJ
      obtain ⟨f9, g9, e9⟩ := fJ_s e9
      refine rp_get X I g9 e9 rfl wiX2 (by decide) wm_114 dX2_lineUp_35 ?_
      refine lv_lload_n hx hb dX2_lineUp_38 rfl (lv_at hl 1 rfl) ?_
      refine lv_ldc2 (v := (-1)) hx hb ho (hts _ wm_360) dX2_lineUp_39 ?_
      refine lv_lxor hx hb dX2_lineUp_42 ?_
      refine lv_land hx hb dX2_lineUp_43 ?_
      refine lv_iload hx hb dX2_lineUp_44 (lv_at hl 3 rfl) ?_
      obtain ⟨q5, e9, hJ⟩ := rp_b hJ
      refine rp_callSN (As := [.long (v4 &&& (x1 ^^^ (-1 : Int64))), .int x4]) (rest := []) X hN I (c_Desk_isIn hT e9) ⟨(va_cnB (host := "BuildDesk") 2 hts (gdC wm_354) rfl rfl rfl (hN.1 _ (by decide +kernel)) (hts _ wm_33) (by decide +kernel) ⟨Nat.le_of_ble_eq_true rfl, Nat.le_of_ble_eq_true rfl⟩), hts _ wm_353, trivial⟩ rfl hl.1 rfl (Nat.le_of_ble_eq_true rfl) dX2_lineUp_46 ⟨(Nat.le_of_ble_eq_true rfl), (Nat.le_of_ble_eq_true rfl)⟩ (fun H locs I => ?_)
      refine W.cs (cells' := 0) (slots' := 0) rfl rfl ?_
      refine lv_if_eq (tgt := 99) hx hb dX2_lineUp_49 (by decide) (fun c9 => ?_) (fun c9 => ?_)
      · rw [if_pos c9] at hJ
        refine lv_iinc (v := (x4 + (1 : Int32))) (lv' := [(4, .int (x4 + (1 : Int32))), (0, .ref x0), (1, .long x1), (3, .int x3)]) hx hb dX2_lineUp_99 hl (k := 3) rfl rfl (by decide) rfl (fun ls hl => ?_)
        refine lv_goto (tgt := 27) hx hb dX2_lineUp_102 (by decide) ?_
        exact k27 _ _ _ _ _ _ _ _ hJ I (lv_sub hl [1, 2, 3, 0] rfl)
      · rw [if_neg c9] at hJ
        refine lv_aload_n hx hb dX2_lineUp_52 rfl (lv_at hl 0 rfl) ?_
        obtain ⟨v6, e9, hJ⟩ := rp_b hJ
        obtain ⟨f9, g9, e9⟩ := fR_s e9
        refine rp_get X I g9 e9 rfl wiX2 (by decide) wm_110 dX2_lineUp_53 ?_
        refine lv_iload hx hb dX2_lineUp_56 (lv_at hl 3 rfl) ?_
        obtain ⟨v7, e9, hJ⟩ := rp_b hJ
        refine rp_lald X I e9 rfl dX2_lineUp_58 ?_
        refine lv_lload_n hx hb dX2_lineUp_59 rfl (lv_at hl 1 rfl) ?_
        refine lv_ldc2 (v := (-1)) hx hb ho (hts _ wm_360) dX2_lineUp_60 ?_
        refine lv_lxor hx hb dX2_lineUp_63 ?_
        refine lv_land hx hb dX2_lineUp_64 ?_
        refine lv_lconst (v := 0) hx hb dX2_lineUp_65 (by decide) ?_
        refine W.lcmp hx hb dX2_lineUp_66 ?_
        refine lv_if_ne (tgt := 99) hx hb dX2_lineUp_67 (by decide) (fun c9 => ?_) (fun c9 => ?_)
        · rw [if_neg c9] at hJ
          refine lv_iinc (v := (x4 + (1 : Int32))) (lv' := [(4, .int (x4 + (1 : Int32))), (0, .ref x0), (1, .long x1), (3, .int x3)]) hx hb dX2_lineUp_99 hl (k := 3) rfl rfl (by decide) rfl (fun ls hl => ?_)
          refine lv_goto (tgt := 27) hx hb dX2_lineUp_102 (by decide) ?_
          exact k27 _ _ _ _ _ _ _ _ hJ I (lv_sub hl [1, 2, 3, 0] rfl)
        · rw [if_pos c9] at hJ
          refine lv_aload_n hx hb dX2_lineUp_70 rfl (lv_at hl 0 rfl) ?_
          obtain ⟨v8, e9, hJ⟩ := rp_b hJ
          obtain ⟨f9, g9, e9⟩ := fR_s e9
          refine rp_get X I g9 e9 rfl wiX2 (by decide) wm_111 dX2_lineUp_71 ?_
          refine lv_aload_n hx hb dX2_lineUp_74 rfl (lv_at hl 0 rfl) ?_
          obtain ⟨v9, e9, hJ⟩ := rp_b hJ
          obtain ⟨f9, g9, e9⟩ := fI_s e9
          refine rp_get X I g9 e9 rfl wiX2 (by decide) wm_112 dX2_lineUp_75 ?_
          refine lv_iload hx hb dX2_lineUp_78 (lv_at hl 3 rfl) ?_
          obtain ⟨h10, e9, hJ⟩ := rp_b hJ
          refine rp_iast X I e9 rfl dX2_lineUp_80 (fun H locs I => ?_)
          refine lv_aload_n hx hb dX2_lineUp_81 rfl (lv_at hl 0 rfl) ?_
          refine lv_dup hx hb dX2_lineUp_82 rfl ?_
          obtain ⟨v11, e9, hJ⟩ := rp_b hJ
          obtain ⟨f9, g9, e9⟩ := fI_s e9
          refine rp_get X I g9 e9 rfl wiX2 (by decide) wm_112 dX2_lineUp_83 ?_
          refine lv_iconst (v := 1) hx hb dX2_lineUp_86 (by decide) ?_
          refine lv_iadd hx hb dX2_lineUp_87 ?_
          obtain ⟨h12, e9, hJ⟩ := rp_b hJ
          refine rp_put (ty := .int) X I e9 rfl wiX2 tyX2 tyX2_ok nmX2 (by decide) wm_112 rfl (by decide +kernel) rfl rfl dX2_lineUp_88 (fun H locs I => ?_)
          refine lv_lload_n hx hb dX2_lineUp_91 rfl (lv_at hl 1 rfl) ?_
          refine lv_iload hx hb dX2_lineUp_92 (lv_at hl 3 rfl) ?_
          obtain ⟨q13, e9, hJ⟩ := rp_b hJ
          refine rp_callSN (As := [.int x4]) (rest := [.long x1]) X hN I (c_Desk_bit hT e9) ⟨(va_cnB (host := "BuildDesk") 1 hts (gdC wm_352) rfl rfl rfl (hN.1 _ (by decide +kernel)) (hts _ wm_33) (by decide +kernel) ⟨Nat.le_of_ble_eq_true rfl, Nat.le_of_ble_eq_true rfl⟩), hts _ wm_351, trivial⟩ rfl hl.1 rfl (Nat.le_of_ble_eq_true rfl) dX2_lineUp_94 ⟨(Nat.le_of_ble_eq_true rfl), (Nat.le_of_ble_eq_true rfl)⟩ (fun H locs I => ?_)
          refine W.cs (cells' := 0) (slots' := 0) rfl rfl ?_
          refine lv_lor hx hb dX2_lineUp_97 ?_
          refine lv_lstore_n (lv' := [(1, .long (x1 ||| q13.1)), (0, .ref x0), (3, .int x3), (4, .int x4)]) hx hb dX2_lineUp_98 rfl hl (by decide) rfl (fun ls hl => ?_)
          refine lv_iinc (v := (x4 + (1 : Int32))) (lv' := [(4, .int (x4 + (1 : Int32))), (1, .long (x1 ||| q13.1)), (0, .ref x0), (3, .int x3)]) hx hb dX2_lineUp_99 hl (k := 3) rfl rfl (by decide) rfl (fun ls hl => ?_)
          refine lv_goto (tgt := 27) hx hb dX2_lineUp_102 (by decide) ?_
          exact k27 _ _ _ _ _ _ _ _ hJ I (lv_sub hl [2, 1, 3, 0] rfl)
set_option maxHeartbeats 4000000 in
set_option maxRecDepth 100000 in
theorem w_Plan_lineUp_9 (X : Cx p s m args meth c D vwCl tys cX2_lineUp 5 RX2 wsG) (hN : nwS s) (hr : meth.sig.returnType = (some .boolean)) {res : (Int32 × Hp)} {N : Nat}   : ∀ (n : Nat) (x0 : Nat) (x1 : Int64) (x3 : Int32)  (h : Hp) (H : Heap) (locs : List Loc) (ls : Array Slot), J_Plan_lineUp_9 N n x0 x1 x3 h = some res → In D vwCl tys A s h H locs → lv_has ls 5 [(0, .ref x0), (1, .long x1), (3, .int x3)] → W p l e rmX2_lineUp s m args below meth c H locs 0 0 (MQ below (Qr D vwCl tys A (some (.int res.1)) res.2) args s 0 0 A) (F0 m 9 ls []) := by
  have hx := X.1.1
  have hb := X.1.2.1
  have hml := X.1.2.2.1
  have ho := X.1.2.2.2.1
  have hts := X.1.2.2.2.2
  have hK := X.2.1
  have hT := X.2.2.2
  intro n
  induction n with
  | zero =>
    intro x0 x1 x3  h H locs ls hJ I hl
    exact nomatch (show (none : Option (Int32 × Hp)) = some res from hJ)
  | succ n k9 =>
    intro x0 x1 x3  h H locs ls hJ I hl
    rw [J_Plan_lineUp_9] at hJ
    refine lv_lload_n hx hb dX2_lineUp_9 rfl (lv_at hl 1 rfl) ?_
    refine lv_aload_n hx hb dX2_lineUp_10 rfl (lv_at hl 0 rfl) ?_
    obtain ⟨v2, e9, hJ⟩ := rp_b hJ
    obtain ⟨f9, g9, e9⟩ := fJ_s e9
    refine rp_get X I g9 e9 rfl wiX2 (by decide) wm_114 dX2_lineUp_11 ?_
    refine W.lcmp hx hb dX2_lineUp_14 ?_
    refine lv_if_eq (tgt := 111) hx hb dX2_lineUp_15 (by decide) (fun c9 => ?_) (fun c9 => ?_)
    · rw [if_pos c9] at hJ
      exact w_Plan_lineUp_111 X hN hr _ _ _ _ _ _ hJ I (lv_sub hl [0, 1] rfl)
    · rw [if_neg c9] at hJ
      refine lv_iload_n hx hb dX2_lineUp_18 rfl (lv_at hl 2 rfl) ?_
      refine lv_bipush (v := 40) hx hb dX2_lineUp_19 (by decide) ?_
      refine lv_icmp_ge (tgt := 111) hx hb dX2_lineUp_21 (by decide) (fun c9 => ?_) (fun c9 => ?_)
      · rw [if_pos c9] at hJ
        exact w_Plan_lineUp_111 X hN hr _ _ _ _ _ _ hJ I (lv_sub hl [0, 1] rfl)
      · rw [if_neg c9] at hJ
        refine lv_iconst (v := 0) hx hb dX2_lineUp_24 (by decide) ?_
        refine lv_istore (lv' := [(4, .int (0 : Int32)), (0, .ref x0), (1, .long x1), (3, .int x3)]) hx hb dX2_lineUp_25 hl (by decide) rfl (fun ls hl => ?_)
        exact w_Plan_lineUp_27 X hN hr k9 N _ _ _ _ _ _ _ _ hJ I (lv_sub hl [1, 2, 3, 0] rfl)
set_option maxHeartbeats 4000000 in
set_option maxRecDepth 100000 in
theorem c_Plan_lineUp {l : Launch} {D : va_G} {tys : List (ClassId × FieldType)} {A : Nat → Prop} (hT : tys.map (fun q => q.2) = tyS) {N : Nat} {x0 : Nat} {h : Hp} {res : (Int32 × Hp)} (hJ : J_Plan_lineUp N x0 h = some res) : Ct l D vwCl tys A yX2_lineUp (Cond.code yX2_lineUp cX2_lineUp 5 (some .boolean) :: wsG) rmX2_lineUp [.ref x0] h (some (.int res.1)) res.2 := by
  refine Met.ofW (cc := cX2_lineUp) (maxL := 5) (ret := (some .boolean)) (by decide) rfl ?_
  intro p e s m args below meth c s₁ B hml hv
  obtain ⟨rfl, hA, hR, hK, hN⟩ := hv
  have hr := B.returns
  have hts : ∀ w ∈ wsG, w.before [.ref x0].toArray s = true := fun w hw => atoms_spec (ws := Cond.code yX2_lineUp cX2_lineUp 5 (some .boolean) :: wsG) B.pre w (List.mem_cons_of_mem _ hw)
  have X : Cx p s m [.ref x0].toArray meth c D vwCl tys cX2_lineUp 5 RX2 wsG := ⟨⟨B.exec, B.bytes, hml, findClass_of_methodNamed B.named, hts⟩, hK, B.notSynchronized, hT⟩
  have hx := B.exec
  have hb := B.bytes
  have I : In D vwCl tys A s h s.heap [] := ⟨hR, va_S.rf, hA⟩
  have hl := lv_entry [.ref x0] (n := 5) (Nat.le_of_ble_eq_true rfl)
  rw [lg_entry_eq]
  generalize (lg_sl [.ref x0] ++ List.replicate (5 - (lg_sl [.ref x0]).length) Slot.unset).toArray = ls at hl ⊢
  have hl : lv_has ls 5 [(0, .ref x0)] := hl
  have ho := X.1.2.2.2.1
  rw [J_Plan_lineUp] at hJ
  refine lv_lconst (v := 0) hx hb dX2_lineUp_0 (by decide) ?_
  refine lv_lstore_n (lv' := [(1, .long (0 : Int64)), (0, .ref x0)]) hx hb dX2_lineUp_1 rfl hl (by decide) rfl (fun ls hl => ?_)
  refine lv_aload_n hx hb dX2_lineUp_2 rfl (lv_at hl 1 rfl) ?_
  refine lv_iconst (v := 0) hx hb dX2_lineUp_3 (by decide) ?_
  obtain ⟨h1, e9, hJ⟩ := rp_b hJ
  refine rp_put (ty := .int) X I e9 rfl wiX2 tyX2 tyX2_ok nmX2 (by decide) wm_112 rfl (by decide +kernel) rfl rfl dX2_lineUp_4 (fun H locs I => ?_)
  refine lv_iconst (v := 0) hx hb dX2_lineUp_7 (by decide) ?_
  refine lv_istore_n (lv' := [(3, .int (0 : Int32)), (1, .long (0 : Int64)), (0, .ref x0)]) hx hb dX2_lineUp_8 rfl hl (by decide) rfl (fun ls hl => ?_)
  exact w_Plan_lineUp_9 X hN hr N _ _ _ _ _ _ _ hJ I (lv_sub hl [2, 1, 0] rfl)
def rmX2_rankSteps : Room := { frames := 2, cells := 0, slots := 0, locals := 42 }
def J_Plan_rankSteps_47 (N : Nat) (r33 : Nat → Nat → Int32 → Hp → Option (Unit × Hp)) : Nat → Nat → Nat → Int32 → Int32 → Int32 → Hp → Option (Unit × Hp)
  | 0, _, _, _, _, _, _ => none
  | n + 1, x0, x1, x2, x3, x4, h =>
  if (40 : Int32) ≤ x4 then
  (r33 x0 x1 (x2 + (-1 : Int32)) h)
  else
  ((fR h 2 x0 0).bind fun v4 =>
  (aJ h 2 v4 x3).bind fun v5 =>
  (J_Desk_isIn N v5 x4 h).bind fun q6 =>
 if q6.1 = 0 then
  ((J_Plan_rankSteps_47 N r33 n) x0 x1 x2 x3 (x4 + (1 : Int32)) q6.2)
  else
  ((fR q6.2 2 x0 3).bind fun v7 =>
  (fR q6.2 2 x0 3).bind fun v8 =>
  (aI q6.2 0 v8 x4).bind fun v9 =>
  (aR q6.2 3 x1 x4).bind fun v10 =>
  (fI q6.2 5 v10 3).bind fun v11 =>
  (fR q6.2 2 x0 3).bind fun v12 =>
  (aI q6.2 0 v12 x3).bind fun v13 =>
  (sI q6.2 0 v7 x4 (if v9 < (v11 + v13) then (v11 + v13) else v9)).bind fun h14 =>
  (J_Plan_rankSteps_47 N r33 n) x0 x1 x2 x3 (x4 + (1 : Int32)) h14))
def J_Plan_rankSteps_33 (N : Nat)  : Nat → Nat → Nat → Int32 → Hp → Option (Unit × Hp)
  | 0, _, _, _, _ => none
  | n + 1, x0, x1, x2, h =>
  if x2 < 0 then
  (some ((), h))
  else
  ((fR h 2 x0 1).bind fun v2 =>
  (aI h 0 v2 x2).bind fun v3 =>
  J_Plan_rankSteps_47 N (J_Plan_rankSteps_33 N n) N x0 x1 x2 v3 (0 : Int32) h)
def J_Plan_rankSteps_2 (N : Nat)  : Nat → Nat → Nat → Int32 → Hp → Option (Unit × Hp)
  | 0, _, _, _, _ => none
  | n + 1, x0, x1, x2, h =>
  if (40 : Int32) ≤ x2 then
  ((fI h 2 x0 2).bind fun v1 =>
  J_Plan_rankSteps_33 N N x0 x1 (v1 - (1 : Int32)) h)
  else
  ((fR h 2 x0 3).bind fun v15 =>
  (aR h 3 x1 x2).bind fun v16 =>
  (fI h 5 v16 3).bind fun v17 =>
  (sI h 0 v15 x2 v17).bind fun h18 =>
  (J_Plan_rankSteps_2 N n) x0 x1 (x2 + (1 : Int32)) h18)
def J_Plan_rankSteps (N : Nat) (x0 : Nat) (x1 : Nat) (h : Hp) : Option (Unit × Hp) :=
  J_Plan_rankSteps_2 N N x0 x1 (0 : Int32) h
set_option maxHeartbeats 4000000 in
set_option maxRecDepth 100000 in
theorem w_Plan_rankSteps_47 (X : Cx p s m args meth c D vwCl tys cX2_rankSteps 5 RX2 wsG) (hN : nwS s) (hr : meth.sig.returnType = none) {res : (Unit × Hp)} {N : Nat} {r33 : Nat → Nat → Int32 → Hp → Option (Unit × Hp)} (k33 : ∀ (x0 : Nat) (x1 : Nat) (x2 : Int32) (h : Hp) (H : Heap) (locs : List Loc) (ls : Array Slot), r33 x0 x1 x2 h = some res → In D vwCl tys A s h H locs → lv_has ls 5 [(0, .ref x0), (1, .ref x1), (2, .int x2)] → W p l e rmX2_rankSteps s m args below meth c H locs 0 0 (MQ below (Qr D vwCl tys A none res.2) args s 0 0 A) (F0 m 33 ls [])) : ∀ (n : Nat) (x0 : Nat) (x1 : Nat) (x2 : Int32) (x3 : Int32) (x4 : Int32)  (h : Hp) (H : Heap) (locs : List Loc) (ls : Array Slot), J_Plan_rankSteps_47 N r33 n x0 x1 x2 x3 x4 h = some res → In D vwCl tys A s h H locs → lv_has ls 5 [(0, .ref x0), (1, .ref x1), (2, .int x2), (3, .int x3), (4, .int x4)] → W p l e rmX2_rankSteps s m args below meth c H locs 0 0 (MQ below (Qr D vwCl tys A none res.2) args s 0 0 A) (F0 m 47 ls []) := by
  have hx := X.1.1
  have hb := X.1.2.1
  have hml := X.1.2.2.1
  have ho := X.1.2.2.2.1
  have hts := X.1.2.2.2.2
  have hK := X.2.1
  have hT := X.2.2.2
  intro n
  induction n with
  | zero =>
    intro x0 x1 x2 x3 x4  h H locs ls hJ I hl
    exact nomatch (show (none : Option (Unit × Hp)) = some res from hJ)
  | succ n k47 =>
    intro x0 x1 x2 x3 x4  h H locs ls hJ I hl
    rw [J_Plan_rankSteps_47] at hJ
    refine lv_iload hx hb dX2_rankSteps_47 (lv_at hl 4 rfl) ?_
    refine lv_bipush (v := 40) hx hb dX2_rankSteps_49 (by decide) ?_
    refine lv_icmp_ge (tgt := 105) hx hb dX2_rankSteps_51 (by decide) (fun c9 => ?_) (fun c9 => ?_)
    · rw [if_pos c9] at hJ
      refine lv_iinc (v := (x2 + (-1 : Int32))) (lv' := [(2, .int (x2 + (-1 : Int32))), (0, .ref x0), (1, .ref x1), (3, .int x3), (4, .int x4)]) hx hb dX2_rankSteps_105 hl (k := 2) rfl rfl (by decide) rfl (fun ls hl => ?_)
      refine lv_goto (tgt := 33) hx hb dX2_rankSteps_108 (by decide) ?_
      exact k33 _ _ _ _ _ _ _ hJ I (lv_sub hl [1, 2, 0] rfl)
    · rw [if_neg c9] at hJ
      refine lv_aload_n hx hb dX2_rankSteps_54 rfl (lv_at hl 0 rfl) ?_
      obtain ⟨v4, e9, hJ⟩ := rp_b hJ
      obtain ⟨f9, g9, e9⟩ := fR_s e9
      refine rp_get X I g9 e9 rfl wiX2 (by decide) wm_110 dX2_rankSteps_55 ?_
      refine lv_iload_n hx hb dX2_rankSteps_58 rfl (lv_at hl 3 rfl) ?_
      obtain ⟨v5, e9, hJ⟩ := rp_b hJ
      refine rp_lald X I e9 rfl dX2_rankSteps_59 ?_
      refine lv_iload hx hb dX2_rankSteps_60 (lv_at hl 4 rfl) ?_
      obtain ⟨q6, e9, hJ⟩ := rp_b hJ
      refine rp_callSN (As := [.long v5, .int x4]) (rest := []) X hN I (c_Desk_isIn hT e9) ⟨(va_cnB (host := "BuildDesk") 2 hts (gdC wm_354) rfl rfl rfl (hN.1 _ (by decide +kernel)) (hts _ wm_33) (by decide +kernel) ⟨Nat.le_of_ble_eq_true rfl, Nat.le_of_ble_eq_true rfl⟩), hts _ wm_353, trivial⟩ rfl hl.1 rfl (Nat.le_of_ble_eq_true rfl) dX2_rankSteps_62 ⟨(Nat.le_of_ble_eq_true rfl), (Nat.le_of_ble_eq_true rfl)⟩ (fun H locs I => ?_)
      refine W.cs (cells' := 0) (slots' := 0) rfl rfl ?_
      refine lv_if_eq (tgt := 99) hx hb dX2_rankSteps_65 (by decide) (fun c9 => ?_) (fun c9 => ?_)
      · rw [if_pos c9] at hJ
        refine lv_iinc (v := (x4 + (1 : Int32))) (lv' := [(4, .int (x4 + (1 : Int32))), (0, .ref x0), (1, .ref x1), (2, .int x2), (3, .int x3)]) hx hb dX2_rankSteps_99 hl (k := 4) rfl rfl (by decide) rfl (fun ls hl => ?_)
        refine lv_goto (tgt := 47) hx hb dX2_rankSteps_102 (by decide) ?_
        exact k47 _ _ _ _ _ _ _ _ _ hJ I (lv_sub hl [1, 2, 3, 4, 0] rfl)
      · rw [if_neg c9] at hJ
        refine lv_aload_n hx hb dX2_rankSteps_68 rfl (lv_at hl 0 rfl) ?_
        obtain ⟨v7, e9, hJ⟩ := rp_b hJ
        obtain ⟨f9, g9, e9⟩ := fR_s e9
        refine rp_get X I g9 e9 rfl wiX2 (by decide) wm_113 dX2_rankSteps_69 ?_
        refine lv_iload hx hb dX2_rankSteps_72 (lv_at hl 4 rfl) ?_
        refine lv_aload_n hx hb dX2_rankSteps_74 rfl (lv_at hl 0 rfl) ?_
        obtain ⟨v8, e9, hJ⟩ := rp_b hJ
        obtain ⟨f9, g9, e9⟩ := fR_s e9
        refine rp_get X I g9 e9 rfl wiX2 (by decide) wm_113 dX2_rankSteps_75 ?_
        refine lv_iload hx hb dX2_rankSteps_78 (lv_at hl 4 rfl) ?_
        obtain ⟨v9, e9, hJ⟩ := rp_b hJ
        refine rp_iald X I e9 rfl dX2_rankSteps_80 ?_
        refine lv_aload_n hx hb dX2_rankSteps_81 rfl (lv_at hl 1 rfl) ?_
        refine lv_iload hx hb dX2_rankSteps_82 (lv_at hl 4 rfl) ?_
        obtain ⟨v10, e9, hJ⟩ := rp_b hJ
        refine rp_aald X I e9 rfl dX2_rankSteps_84 ?_
        obtain ⟨v11, e9, hJ⟩ := rp_b hJ
        obtain ⟨f9, g9, e9⟩ := fI_s e9
        refine rp_getN (host := "BuildDesk") X I g9 e9 rfl wiX5 (by decide) (hN.1 _ (by decide +kernel)) dX2_rankSteps_85 ?_
        refine lv_aload_n hx hb dX2_rankSteps_88 rfl (lv_at hl 0 rfl) ?_
        obtain ⟨v12, e9, hJ⟩ := rp_b hJ
        obtain ⟨f9, g9, e9⟩ := fR_s e9
        refine rp_get X I g9 e9 rfl wiX2 (by decide) wm_113 dX2_rankSteps_89 ?_
        refine lv_iload_n hx hb dX2_rankSteps_92 rfl (lv_at hl 3 rfl) ?_
        obtain ⟨v13, e9, hJ⟩ := rp_b hJ
        refine rp_iald X I e9 rfl dX2_rankSteps_93 ?_
        refine lv_iadd hx hb dX2_rankSteps_94 ?_
        refine va_mmax hx hb (hml.trans hl.1.symm) ho (hts _ wm_409) (hts _ wm_410) (hts _ wm_46) (hts _ wm_411) (Nat.le_of_ble_eq_true rfl) (Nat.le_of_ble_eq_true rfl) (Nat.le_of_ble_eq_true rfl) (Nat.le_of_ble_eq_true rfl) dX2_rankSteps_95 ?_
        obtain ⟨h14, e9, hJ⟩ := rp_b hJ
        refine rp_iast X I e9 rfl dX2_rankSteps_98 (fun H locs I => ?_)
        refine lv_iinc (v := (x4 + (1 : Int32))) (lv' := [(4, .int (x4 + (1 : Int32))), (0, .ref x0), (1, .ref x1), (2, .int x2), (3, .int x3)]) hx hb dX2_rankSteps_99 hl (k := 4) rfl rfl (by decide) rfl (fun ls hl => ?_)
        refine lv_goto (tgt := 47) hx hb dX2_rankSteps_102 (by decide) ?_
        exact k47 _ _ _ _ _ _ _ _ _ hJ I (lv_sub hl [1, 2, 3, 4, 0] rfl)
set_option maxHeartbeats 4000000 in
set_option maxRecDepth 100000 in
theorem w_Plan_rankSteps_33 (X : Cx p s m args meth c D vwCl tys cX2_rankSteps 5 RX2 wsG) (hN : nwS s) (hr : meth.sig.returnType = none) {res : (Unit × Hp)} {N : Nat}   : ∀ (n : Nat) (x0 : Nat) (x1 : Nat) (x2 : Int32)  (h : Hp) (H : Heap) (locs : List Loc) (ls : Array Slot), J_Plan_rankSteps_33 N n x0 x1 x2 h = some res → In D vwCl tys A s h H locs → lv_has ls 5 [(0, .ref x0), (1, .ref x1), (2, .int x2)] → W p l e rmX2_rankSteps s m args below meth c H locs 0 0 (MQ below (Qr D vwCl tys A none res.2) args s 0 0 A) (F0 m 33 ls []) := by
  have hx := X.1.1
  have hb := X.1.2.1
  have hml := X.1.2.2.1
  have ho := X.1.2.2.2.1
  have hts := X.1.2.2.2.2
  have hK := X.2.1
  have hT := X.2.2.2
  intro n
  induction n with
  | zero =>
    intro x0 x1 x2  h H locs ls hJ I hl
    exact nomatch (show (none : Option (Unit × Hp)) = some res from hJ)
  | succ n k33 =>
    intro x0 x1 x2  h H locs ls hJ I hl
    rw [J_Plan_rankSteps_33] at hJ
    refine lv_iload_n hx hb dX2_rankSteps_33 rfl (lv_at hl 2 rfl) ?_
    refine lv_if_lt (tgt := 111) hx hb dX2_rankSteps_34 (by decide) (fun c9 => ?_) (fun c9 => ?_)
    · rw [if_pos c9] at hJ
      exact rp_vret X hr hJ I dX2_rankSteps_111
    · rw [if_neg c9] at hJ
      refine lv_aload_n hx hb dX2_rankSteps_37 rfl (lv_at hl 0 rfl) ?_
      obtain ⟨v2, e9, hJ⟩ := rp_b hJ
      obtain ⟨f9, g9, e9⟩ := fR_s e9
      refine rp_get X I g9 e9 rfl wiX2 (by decide) wm_111 dX2_rankSteps_38 ?_
      refine lv_iload_n hx hb dX2_rankSteps_41 rfl (lv_at hl 2 rfl) ?_
      obtain ⟨v3, e9, hJ⟩ := rp_b hJ
      refine rp_iald X I e9 rfl dX2_rankSteps_42 ?_
      refine lv_istore_n (lv' := [(3, .int v3), (0, .ref x0), (1, .ref x1), (2, .int x2)]) hx hb dX2_rankSteps_43 rfl hl (by decide) rfl (fun ls hl => ?_)
      refine lv_iconst (v := 0) hx hb dX2_rankSteps_44 (by decide) ?_
      refine lv_istore (lv' := [(4, .int (0 : Int32)), (3, .int v3), (0, .ref x0), (1, .ref x1), (2, .int x2)]) hx hb dX2_rankSteps_45 hl (by decide) rfl (fun ls hl => ?_)
      exact w_Plan_rankSteps_47 X hN hr k33 N _ _ _ _ _ _ _ _ _ hJ I (lv_sub hl [2, 3, 4, 1, 0] rfl)
set_option maxHeartbeats 4000000 in
set_option maxRecDepth 100000 in
theorem w_Plan_rankSteps_2 (X : Cx p s m args meth c D vwCl tys cX2_rankSteps 5 RX2 wsG) (hN : nwS s) (hr : meth.sig.returnType = none) {res : (Unit × Hp)} {N : Nat}   : ∀ (n : Nat) (x0 : Nat) (x1 : Nat) (x2 : Int32)  (h : Hp) (H : Heap) (locs : List Loc) (ls : Array Slot), J_Plan_rankSteps_2 N n x0 x1 x2 h = some res → In D vwCl tys A s h H locs → lv_has ls 5 [(0, .ref x0), (1, .ref x1), (2, .int x2)] → W p l e rmX2_rankSteps s m args below meth c H locs 0 0 (MQ below (Qr D vwCl tys A none res.2) args s 0 0 A) (F0 m 2 ls []) := by
  have hx := X.1.1
  have hb := X.1.2.1
  have hml := X.1.2.2.1
  have ho := X.1.2.2.2.1
  have hts := X.1.2.2.2.2
  have hK := X.2.1
  have hT := X.2.2.2
  intro n
  induction n with
  | zero =>
    intro x0 x1 x2  h H locs ls hJ I hl
    exact nomatch (show (none : Option (Unit × Hp)) = some res from hJ)
  | succ n k2 =>
    intro x0 x1 x2  h H locs ls hJ I hl
    rw [J_Plan_rankSteps_2] at hJ
    refine lv_iload_n hx hb dX2_rankSteps_2 rfl (lv_at hl 2 rfl) ?_
    refine lv_bipush (v := 40) hx hb dX2_rankSteps_3 (by decide) ?_
    refine lv_icmp_ge (tgt := 26) hx hb dX2_rankSteps_5 (by decide) (fun c9 => ?_) (fun c9 => ?_)
    · rw [if_pos c9] at hJ
      refine lv_aload_n hx hb dX2_rankSteps_26 rfl (lv_at hl 0 rfl) ?_
      obtain ⟨v1, e9, hJ⟩ := rp_b hJ
      obtain ⟨f9, g9, e9⟩ := fI_s e9
      refine rp_get X I g9 e9 rfl wiX2 (by decide) wm_112 dX2_rankSteps_27 ?_
      refine lv_iconst (v := 1) hx hb dX2_rankSteps_30 (by decide) ?_
      refine lv_isub hx hb dX2_rankSteps_31 ?_
      refine lv_istore_n (lv' := [(2, .int (v1 - (1 : Int32))), (0, .ref x0), (1, .ref x1)]) hx hb dX2_rankSteps_32 rfl hl (by decide) rfl (fun ls hl => ?_)
      exact w_Plan_rankSteps_33 X hN hr N _ _ _ _ _ _ _ hJ I (lv_sub hl [1, 2, 0] rfl)
    · rw [if_neg c9] at hJ
      refine lv_aload_n hx hb dX2_rankSteps_8 rfl (lv_at hl 0 rfl) ?_
      obtain ⟨v15, e9, hJ⟩ := rp_b hJ
      obtain ⟨f9, g9, e9⟩ := fR_s e9
      refine rp_get X I g9 e9 rfl wiX2 (by decide) wm_113 dX2_rankSteps_9 ?_
      refine lv_iload_n hx hb dX2_rankSteps_12 rfl (lv_at hl 2 rfl) ?_
      refine lv_aload_n hx hb dX2_rankSteps_13 rfl (lv_at hl 1 rfl) ?_
      refine lv_iload_n hx hb dX2_rankSteps_14 rfl (lv_at hl 2 rfl) ?_
      obtain ⟨v16, e9, hJ⟩ := rp_b hJ
      refine rp_aald X I e9 rfl dX2_rankSteps_15 ?_
      obtain ⟨v17, e9, hJ⟩ := rp_b hJ
      obtain ⟨f9, g9, e9⟩ := fI_s e9
      refine rp_getN (host := "BuildDesk") X I g9 e9 rfl wiX5 (by decide) (hN.1 _ (by decide +kernel)) dX2_rankSteps_16 ?_
      obtain ⟨h18, e9, hJ⟩ := rp_b hJ
      refine rp_iast X I e9 rfl dX2_rankSteps_19 (fun H locs I => ?_)
      refine lv_iinc (v := (x2 + (1 : Int32))) (lv' := [(2, .int (x2 + (1 : Int32))), (0, .ref x0), (1, .ref x1)]) hx hb dX2_rankSteps_20 hl (k := 2) rfl rfl (by decide) rfl (fun ls hl => ?_)
      refine lv_goto (tgt := 2) hx hb dX2_rankSteps_23 (by decide) ?_
      exact k2 _ _ _ _ _ _ _ hJ I (lv_sub hl [1, 2, 0] rfl)
set_option maxHeartbeats 4000000 in
set_option maxRecDepth 100000 in
theorem c_Plan_rankSteps {l : Launch} {D : va_G} {tys : List (ClassId × FieldType)} {A : Nat → Prop} (hT : tys.map (fun q => q.2) = tyS) {N : Nat} {x0 : Nat} {x1 : Nat} {h : Hp} {res : (Unit × Hp)} (hJ : J_Plan_rankSteps N x0 x1 h = some res) : Ct l D vwCl tys A yX2_rankSteps (Cond.code yX2_rankSteps cX2_rankSteps 5 none :: wsG) rmX2_rankSteps [.ref x0, .ref x1] h none res.2 := by
  refine Met.ofW (cc := cX2_rankSteps) (maxL := 5) (ret := none) (by decide) rfl ?_
  intro p e s m args below meth c s₁ B hml hv
  obtain ⟨rfl, hA, hR, hK, hN⟩ := hv
  have hr := B.returns
  have hts : ∀ w ∈ wsG, w.before [.ref x0, .ref x1].toArray s = true := fun w hw => atoms_spec (ws := Cond.code yX2_rankSteps cX2_rankSteps 5 none :: wsG) B.pre w (List.mem_cons_of_mem _ hw)
  have X : Cx p s m [.ref x0, .ref x1].toArray meth c D vwCl tys cX2_rankSteps 5 RX2 wsG := ⟨⟨B.exec, B.bytes, hml, findClass_of_methodNamed B.named, hts⟩, hK, B.notSynchronized, hT⟩
  have hx := B.exec
  have hb := B.bytes
  have I : In D vwCl tys A s h s.heap [] := ⟨hR, va_S.rf, hA⟩
  have hl := lv_entry [.ref x0, .ref x1] (n := 5) (Nat.le_of_ble_eq_true rfl)
  rw [lg_entry_eq]
  generalize (lg_sl [.ref x0, .ref x1] ++ List.replicate (5 - (lg_sl [.ref x0, .ref x1]).length) Slot.unset).toArray = ls at hl ⊢
  have hl : lv_has ls 5 [(0, .ref x0), (1, .ref x1)] := hl
  have ho := X.1.2.2.2.1
  rw [J_Plan_rankSteps] at hJ
  refine lv_iconst (v := 0) hx hb dX2_rankSteps_0 (by decide) ?_
  refine lv_istore_n (lv' := [(2, .int (0 : Int32)), (0, .ref x0), (1, .ref x1)]) hx hb dX2_rankSteps_1 rfl hl (by decide) rfl (fun ls hl => ?_)
  exact w_Plan_rankSteps_2 X hN hr N _ _ _ _ _ _ _ hJ I (lv_sub hl [1, 2, 0] rfl)
def rmX2_greatestRank : Room := { frames := 1, cells := 0, slots := 0, locals := 21 }
def J_Plan_greatestRank_4 (N : Nat)  : Nat → Nat → Int32 → Int32 → Hp → Option (Int32 × Hp)
  | 0, _, _, _, _ => none
  | n + 1, x0, x1, x2, h =>
  (fI h 2 x0 2).bind fun v1 =>
  if v1 ≤ x2 then
  (some (x1, h))
  else
  ((fR h 2 x0 3).bind fun v2 =>
  (fR h 2 x0 1).bind fun v3 =>
  (aI h 0 v3 x2).bind fun v4 =>
  (aI h 0 v2 v4).bind fun v5 =>
  (J_Plan_greatestRank_4 N n) x0 (if x1 < v5 then v5 else x1) (x2 + (1 : Int32)) h)
def J_Plan_greatestRank (N : Nat) (x0 : Nat) (h : Hp) : Option (Int32 × Hp) :=
  J_Plan_greatestRank_4 N N x0 (0 : Int32) (0 : Int32) h
set_option maxHeartbeats 4000000 in
set_option maxRecDepth 100000 in
theorem w_Plan_greatestRank_4 (X : Cx p s m args meth c D vwCl tys cX2_greatestRank 3 RX2 wsG) (hN : nwS s) (hr : meth.sig.returnType = (some .int)) {res : (Int32 × Hp)} {N : Nat}   : ∀ (n : Nat) (x0 : Nat) (x1 : Int32) (x2 : Int32)  (h : Hp) (H : Heap) (locs : List Loc) (ls : Array Slot), J_Plan_greatestRank_4 N n x0 x1 x2 h = some res → In D vwCl tys A s h H locs → lv_has ls 3 [(0, .ref x0), (1, .int x1), (2, .int x2)] → W p l e rmX2_greatestRank s m args below meth c H locs 0 0 (MQ below (Qr D vwCl tys A (some (.int res.1)) res.2) args s 0 0 A) (F0 m 4 ls []) := by
  have hx := X.1.1
  have hb := X.1.2.1
  have hml := X.1.2.2.1
  have ho := X.1.2.2.2.1
  have hts := X.1.2.2.2.2
  have hK := X.2.1
  have hT := X.2.2.2
  intro n
  induction n with
  | zero =>
    intro x0 x1 x2  h H locs ls hJ I hl
    exact nomatch (show (none : Option (Int32 × Hp)) = some res from hJ)
  | succ n k4 =>
    intro x0 x1 x2  h H locs ls hJ I hl
    rw [J_Plan_greatestRank_4] at hJ
    refine lv_iload_n hx hb dX2_greatestRank_4 rfl (lv_at hl 2 rfl) ?_
    refine lv_aload_n hx hb dX2_greatestRank_5 rfl (lv_at hl 0 rfl) ?_
    obtain ⟨v1, e9, hJ⟩ := rp_b hJ
    obtain ⟨f9, g9, e9⟩ := fI_s e9
    refine rp_get X I g9 e9 rfl wiX2 (by decide) wm_112 dX2_greatestRank_6 ?_
    refine lv_icmp_ge (tgt := 34) hx hb dX2_greatestRank_9 (by decide) (fun c9 => ?_) (fun c9 => ?_)
    · rw [if_pos c9] at hJ
      refine lv_iload_n hx hb dX2_greatestRank_34 rfl (lv_at hl 1 rfl) ?_
      exact rp_iret X hr hJ I dX2_greatestRank_35
    · rw [if_neg c9] at hJ
      refine lv_iload_n hx hb dX2_greatestRank_12 rfl (lv_at hl 1 rfl) ?_
      refine lv_aload_n hx hb dX2_greatestRank_13 rfl (lv_at hl 0 rfl) ?_
      obtain ⟨v2, e9, hJ⟩ := rp_b hJ
      obtain ⟨f9, g9, e9⟩ := fR_s e9
      refine rp_get X I g9 e9 rfl wiX2 (by decide) wm_113 dX2_greatestRank_14 ?_
      refine lv_aload_n hx hb dX2_greatestRank_17 rfl (lv_at hl 0 rfl) ?_
      obtain ⟨v3, e9, hJ⟩ := rp_b hJ
      obtain ⟨f9, g9, e9⟩ := fR_s e9
      refine rp_get X I g9 e9 rfl wiX2 (by decide) wm_111 dX2_greatestRank_18 ?_
      refine lv_iload_n hx hb dX2_greatestRank_21 rfl (lv_at hl 2 rfl) ?_
      obtain ⟨v4, e9, hJ⟩ := rp_b hJ
      refine rp_iald X I e9 rfl dX2_greatestRank_22 ?_
      obtain ⟨v5, e9, hJ⟩ := rp_b hJ
      refine rp_iald X I e9 rfl dX2_greatestRank_23 ?_
      refine va_mmax hx hb (hml.trans hl.1.symm) ho (hts _ wm_409) (hts _ wm_410) (hts _ wm_46) (hts _ wm_411) (Nat.le_of_ble_eq_true rfl) (Nat.le_of_ble_eq_true rfl) (Nat.le_of_ble_eq_true rfl) (Nat.le_of_ble_eq_true rfl) dX2_greatestRank_24 ?_
      refine lv_istore_n (lv' := [(1, .int (if x1 < v5 then v5 else x1)), (0, .ref x0), (2, .int x2)]) hx hb dX2_greatestRank_27 rfl hl (by decide) rfl (fun ls hl => ?_)
      refine lv_iinc (v := (x2 + (1 : Int32))) (lv' := [(2, .int (x2 + (1 : Int32))), (1, .int (if x1 < v5 then v5 else x1)), (0, .ref x0)]) hx hb dX2_greatestRank_28 hl (k := 2) rfl rfl (by decide) rfl (fun ls hl => ?_)
      refine lv_goto (tgt := 4) hx hb dX2_greatestRank_31 (by decide) ?_
      exact k4 _ _ _ _ _ _ _ hJ I (lv_sub hl [2, 1, 0] rfl)
set_option maxHeartbeats 4000000 in
set_option maxRecDepth 100000 in
theorem c_Plan_greatestRank {l : Launch} {D : va_G} {tys : List (ClassId × FieldType)} {A : Nat → Prop} (hT : tys.map (fun q => q.2) = tyS) {N : Nat} {x0 : Nat} {h : Hp} {res : (Int32 × Hp)} (hJ : J_Plan_greatestRank N x0 h = some res) : Ct l D vwCl tys A yX2_greatestRank (Cond.code yX2_greatestRank cX2_greatestRank 3 (some .int) :: wsG) rmX2_greatestRank [.ref x0] h (some (.int res.1)) res.2 := by
  refine Met.ofW (cc := cX2_greatestRank) (maxL := 3) (ret := (some .int)) (by decide) rfl ?_
  intro p e s m args below meth c s₁ B hml hv
  obtain ⟨rfl, hA, hR, hK, hN⟩ := hv
  have hr := B.returns
  have hts : ∀ w ∈ wsG, w.before [.ref x0].toArray s = true := fun w hw => atoms_spec (ws := Cond.code yX2_greatestRank cX2_greatestRank 3 (some .int) :: wsG) B.pre w (List.mem_cons_of_mem _ hw)
  have X : Cx p s m [.ref x0].toArray meth c D vwCl tys cX2_greatestRank 3 RX2 wsG := ⟨⟨B.exec, B.bytes, hml, findClass_of_methodNamed B.named, hts⟩, hK, B.notSynchronized, hT⟩
  have hx := B.exec
  have hb := B.bytes
  have I : In D vwCl tys A s h s.heap [] := ⟨hR, va_S.rf, hA⟩
  have hl := lv_entry [.ref x0] (n := 3) (Nat.le_of_ble_eq_true rfl)
  rw [lg_entry_eq]
  generalize (lg_sl [.ref x0] ++ List.replicate (3 - (lg_sl [.ref x0]).length) Slot.unset).toArray = ls at hl ⊢
  have hl : lv_has ls 3 [(0, .ref x0)] := hl
  have ho := X.1.2.2.2.1
  rw [J_Plan_greatestRank] at hJ
  refine lv_iconst (v := 0) hx hb dX2_greatestRank_0 (by decide) ?_
  refine lv_istore_n (lv' := [(1, .int (0 : Int32)), (0, .ref x0)]) hx hb dX2_greatestRank_1 rfl hl (by decide) rfl (fun ls hl => ?_)
  refine lv_iconst (v := 0) hx hb dX2_greatestRank_2 (by decide) ?_
  refine lv_istore_n (lv' := [(2, .int (0 : Int32)), (1, .int (0 : Int32)), (0, .ref x0)]) hx hb dX2_greatestRank_3 rfl hl (by decide) rfl (fun ls hl => ?_)
  exact w_Plan_greatestRank_4 X hN hr N _ _ _ _ _ _ _ hJ I (lv_sub hl [2, 1, 0] rfl)
def rmX2_waitingFor : Room := { frames := 2, cells := 0, slots := 0, locals := 42 }
def J_Plan_waitingFor_5 (N : Nat)  : Nat → Nat → Int64 → Int64 → Int32 → Hp → Option (Int64 × Hp)
  | 0, _, _, _, _, _ => none
  | n + 1, x0, x1, x3, x5, h =>
  if (40 : Int32) ≤ x5 then
  (some (x3, h))
  else
  ((fJ h 2 x0 4).bind fun v1 =>
  (J_Desk_isIn N v1 x5 h).bind fun q2 =>
 if q2.1 = 0 then
  ((J_Plan_waitingFor_5 N n) x0 x1 x3 (x5 + (1 : Int32)) q2.2)
  else
  ((fR q2.2 2 x0 0).bind fun v3 =>
  (aJ q2.2 2 v3 x5).bind fun v4 =>
  if (lg_cmp (v4 &&& x1) (0 : Int64)) = 0 then
  ((J_Plan_waitingFor_5 N n) x0 x1 x3 (x5 + (1 : Int32)) q2.2)
  else
  ((J_Desk_bit N x5 q2.2).bind fun q5 =>
 (J_Plan_waitingFor_5 N n) x0 x1 (x3 ||| q5.1) (x5 + (1 : Int32)) q5.2)))
def J_Plan_waitingFor (N : Nat) (x0 : Nat) (x1 : Int64) (h : Hp) : Option (Int64 × Hp) :=
  J_Plan_waitingFor_5 N N x0 x1 (0 : Int64) (0 : Int32) h
set_option maxHeartbeats 4000000 in
set_option maxRecDepth 100000 in
theorem w_Plan_waitingFor_5 (X : Cx p s m args meth c D vwCl tys cX2_waitingFor 6 RX2 wsG) (hN : nwS s) (hr : meth.sig.returnType = (some .long)) {res : (Int64 × Hp)} {N : Nat}   : ∀ (n : Nat) (x0 : Nat) (x1 : Int64) (x3 : Int64) (x5 : Int32)  (h : Hp) (H : Heap) (locs : List Loc) (ls : Array Slot), J_Plan_waitingFor_5 N n x0 x1 x3 x5 h = some res → In D vwCl tys A s h H locs → lv_has ls 6 [(0, .ref x0), (1, .long x1), (3, .long x3), (5, .int x5)] → W p l e rmX2_waitingFor s m args below meth c H locs 0 0 (MQ below (Qr D vwCl tys A (some (.long res.1)) res.2) args s 0 0 A) (F0 m 5 ls []) := by
  have hx := X.1.1
  have hb := X.1.2.1
  have hml := X.1.2.2.1
  have ho := X.1.2.2.2.1
  have hts := X.1.2.2.2.2
  have hK := X.2.1
  have hT := X.2.2.2
  intro n
  induction n with
  | zero =>
    intro x0 x1 x3 x5  h H locs ls hJ I hl
    exact nomatch (show (none : Option (Int64 × Hp)) = some res from hJ)
  | succ n k5 =>
    intro x0 x1 x3 x5  h H locs ls hJ I hl
    rw [J_Plan_waitingFor_5] at hJ
    refine lv_iload hx hb dX2_waitingFor_5 (lv_at hl 3 rfl) ?_
    refine lv_bipush (v := 40) hx hb dX2_waitingFor_7 (by decide) ?_
    refine lv_icmp_ge (tgt := 52) hx hb dX2_waitingFor_9 (by decide) (fun c9 => ?_) (fun c9 => ?_)
    · rw [if_pos c9] at hJ
      refine lv_lload_n hx hb dX2_waitingFor_52 rfl (lv_at hl 2 rfl) ?_
      exact rp_lret X hr hJ I dX2_waitingFor_53
    · rw [if_neg c9] at hJ
      refine lv_aload_n hx hb dX2_waitingFor_12 rfl (lv_at hl 0 rfl) ?_
      obtain ⟨v1, e9, hJ⟩ := rp_b hJ
      obtain ⟨f9, g9, e9⟩ := fJ_s e9
      refine rp_get X I g9 e9 rfl wiX2 (by decide) wm_114 dX2_waitingFor_13 ?_
      refine lv_iload hx hb dX2_waitingFor_16 (lv_at hl 3 rfl) ?_
      obtain ⟨q2, e9, hJ⟩ := rp_b hJ
      refine rp_callSN (As := [.long v1, .int x5]) (rest := []) X hN I (c_Desk_isIn hT e9) ⟨(va_cnB (host := "BuildDesk") 2 hts (gdC wm_354) rfl rfl rfl (hN.1 _ (by decide +kernel)) (hts _ wm_33) (by decide +kernel) ⟨Nat.le_of_ble_eq_true rfl, Nat.le_of_ble_eq_true rfl⟩), hts _ wm_353, trivial⟩ rfl hl.1 rfl (Nat.le_of_ble_eq_true rfl) dX2_waitingFor_18 ⟨(Nat.le_of_ble_eq_true rfl), (Nat.le_of_ble_eq_true rfl)⟩ (fun H locs I => ?_)
      refine W.cs (cells' := 0) (slots' := 0) rfl rfl ?_
      refine lv_if_eq (tgt := 46) hx hb dX2_waitingFor_21 (by decide) (fun c9 => ?_) (fun c9 => ?_)
      · rw [if_pos c9] at hJ
        refine lv_iinc (v := (x5 + (1 : Int32))) (lv' := [(5, .int (x5 + (1 : Int32))), (0, .ref x0), (1, .long x1), (3, .long x3)]) hx hb dX2_waitingFor_46 hl (k := 3) rfl rfl (by decide) rfl (fun ls hl => ?_)
        refine lv_goto (tgt := 5) hx hb dX2_waitingFor_49 (by decide) ?_
        exact k5 _ _ _ _ _ _ _ _ hJ I (lv_sub hl [1, 2, 3, 0] rfl)
      · rw [if_neg c9] at hJ
        refine lv_aload_n hx hb dX2_waitingFor_24 rfl (lv_at hl 0 rfl) ?_
        obtain ⟨v3, e9, hJ⟩ := rp_b hJ
        obtain ⟨f9, g9, e9⟩ := fR_s e9
        refine rp_get X I g9 e9 rfl wiX2 (by decide) wm_110 dX2_waitingFor_25 ?_
        refine lv_iload hx hb dX2_waitingFor_28 (lv_at hl 3 rfl) ?_
        obtain ⟨v4, e9, hJ⟩ := rp_b hJ
        refine rp_lald X I e9 rfl dX2_waitingFor_30 ?_
        refine lv_lload_n hx hb dX2_waitingFor_31 rfl (lv_at hl 1 rfl) ?_
        refine lv_land hx hb dX2_waitingFor_32 ?_
        refine lv_lconst (v := 0) hx hb dX2_waitingFor_33 (by decide) ?_
        refine W.lcmp hx hb dX2_waitingFor_34 ?_
        refine lv_if_eq (tgt := 46) hx hb dX2_waitingFor_35 (by decide) (fun c9 => ?_) (fun c9 => ?_)
        · rw [if_pos c9] at hJ
          refine lv_iinc (v := (x5 + (1 : Int32))) (lv' := [(5, .int (x5 + (1 : Int32))), (0, .ref x0), (1, .long x1), (3, .long x3)]) hx hb dX2_waitingFor_46 hl (k := 3) rfl rfl (by decide) rfl (fun ls hl => ?_)
          refine lv_goto (tgt := 5) hx hb dX2_waitingFor_49 (by decide) ?_
          exact k5 _ _ _ _ _ _ _ _ hJ I (lv_sub hl [1, 2, 3, 0] rfl)
        · rw [if_neg c9] at hJ
          refine lv_lload_n hx hb dX2_waitingFor_38 rfl (lv_at hl 2 rfl) ?_
          refine lv_iload hx hb dX2_waitingFor_39 (lv_at hl 3 rfl) ?_
          obtain ⟨q5, e9, hJ⟩ := rp_b hJ
          refine rp_callSN (As := [.int x5]) (rest := [.long x3]) X hN I (c_Desk_bit hT e9) ⟨(va_cnB (host := "BuildDesk") 1 hts (gdC wm_352) rfl rfl rfl (hN.1 _ (by decide +kernel)) (hts _ wm_33) (by decide +kernel) ⟨Nat.le_of_ble_eq_true rfl, Nat.le_of_ble_eq_true rfl⟩), hts _ wm_351, trivial⟩ rfl hl.1 rfl (Nat.le_of_ble_eq_true rfl) dX2_waitingFor_41 ⟨(Nat.le_of_ble_eq_true rfl), (Nat.le_of_ble_eq_true rfl)⟩ (fun H locs I => ?_)
          refine W.cs (cells' := 0) (slots' := 0) rfl rfl ?_
          refine lv_lor hx hb dX2_waitingFor_44 ?_
          refine lv_lstore_n (lv' := [(3, .long (x3 ||| q5.1)), (0, .ref x0), (1, .long x1), (5, .int x5)]) hx hb dX2_waitingFor_45 rfl hl (by decide) rfl (fun ls hl => ?_)
          refine lv_iinc (v := (x5 + (1 : Int32))) (lv' := [(5, .int (x5 + (1 : Int32))), (3, .long (x3 ||| q5.1)), (0, .ref x0), (1, .long x1)]) hx hb dX2_waitingFor_46 hl (k := 3) rfl rfl (by decide) rfl (fun ls hl => ?_)
          refine lv_goto (tgt := 5) hx hb dX2_waitingFor_49 (by decide) ?_
          exact k5 _ _ _ _ _ _ _ _ hJ I (lv_sub hl [2, 3, 1, 0] rfl)
set_option maxHeartbeats 4000000 in
set_option maxRecDepth 100000 in
theorem c_Plan_waitingFor {l : Launch} {D : va_G} {tys : List (ClassId × FieldType)} {A : Nat → Prop} (hT : tys.map (fun q => q.2) = tyS) {N : Nat} {x0 : Nat} {x1 : Int64} {h : Hp} {res : (Int64 × Hp)} (hJ : J_Plan_waitingFor N x0 x1 h = some res) : Ct l D vwCl tys A yX2_waitingFor (Cond.code yX2_waitingFor cX2_waitingFor 6 (some .long) :: wsG) rmX2_waitingFor [.ref x0, .long x1] h (some (.long res.1)) res.2 := by
  refine Met.ofW (cc := cX2_waitingFor) (maxL := 6) (ret := (some .long)) (by decide) rfl ?_
  intro p e s m args below meth c s₁ B hml hv
  obtain ⟨rfl, hA, hR, hK, hN⟩ := hv
  have hr := B.returns
  have hts : ∀ w ∈ wsG, w.before [.ref x0, .long x1].toArray s = true := fun w hw => atoms_spec (ws := Cond.code yX2_waitingFor cX2_waitingFor 6 (some .long) :: wsG) B.pre w (List.mem_cons_of_mem _ hw)
  have X : Cx p s m [.ref x0, .long x1].toArray meth c D vwCl tys cX2_waitingFor 6 RX2 wsG := ⟨⟨B.exec, B.bytes, hml, findClass_of_methodNamed B.named, hts⟩, hK, B.notSynchronized, hT⟩
  have hx := B.exec
  have hb := B.bytes
  have I : In D vwCl tys A s h s.heap [] := ⟨hR, va_S.rf, hA⟩
  have hl := lv_entry [.ref x0, .long x1] (n := 6) (Nat.le_of_ble_eq_true rfl)
  rw [lg_entry_eq]
  generalize (lg_sl [.ref x0, .long x1] ++ List.replicate (6 - (lg_sl [.ref x0, .long x1]).length) Slot.unset).toArray = ls at hl ⊢
  have hl : lv_has ls 6 [(0, .ref x0), (1, .long x1)] := hl
  have ho := X.1.2.2.2.1
  rw [J_Plan_waitingFor] at hJ
  refine lv_lconst (v := 0) hx hb dX2_waitingFor_0 (by decide) ?_
  refine lv_lstore_n (lv' := [(3, .long (0 : Int64)), (0, .ref x0), (1, .long x1)]) hx hb dX2_waitingFor_1 rfl hl (by decide) rfl (fun ls hl => ?_)
  refine lv_iconst (v := 0) hx hb dX2_waitingFor_2 (by decide) ?_
  refine lv_istore (lv' := [(5, .int (0 : Int32)), (3, .long (0 : Int64)), (0, .ref x0), (1, .long x1)]) hx hb dX2_waitingFor_3 hl (by decide) rfl (fun ls hl => ?_)
  exact w_Plan_waitingFor_5 X hN hr N _ _ _ _ _ _ _ _ hJ I (lv_sub hl [2, 3, 1, 0] rfl)
end GW
