section GW
variable {p : Program} {l : Launch} {e : Env} {s : State} {m : MethodId} {args : Array Value} {below : List Frame} {meth : Method} {c : Code} {D : va_G} {tys : List (ClassId × FieldType)} {A : Nat → Prop}
def rmX7_spread : Room := { frames := 1, cells := 0, slots := 0, locals := 24 }
def J_Mod_spread_127 (N : Nat) (r37 : Nat → Int32 → Hp → Option (Unit × Hp)) (r45 : Nat → Int32 → Int32 → Hp → Option (Unit × Hp)) (x0 : Nat) (x3 : Int32) (x4 : Int32) (y0 : Int32) (h : Hp) : Option (Unit × Hp) :=
  (fR h 7 x0 20).bind fun v3 =>
  (sB h 1 v3 x3 x4).bind fun h4 =>
  r45 x0 y0 (x3 + (1 : Int32)) h4
def J_Mod_spread_107 (N : Nat) (r37 : Nat → Int32 → Hp → Option (Unit × Hp)) (r45 : Nat → Int32 → Int32 → Hp → Option (Unit × Hp)) (x0 : Nat) (x2 : Int32) (x3 : Int32) (x4 : Int32)  (h : Hp) : Option (Unit × Hp) :=
  if x2 = 0 then
  ((fR h 7 x0 20).bind fun v5 =>
  (aI h 1 v5 x3).bind fun v6 =>
  if x4 = v6 then
  (J_Mod_spread_127 N r37 r45 x0 x3 x4 (0 : Int32) h)
  else
  (J_Mod_spread_127 N r37 r45 x0 x3 x4 (1 : Int32) h))
  else
  (J_Mod_spread_127 N r37 r45 x0 x3 x4 (1 : Int32) h)
def J_Mod_spread_98 (N : Nat) (r37 : Nat → Int32 → Hp → Option (Unit × Hp)) (r45 : Nat → Int32 → Int32 → Hp → Option (Unit × Hp)) (r62 : Nat → Int32 → Int32 → Int32 → Int32 → Hp → Option (Unit × Hp)) (x0 : Nat) (x2 : Int32) (x3 : Int32) (x5 : Int32)  (h : Hp) : Option (Unit × Hp) :=
  r62 x0 x2 x3 (0 : Int32) (x5 + (1 : Int32)) h
def J_Mod_spread_62 (N : Nat) (r37 : Nat → Int32 → Hp → Option (Unit × Hp)) (r45 : Nat → Int32 → Int32 → Hp → Option (Unit × Hp)) : Nat → Nat → Int32 → Int32 → Int32 → Int32 → Hp → Option (Unit × Hp)
  | 0, _, _, _, _, _, _ => none
  | n + 1, x0, x2, x3, x4, x5, h =>
  if (40 : Int32) ≤ x5 then
  (J_Mod_spread_107 N r37 r45 x0 x2 x3 x4 h)
  else
  (if x4 = 0 then
  ((fR h 7 x0 20).bind fun v7 =>
  (aI h 1 v7 x5).bind fun v8 =>
  if v8 = 0 then
  (J_Mod_spread_98 N r37 r45 (J_Mod_spread_62 N r37 r45 n) x0 x2 x3 x5 h)
  else
  ((isO h 7 x0).bind fun _ =>
  (J_Mod_takes N x0 x5 x3 h).bind fun q9 =>
 if q9.1 = 0 then
  (J_Mod_spread_98 N r37 r45 (J_Mod_spread_62 N r37 r45 n) x0 x2 x3 x5 q9.2)
  else
  ((J_Mod_spread_62 N r37 r45 n) x0 x2 x3 (1 : Int32) (x5 + (1 : Int32)) q9.2)))
  else
  (J_Mod_spread_107 N r37 r45 x0 x2 x3 x4 h))
def J_Mod_spread_45 (N : Nat) (r37 : Nat → Int32 → Hp → Option (Unit × Hp)) : Nat → Nat → Int32 → Int32 → Hp → Option (Unit × Hp)
  | 0, _, _, _, _ => none
  | n + 1, x0, x2, x3, h =>
  if (40 : Int32) ≤ x3 then
  (r37 x0 x2 h)
  else
  ((fR h 7 x0 20).bind fun v1 =>
  (aI h 1 v1 x3).bind fun v2 =>
  J_Mod_spread_62 N r37 (J_Mod_spread_45 N r37 n) N x0 x2 x3 v2 (0 : Int32) h)
def J_Mod_spread_37 (N : Nat)  : Nat → Nat → Int32 → Hp → Option (Unit × Hp)
  | 0, _, _, _ => none
  | n + 1, x0, x2, h =>
  if x2 = 0 then
  (some ((), h))
  else
  (J_Mod_spread_45 N (J_Mod_spread_37 N n) N x0 (0 : Int32) (0 : Int32) h)
def J_Mod_spread_2 (N : Nat)  : Nat → Nat → Int32 → Int32 → Hp → Option (Unit × Hp)
  | 0, _, _, _, _ => none
  | n + 1, x0, x1, x2, h =>
  if (40 : Int32) ≤ x2 then
  (J_Mod_spread_37 N N x0 (1 : Int32) h)
  else
  ((fR h 7 x0 20).bind fun v10 =>
  (fR h 7 x0 3).bind fun v11 =>
  (aI h 0 v11 x1).bind fun v12 =>
  if v12 = x2 then
  ((sB h 1 v10 x2 (1 : Int32)).bind fun h14 =>
  (J_Mod_spread_2 N n) x0 x1 (x2 + (1 : Int32)) h14)
  else
  ((sB h 1 v10 x2 (0 : Int32)).bind fun h13 =>
  (J_Mod_spread_2 N n) x0 x1 (x2 + (1 : Int32)) h13))
def J_Mod_spread (N : Nat) (x0 : Nat) (x1 : Int32) (h : Hp) : Option (Unit × Hp) :=
  J_Mod_spread_2 N N x0 x1 (0 : Int32) h
set_option maxHeartbeats 4000000 in
set_option maxRecDepth 100000 in
theorem w_Mod_spread_127 (X : Cx p s m args meth c D vwCl tys cX7_spread 6 RX7 wsG) (hN : nwS s) (hr : meth.sig.returnType = none) {res : (Unit × Hp)} {N : Nat} {r37 : Nat → Int32 → Hp → Option (Unit × Hp)} {r45 : Nat → Int32 → Int32 → Hp → Option (Unit × Hp)} (k37 : ∀ (x0 : Nat) (x2 : Int32) (h : Hp) (H : Heap) (locs : List Loc) (ls : Array Slot), r37 x0 x2 h = some res → In D vwCl tys A s h H locs → lv_has ls 6 [(0, .ref x0), (2, .int x2)] → W p l e rmX7_spread s m args below meth c H locs 0 0 (MQ below (Qr D vwCl tys A none res.2) args s 0 0 A) (F0 m 37 ls [])) (k45 : ∀ (x0 : Nat) (x2 : Int32) (x3 : Int32) (h : Hp) (H : Heap) (locs : List Loc) (ls : Array Slot), r45 x0 x2 x3 h = some res → In D vwCl tys A s h H locs → lv_has ls 6 [(0, .ref x0), (2, .int x2), (3, .int x3)] → W p l e rmX7_spread s m args below meth c H locs 0 0 (MQ below (Qr D vwCl tys A none res.2) args s 0 0 A) (F0 m 45 ls [])) : ∀ (x0 : Nat) (x3 : Int32) (x4 : Int32) (y0 : Int32) (h : Hp) (H : Heap) (locs : List Loc) (ls : Array Slot), J_Mod_spread_127 N r37 r45 x0 x3 x4 y0 h = some res → In D vwCl tys A s h H locs → lv_has ls 6 [(0, .ref x0), (3, .int x3), (4, .int x4)] → W p l e rmX7_spread s m args below meth c H locs 0 0 (MQ below (Qr D vwCl tys A none res.2) args s 0 0 A) (F0 m 127 ls [.int y0]) := by
  have hx := X.1.1
  have hb := X.1.2.1
  have hml := X.1.2.2.1
  have ho := X.1.2.2.2.1
  have hts := X.1.2.2.2.2
  have hK := X.2.1
  have hT := X.2.2.2
  intro x0 x3 x4 y0 h H locs ls hJ I hl
  rw [J_Mod_spread_127] at hJ
  refine lv_istore_n (lv' := [(2, .int y0), (0, .ref x0), (3, .int x3), (4, .int x4)]) hx hb dX7_spread_127 rfl hl (by decide) rfl (fun ls hl => ?_)
  refine lv_aload_n hx hb dX7_spread_128 rfl (lv_at hl 1 rfl) ?_
  obtain ⟨v3, e9, hJ⟩ := rp_b hJ
  obtain ⟨f9, g9, e9⟩ := fR_s e9
  refine rp_get X I g9 e9 rfl wiX7 (by decide) wm_553 dX7_spread_129 ?_
  refine lv_iload_n hx hb dX7_spread_132 rfl (lv_at hl 2 rfl) ?_
  refine lv_iload hx hb dX7_spread_133 (lv_at hl 3 rfl) ?_
  obtain ⟨h4, e9, hJ⟩ := rp_b hJ
  refine rp_zast X I e9 rfl dX7_spread_135 (fun H locs I => ?_)
  refine lv_iinc (v := (x3 + (1 : Int32))) (lv' := [(3, .int (x3 + (1 : Int32))), (2, .int y0), (0, .ref x0), (4, .int x4)]) hx hb dX7_spread_136 hl (k := 2) rfl rfl (by decide) rfl (fun ls hl => ?_)
  refine lv_goto (tgt := 45) hx hb dX7_spread_139 (by decide) ?_
  exact k45 _ _ _ _ _ _ _ hJ I (lv_sub hl [2, 1, 0] rfl)
set_option maxHeartbeats 4000000 in
set_option maxRecDepth 100000 in
theorem w_Mod_spread_107 (X : Cx p s m args meth c D vwCl tys cX7_spread 6 RX7 wsG) (hN : nwS s) (hr : meth.sig.returnType = none) {res : (Unit × Hp)} {N : Nat} {r37 : Nat → Int32 → Hp → Option (Unit × Hp)} {r45 : Nat → Int32 → Int32 → Hp → Option (Unit × Hp)} (k37 : ∀ (x0 : Nat) (x2 : Int32) (h : Hp) (H : Heap) (locs : List Loc) (ls : Array Slot), r37 x0 x2 h = some res → In D vwCl tys A s h H locs → lv_has ls 6 [(0, .ref x0), (2, .int x2)] → W p l e rmX7_spread s m args below meth c H locs 0 0 (MQ below (Qr D vwCl tys A none res.2) args s 0 0 A) (F0 m 37 ls [])) (k45 : ∀ (x0 : Nat) (x2 : Int32) (x3 : Int32) (h : Hp) (H : Heap) (locs : List Loc) (ls : Array Slot), r45 x0 x2 x3 h = some res → In D vwCl tys A s h H locs → lv_has ls 6 [(0, .ref x0), (2, .int x2), (3, .int x3)] → W p l e rmX7_spread s m args below meth c H locs 0 0 (MQ below (Qr D vwCl tys A none res.2) args s 0 0 A) (F0 m 45 ls [])) : ∀ (x0 : Nat) (x2 : Int32) (x3 : Int32) (x4 : Int32)  (h : Hp) (H : Heap) (locs : List Loc) (ls : Array Slot), J_Mod_spread_107 N r37 r45 x0 x2 x3 x4 h = some res → In D vwCl tys A s h H locs → lv_has ls 6 [(0, .ref x0), (2, .int x2), (3, .int x3), (4, .int x4)] → W p l e rmX7_spread s m args below meth c H locs 0 0 (MQ below (Qr D vwCl tys A none res.2) args s 0 0 A) (F0 m 107 ls []) := by
  have hx := X.1.1
  have hb := X.1.2.1
  have hml := X.1.2.2.1
  have ho := X.1.2.2.2.1
  have hts := X.1.2.2.2.2
  have hK := X.2.1
  have hT := X.2.2.2
  intro x0 x2 x3 x4  h H locs ls hJ I hl
  rw [J_Mod_spread_107] at hJ
  refine lv_iload_n hx hb dX7_spread_107 rfl (lv_at hl 1 rfl) ?_
  refine lv_if_ne (tgt := 122) hx hb dX7_spread_108 (by decide) (fun c9 => ?_) (fun c9 => ?_)
  · rw [if_neg c9] at hJ
    refine lv_iconst (v := 1) hx hb dX7_spread_122 (by decide) ?_
    refine lv_goto (tgt := 127) hx hb dX7_spread_123 (by decide) ?_
    exact w_Mod_spread_127 X hN hr k37 k45 _ _ _ _ _ _ _ _ hJ I (lv_sub hl [0, 2, 3] rfl)
  · rw [if_pos c9] at hJ
    refine lv_iload hx hb dX7_spread_111 (lv_at hl 3 rfl) ?_
    refine lv_aload_n hx hb dX7_spread_113 rfl (lv_at hl 0 rfl) ?_
    obtain ⟨v5, e9, hJ⟩ := rp_b hJ
    obtain ⟨f9, g9, e9⟩ := fR_s e9
    refine rp_get X I g9 e9 rfl wiX7 (by decide) wm_553 dX7_spread_114 ?_
    refine lv_iload_n hx hb dX7_spread_117 rfl (lv_at hl 2 rfl) ?_
    obtain ⟨v6, e9, hJ⟩ := rp_b hJ
    refine rp_zald X I e9 rfl dX7_spread_118 ?_
    refine lv_icmp_eq (tgt := 126) hx hb dX7_spread_119 (by decide) (fun c9 => ?_) (fun c9 => ?_)
    · rw [if_pos c9] at hJ
      refine lv_iconst (v := 0) hx hb dX7_spread_126 (by decide) ?_
      exact w_Mod_spread_127 X hN hr k37 k45 _ _ _ _ _ _ _ _ hJ I (lv_sub hl [0, 2, 3] rfl)
    · rw [if_neg c9] at hJ
      refine lv_iconst (v := 1) hx hb dX7_spread_122 (by decide) ?_
      refine lv_goto (tgt := 127) hx hb dX7_spread_123 (by decide) ?_
      exact w_Mod_spread_127 X hN hr k37 k45 _ _ _ _ _ _ _ _ hJ I (lv_sub hl [0, 2, 3] rfl)
set_option maxHeartbeats 4000000 in
set_option maxRecDepth 100000 in
theorem w_Mod_spread_98 (X : Cx p s m args meth c D vwCl tys cX7_spread 6 RX7 wsG) (hN : nwS s) (hr : meth.sig.returnType = none) {res : (Unit × Hp)} {N : Nat} {r37 : Nat → Int32 → Hp → Option (Unit × Hp)} {r45 : Nat → Int32 → Int32 → Hp → Option (Unit × Hp)} {r62 : Nat → Int32 → Int32 → Int32 → Int32 → Hp → Option (Unit × Hp)} (k37 : ∀ (x0 : Nat) (x2 : Int32) (h : Hp) (H : Heap) (locs : List Loc) (ls : Array Slot), r37 x0 x2 h = some res → In D vwCl tys A s h H locs → lv_has ls 6 [(0, .ref x0), (2, .int x2)] → W p l e rmX7_spread s m args below meth c H locs 0 0 (MQ below (Qr D vwCl tys A none res.2) args s 0 0 A) (F0 m 37 ls [])) (k45 : ∀ (x0 : Nat) (x2 : Int32) (x3 : Int32) (h : Hp) (H : Heap) (locs : List Loc) (ls : Array Slot), r45 x0 x2 x3 h = some res → In D vwCl tys A s h H locs → lv_has ls 6 [(0, .ref x0), (2, .int x2), (3, .int x3)] → W p l e rmX7_spread s m args below meth c H locs 0 0 (MQ below (Qr D vwCl tys A none res.2) args s 0 0 A) (F0 m 45 ls [])) (k62 : ∀ (x0 : Nat) (x2 : Int32) (x3 : Int32) (x4 : Int32) (x5 : Int32) (h : Hp) (H : Heap) (locs : List Loc) (ls : Array Slot), r62 x0 x2 x3 x4 x5 h = some res → In D vwCl tys A s h H locs → lv_has ls 6 [(0, .ref x0), (2, .int x2), (3, .int x3), (4, .int x4), (5, .int x5)] → W p l e rmX7_spread s m args below meth c H locs 0 0 (MQ below (Qr D vwCl tys A none res.2) args s 0 0 A) (F0 m 62 ls [])) : ∀ (x0 : Nat) (x2 : Int32) (x3 : Int32) (x5 : Int32)  (h : Hp) (H : Heap) (locs : List Loc) (ls : Array Slot), J_Mod_spread_98 N r37 r45 r62 x0 x2 x3 x5 h = some res → In D vwCl tys A s h H locs → lv_has ls 6 [(0, .ref x0), (2, .int x2), (3, .int x3), (5, .int x5)] → W p l e rmX7_spread s m args below meth c H locs 0 0 (MQ below (Qr D vwCl tys A none res.2) args s 0 0 A) (F0 m 98 ls []) := by
  have hx := X.1.1
  have hb := X.1.2.1
  have hml := X.1.2.2.1
  have ho := X.1.2.2.2.1
  have hts := X.1.2.2.2.2
  have hK := X.2.1
  have hT := X.2.2.2
  intro x0 x2 x3 x5  h H locs ls hJ I hl
  rw [J_Mod_spread_98] at hJ
  refine lv_iconst (v := 0) hx hb dX7_spread_98 (by decide) ?_
  refine lv_istore (lv' := [(4, .int (0 : Int32)), (0, .ref x0), (2, .int x2), (3, .int x3), (5, .int x5)]) hx hb dX7_spread_99 hl (by decide) rfl (fun ls hl => ?_)
  refine lv_iinc (v := (x5 + (1 : Int32))) (lv' := [(5, .int (x5 + (1 : Int32))), (4, .int (0 : Int32)), (0, .ref x0), (2, .int x2), (3, .int x3)]) hx hb dX7_spread_101 hl (k := 4) rfl rfl (by decide) rfl (fun ls hl => ?_)
  refine lv_goto (tgt := 62) hx hb dX7_spread_104 (by decide) ?_
  exact k62 _ _ _ _ _ _ _ _ _ hJ I (lv_sub hl [2, 3, 4, 1, 0] rfl)
set_option maxHeartbeats 4000000 in
set_option maxRecDepth 100000 in
theorem w_Mod_spread_62 (X : Cx p s m args meth c D vwCl tys cX7_spread 6 RX7 wsG) (hN : nwS s) (hr : meth.sig.returnType = none) {res : (Unit × Hp)} {N : Nat} {r37 : Nat → Int32 → Hp → Option (Unit × Hp)} {r45 : Nat → Int32 → Int32 → Hp → Option (Unit × Hp)} (k37 : ∀ (x0 : Nat) (x2 : Int32) (h : Hp) (H : Heap) (locs : List Loc) (ls : Array Slot), r37 x0 x2 h = some res → In D vwCl tys A s h H locs → lv_has ls 6 [(0, .ref x0), (2, .int x2)] → W p l e rmX7_spread s m args below meth c H locs 0 0 (MQ below (Qr D vwCl tys A none res.2) args s 0 0 A) (F0 m 37 ls [])) (k45 : ∀ (x0 : Nat) (x2 : Int32) (x3 : Int32) (h : Hp) (H : Heap) (locs : List Loc) (ls : Array Slot), r45 x0 x2 x3 h = some res → In D vwCl tys A s h H locs → lv_has ls 6 [(0, .ref x0), (2, .int x2), (3, .int x3)] → W p l e rmX7_spread s m args below meth c H locs 0 0 (MQ below (Qr D vwCl tys A none res.2) args s 0 0 A) (F0 m 45 ls [])) : ∀ (n : Nat) (x0 : Nat) (x2 : Int32) (x3 : Int32) (x4 : Int32) (x5 : Int32)  (h : Hp) (H : Heap) (locs : List Loc) (ls : Array Slot), J_Mod_spread_62 N r37 r45 n x0 x2 x3 x4 x5 h = some res → In D vwCl tys A s h H locs → lv_has ls 6 [(0, .ref x0), (2, .int x2), (3, .int x3), (4, .int x4), (5, .int x5)] → W p l e rmX7_spread s m args below meth c H locs 0 0 (MQ below (Qr D vwCl tys A none res.2) args s 0 0 A) (F0 m 62 ls []) := by
  have hx := X.1.1
  have hb := X.1.2.1
  have hml := X.1.2.2.1
  have ho := X.1.2.2.2.1
  have hts := X.1.2.2.2.2
  have hK := X.2.1
  have hT := X.2.2.2
  intro n
  induction n with
  | zero =>
    intro x0 x2 x3 x4 x5  h H locs ls hJ I hl
    exact nomatch (show (none : Option (Unit × Hp)) = some res from hJ)
  | succ n k62 =>
    intro x0 x2 x3 x4 x5  h H locs ls hJ I hl
    rw [J_Mod_spread_62] at hJ
    refine lv_iload hx hb dX7_spread_62 (lv_at hl 4 rfl) ?_
    refine lv_bipush (v := 40) hx hb dX7_spread_64 (by decide) ?_
    refine lv_icmp_ge (tgt := 107) hx hb dX7_spread_66 (by decide) (fun c9 => ?_) (fun c9 => ?_)
    · rw [if_pos c9] at hJ
      exact w_Mod_spread_107 X hN hr k37 k45 _ _ _ _ _ _ _ _ hJ I (lv_sub hl [0, 1, 2, 3] rfl)
    · rw [if_neg c9] at hJ
      refine lv_iload hx hb dX7_spread_69 (lv_at hl 3 rfl) ?_
      refine lv_if_ne (tgt := 107) hx hb dX7_spread_71 (by decide) (fun c9 => ?_) (fun c9 => ?_)
      · rw [if_neg c9] at hJ
        exact w_Mod_spread_107 X hN hr k37 k45 _ _ _ _ _ _ _ _ hJ I (lv_sub hl [0, 1, 2, 3] rfl)
      · rw [if_pos c9] at hJ
        refine lv_aload_n hx hb dX7_spread_74 rfl (lv_at hl 0 rfl) ?_
        obtain ⟨v7, e9, hJ⟩ := rp_b hJ
        obtain ⟨f9, g9, e9⟩ := fR_s e9
        refine rp_get X I g9 e9 rfl wiX7 (by decide) wm_553 dX7_spread_75 ?_
        refine lv_iload hx hb dX7_spread_78 (lv_at hl 4 rfl) ?_
        obtain ⟨v8, e9, hJ⟩ := rp_b hJ
        refine rp_zald X I e9 rfl dX7_spread_80 ?_
        refine lv_if_eq (tgt := 98) hx hb dX7_spread_81 (by decide) (fun c9 => ?_) (fun c9 => ?_)
        · rw [if_pos c9] at hJ
          exact w_Mod_spread_98 X hN hr k37 k45 k62 _ _ _ _ _ _ _ _ hJ I (lv_sub hl [0, 1, 2, 4] rfl)
        · rw [if_neg c9] at hJ
          refine lv_aload_n hx hb dX7_spread_84 rfl (lv_at hl 0 rfl) ?_
          refine lv_iload hx hb dX7_spread_85 (lv_at hl 4 rfl) ?_
          refine lv_iload_n hx hb dX7_spread_87 rfl (lv_at hl 2 rfl) ?_
          obtain ⟨u9, i9, hJ⟩ := rp_b hJ
          obtain ⟨f9, i9⟩ := isO_s i9
          obtain ⟨q9, e9, hJ⟩ := rp_b hJ
          refine rp_callV (As := [.int x5, .int x3]) (rest := []) X hN I (c_Mod_takes hT e9) (cwV 2 hts (gdV wm_668 wm_669 wm_21 wm_40 wm_670) rfl rfl rfl (by decide +kernel) ⟨Nat.le_of_ble_eq_true rfl, Nat.le_of_ble_eq_true rfl⟩) i9 rfl rfl hl.1 rfl (Nat.le_of_ble_eq_true rfl) dX7_spread_88 ⟨(Nat.le_of_ble_eq_true rfl), (Nat.le_of_ble_eq_true rfl)⟩ (fun H locs I => ?_)
          refine W.cs (cells' := 0) (slots' := 0) rfl rfl ?_
          refine lv_if_eq (tgt := 98) hx hb dX7_spread_91 (by decide) (fun c9 => ?_) (fun c9 => ?_)
          · rw [if_pos c9] at hJ
            exact w_Mod_spread_98 X hN hr k37 k45 k62 _ _ _ _ _ _ _ _ hJ I (lv_sub hl [0, 1, 2, 4] rfl)
          · rw [if_neg c9] at hJ
            refine lv_iconst (v := 1) hx hb dX7_spread_94 (by decide) ?_
            refine lv_goto (tgt := 99) hx hb dX7_spread_95 (by decide) ?_
            refine lv_istore (lv' := [(4, .int (1 : Int32)), (0, .ref x0), (2, .int x2), (3, .int x3), (5, .int x5)]) hx hb dX7_spread_99 hl (by decide) rfl (fun ls hl => ?_)
            refine lv_iinc (v := (x5 + (1 : Int32))) (lv' := [(5, .int (x5 + (1 : Int32))), (4, .int (1 : Int32)), (0, .ref x0), (2, .int x2), (3, .int x3)]) hx hb dX7_spread_101 hl (k := 4) rfl rfl (by decide) rfl (fun ls hl => ?_)
            refine lv_goto (tgt := 62) hx hb dX7_spread_104 (by decide) ?_
            exact k62 _ _ _ _ _ _ _ _ _ hJ I (lv_sub hl [2, 3, 4, 1, 0] rfl)
set_option maxHeartbeats 4000000 in
set_option maxRecDepth 100000 in
theorem w_Mod_spread_45 (X : Cx p s m args meth c D vwCl tys cX7_spread 6 RX7 wsG) (hN : nwS s) (hr : meth.sig.returnType = none) {res : (Unit × Hp)} {N : Nat} {r37 : Nat → Int32 → Hp → Option (Unit × Hp)} (k37 : ∀ (x0 : Nat) (x2 : Int32) (h : Hp) (H : Heap) (locs : List Loc) (ls : Array Slot), r37 x0 x2 h = some res → In D vwCl tys A s h H locs → lv_has ls 6 [(0, .ref x0), (2, .int x2)] → W p l e rmX7_spread s m args below meth c H locs 0 0 (MQ below (Qr D vwCl tys A none res.2) args s 0 0 A) (F0 m 37 ls [])) : ∀ (n : Nat) (x0 : Nat) (x2 : Int32) (x3 : Int32)  (h : Hp) (H : Heap) (locs : List Loc) (ls : Array Slot), J_Mod_spread_45 N r37 n x0 x2 x3 h = some res → In D vwCl tys A s h H locs → lv_has ls 6 [(0, .ref x0), (2, .int x2), (3, .int x3)] → W p l e rmX7_spread s m args below meth c H locs 0 0 (MQ below (Qr D vwCl tys A none res.2) args s 0 0 A) (F0 m 45 ls []) := by
  have hx := X.1.1
  have hb := X.1.2.1
  have hml := X.1.2.2.1
  have ho := X.1.2.2.2.1
  have hts := X.1.2.2.2.2
  have hK := X.2.1
  have hT := X.2.2.2
  intro n
  induction n with
  | zero =>
    intro x0 x2 x3  h H locs ls hJ I hl
    exact nomatch (show (none : Option (Unit × Hp)) = some res from hJ)
  | succ n k45 =>
    intro x0 x2 x3  h H locs ls hJ I hl
    rw [J_Mod_spread_45] at hJ
    refine lv_iload_n hx hb dX7_spread_45 rfl (lv_at hl 2 rfl) ?_
    refine lv_bipush (v := 40) hx hb dX7_spread_46 (by decide) ?_
    refine lv_icmp_ge (tgt := 142) hx hb dX7_spread_48 (by decide) (fun c9 => ?_) (fun c9 => ?_)
    · rw [if_pos c9] at hJ
      refine lv_goto (tgt := 37) hx hb dX7_spread_142 (by decide) ?_
      exact k37 _ _ _ _ _ _ hJ I (lv_sub hl [0, 1] rfl)
    · rw [if_neg c9] at hJ
      refine lv_aload_n hx hb dX7_spread_51 rfl (lv_at hl 0 rfl) ?_
      obtain ⟨v1, e9, hJ⟩ := rp_b hJ
      obtain ⟨f9, g9, e9⟩ := fR_s e9
      refine rp_get X I g9 e9 rfl wiX7 (by decide) wm_553 dX7_spread_52 ?_
      refine lv_iload_n hx hb dX7_spread_55 rfl (lv_at hl 2 rfl) ?_
      obtain ⟨v2, e9, hJ⟩ := rp_b hJ
      refine rp_zald X I e9 rfl dX7_spread_56 ?_
      refine lv_istore (lv' := [(4, .int v2), (0, .ref x0), (2, .int x2), (3, .int x3)]) hx hb dX7_spread_57 hl (by decide) rfl (fun ls hl => ?_)
      refine lv_iconst (v := 0) hx hb dX7_spread_59 (by decide) ?_
      refine lv_istore (lv' := [(5, .int (0 : Int32)), (4, .int v2), (0, .ref x0), (2, .int x2), (3, .int x3)]) hx hb dX7_spread_60 hl (by decide) rfl (fun ls hl => ?_)
      exact w_Mod_spread_62 X hN hr k37 k45 N _ _ _ _ _ _ _ _ _ hJ I (lv_sub hl [2, 3, 4, 1, 0] rfl)
set_option maxHeartbeats 4000000 in
set_option maxRecDepth 100000 in
theorem w_Mod_spread_37 (X : Cx p s m args meth c D vwCl tys cX7_spread 6 RX7 wsG) (hN : nwS s) (hr : meth.sig.returnType = none) {res : (Unit × Hp)} {N : Nat}   : ∀ (n : Nat) (x0 : Nat) (x2 : Int32)  (h : Hp) (H : Heap) (locs : List Loc) (ls : Array Slot), J_Mod_spread_37 N n x0 x2 h = some res → In D vwCl tys A s h H locs → lv_has ls 6 [(0, .ref x0), (2, .int x2)] → W p l e rmX7_spread s m args below meth c H locs 0 0 (MQ below (Qr D vwCl tys A none res.2) args s 0 0 A) (F0 m 37 ls []) := by
  have hx := X.1.1
  have hb := X.1.2.1
  have hml := X.1.2.2.1
  have ho := X.1.2.2.2.1
  have hts := X.1.2.2.2.2
  have hK := X.2.1
  have hT := X.2.2.2
  intro n
  induction n with
  | zero =>
    intro x0 x2  h H locs ls hJ I hl
    exact nomatch (show (none : Option (Unit × Hp)) = some res from hJ)
  | succ n k37 =>
    intro x0 x2  h H locs ls hJ I hl
    rw [J_Mod_spread_37] at hJ
    refine lv_iload_n hx hb dX7_spread_37 rfl (lv_at hl 1 rfl) ?_
    refine lv_if_eq (tgt := 145) hx hb dX7_spread_38 (by decide) (fun c9 => ?_) (fun c9 => ?_)
    · rw [if_pos c9] at hJ
      exact rp_vret X hr hJ I dX7_spread_145
    · rw [if_neg c9] at hJ
      refine lv_iconst (v := 0) hx hb dX7_spread_41 (by decide) ?_
      refine lv_istore_n (lv' := [(2, .int (0 : Int32)), (0, .ref x0)]) hx hb dX7_spread_42 rfl hl (by decide) rfl (fun ls hl => ?_)
      refine lv_iconst (v := 0) hx hb dX7_spread_43 (by decide) ?_
      refine lv_istore_n (lv' := [(3, .int (0 : Int32)), (2, .int (0 : Int32)), (0, .ref x0)]) hx hb dX7_spread_44 rfl hl (by decide) rfl (fun ls hl => ?_)
      exact w_Mod_spread_45 X hN hr k37 N _ _ _ _ _ _ _ hJ I (lv_sub hl [2, 1, 0] rfl)
set_option maxHeartbeats 4000000 in
set_option maxRecDepth 100000 in
theorem w_Mod_spread_2 (X : Cx p s m args meth c D vwCl tys cX7_spread 6 RX7 wsG) (hN : nwS s) (hr : meth.sig.returnType = none) {res : (Unit × Hp)} {N : Nat}   : ∀ (n : Nat) (x0 : Nat) (x1 : Int32) (x2 : Int32)  (h : Hp) (H : Heap) (locs : List Loc) (ls : Array Slot), J_Mod_spread_2 N n x0 x1 x2 h = some res → In D vwCl tys A s h H locs → lv_has ls 6 [(0, .ref x0), (1, .int x1), (2, .int x2)] → W p l e rmX7_spread s m args below meth c H locs 0 0 (MQ below (Qr D vwCl tys A none res.2) args s 0 0 A) (F0 m 2 ls []) := by
  have hx := X.1.1
  have hb := X.1.2.1
  have hml := X.1.2.2.1
  have ho := X.1.2.2.2.1
  have hts := X.1.2.2.2.2
  have hK := X.2.1
  have hT := X.2.2.2
  intro n
  induction n with
  | zero =>
    intro x0 x1 x2  h H locs ls hJ I hl
    exact nomatch (show (none : Option (Unit × Hp)) = some res from hJ)
  | succ n k2 =>
    intro x0 x1 x2  h H locs ls hJ I hl
    rw [J_Mod_spread_2] at hJ
    refine lv_iload_n hx hb dX7_spread_2 rfl (lv_at hl 2 rfl) ?_
    refine lv_bipush (v := 40) hx hb dX7_spread_3 (by decide) ?_
    refine lv_icmp_ge (tgt := 35) hx hb dX7_spread_5 (by decide) (fun c9 => ?_) (fun c9 => ?_)
    · rw [if_pos c9] at hJ
      refine lv_iconst (v := 1) hx hb dX7_spread_35 (by decide) ?_
      refine lv_istore_n (lv' := [(2, .int (1 : Int32)), (0, .ref x0), (1, .int x1)]) hx hb dX7_spread_36 rfl hl (by decide) rfl (fun ls hl => ?_)
      exact w_Mod_spread_37 X hN hr N _ _ _ _ _ _ hJ I (lv_sub hl [1, 0] rfl)
    · rw [if_neg c9] at hJ
      refine lv_aload_n hx hb dX7_spread_8 rfl (lv_at hl 0 rfl) ?_
      obtain ⟨v10, e9, hJ⟩ := rp_b hJ
      obtain ⟨f9, g9, e9⟩ := fR_s e9
      refine rp_get X I g9 e9 rfl wiX7 (by decide) wm_553 dX7_spread_9 ?_
      refine lv_iload_n hx hb dX7_spread_12 rfl (lv_at hl 2 rfl) ?_
      refine lv_aload_n hx hb dX7_spread_13 rfl (lv_at hl 0 rfl) ?_
      obtain ⟨v11, e9, hJ⟩ := rp_b hJ
      obtain ⟨f9, g9, e9⟩ := fR_s e9
      refine rp_get X I g9 e9 rfl wiX7 (by decide) wm_536 dX7_spread_14 ?_
      refine lv_iload_n hx hb dX7_spread_17 rfl (lv_at hl 1 rfl) ?_
      obtain ⟨v12, e9, hJ⟩ := rp_b hJ
      refine rp_iald X I e9 rfl dX7_spread_18 ?_
      refine lv_iload_n hx hb dX7_spread_19 rfl (lv_at hl 2 rfl) ?_
      refine lv_icmp_ne (tgt := 27) hx hb dX7_spread_20 (by decide) (fun c9 => ?_) (fun c9 => ?_)
      · rw [if_neg c9] at hJ
        refine lv_iconst (v := 0) hx hb dX7_spread_27 (by decide) ?_
        obtain ⟨h13, e9, hJ⟩ := rp_b hJ
        refine rp_zast X I e9 rfl dX7_spread_28 (fun H locs I => ?_)
        refine lv_iinc (v := (x2 + (1 : Int32))) (lv' := [(2, .int (x2 + (1 : Int32))), (0, .ref x0), (1, .int x1)]) hx hb dX7_spread_29 hl (k := 2) rfl rfl (by decide) rfl (fun ls hl => ?_)
        refine lv_goto (tgt := 2) hx hb dX7_spread_32 (by decide) ?_
        exact k2 _ _ _ _ _ _ _ hJ I (lv_sub hl [1, 2, 0] rfl)
      · rw [if_pos c9] at hJ
        refine lv_iconst (v := 1) hx hb dX7_spread_23 (by decide) ?_
        refine lv_goto (tgt := 28) hx hb dX7_spread_24 (by decide) ?_
        obtain ⟨h14, e9, hJ⟩ := rp_b hJ
        refine rp_zast X I e9 rfl dX7_spread_28 (fun H locs I => ?_)
        refine lv_iinc (v := (x2 + (1 : Int32))) (lv' := [(2, .int (x2 + (1 : Int32))), (0, .ref x0), (1, .int x1)]) hx hb dX7_spread_29 hl (k := 2) rfl rfl (by decide) rfl (fun ls hl => ?_)
        refine lv_goto (tgt := 2) hx hb dX7_spread_32 (by decide) ?_
        exact k2 _ _ _ _ _ _ _ hJ I (lv_sub hl [1, 2, 0] rfl)
set_option maxHeartbeats 4000000 in
set_option maxRecDepth 100000 in
theorem c_Mod_spread {l : Launch} {D : va_G} {tys : List (ClassId × FieldType)} {A : Nat → Prop} (hT : tys.map (fun q => q.2) = tyS) {N : Nat} {x0 : Nat} {x1 : Int32} {h : Hp} {res : (Unit × Hp)} (hJ : J_Mod_spread N x0 x1 h = some res) : Ct l D vwCl tys A yX7_spread (Cond.code yX7_spread cX7_spread 6 none :: wsG) rmX7_spread [.ref x0, .int x1] h none res.2 := by
  refine Met.ofW (cc := cX7_spread) (maxL := 6) (ret := none) (by decide) rfl ?_
  intro p e s m args below meth c s₁ B hml hv
  obtain ⟨rfl, hA, hR, hK, hN⟩ := hv
  have hr := B.returns
  have hts : ∀ w ∈ wsG, w.before [.ref x0, .int x1].toArray s = true := fun w hw => atoms_spec (ws := Cond.code yX7_spread cX7_spread 6 none :: wsG) B.pre w (List.mem_cons_of_mem _ hw)
  have X : Cx p s m [.ref x0, .int x1].toArray meth c D vwCl tys cX7_spread 6 RX7 wsG := ⟨⟨B.exec, B.bytes, hml, findClass_of_methodNamed B.named, hts⟩, hK, B.notSynchronized, hT⟩
  have hx := B.exec
  have hb := B.bytes
  have I : In D vwCl tys A s h s.heap [] := ⟨hR, va_S.rf, hA⟩
  have hl := lv_entry [.ref x0, .int x1] (n := 6) (Nat.le_of_ble_eq_true rfl)
  rw [lg_entry_eq]
  generalize (lg_sl [.ref x0, .int x1] ++ List.replicate (6 - (lg_sl [.ref x0, .int x1]).length) Slot.unset).toArray = ls at hl ⊢
  have hl : lv_has ls 6 [(0, .ref x0), (1, .int x1)] := hl
  have ho := X.1.2.2.2.1
  rw [J_Mod_spread] at hJ
  refine lv_iconst (v := 0) hx hb dX7_spread_0 (by decide) ?_
  refine lv_istore_n (lv' := [(2, .int (0 : Int32)), (0, .ref x0), (1, .int x1)]) hx hb dX7_spread_1 rfl hl (by decide) rfl (fun ls hl => ?_)
  exact w_Mod_spread_2 X hN hr N _ _ _ _ _ _ _ hJ I (lv_sub hl [1, 2, 0] rfl)
def rmX7_measure : Room := { frames := 1, cells := 0, slots := 0, locals := 24 }
def J_Mod_measure_51 (N : Nat) (r34 : Nat → Int32 → Int32 → Hp → Option (Unit × Hp)) (r42 : Nat → Int32 → Int32 → Int32 → Hp → Option (Unit × Hp)) : Nat → Nat → Int32 → Int32 → Int32 → Int32 → Hp → Option (Unit × Hp)
  | 0, _, _, _, _, _, _ => none
  | n + 1, x0, x1, x2, x3, x4, h =>
  if (40 : Int32) ≤ x4 then
  (r42 x0 x1 x2 (x3 + (1 : Int32)) h)
  else
  ((fR h 7 x0 20).bind fun v1 =>
  (aI h 1 v1 x3).bind fun v2 =>
  if v2 = 0 then
  (r42 x0 x1 x2 (x3 + (1 : Int32)) h)
  else
  (if x3 = x1 then
  (r42 x0 x1 x2 (x3 + (1 : Int32)) h)
  else
  ((isO h 7 x0).bind fun _ =>
  (J_Mod_takes N x0 x3 x4 h).bind fun q3 =>
 if q3.1 = 0 then
  ((J_Mod_measure_51 N r34 r42 n) x0 x1 x2 x3 (x4 + (1 : Int32)) q3.2)
  else
  ((fR q3.2 7 x0 39).bind fun v4 =>
  (aI q3.2 0 v4 x4).bind fun v5 =>
  (fR q3.2 7 x0 39).bind fun v6 =>
  (aI q3.2 0 v6 x3).bind fun v7 =>
  if (v5 + (1 : Int32)) < v7 then
  ((fR q3.2 7 x0 39).bind fun v8 =>
  (fR q3.2 7 x0 39).bind fun v9 =>
  (aI q3.2 0 v9 x4).bind fun v10 =>
  (sI q3.2 0 v8 x3 (v10 + (1 : Int32))).bind fun h11 =>
  (J_Mod_measure_51 N r34 r42 n) x0 x1 (1 : Int32) x3 (x4 + (1 : Int32)) h11)
  else
  ((J_Mod_measure_51 N r34 r42 n) x0 x1 x2 x3 (x4 + (1 : Int32)) q3.2)))))
def J_Mod_measure_42 (N : Nat) (r34 : Nat → Int32 → Int32 → Hp → Option (Unit × Hp)) : Nat → Nat → Int32 → Int32 → Int32 → Hp → Option (Unit × Hp)
  | 0, _, _, _, _, _ => none
  | n + 1, x0, x1, x2, x3, h =>
  if (40 : Int32) ≤ x3 then
  (r34 x0 x1 x2 h)
  else
  (J_Mod_measure_51 N r34 (J_Mod_measure_42 N r34 n) N x0 x1 x2 x3 (0 : Int32) h)
def J_Mod_measure_34 (N : Nat)  : Nat → Nat → Int32 → Int32 → Hp → Option (Unit × Hp)
  | 0, _, _, _, _ => none
  | n + 1, x0, x1, x2, h =>
  if x2 = 0 then
  (some ((), h))
  else
  (J_Mod_measure_42 N (J_Mod_measure_34 N n) N x0 x1 (0 : Int32) (0 : Int32) h)
def J_Mod_measure_2 (N : Nat)  : Nat → Nat → Int32 → Int32 → Hp → Option (Unit × Hp)
  | 0, _, _, _, _ => none
  | n + 1, x0, x1, x2, h =>
  if (40 : Int32) ≤ x2 then
  (J_Mod_measure_34 N N x0 x1 (1 : Int32) h)
  else
  ((fR h 7 x0 39).bind fun v12 =>
  if x2 = x1 then
  ((sI h 0 v12 x2 (0 : Int32)).bind fun h14 =>
  (J_Mod_measure_2 N n) x0 x1 (x2 + (1 : Int32)) h14)
  else
  ((sI h 0 v12 x2 (1000 : Int32)).bind fun h13 =>
  (J_Mod_measure_2 N n) x0 x1 (x2 + (1 : Int32)) h13))
def J_Mod_measure (N : Nat) (x0 : Nat) (x1 : Int32) (h : Hp) : Option (Unit × Hp) :=
  J_Mod_measure_2 N N x0 x1 (0 : Int32) h
set_option maxHeartbeats 4000000 in
set_option maxRecDepth 100000 in
theorem w_Mod_measure_51 (X : Cx p s m args meth c D vwCl tys cX7_measure 5 RX7 wsG) (hN : nwS s) (hr : meth.sig.returnType = none) {res : (Unit × Hp)} {N : Nat} {r34 : Nat → Int32 → Int32 → Hp → Option (Unit × Hp)} {r42 : Nat → Int32 → Int32 → Int32 → Hp → Option (Unit × Hp)} (k34 : ∀ (x0 : Nat) (x1 : Int32) (x2 : Int32) (h : Hp) (H : Heap) (locs : List Loc) (ls : Array Slot), r34 x0 x1 x2 h = some res → In D vwCl tys A s h H locs → lv_has ls 5 [(0, .ref x0), (1, .int x1), (2, .int x2)] → W p l e rmX7_measure s m args below meth c H locs 0 0 (MQ below (Qr D vwCl tys A none res.2) args s 0 0 A) (F0 m 34 ls [])) (k42 : ∀ (x0 : Nat) (x1 : Int32) (x2 : Int32) (x3 : Int32) (h : Hp) (H : Heap) (locs : List Loc) (ls : Array Slot), r42 x0 x1 x2 x3 h = some res → In D vwCl tys A s h H locs → lv_has ls 5 [(0, .ref x0), (1, .int x1), (2, .int x2), (3, .int x3)] → W p l e rmX7_measure s m args below meth c H locs 0 0 (MQ below (Qr D vwCl tys A none res.2) args s 0 0 A) (F0 m 42 ls [])) : ∀ (n : Nat) (x0 : Nat) (x1 : Int32) (x2 : Int32) (x3 : Int32) (x4 : Int32)  (h : Hp) (H : Heap) (locs : List Loc) (ls : Array Slot), J_Mod_measure_51 N r34 r42 n x0 x1 x2 x3 x4 h = some res → In D vwCl tys A s h H locs → lv_has ls 5 [(0, .ref x0), (1, .int x1), (2, .int x2), (3, .int x3), (4, .int x4)] → W p l e rmX7_measure s m args below meth c H locs 0 0 (MQ below (Qr D vwCl tys A none res.2) args s 0 0 A) (F0 m 51 ls []) := by
  have hx := X.1.1
  have hb := X.1.2.1
  have hml := X.1.2.2.1
  have ho := X.1.2.2.2.1
  have hts := X.1.2.2.2.2
  have hK := X.2.1
  have hT := X.2.2.2
  intro n
  induction n with
  | zero =>
    intro x0 x1 x2 x3 x4  h H locs ls hJ I hl
    exact nomatch (show (none : Option (Unit × Hp)) = some res from hJ)
  | succ n k51 =>
    intro x0 x1 x2 x3 x4  h H locs ls hJ I hl
    rw [J_Mod_measure_51] at hJ
    refine lv_iload hx hb dX7_measure_51 (lv_at hl 4 rfl) ?_
    refine lv_bipush (v := 40) hx hb dX7_measure_53 (by decide) ?_
    refine lv_icmp_ge (tgt := 126) hx hb dX7_measure_55 (by decide) (fun c9 => ?_) (fun c9 => ?_)
    · rw [if_pos c9] at hJ
      refine lv_iinc (v := (x3 + (1 : Int32))) (lv' := [(3, .int (x3 + (1 : Int32))), (0, .ref x0), (1, .int x1), (2, .int x2), (4, .int x4)]) hx hb dX7_measure_126 hl (k := 3) rfl rfl (by decide) rfl (fun ls hl => ?_)
      refine lv_goto (tgt := 42) hx hb dX7_measure_129 (by decide) ?_
      exact k42 _ _ _ _ _ _ _ _ hJ I (lv_sub hl [1, 2, 3, 0] rfl)
    · rw [if_neg c9] at hJ
      refine lv_aload_n hx hb dX7_measure_58 rfl (lv_at hl 0 rfl) ?_
      obtain ⟨v1, e9, hJ⟩ := rp_b hJ
      obtain ⟨f9, g9, e9⟩ := fR_s e9
      refine rp_get X I g9 e9 rfl wiX7 (by decide) wm_553 dX7_measure_59 ?_
      refine lv_iload_n hx hb dX7_measure_62 rfl (lv_at hl 3 rfl) ?_
      obtain ⟨v2, e9, hJ⟩ := rp_b hJ
      refine rp_zald X I e9 rfl dX7_measure_63 ?_
      refine lv_if_eq (tgt := 126) hx hb dX7_measure_64 (by decide) (fun c9 => ?_) (fun c9 => ?_)
      · rw [if_pos c9] at hJ
        refine lv_iinc (v := (x3 + (1 : Int32))) (lv' := [(3, .int (x3 + (1 : Int32))), (0, .ref x0), (1, .int x1), (2, .int x2), (4, .int x4)]) hx hb dX7_measure_126 hl (k := 3) rfl rfl (by decide) rfl (fun ls hl => ?_)
        refine lv_goto (tgt := 42) hx hb dX7_measure_129 (by decide) ?_
        exact k42 _ _ _ _ _ _ _ _ hJ I (lv_sub hl [1, 2, 3, 0] rfl)
      · rw [if_neg c9] at hJ
        refine lv_iload_n hx hb dX7_measure_67 rfl (lv_at hl 3 rfl) ?_
        refine lv_iload_n hx hb dX7_measure_68 rfl (lv_at hl 1 rfl) ?_
        refine lv_icmp_eq (tgt := 126) hx hb dX7_measure_69 (by decide) (fun c9 => ?_) (fun c9 => ?_)
        · rw [if_pos c9] at hJ
          refine lv_iinc (v := (x3 + (1 : Int32))) (lv' := [(3, .int (x3 + (1 : Int32))), (0, .ref x0), (1, .int x1), (2, .int x2), (4, .int x4)]) hx hb dX7_measure_126 hl (k := 3) rfl rfl (by decide) rfl (fun ls hl => ?_)
          refine lv_goto (tgt := 42) hx hb dX7_measure_129 (by decide) ?_
          exact k42 _ _ _ _ _ _ _ _ hJ I (lv_sub hl [1, 2, 3, 0] rfl)
        · rw [if_neg c9] at hJ
          refine lv_aload_n hx hb dX7_measure_72 rfl (lv_at hl 0 rfl) ?_
          refine lv_iload_n hx hb dX7_measure_73 rfl (lv_at hl 3 rfl) ?_
          refine lv_iload hx hb dX7_measure_74 (lv_at hl 4 rfl) ?_
          obtain ⟨u9, i9, hJ⟩ := rp_b hJ
          obtain ⟨f9, i9⟩ := isO_s i9
          obtain ⟨q3, e9, hJ⟩ := rp_b hJ
          refine rp_callV (As := [.int x3, .int x4]) (rest := []) X hN I (c_Mod_takes hT e9) (cwV 2 hts (gdV wm_668 wm_669 wm_21 wm_40 wm_670) rfl rfl rfl (by decide +kernel) ⟨Nat.le_of_ble_eq_true rfl, Nat.le_of_ble_eq_true rfl⟩) i9 rfl rfl hl.1 rfl (Nat.le_of_ble_eq_true rfl) dX7_measure_76 ⟨(Nat.le_of_ble_eq_true rfl), (Nat.le_of_ble_eq_true rfl)⟩ (fun H locs I => ?_)
          refine W.cs (cells' := 0) (slots' := 0) rfl rfl ?_
          refine lv_if_eq (tgt := 120) hx hb dX7_measure_79 (by decide) (fun c9 => ?_) (fun c9 => ?_)
          · rw [if_pos c9] at hJ
            refine lv_iinc (v := (x4 + (1 : Int32))) (lv' := [(4, .int (x4 + (1 : Int32))), (0, .ref x0), (1, .int x1), (2, .int x2), (3, .int x3)]) hx hb dX7_measure_120 hl (k := 4) rfl rfl (by decide) rfl (fun ls hl => ?_)
            refine lv_goto (tgt := 51) hx hb dX7_measure_123 (by decide) ?_
            exact k51 _ _ _ _ _ _ _ _ _ hJ I (lv_sub hl [1, 2, 3, 4, 0] rfl)
          · rw [if_neg c9] at hJ
            refine lv_aload_n hx hb dX7_measure_82 rfl (lv_at hl 0 rfl) ?_
            obtain ⟨v4, e9, hJ⟩ := rp_b hJ
            obtain ⟨f9, g9, e9⟩ := fR_s e9
            refine rp_get X I g9 e9 rfl wiX7 (by decide) wm_572 dX7_measure_83 ?_
            refine lv_iload hx hb dX7_measure_86 (lv_at hl 4 rfl) ?_
            obtain ⟨v5, e9, hJ⟩ := rp_b hJ
            refine rp_iald X I e9 rfl dX7_measure_88 ?_
            refine lv_iconst (v := 1) hx hb dX7_measure_89 (by decide) ?_
            refine lv_iadd hx hb dX7_measure_90 ?_
            refine lv_aload_n hx hb dX7_measure_91 rfl (lv_at hl 0 rfl) ?_
            obtain ⟨v6, e9, hJ⟩ := rp_b hJ
            obtain ⟨f9, g9, e9⟩ := fR_s e9
            refine rp_get X I g9 e9 rfl wiX7 (by decide) wm_572 dX7_measure_92 ?_
            refine lv_iload_n hx hb dX7_measure_95 rfl (lv_at hl 3 rfl) ?_
            obtain ⟨v7, e9, hJ⟩ := rp_b hJ
            refine rp_iald X I e9 rfl dX7_measure_96 ?_
            refine lv_icmp_lt (tgt := 103) hx hb dX7_measure_97 (by decide) (fun c9 => ?_) (fun c9 => ?_)
            · rw [if_pos c9] at hJ
              refine lv_aload_n hx hb dX7_measure_103 rfl (lv_at hl 0 rfl) ?_
              obtain ⟨v8, e9, hJ⟩ := rp_b hJ
              obtain ⟨f9, g9, e9⟩ := fR_s e9
              refine rp_get X I g9 e9 rfl wiX7 (by decide) wm_572 dX7_measure_104 ?_
              refine lv_iload_n hx hb dX7_measure_107 rfl (lv_at hl 3 rfl) ?_
              refine lv_aload_n hx hb dX7_measure_108 rfl (lv_at hl 0 rfl) ?_
              obtain ⟨v9, e9, hJ⟩ := rp_b hJ
              obtain ⟨f9, g9, e9⟩ := fR_s e9
              refine rp_get X I g9 e9 rfl wiX7 (by decide) wm_572 dX7_measure_109 ?_
              refine lv_iload hx hb dX7_measure_112 (lv_at hl 4 rfl) ?_
              obtain ⟨v10, e9, hJ⟩ := rp_b hJ
              refine rp_iald X I e9 rfl dX7_measure_114 ?_
              refine lv_iconst (v := 1) hx hb dX7_measure_115 (by decide) ?_
              refine lv_iadd hx hb dX7_measure_116 ?_
              obtain ⟨h11, e9, hJ⟩ := rp_b hJ
              refine rp_iast X I e9 rfl dX7_measure_117 (fun H locs I => ?_)
              refine lv_iconst (v := 1) hx hb dX7_measure_118 (by decide) ?_
              refine lv_istore_n (lv' := [(2, .int (1 : Int32)), (0, .ref x0), (1, .int x1), (3, .int x3), (4, .int x4)]) hx hb dX7_measure_119 rfl hl (by decide) rfl (fun ls hl => ?_)
              refine lv_iinc (v := (x4 + (1 : Int32))) (lv' := [(4, .int (x4 + (1 : Int32))), (2, .int (1 : Int32)), (0, .ref x0), (1, .int x1), (3, .int x3)]) hx hb dX7_measure_120 hl (k := 4) rfl rfl (by decide) rfl (fun ls hl => ?_)
              refine lv_goto (tgt := 51) hx hb dX7_measure_123 (by decide) ?_
              exact k51 _ _ _ _ _ _ _ _ _ hJ I (lv_sub hl [2, 3, 1, 4, 0] rfl)
            · rw [if_neg c9] at hJ
              refine lv_goto (tgt := 120) hx hb dX7_measure_100 (by decide) ?_
              refine lv_iinc (v := (x4 + (1 : Int32))) (lv' := [(4, .int (x4 + (1 : Int32))), (0, .ref x0), (1, .int x1), (2, .int x2), (3, .int x3)]) hx hb dX7_measure_120 hl (k := 4) rfl rfl (by decide) rfl (fun ls hl => ?_)
              refine lv_goto (tgt := 51) hx hb dX7_measure_123 (by decide) ?_
              exact k51 _ _ _ _ _ _ _ _ _ hJ I (lv_sub hl [1, 2, 3, 4, 0] rfl)
set_option maxHeartbeats 4000000 in
set_option maxRecDepth 100000 in
theorem w_Mod_measure_42 (X : Cx p s m args meth c D vwCl tys cX7_measure 5 RX7 wsG) (hN : nwS s) (hr : meth.sig.returnType = none) {res : (Unit × Hp)} {N : Nat} {r34 : Nat → Int32 → Int32 → Hp → Option (Unit × Hp)} (k34 : ∀ (x0 : Nat) (x1 : Int32) (x2 : Int32) (h : Hp) (H : Heap) (locs : List Loc) (ls : Array Slot), r34 x0 x1 x2 h = some res → In D vwCl tys A s h H locs → lv_has ls 5 [(0, .ref x0), (1, .int x1), (2, .int x2)] → W p l e rmX7_measure s m args below meth c H locs 0 0 (MQ below (Qr D vwCl tys A none res.2) args s 0 0 A) (F0 m 34 ls [])) : ∀ (n : Nat) (x0 : Nat) (x1 : Int32) (x2 : Int32) (x3 : Int32)  (h : Hp) (H : Heap) (locs : List Loc) (ls : Array Slot), J_Mod_measure_42 N r34 n x0 x1 x2 x3 h = some res → In D vwCl tys A s h H locs → lv_has ls 5 [(0, .ref x0), (1, .int x1), (2, .int x2), (3, .int x3)] → W p l e rmX7_measure s m args below meth c H locs 0 0 (MQ below (Qr D vwCl tys A none res.2) args s 0 0 A) (F0 m 42 ls []) := by
  have hx := X.1.1
  have hb := X.1.2.1
  have hml := X.1.2.2.1
  have ho := X.1.2.2.2.1
  have hts := X.1.2.2.2.2
  have hK := X.2.1
  have hT := X.2.2.2
  intro n
  induction n with
  | zero =>
    intro x0 x1 x2 x3  h H locs ls hJ I hl
    exact nomatch (show (none : Option (Unit × Hp)) = some res from hJ)
  | succ n k42 =>
    intro x0 x1 x2 x3  h H locs ls hJ I hl
    rw [J_Mod_measure_42] at hJ
    refine lv_iload_n hx hb dX7_measure_42 rfl (lv_at hl 3 rfl) ?_
    refine lv_bipush (v := 40) hx hb dX7_measure_43 (by decide) ?_
    refine lv_icmp_ge (tgt := 132) hx hb dX7_measure_45 (by decide) (fun c9 => ?_) (fun c9 => ?_)
    · rw [if_pos c9] at hJ
      refine lv_goto (tgt := 34) hx hb dX7_measure_132 (by decide) ?_
      exact k34 _ _ _ _ _ _ _ hJ I (lv_sub hl [0, 1, 2] rfl)
    · rw [if_neg c9] at hJ
      refine lv_iconst (v := 0) hx hb dX7_measure_48 (by decide) ?_
      refine lv_istore (lv' := [(4, .int (0 : Int32)), (0, .ref x0), (1, .int x1), (2, .int x2), (3, .int x3)]) hx hb dX7_measure_49 hl (by decide) rfl (fun ls hl => ?_)
      exact w_Mod_measure_51 X hN hr k34 k42 N _ _ _ _ _ _ _ _ _ hJ I (lv_sub hl [1, 2, 3, 4, 0] rfl)
set_option maxHeartbeats 4000000 in
set_option maxRecDepth 100000 in
theorem w_Mod_measure_34 (X : Cx p s m args meth c D vwCl tys cX7_measure 5 RX7 wsG) (hN : nwS s) (hr : meth.sig.returnType = none) {res : (Unit × Hp)} {N : Nat}   : ∀ (n : Nat) (x0 : Nat) (x1 : Int32) (x2 : Int32)  (h : Hp) (H : Heap) (locs : List Loc) (ls : Array Slot), J_Mod_measure_34 N n x0 x1 x2 h = some res → In D vwCl tys A s h H locs → lv_has ls 5 [(0, .ref x0), (1, .int x1), (2, .int x2)] → W p l e rmX7_measure s m args below meth c H locs 0 0 (MQ below (Qr D vwCl tys A none res.2) args s 0 0 A) (F0 m 34 ls []) := by
  have hx := X.1.1
  have hb := X.1.2.1
  have hml := X.1.2.2.1
  have ho := X.1.2.2.2.1
  have hts := X.1.2.2.2.2
  have hK := X.2.1
  have hT := X.2.2.2
  intro n
  induction n with
  | zero =>
    intro x0 x1 x2  h H locs ls hJ I hl
    exact nomatch (show (none : Option (Unit × Hp)) = some res from hJ)
  | succ n k34 =>
    intro x0 x1 x2  h H locs ls hJ I hl
    rw [J_Mod_measure_34] at hJ
    refine lv_iload_n hx hb dX7_measure_34 rfl (lv_at hl 2 rfl) ?_
    refine lv_if_eq (tgt := 135) hx hb dX7_measure_35 (by decide) (fun c9 => ?_) (fun c9 => ?_)
    · rw [if_pos c9] at hJ
      exact rp_vret X hr hJ I dX7_measure_135
    · rw [if_neg c9] at hJ
      refine lv_iconst (v := 0) hx hb dX7_measure_38 (by decide) ?_
      refine lv_istore_n (lv' := [(2, .int (0 : Int32)), (0, .ref x0), (1, .int x1)]) hx hb dX7_measure_39 rfl hl (by decide) rfl (fun ls hl => ?_)
      refine lv_iconst (v := 0) hx hb dX7_measure_40 (by decide) ?_
      refine lv_istore_n (lv' := [(3, .int (0 : Int32)), (2, .int (0 : Int32)), (0, .ref x0), (1, .int x1)]) hx hb dX7_measure_41 rfl hl (by decide) rfl (fun ls hl => ?_)
      exact w_Mod_measure_42 X hN hr k34 N _ _ _ _ _ _ _ _ hJ I (lv_sub hl [2, 3, 1, 0] rfl)
set_option maxHeartbeats 4000000 in
set_option maxRecDepth 100000 in
theorem w_Mod_measure_2 (X : Cx p s m args meth c D vwCl tys cX7_measure 5 RX7 wsG) (hN : nwS s) (hr : meth.sig.returnType = none) {res : (Unit × Hp)} {N : Nat}   : ∀ (n : Nat) (x0 : Nat) (x1 : Int32) (x2 : Int32)  (h : Hp) (H : Heap) (locs : List Loc) (ls : Array Slot), J_Mod_measure_2 N n x0 x1 x2 h = some res → In D vwCl tys A s h H locs → lv_has ls 5 [(0, .ref x0), (1, .int x1), (2, .int x2)] → W p l e rmX7_measure s m args below meth c H locs 0 0 (MQ below (Qr D vwCl tys A none res.2) args s 0 0 A) (F0 m 2 ls []) := by
  have hx := X.1.1
  have hb := X.1.2.1
  have hml := X.1.2.2.1
  have ho := X.1.2.2.2.1
  have hts := X.1.2.2.2.2
  have hK := X.2.1
  have hT := X.2.2.2
  intro n
  induction n with
  | zero =>
    intro x0 x1 x2  h H locs ls hJ I hl
    exact nomatch (show (none : Option (Unit × Hp)) = some res from hJ)
  | succ n k2 =>
    intro x0 x1 x2  h H locs ls hJ I hl
    rw [J_Mod_measure_2] at hJ
    refine lv_iload_n hx hb dX7_measure_2 rfl (lv_at hl 2 rfl) ?_
    refine lv_bipush (v := 40) hx hb dX7_measure_3 (by decide) ?_
    refine lv_icmp_ge (tgt := 32) hx hb dX7_measure_5 (by decide) (fun c9 => ?_) (fun c9 => ?_)
    · rw [if_pos c9] at hJ
      refine lv_iconst (v := 1) hx hb dX7_measure_32 (by decide) ?_
      refine lv_istore_n (lv' := [(2, .int (1 : Int32)), (0, .ref x0), (1, .int x1)]) hx hb dX7_measure_33 rfl hl (by decide) rfl (fun ls hl => ?_)
      exact w_Mod_measure_34 X hN hr N _ _ _ _ _ _ _ hJ I (lv_sub hl [1, 2, 0] rfl)
    · rw [if_neg c9] at hJ
      refine lv_aload_n hx hb dX7_measure_8 rfl (lv_at hl 0 rfl) ?_
      obtain ⟨v12, e9, hJ⟩ := rp_b hJ
      obtain ⟨f9, g9, e9⟩ := fR_s e9
      refine rp_get X I g9 e9 rfl wiX7 (by decide) wm_572 dX7_measure_9 ?_
      refine lv_iload_n hx hb dX7_measure_12 rfl (lv_at hl 2 rfl) ?_
      refine lv_iload_n hx hb dX7_measure_13 rfl (lv_at hl 2 rfl) ?_
      refine lv_iload_n hx hb dX7_measure_14 rfl (lv_at hl 1 rfl) ?_
      refine lv_icmp_ne (tgt := 22) hx hb dX7_measure_15 (by decide) (fun c9 => ?_) (fun c9 => ?_)
      · rw [if_neg c9] at hJ
        refine lv_sipush (v := 1000) hx hb dX7_measure_22 (by decide) ?_
        obtain ⟨h13, e9, hJ⟩ := rp_b hJ
        refine rp_iast X I e9 rfl dX7_measure_25 (fun H locs I => ?_)
        refine lv_iinc (v := (x2 + (1 : Int32))) (lv' := [(2, .int (x2 + (1 : Int32))), (0, .ref x0), (1, .int x1)]) hx hb dX7_measure_26 hl (k := 2) rfl rfl (by decide) rfl (fun ls hl => ?_)
        refine lv_goto (tgt := 2) hx hb dX7_measure_29 (by decide) ?_
        exact k2 _ _ _ _ _ _ _ hJ I (lv_sub hl [1, 2, 0] rfl)
      · rw [if_pos c9] at hJ
        refine lv_iconst (v := 0) hx hb dX7_measure_18 (by decide) ?_
        refine lv_goto (tgt := 25) hx hb dX7_measure_19 (by decide) ?_
        obtain ⟨h14, e9, hJ⟩ := rp_b hJ
        refine rp_iast X I e9 rfl dX7_measure_25 (fun H locs I => ?_)
        refine lv_iinc (v := (x2 + (1 : Int32))) (lv' := [(2, .int (x2 + (1 : Int32))), (0, .ref x0), (1, .int x1)]) hx hb dX7_measure_26 hl (k := 2) rfl rfl (by decide) rfl (fun ls hl => ?_)
        refine lv_goto (tgt := 2) hx hb dX7_measure_29 (by decide) ?_
        exact k2 _ _ _ _ _ _ _ hJ I (lv_sub hl [1, 2, 0] rfl)
set_option maxHeartbeats 4000000 in
set_option maxRecDepth 100000 in
theorem c_Mod_measure {l : Launch} {D : va_G} {tys : List (ClassId × FieldType)} {A : Nat → Prop} (hT : tys.map (fun q => q.2) = tyS) {N : Nat} {x0 : Nat} {x1 : Int32} {h : Hp} {res : (Unit × Hp)} (hJ : J_Mod_measure N x0 x1 h = some res) : Ct l D vwCl tys A yX7_measure (Cond.code yX7_measure cX7_measure 5 none :: wsG) rmX7_measure [.ref x0, .int x1] h none res.2 := by
  refine Met.ofW (cc := cX7_measure) (maxL := 5) (ret := none) (by decide) rfl ?_
  intro p e s m args below meth c s₁ B hml hv
  obtain ⟨rfl, hA, hR, hK, hN⟩ := hv
  have hr := B.returns
  have hts : ∀ w ∈ wsG, w.before [.ref x0, .int x1].toArray s = true := fun w hw => atoms_spec (ws := Cond.code yX7_measure cX7_measure 5 none :: wsG) B.pre w (List.mem_cons_of_mem _ hw)
  have X : Cx p s m [.ref x0, .int x1].toArray meth c D vwCl tys cX7_measure 5 RX7 wsG := ⟨⟨B.exec, B.bytes, hml, findClass_of_methodNamed B.named, hts⟩, hK, B.notSynchronized, hT⟩
  have hx := B.exec
  have hb := B.bytes
  have I : In D vwCl tys A s h s.heap [] := ⟨hR, va_S.rf, hA⟩
  have hl := lv_entry [.ref x0, .int x1] (n := 5) (Nat.le_of_ble_eq_true rfl)
  rw [lg_entry_eq]
  generalize (lg_sl [.ref x0, .int x1] ++ List.replicate (5 - (lg_sl [.ref x0, .int x1]).length) Slot.unset).toArray = ls at hl ⊢
  have hl : lv_has ls 5 [(0, .ref x0), (1, .int x1)] := hl
  have ho := X.1.2.2.2.1
  rw [J_Mod_measure] at hJ
  refine lv_iconst (v := 0) hx hb dX7_measure_0 (by decide) ?_
  refine lv_istore_n (lv' := [(2, .int (0 : Int32)), (0, .ref x0), (1, .int x1)]) hx hb dX7_measure_1 rfl hl (by decide) rfl (fun ls hl => ?_)
  exact w_Mod_measure_2 X hN hr N _ _ _ _ _ _ _ hJ I (lv_sub hl [1, 2, 0] rfl)
def rmX7_nearest : Room := { frames := 1, cells := 0, slots := 0, locals := 24 }
def J_Mod_nearest_51 (N : Nat) (r4 : Nat → Int32 → Int32 → Int32 → Hp → Option (Int32 × Hp)) (x0 : Nat) (x1 : Int32) (x3 : Int32)  (h : Hp) : Option (Int32 × Hp) :=
  r4 x0 x1 x3 (x3 + (1 : Int32)) h
def J_Mod_nearest_4 (N : Nat)  : Nat → Nat → Int32 → Int32 → Int32 → Hp → Option (Int32 × Hp)
  | 0, _, _, _, _, _ => none
  | n + 1, x0, x1, x2, x3, h =>
  if (40 : Int32) ≤ x3 then
  (some (x2, h))
  else
  ((isO h 7 x0).bind fun _ =>
  (J_Mod_takes N x0 x1 x3 h).bind fun q1 =>
 if q1.1 = 0 then
  ((J_Mod_nearest_4 N n) x0 x1 x2 (x3 + (1 : Int32)) q1.2)
  else
  ((fR q1.2 7 x0 39).bind fun v2 =>
  (aI q1.2 0 v2 x3).bind fun v3 =>
  if (1000 : Int32) ≤ v3 then
  ((J_Mod_nearest_4 N n) x0 x1 x2 (x3 + (1 : Int32)) q1.2)
  else
  (if x2 = (-1 : Int32) then
  (J_Mod_nearest_51 N (J_Mod_nearest_4 N n) x0 x1 x3 q1.2)
  else
  ((fR q1.2 7 x0 39).bind fun v4 =>
  (aI q1.2 0 v4 x3).bind fun v5 =>
  (fR q1.2 7 x0 39).bind fun v6 =>
  (aI q1.2 0 v6 x2).bind fun v7 =>
  if v7 ≤ v5 then
  ((J_Mod_nearest_4 N n) x0 x1 x2 (x3 + (1 : Int32)) q1.2)
  else
  (J_Mod_nearest_51 N (J_Mod_nearest_4 N n) x0 x1 x3 q1.2)))))
def J_Mod_nearest (N : Nat) (x0 : Nat) (x1 : Int32) (h : Hp) : Option (Int32 × Hp) :=
  J_Mod_nearest_4 N N x0 x1 (-1 : Int32) (0 : Int32) h
set_option maxHeartbeats 4000000 in
set_option maxRecDepth 100000 in
theorem w_Mod_nearest_51 (X : Cx p s m args meth c D vwCl tys cX7_nearest 4 RX7 wsG) (hN : nwS s) (hr : meth.sig.returnType = (some .int)) {res : (Int32 × Hp)} {N : Nat} {r4 : Nat → Int32 → Int32 → Int32 → Hp → Option (Int32 × Hp)} (k4 : ∀ (x0 : Nat) (x1 : Int32) (x2 : Int32) (x3 : Int32) (h : Hp) (H : Heap) (locs : List Loc) (ls : Array Slot), r4 x0 x1 x2 x3 h = some res → In D vwCl tys A s h H locs → lv_has ls 4 [(0, .ref x0), (1, .int x1), (2, .int x2), (3, .int x3)] → W p l e rmX7_nearest s m args below meth c H locs 0 0 (MQ below (Qr D vwCl tys A (some (.int res.1)) res.2) args s 0 0 A) (F0 m 4 ls [])) : ∀ (x0 : Nat) (x1 : Int32) (x3 : Int32)  (h : Hp) (H : Heap) (locs : List Loc) (ls : Array Slot), J_Mod_nearest_51 N r4 x0 x1 x3 h = some res → In D vwCl tys A s h H locs → lv_has ls 4 [(0, .ref x0), (1, .int x1), (3, .int x3)] → W p l e rmX7_nearest s m args below meth c H locs 0 0 (MQ below (Qr D vwCl tys A (some (.int res.1)) res.2) args s 0 0 A) (F0 m 51 ls []) := by
  have hx := X.1.1
  have hb := X.1.2.1
  have hml := X.1.2.2.1
  have ho := X.1.2.2.2.1
  have hts := X.1.2.2.2.2
  have hK := X.2.1
  have hT := X.2.2.2
  intro x0 x1 x3  h H locs ls hJ I hl
  rw [J_Mod_nearest_51] at hJ
  refine lv_iload_n hx hb dX7_nearest_51 rfl (lv_at hl 2 rfl) ?_
  refine lv_istore_n (lv' := [(2, .int x3), (0, .ref x0), (1, .int x1), (3, .int x3)]) hx hb dX7_nearest_52 rfl hl (by decide) rfl (fun ls hl => ?_)
  refine lv_iinc (v := (x3 + (1 : Int32))) (lv' := [(3, .int (x3 + (1 : Int32))), (2, .int x3), (0, .ref x0), (1, .int x1)]) hx hb dX7_nearest_53 hl (k := 3) rfl rfl (by decide) rfl (fun ls hl => ?_)
  refine lv_goto (tgt := 4) hx hb dX7_nearest_56 (by decide) ?_
  exact k4 _ _ _ _ _ _ _ _ hJ I (lv_sub hl [2, 3, 1, 0] rfl)
set_option maxHeartbeats 4000000 in
set_option maxRecDepth 100000 in
theorem w_Mod_nearest_4 (X : Cx p s m args meth c D vwCl tys cX7_nearest 4 RX7 wsG) (hN : nwS s) (hr : meth.sig.returnType = (some .int)) {res : (Int32 × Hp)} {N : Nat}   : ∀ (n : Nat) (x0 : Nat) (x1 : Int32) (x2 : Int32) (x3 : Int32)  (h : Hp) (H : Heap) (locs : List Loc) (ls : Array Slot), J_Mod_nearest_4 N n x0 x1 x2 x3 h = some res → In D vwCl tys A s h H locs → lv_has ls 4 [(0, .ref x0), (1, .int x1), (2, .int x2), (3, .int x3)] → W p l e rmX7_nearest s m args below meth c H locs 0 0 (MQ below (Qr D vwCl tys A (some (.int res.1)) res.2) args s 0 0 A) (F0 m 4 ls []) := by
  have hx := X.1.1
  have hb := X.1.2.1
  have hml := X.1.2.2.1
  have ho := X.1.2.2.2.1
  have hts := X.1.2.2.2.2
  have hK := X.2.1
  have hT := X.2.2.2
  intro n
  induction n with
  | zero =>
    intro x0 x1 x2 x3  h H locs ls hJ I hl
    exact nomatch (show (none : Option (Int32 × Hp)) = some res from hJ)
  | succ n k4 =>
    intro x0 x1 x2 x3  h H locs ls hJ I hl
    rw [J_Mod_nearest_4] at hJ
    refine lv_iload_n hx hb dX7_nearest_4 rfl (lv_at hl 3 rfl) ?_
    refine lv_bipush (v := 40) hx hb dX7_nearest_5 (by decide) ?_
    refine lv_icmp_ge (tgt := 59) hx hb dX7_nearest_7 (by decide) (fun c9 => ?_) (fun c9 => ?_)
    · rw [if_pos c9] at hJ
      refine lv_iload_n hx hb dX7_nearest_59 rfl (lv_at hl 2 rfl) ?_
      exact rp_iret X hr hJ I dX7_nearest_60
    · rw [if_neg c9] at hJ
      refine lv_aload_n hx hb dX7_nearest_10 rfl (lv_at hl 0 rfl) ?_
      refine lv_iload_n hx hb dX7_nearest_11 rfl (lv_at hl 1 rfl) ?_
      refine lv_iload_n hx hb dX7_nearest_12 rfl (lv_at hl 3 rfl) ?_
      obtain ⟨u9, i9, hJ⟩ := rp_b hJ
      obtain ⟨f9, i9⟩ := isO_s i9
      obtain ⟨q1, e9, hJ⟩ := rp_b hJ
      refine rp_callV (As := [.int x1, .int x3]) (rest := []) X hN I (c_Mod_takes hT e9) (cwV 2 hts (gdV wm_668 wm_669 wm_21 wm_40 wm_670) rfl rfl rfl (by decide +kernel) ⟨Nat.le_of_ble_eq_true rfl, Nat.le_of_ble_eq_true rfl⟩) i9 rfl rfl hl.1 rfl (Nat.le_of_ble_eq_true rfl) dX7_nearest_13 ⟨(Nat.le_of_ble_eq_true rfl), (Nat.le_of_ble_eq_true rfl)⟩ (fun H locs I => ?_)
      refine W.cs (cells' := 0) (slots' := 0) rfl rfl ?_
      refine lv_if_eq (tgt := 53) hx hb dX7_nearest_16 (by decide) (fun c9 => ?_) (fun c9 => ?_)
      · rw [if_pos c9] at hJ
        refine lv_iinc (v := (x3 + (1 : Int32))) (lv' := [(3, .int (x3 + (1 : Int32))), (0, .ref x0), (1, .int x1), (2, .int x2)]) hx hb dX7_nearest_53 hl (k := 3) rfl rfl (by decide) rfl (fun ls hl => ?_)
        refine lv_goto (tgt := 4) hx hb dX7_nearest_56 (by decide) ?_
        exact k4 _ _ _ _ _ _ _ _ hJ I (lv_sub hl [1, 2, 3, 0] rfl)
      · rw [if_neg c9] at hJ
        refine lv_aload_n hx hb dX7_nearest_19 rfl (lv_at hl 0 rfl) ?_
        obtain ⟨v2, e9, hJ⟩ := rp_b hJ
        obtain ⟨f9, g9, e9⟩ := fR_s e9
        refine rp_get X I g9 e9 rfl wiX7 (by decide) wm_572 dX7_nearest_20 ?_
        refine lv_iload_n hx hb dX7_nearest_23 rfl (lv_at hl 3 rfl) ?_
        obtain ⟨v3, e9, hJ⟩ := rp_b hJ
        refine rp_iald X I e9 rfl dX7_nearest_24 ?_
        refine lv_sipush (v := 1000) hx hb dX7_nearest_25 (by decide) ?_
        refine lv_icmp_ge (tgt := 53) hx hb dX7_nearest_28 (by decide) (fun c9 => ?_) (fun c9 => ?_)
        · rw [if_pos c9] at hJ
          refine lv_iinc (v := (x3 + (1 : Int32))) (lv' := [(3, .int (x3 + (1 : Int32))), (0, .ref x0), (1, .int x1), (2, .int x2)]) hx hb dX7_nearest_53 hl (k := 3) rfl rfl (by decide) rfl (fun ls hl => ?_)
          refine lv_goto (tgt := 4) hx hb dX7_nearest_56 (by decide) ?_
          exact k4 _ _ _ _ _ _ _ _ hJ I (lv_sub hl [1, 2, 3, 0] rfl)
        · rw [if_neg c9] at hJ
          refine lv_iload_n hx hb dX7_nearest_31 rfl (lv_at hl 2 rfl) ?_
          refine lv_iconst (v := -1) hx hb dX7_nearest_32 (by decide) ?_
          refine lv_icmp_eq (tgt := 51) hx hb dX7_nearest_33 (by decide) (fun c9 => ?_) (fun c9 => ?_)
          · rw [if_pos c9] at hJ
            exact w_Mod_nearest_51 X hN hr k4 _ _ _ _ _ _ _ hJ I (lv_sub hl [0, 1, 3] rfl)
          · rw [if_neg c9] at hJ
            refine lv_aload_n hx hb dX7_nearest_36 rfl (lv_at hl 0 rfl) ?_
            obtain ⟨v4, e9, hJ⟩ := rp_b hJ
            obtain ⟨f9, g9, e9⟩ := fR_s e9
            refine rp_get X I g9 e9 rfl wiX7 (by decide) wm_572 dX7_nearest_37 ?_
            refine lv_iload_n hx hb dX7_nearest_40 rfl (lv_at hl 3 rfl) ?_
            obtain ⟨v5, e9, hJ⟩ := rp_b hJ
            refine rp_iald X I e9 rfl dX7_nearest_41 ?_
            refine lv_aload_n hx hb dX7_nearest_42 rfl (lv_at hl 0 rfl) ?_
            obtain ⟨v6, e9, hJ⟩ := rp_b hJ
            obtain ⟨f9, g9, e9⟩ := fR_s e9
            refine rp_get X I g9 e9 rfl wiX7 (by decide) wm_572 dX7_nearest_43 ?_
            refine lv_iload_n hx hb dX7_nearest_46 rfl (lv_at hl 2 rfl) ?_
            obtain ⟨v7, e9, hJ⟩ := rp_b hJ
            refine rp_iald X I e9 rfl dX7_nearest_47 ?_
            refine lv_icmp_ge (tgt := 53) hx hb dX7_nearest_48 (by decide) (fun c9 => ?_) (fun c9 => ?_)
            · rw [if_pos c9] at hJ
              refine lv_iinc (v := (x3 + (1 : Int32))) (lv' := [(3, .int (x3 + (1 : Int32))), (0, .ref x0), (1, .int x1), (2, .int x2)]) hx hb dX7_nearest_53 hl (k := 3) rfl rfl (by decide) rfl (fun ls hl => ?_)
              refine lv_goto (tgt := 4) hx hb dX7_nearest_56 (by decide) ?_
              exact k4 _ _ _ _ _ _ _ _ hJ I (lv_sub hl [1, 2, 3, 0] rfl)
            · rw [if_neg c9] at hJ
              exact w_Mod_nearest_51 X hN hr k4 _ _ _ _ _ _ _ hJ I (lv_sub hl [0, 1, 3] rfl)
set_option maxHeartbeats 4000000 in
set_option maxRecDepth 100000 in
theorem c_Mod_nearest {l : Launch} {D : va_G} {tys : List (ClassId × FieldType)} {A : Nat → Prop} (hT : tys.map (fun q => q.2) = tyS) {N : Nat} {x0 : Nat} {x1 : Int32} {h : Hp} {res : (Int32 × Hp)} (hJ : J_Mod_nearest N x0 x1 h = some res) : Ct l D vwCl tys A yX7_nearest (Cond.code yX7_nearest cX7_nearest 4 (some .int) :: wsG) rmX7_nearest [.ref x0, .int x1] h (some (.int res.1)) res.2 := by
  refine Met.ofW (cc := cX7_nearest) (maxL := 4) (ret := (some .int)) (by decide) rfl ?_
  intro p e s m args below meth c s₁ B hml hv
  obtain ⟨rfl, hA, hR, hK, hN⟩ := hv
  have hr := B.returns
  have hts : ∀ w ∈ wsG, w.before [.ref x0, .int x1].toArray s = true := fun w hw => atoms_spec (ws := Cond.code yX7_nearest cX7_nearest 4 (some .int) :: wsG) B.pre w (List.mem_cons_of_mem _ hw)
  have X : Cx p s m [.ref x0, .int x1].toArray meth c D vwCl tys cX7_nearest 4 RX7 wsG := ⟨⟨B.exec, B.bytes, hml, findClass_of_methodNamed B.named, hts⟩, hK, B.notSynchronized, hT⟩
  have hx := B.exec
  have hb := B.bytes
  have I : In D vwCl tys A s h s.heap [] := ⟨hR, va_S.rf, hA⟩
  have hl := lv_entry [.ref x0, .int x1] (n := 4) (Nat.le_of_ble_eq_true rfl)
  rw [lg_entry_eq]
  generalize (lg_sl [.ref x0, .int x1] ++ List.replicate (4 - (lg_sl [.ref x0, .int x1]).length) Slot.unset).toArray = ls at hl ⊢
  have hl : lv_has ls 4 [(0, .ref x0), (1, .int x1)] := hl
  have ho := X.1.2.2.2.1
  rw [J_Mod_nearest] at hJ
  refine lv_iconst (v := -1) hx hb dX7_nearest_0 (by decide) ?_
  refine lv_istore_n (lv' := [(2, .int (-1 : Int32)), (0, .ref x0), (1, .int x1)]) hx hb dX7_nearest_1 rfl hl (by decide) rfl (fun ls hl => ?_)
  refine lv_iconst (v := 0) hx hb dX7_nearest_2 (by decide) ?_
  refine lv_istore_n (lv' := [(3, .int (0 : Int32)), (2, .int (-1 : Int32)), (0, .ref x0), (1, .int x1)]) hx hb dX7_nearest_3 rfl hl (by decide) rfl (fun ls hl => ?_)
  exact w_Mod_nearest_4 X hN hr N _ _ _ _ _ _ _ _ hJ I (lv_sub hl [2, 3, 1, 0] rfl)
def rmX7_isRound : Room := { frames := 2, cells := 0, slots := 0, locals := 48 }
def J_Mod_isRound_51 (N : Nat)  : Nat → Nat → Int32 → Int32 → Hp → Option (Int32 × Hp)
  | 0, _, _, _, _ => none
  | n + 1, x0, x1, x2, h =>
  if x2 = x1 then
  (some ((1 : Int32), h))
  else
  ((fR h 7 x0 38).bind fun v8 =>
  (fI h 7 x0 37).bind fun v9 =>
  (sI h 0 v8 v9 x2).bind fun h10 =>
  (fI h10 7 x0 37).bind fun v11 =>
  (sF h10 7 x0 37 (.int (v11 + (1 : Int32)))).bind fun h12 =>
  (isO h12 7 x0).bind fun _ =>
  (J_Mod_nearest N x0 x2 h12).bind fun q13 =>
 (J_Mod_isRound_51 N n) x0 x1 q13.1 q13.2)
def J_Mod_isRound_2 (N : Nat)  : Nat → Nat → Int32 → Hp → Option (Int32 × Hp)
  | 0, _, _, _ => none
  | n + 1, x0, x1, h =>
  if (40 : Int32) ≤ x1 then
  (some ((0 : Int32), h))
  else
  ((fR h 7 x0 20).bind fun v1 =>
  (aI h 1 v1 x1).bind fun v2 =>
  if v2 = 0 then
  ((J_Mod_isRound_2 N n) x0 (x1 + (1 : Int32)) h)
  else
  ((isO h 7 x0).bind fun _ =>
  (J_Mod_measure N x0 x1 h).bind fun q3 =>
 (isO q3.2 7 x0).bind fun _ =>
  (J_Mod_nearest N x0 x1 q3.2).bind fun q4 =>
 if q4.1 = (-1 : Int32) then
  ((J_Mod_isRound_2 N n) x0 (x1 + (1 : Int32)) q4.2)
  else
  ((fR q4.2 7 x0 38).bind fun v5 =>
  (sI q4.2 0 v5 (0 : Int32) x1).bind fun h6 =>
  (sF h6 7 x0 37 (.int (1 : Int32))).bind fun h7 =>
  J_Mod_isRound_51 N N x0 x1 q4.1 h7)))
def J_Mod_isRound (N : Nat) (x0 : Nat) (h : Hp) : Option (Int32 × Hp) :=
  J_Mod_isRound_2 N N x0 (0 : Int32) h
set_option maxHeartbeats 4000000 in
set_option maxRecDepth 100000 in
theorem w_Mod_isRound_51 (X : Cx p s m args meth c D vwCl tys cX7_isRound 3 RX7 wsG) (hN : nwS s) (hr : meth.sig.returnType = (some .boolean)) {res : (Int32 × Hp)} {N : Nat}   : ∀ (n : Nat) (x0 : Nat) (x1 : Int32) (x2 : Int32)  (h : Hp) (H : Heap) (locs : List Loc) (ls : Array Slot), J_Mod_isRound_51 N n x0 x1 x2 h = some res → In D vwCl tys A s h H locs → lv_has ls 3 [(0, .ref x0), (1, .int x1), (2, .int x2)] → W p l e rmX7_isRound s m args below meth c H locs 0 0 (MQ below (Qr D vwCl tys A (some (.int res.1)) res.2) args s 0 0 A) (F0 m 51 ls []) := by
  have hx := X.1.1
  have hb := X.1.2.1
  have hml := X.1.2.2.1
  have ho := X.1.2.2.2.1
  have hts := X.1.2.2.2.2
  have hK := X.2.1
  have hT := X.2.2.2
  intro n
  induction n with
  | zero =>
    intro x0 x1 x2  h H locs ls hJ I hl
    exact nomatch (show (none : Option (Int32 × Hp)) = some res from hJ)
  | succ n k51 =>
    intro x0 x1 x2  h H locs ls hJ I hl
    rw [J_Mod_isRound_51] at hJ
    refine lv_iload_n hx hb dX7_isRound_51 rfl (lv_at hl 2 rfl) ?_
    refine lv_iload_n hx hb dX7_isRound_52 rfl (lv_at hl 1 rfl) ?_
    refine lv_icmp_eq (tgt := 85) hx hb dX7_isRound_53 (by decide) (fun c9 => ?_) (fun c9 => ?_)
    · rw [if_pos c9] at hJ
      refine lv_iconst (v := 1) hx hb dX7_isRound_85 (by decide) ?_
      exact rp_zret X hr (Or.inr rfl) hJ I dX7_isRound_86
    · rw [if_neg c9] at hJ
      refine lv_aload_n hx hb dX7_isRound_56 rfl (lv_at hl 0 rfl) ?_
      obtain ⟨v8, e9, hJ⟩ := rp_b hJ
      obtain ⟨f9, g9, e9⟩ := fR_s e9
      refine rp_get X I g9 e9 rfl wiX7 (by decide) wm_571 dX7_isRound_57 ?_
      refine lv_aload_n hx hb dX7_isRound_60 rfl (lv_at hl 0 rfl) ?_
      obtain ⟨v9, e9, hJ⟩ := rp_b hJ
      obtain ⟨f9, g9, e9⟩ := fI_s e9
      refine rp_get X I g9 e9 rfl wiX7 (by decide) wm_570 dX7_isRound_61 ?_
      refine lv_iload_n hx hb dX7_isRound_64 rfl (lv_at hl 2 rfl) ?_
      obtain ⟨h10, e9, hJ⟩ := rp_b hJ
      refine rp_iast X I e9 rfl dX7_isRound_65 (fun H locs I => ?_)
      refine lv_aload_n hx hb dX7_isRound_66 rfl (lv_at hl 0 rfl) ?_
      refine lv_dup hx hb dX7_isRound_67 rfl ?_
      obtain ⟨v11, e9, hJ⟩ := rp_b hJ
      obtain ⟨f9, g9, e9⟩ := fI_s e9
      refine rp_get X I g9 e9 rfl wiX7 (by decide) wm_570 dX7_isRound_68 ?_
      refine lv_iconst (v := 1) hx hb dX7_isRound_71 (by decide) ?_
      refine lv_iadd hx hb dX7_isRound_72 ?_
      obtain ⟨h12, e9, hJ⟩ := rp_b hJ
      refine rp_put (ty := .int) X I e9 rfl wiX7 tyX7 tyX7_ok nmX7 (by decide) wm_570 rfl (by decide +kernel) rfl rfl dX7_isRound_73 (fun H locs I => ?_)
      refine lv_aload_n hx hb dX7_isRound_76 rfl (lv_at hl 0 rfl) ?_
      refine lv_iload_n hx hb dX7_isRound_77 rfl (lv_at hl 2 rfl) ?_
      obtain ⟨u9, i9, hJ⟩ := rp_b hJ
      obtain ⟨f9, i9⟩ := isO_s i9
      obtain ⟨q13, e9, hJ⟩ := rp_b hJ
      refine rp_callV (As := [.int x2]) (rest := []) X hN I (c_Mod_nearest hT e9) (cwV 1 hts (gdV wm_677 wm_678 wm_24 wm_40 wm_679) rfl rfl rfl (by decide +kernel) ⟨Nat.le_of_ble_eq_true rfl, Nat.le_of_ble_eq_true rfl⟩) i9 rfl rfl hl.1 rfl (Nat.le_of_ble_eq_true rfl) dX7_isRound_78 ⟨(Nat.le_of_ble_eq_true rfl), (Nat.le_of_ble_eq_true rfl)⟩ (fun H locs I => ?_)
      refine W.cs (cells' := 0) (slots' := 0) rfl rfl ?_
      refine lv_istore_n (lv' := [(2, .int q13.1), (0, .ref x0), (1, .int x1)]) hx hb dX7_isRound_81 rfl hl (by decide) rfl (fun ls hl => ?_)
      refine lv_goto (tgt := 51) hx hb dX7_isRound_82 (by decide) ?_
      exact k51 _ _ _ _ _ _ _ hJ I (lv_sub hl [1, 2, 0] rfl)
set_option maxHeartbeats 4000000 in
set_option maxRecDepth 100000 in
theorem w_Mod_isRound_2 (X : Cx p s m args meth c D vwCl tys cX7_isRound 3 RX7 wsG) (hN : nwS s) (hr : meth.sig.returnType = (some .boolean)) {res : (Int32 × Hp)} {N : Nat}   : ∀ (n : Nat) (x0 : Nat) (x1 : Int32)  (h : Hp) (H : Heap) (locs : List Loc) (ls : Array Slot), J_Mod_isRound_2 N n x0 x1 h = some res → In D vwCl tys A s h H locs → lv_has ls 3 [(0, .ref x0), (1, .int x1)] → W p l e rmX7_isRound s m args below meth c H locs 0 0 (MQ below (Qr D vwCl tys A (some (.int res.1)) res.2) args s 0 0 A) (F0 m 2 ls []) := by
  have hx := X.1.1
  have hb := X.1.2.1
  have hml := X.1.2.2.1
  have ho := X.1.2.2.2.1
  have hts := X.1.2.2.2.2
  have hK := X.2.1
  have hT := X.2.2.2
  intro n
  induction n with
  | zero =>
    intro x0 x1  h H locs ls hJ I hl
    exact nomatch (show (none : Option (Int32 × Hp)) = some res from hJ)
  | succ n k2 =>
    intro x0 x1  h H locs ls hJ I hl
    rw [J_Mod_isRound_2] at hJ
    refine lv_iload_n hx hb dX7_isRound_2 rfl (lv_at hl 1 rfl) ?_
    refine lv_bipush (v := 40) hx hb dX7_isRound_3 (by decide) ?_
    refine lv_icmp_ge (tgt := 93) hx hb dX7_isRound_5 (by decide) (fun c9 => ?_) (fun c9 => ?_)
    · rw [if_pos c9] at hJ
      refine lv_iconst (v := 0) hx hb dX7_isRound_93 (by decide) ?_
      exact rp_zret X hr (Or.inl rfl) hJ I dX7_isRound_94
    · rw [if_neg c9] at hJ
      refine lv_aload_n hx hb dX7_isRound_8 rfl (lv_at hl 0 rfl) ?_
      obtain ⟨v1, e9, hJ⟩ := rp_b hJ
      obtain ⟨f9, g9, e9⟩ := fR_s e9
      refine rp_get X I g9 e9 rfl wiX7 (by decide) wm_553 dX7_isRound_9 ?_
      refine lv_iload_n hx hb dX7_isRound_12 rfl (lv_at hl 1 rfl) ?_
      obtain ⟨v2, e9, hJ⟩ := rp_b hJ
      refine rp_zald X I e9 rfl dX7_isRound_13 ?_
      refine lv_if_ne (tgt := 20) hx hb dX7_isRound_14 (by decide) (fun c9 => ?_) (fun c9 => ?_)
      · rw [if_neg c9] at hJ
        refine lv_aload_n hx hb dX7_isRound_20 rfl (lv_at hl 0 rfl) ?_
        refine lv_iload_n hx hb dX7_isRound_21 rfl (lv_at hl 1 rfl) ?_
        obtain ⟨u9, i9, hJ⟩ := rp_b hJ
        obtain ⟨f9, i9⟩ := isO_s i9
        obtain ⟨q3, e9, hJ⟩ := rp_b hJ
        refine rp_callV (As := [.int x1]) (rest := []) X hN I (c_Mod_measure hT e9) (cwV 1 hts (gdV wm_674 wm_675 wm_23 wm_40 wm_676) rfl rfl rfl (by decide +kernel) ⟨Nat.le_of_ble_eq_true rfl, Nat.le_of_ble_eq_true rfl⟩) i9 rfl rfl hl.1 rfl (Nat.le_of_ble_eq_true rfl) dX7_isRound_22 ⟨(Nat.le_of_ble_eq_true rfl), (Nat.le_of_ble_eq_true rfl)⟩ (fun H locs I => ?_)
        refine W.cs (cells' := 0) (slots' := 0) rfl rfl ?_
        refine lv_aload_n hx hb dX7_isRound_25 rfl (lv_at hl 0 rfl) ?_
        refine lv_iload_n hx hb dX7_isRound_26 rfl (lv_at hl 1 rfl) ?_
        obtain ⟨u9, i9, hJ⟩ := rp_b hJ
        obtain ⟨f9, i9⟩ := isO_s i9
        obtain ⟨q4, e9, hJ⟩ := rp_b hJ
        refine rp_callV (As := [.int x1]) (rest := []) X hN I (c_Mod_nearest hT e9) (cwV 1 hts (gdV wm_677 wm_678 wm_24 wm_40 wm_679) rfl rfl rfl (by decide +kernel) ⟨Nat.le_of_ble_eq_true rfl, Nat.le_of_ble_eq_true rfl⟩) i9 rfl rfl hl.1 rfl (Nat.le_of_ble_eq_true rfl) dX7_isRound_27 ⟨(Nat.le_of_ble_eq_true rfl), (Nat.le_of_ble_eq_true rfl)⟩ (fun H locs I => ?_)
        refine W.cs (cells' := 0) (slots' := 0) rfl rfl ?_
        refine lv_istore_n (lv' := [(2, .int q4.1), (0, .ref x0), (1, .int x1)]) hx hb dX7_isRound_30 rfl hl (by decide) rfl (fun ls hl => ?_)
        refine lv_iload_n hx hb dX7_isRound_31 rfl (lv_at hl 0 rfl) ?_
        refine lv_iconst (v := -1) hx hb dX7_isRound_32 (by decide) ?_
        refine lv_icmp_ne (tgt := 39) hx hb dX7_isRound_33 (by decide) (fun c9 => ?_) (fun c9 => ?_)
        · rw [if_neg c9] at hJ
          refine lv_aload_n hx hb dX7_isRound_39 rfl (lv_at hl 1 rfl) ?_
          obtain ⟨v5, e9, hJ⟩ := rp_b hJ
          obtain ⟨f9, g9, e9⟩ := fR_s e9
          refine rp_get X I g9 e9 rfl wiX7 (by decide) wm_571 dX7_isRound_40 ?_
          refine lv_iconst (v := 0) hx hb dX7_isRound_43 (by decide) ?_
          refine lv_iload_n hx hb dX7_isRound_44 rfl (lv_at hl 2 rfl) ?_
          obtain ⟨h6, e9, hJ⟩ := rp_b hJ
          refine rp_iast X I e9 rfl dX7_isRound_45 (fun H locs I => ?_)
          refine lv_aload_n hx hb dX7_isRound_46 rfl (lv_at hl 1 rfl) ?_
          refine lv_iconst (v := 1) hx hb dX7_isRound_47 (by decide) ?_
          obtain ⟨h7, e9, hJ⟩ := rp_b hJ
          refine rp_put (ty := .int) X I e9 rfl wiX7 tyX7 tyX7_ok nmX7 (by decide) wm_570 rfl (by decide +kernel) rfl rfl dX7_isRound_48 (fun H locs I => ?_)
          exact w_Mod_isRound_51 X hN hr N _ _ _ _ _ _ _ hJ I (lv_sub hl [1, 2, 0] rfl)
        · rw [if_pos c9] at hJ
          refine lv_goto (tgt := 87) hx hb dX7_isRound_36 (by decide) ?_
          refine lv_iinc (v := (x1 + (1 : Int32))) (lv' := [(1, .int (x1 + (1 : Int32))), (2, .int q4.1), (0, .ref x0)]) hx hb dX7_isRound_87 hl (k := 2) rfl rfl (by decide) rfl (fun ls hl => ?_)
          refine lv_goto (tgt := 2) hx hb dX7_isRound_90 (by decide) ?_
          exact k2 _ _ _ _ _ _ hJ I (lv_sub hl [2, 0] rfl)
      · rw [if_pos c9] at hJ
        refine lv_goto (tgt := 87) hx hb dX7_isRound_17 (by decide) ?_
        refine lv_iinc (v := (x1 + (1 : Int32))) (lv' := [(1, .int (x1 + (1 : Int32))), (0, .ref x0)]) hx hb dX7_isRound_87 hl (k := 1) rfl rfl (by decide) rfl (fun ls hl => ?_)
        refine lv_goto (tgt := 2) hx hb dX7_isRound_90 (by decide) ?_
        exact k2 _ _ _ _ _ _ hJ I (lv_sub hl [1, 0] rfl)
set_option maxHeartbeats 4000000 in
set_option maxRecDepth 100000 in
theorem c_Mod_isRound {l : Launch} {D : va_G} {tys : List (ClassId × FieldType)} {A : Nat → Prop} (hT : tys.map (fun q => q.2) = tyS) {N : Nat} {x0 : Nat} {h : Hp} {res : (Int32 × Hp)} (hJ : J_Mod_isRound N x0 h = some res) : Ct l D vwCl tys A yX7_isRound (Cond.code yX7_isRound cX7_isRound 3 (some .boolean) :: wsG) rmX7_isRound [.ref x0] h (some (.int res.1)) res.2 := by
  refine Met.ofW (cc := cX7_isRound) (maxL := 3) (ret := (some .boolean)) (by decide) rfl ?_
  intro p e s m args below meth c s₁ B hml hv
  obtain ⟨rfl, hA, hR, hK, hN⟩ := hv
  have hr := B.returns
  have hts : ∀ w ∈ wsG, w.before [.ref x0].toArray s = true := fun w hw => atoms_spec (ws := Cond.code yX7_isRound cX7_isRound 3 (some .boolean) :: wsG) B.pre w (List.mem_cons_of_mem _ hw)
  have X : Cx p s m [.ref x0].toArray meth c D vwCl tys cX7_isRound 3 RX7 wsG := ⟨⟨B.exec, B.bytes, hml, findClass_of_methodNamed B.named, hts⟩, hK, B.notSynchronized, hT⟩
  have hx := B.exec
  have hb := B.bytes
  have I : In D vwCl tys A s h s.heap [] := ⟨hR, va_S.rf, hA⟩
  have hl := lv_entry [.ref x0] (n := 3) (Nat.le_of_ble_eq_true rfl)
  rw [lg_entry_eq]
  generalize (lg_sl [.ref x0] ++ List.replicate (3 - (lg_sl [.ref x0]).length) Slot.unset).toArray = ls at hl ⊢
  have hl : lv_has ls 3 [(0, .ref x0)] := hl
  have ho := X.1.2.2.2.1
  rw [J_Mod_isRound] at hJ
  refine lv_iconst (v := 0) hx hb dX7_isRound_0 (by decide) ?_
  refine lv_istore_n (lv' := [(1, .int (0 : Int32)), (0, .ref x0)]) hx hb dX7_isRound_1 rfl hl (by decide) rfl (fun ls hl => ?_)
  exact w_Mod_isRound_2 X hN hr N _ _ _ _ _ _ hJ I (lv_sub hl [1, 0] rfl)
def rmX7_isLacking : Room := { frames := 0, cells := 0, slots := 0, locals := 0 }
def J_Mod_isLacking_97 (N : Nat) (r25 : Nat → Int32 → Int32 → Hp → Option (Int32 × Hp)) (r34 : Nat → Int32 → Int32 → Int32 → Hp → Option (Int32 × Hp)) (x0 : Nat) (x3 : Int32) (x4 : Int32)  (h : Hp) : Option (Int32 × Hp) :=
  r34 x0 (0 : Int32) x3 (x4 + (1 : Int32)) h
def J_Mod_isLacking_34 (N : Nat) (r25 : Nat → Int32 → Int32 → Hp → Option (Int32 × Hp)) : Nat → Nat → Int32 → Int32 → Int32 → Hp → Option (Int32 × Hp)
  | 0, _, _, _, _, _ => none
  | n + 1, x0, x2, x3, x4, h =>
  (fR h 7 x0 8).bind fun v3 =>
  (aI h 0 v3 x3).bind fun v4 =>
  if v4 ≤ x4 then
  (r25 x0 x2 (x3 + (1 : Int32)) h)
  else
  ((fR h 7 x0 20).bind fun v5 =>
  (aI h 1 v5 x3).bind fun v6 =>
  if v6 = 0 then
  (r25 x0 x2 (x3 + (1 : Int32)) h)
  else
  ((fR h 7 x0 10).bind fun v7 =>
  (aI h 0 v7 (((6 : Int32) * x3) + x4)).bind fun v8 =>
  if x2 = 0 then
  ((fR h 7 x0 3).bind fun v9 =>
  (aI h 0 v9 v8).bind fun v10 =>
  if v10 = (-1 : Int32) then
  ((fR h 7 x0 1).bind fun v11 =>
  (aI h 1 v11 v8).bind fun v12 =>
  if v12 = 0 then
  ((J_Mod_isLacking_34 N r25 n) x0 (1 : Int32) x3 (x4 + (1 : Int32)) h)
  else
  (J_Mod_isLacking_97 N r25 (J_Mod_isLacking_34 N r25 n) x0 x3 x4 h))
  else
  (J_Mod_isLacking_97 N r25 (J_Mod_isLacking_34 N r25 n) x0 x3 x4 h))
  else
  ((J_Mod_isLacking_34 N r25 n) x0 (1 : Int32) x3 (x4 + (1 : Int32)) h)))
def J_Mod_isLacking_25 (N : Nat)  : Nat → Nat → Int32 → Int32 → Hp → Option (Int32 × Hp)
  | 0, _, _, _, _ => none
  | n + 1, x0, x2, x3, h =>
  if (40 : Int32) ≤ x3 then
  (zR x2 h)
  else
  (J_Mod_isLacking_34 N (J_Mod_isLacking_25 N n) N x0 x2 x3 (0 : Int32) h)
def J_Mod_isLacking (N : Nat) (x0 : Nat) (x1 : Int32) (h : Hp) : Option (Int32 × Hp) :=
  (fR h 7 x0 3).bind fun v1 =>
  (aI h 0 v1 x1).bind fun v2 =>
  if v2 = (-1 : Int32) then
  ((fR h 7 x0 1).bind fun v13 =>
  (aI h 1 v13 x1).bind fun v14 =>
  if v14 = 0 then
  (some ((1 : Int32), h))
  else
  (J_Mod_isLacking_25 N N x0 (0 : Int32) (0 : Int32) h))
  else
  (J_Mod_isLacking_25 N N x0 (0 : Int32) (0 : Int32) h)
set_option maxHeartbeats 4000000 in
set_option maxRecDepth 100000 in
theorem w_Mod_isLacking_97 (X : Cx p s m args meth c D vwCl tys cX7_isLacking 6 RX7 wsG) (hN : nwS s) (hr : meth.sig.returnType = (some .boolean)) {res : (Int32 × Hp)} {N : Nat} {r25 : Nat → Int32 → Int32 → Hp → Option (Int32 × Hp)} {r34 : Nat → Int32 → Int32 → Int32 → Hp → Option (Int32 × Hp)} (k25 : ∀ (x0 : Nat) (x2 : Int32) (x3 : Int32) (h : Hp) (H : Heap) (locs : List Loc) (ls : Array Slot), r25 x0 x2 x3 h = some res → In D vwCl tys A s h H locs → lv_has ls 6 [(0, .ref x0), (2, .int x2), (3, .int x3)] → W p l e rmX7_isLacking s m args below meth c H locs 0 0 (MQ below (Qr D vwCl tys A (some (.int res.1)) res.2) args s 0 0 A) (F0 m 25 ls [])) (k34 : ∀ (x0 : Nat) (x2 : Int32) (x3 : Int32) (x4 : Int32) (h : Hp) (H : Heap) (locs : List Loc) (ls : Array Slot), r34 x0 x2 x3 x4 h = some res → In D vwCl tys A s h H locs → lv_has ls 6 [(0, .ref x0), (2, .int x2), (3, .int x3), (4, .int x4)] → W p l e rmX7_isLacking s m args below meth c H locs 0 0 (MQ below (Qr D vwCl tys A (some (.int res.1)) res.2) args s 0 0 A) (F0 m 34 ls [])) : ∀ (x0 : Nat) (x3 : Int32) (x4 : Int32)  (h : Hp) (H : Heap) (locs : List Loc) (ls : Array Slot), J_Mod_isLacking_97 N r25 r34 x0 x3 x4 h = some res → In D vwCl tys A s h H locs → lv_has ls 6 [(0, .ref x0), (3, .int x3), (4, .int x4)] → W p l e rmX7_isLacking s m args below meth c H locs 0 0 (MQ below (Qr D vwCl tys A (some (.int res.1)) res.2) args s 0 0 A) (F0 m 97 ls []) := by
  have hx := X.1.1
  have hb := X.1.2.1
  have hml := X.1.2.2.1
  have ho := X.1.2.2.2.1
  have hts := X.1.2.2.2.2
  have hK := X.2.1
  have hT := X.2.2.2
  intro x0 x3 x4  h H locs ls hJ I hl
  rw [J_Mod_isLacking_97] at hJ
  refine lv_iconst (v := 0) hx hb dX7_isLacking_97 (by decide) ?_
  refine lv_istore_n (lv' := [(2, .int (0 : Int32)), (0, .ref x0), (3, .int x3), (4, .int x4)]) hx hb dX7_isLacking_98 rfl hl (by decide) rfl (fun ls hl => ?_)
  refine lv_iinc (v := (x4 + (1 : Int32))) (lv' := [(4, .int (x4 + (1 : Int32))), (2, .int (0 : Int32)), (0, .ref x0), (3, .int x3)]) hx hb dX7_isLacking_99 hl (k := 3) rfl rfl (by decide) rfl (fun ls hl => ?_)
  refine lv_goto (tgt := 34) hx hb dX7_isLacking_102 (by decide) ?_
  exact k34 _ _ _ _ _ _ _ _ hJ I (lv_sub hl [2, 1, 3, 0] rfl)
set_option maxHeartbeats 4000000 in
set_option maxRecDepth 100000 in
theorem w_Mod_isLacking_34 (X : Cx p s m args meth c D vwCl tys cX7_isLacking 6 RX7 wsG) (hN : nwS s) (hr : meth.sig.returnType = (some .boolean)) {res : (Int32 × Hp)} {N : Nat} {r25 : Nat → Int32 → Int32 → Hp → Option (Int32 × Hp)} (k25 : ∀ (x0 : Nat) (x2 : Int32) (x3 : Int32) (h : Hp) (H : Heap) (locs : List Loc) (ls : Array Slot), r25 x0 x2 x3 h = some res → In D vwCl tys A s h H locs → lv_has ls 6 [(0, .ref x0), (2, .int x2), (3, .int x3)] → W p l e rmX7_isLacking s m args below meth c H locs 0 0 (MQ below (Qr D vwCl tys A (some (.int res.1)) res.2) args s 0 0 A) (F0 m 25 ls [])) : ∀ (n : Nat) (x0 : Nat) (x2 : Int32) (x3 : Int32) (x4 : Int32)  (h : Hp) (H : Heap) (locs : List Loc) (ls : Array Slot), J_Mod_isLacking_34 N r25 n x0 x2 x3 x4 h = some res → In D vwCl tys A s h H locs → lv_has ls 6 [(0, .ref x0), (2, .int x2), (3, .int x3), (4, .int x4)] → W p l e rmX7_isLacking s m args below meth c H locs 0 0 (MQ below (Qr D vwCl tys A (some (.int res.1)) res.2) args s 0 0 A) (F0 m 34 ls []) := by
  have hx := X.1.1
  have hb := X.1.2.1
  have hml := X.1.2.2.1
  have ho := X.1.2.2.2.1
  have hts := X.1.2.2.2.2
  have hK := X.2.1
  have hT := X.2.2.2
  intro n
  induction n with
  | zero =>
    intro x0 x2 x3 x4  h H locs ls hJ I hl
    exact nomatch (show (none : Option (Int32 × Hp)) = some res from hJ)
  | succ n k34 =>
    intro x0 x2 x3 x4  h H locs ls hJ I hl
    rw [J_Mod_isLacking_34] at hJ
    refine lv_iload hx hb dX7_isLacking_34 (lv_at hl 3 rfl) ?_
    refine lv_aload_n hx hb dX7_isLacking_36 rfl (lv_at hl 0 rfl) ?_
    obtain ⟨v3, e9, hJ⟩ := rp_b hJ
    obtain ⟨f9, g9, e9⟩ := fR_s e9
    refine rp_get X I g9 e9 rfl wiX7 (by decide) wm_541 dX7_isLacking_37 ?_
    refine lv_iload_n hx hb dX7_isLacking_40 rfl (lv_at hl 2 rfl) ?_
    obtain ⟨v4, e9, hJ⟩ := rp_b hJ
    refine rp_iald X I e9 rfl dX7_isLacking_41 ?_
    refine lv_icmp_ge (tgt := 105) hx hb dX7_isLacking_42 (by decide) (fun c9 => ?_) (fun c9 => ?_)
    · rw [if_pos c9] at hJ
      refine lv_iinc (v := (x3 + (1 : Int32))) (lv' := [(3, .int (x3 + (1 : Int32))), (0, .ref x0), (2, .int x2), (4, .int x4)]) hx hb dX7_isLacking_105 hl (k := 2) rfl rfl (by decide) rfl (fun ls hl => ?_)
      refine lv_goto (tgt := 25) hx hb dX7_isLacking_108 (by decide) ?_
      exact k25 _ _ _ _ _ _ _ hJ I (lv_sub hl [1, 2, 0] rfl)
    · rw [if_neg c9] at hJ
      refine lv_aload_n hx hb dX7_isLacking_45 rfl (lv_at hl 0 rfl) ?_
      obtain ⟨v5, e9, hJ⟩ := rp_b hJ
      obtain ⟨f9, g9, e9⟩ := fR_s e9
      refine rp_get X I g9 e9 rfl wiX7 (by decide) wm_553 dX7_isLacking_46 ?_
      refine lv_iload_n hx hb dX7_isLacking_49 rfl (lv_at hl 2 rfl) ?_
      obtain ⟨v6, e9, hJ⟩ := rp_b hJ
      refine rp_zald X I e9 rfl dX7_isLacking_50 ?_
      refine lv_if_eq (tgt := 105) hx hb dX7_isLacking_51 (by decide) (fun c9 => ?_) (fun c9 => ?_)
      · rw [if_pos c9] at hJ
        refine lv_iinc (v := (x3 + (1 : Int32))) (lv' := [(3, .int (x3 + (1 : Int32))), (0, .ref x0), (2, .int x2), (4, .int x4)]) hx hb dX7_isLacking_105 hl (k := 2) rfl rfl (by decide) rfl (fun ls hl => ?_)
        refine lv_goto (tgt := 25) hx hb dX7_isLacking_108 (by decide) ?_
        exact k25 _ _ _ _ _ _ _ hJ I (lv_sub hl [1, 2, 0] rfl)
      · rw [if_neg c9] at hJ
        refine lv_aload_n hx hb dX7_isLacking_54 rfl (lv_at hl 0 rfl) ?_
        obtain ⟨v7, e9, hJ⟩ := rp_b hJ
        obtain ⟨f9, g9, e9⟩ := fR_s e9
        refine rp_get X I g9 e9 rfl wiX7 (by decide) wm_543 dX7_isLacking_55 ?_
        refine lv_bipush (v := 6) hx hb dX7_isLacking_58 (by decide) ?_
        refine lv_iload_n hx hb dX7_isLacking_60 rfl (lv_at hl 2 rfl) ?_
        refine lv_imul hx hb dX7_isLacking_61 ?_
        refine lv_iload hx hb dX7_isLacking_62 (lv_at hl 3 rfl) ?_
        refine lv_iadd hx hb dX7_isLacking_64 ?_
        obtain ⟨v8, e9, hJ⟩ := rp_b hJ
        refine rp_iald X I e9 rfl dX7_isLacking_65 ?_
        refine lv_istore (lv' := [(5, .int v8), (0, .ref x0), (2, .int x2), (3, .int x3), (4, .int x4)]) hx hb dX7_isLacking_66 hl (by decide) rfl (fun ls hl => ?_)
        refine lv_iload_n hx hb dX7_isLacking_68 rfl (lv_at hl 2 rfl) ?_
        refine lv_if_ne (tgt := 93) hx hb dX7_isLacking_69 (by decide) (fun c9 => ?_) (fun c9 => ?_)
        · rw [if_neg c9] at hJ
          refine lv_iconst (v := 1) hx hb dX7_isLacking_93 (by decide) ?_
          refine lv_goto (tgt := 98) hx hb dX7_isLacking_94 (by decide) ?_
          refine lv_istore_n (lv' := [(2, .int (1 : Int32)), (5, .int v8), (0, .ref x0), (3, .int x3), (4, .int x4)]) hx hb dX7_isLacking_98 rfl hl (by decide) rfl (fun ls hl => ?_)
          refine lv_iinc (v := (x4 + (1 : Int32))) (lv' := [(4, .int (x4 + (1 : Int32))), (2, .int (1 : Int32)), (5, .int v8), (0, .ref x0), (3, .int x3)]) hx hb dX7_isLacking_99 hl (k := 4) rfl rfl (by decide) rfl (fun ls hl => ?_)
          refine lv_goto (tgt := 34) hx hb dX7_isLacking_102 (by decide) ?_
          exact k34 _ _ _ _ _ _ _ _ hJ I (lv_sub hl [3, 1, 4, 0] rfl)
        · rw [if_pos c9] at hJ
          refine lv_aload_n hx hb dX7_isLacking_72 rfl (lv_at hl 1 rfl) ?_
          obtain ⟨v9, e9, hJ⟩ := rp_b hJ
          obtain ⟨f9, g9, e9⟩ := fR_s e9
          refine rp_get X I g9 e9 rfl wiX7 (by decide) wm_536 dX7_isLacking_73 ?_
          refine lv_iload hx hb dX7_isLacking_76 (lv_at hl 0 rfl) ?_
          obtain ⟨v10, e9, hJ⟩ := rp_b hJ
          refine rp_iald X I e9 rfl dX7_isLacking_78 ?_
          refine lv_iconst (v := -1) hx hb dX7_isLacking_79 (by decide) ?_
          refine lv_icmp_ne (tgt := 97) hx hb dX7_isLacking_80 (by decide) (fun c9 => ?_) (fun c9 => ?_)
          · rw [if_neg c9] at hJ
            exact w_Mod_isLacking_97 X hN hr k25 k34 _ _ _ _ _ _ _ hJ I (lv_sub hl [1, 3, 4] rfl)
          · rw [if_pos c9] at hJ
            refine lv_aload_n hx hb dX7_isLacking_83 rfl (lv_at hl 1 rfl) ?_
            obtain ⟨v11, e9, hJ⟩ := rp_b hJ
            obtain ⟨f9, g9, e9⟩ := fR_s e9
            refine rp_get X I g9 e9 rfl wiX7 (by decide) wm_534 dX7_isLacking_84 ?_
            refine lv_iload hx hb dX7_isLacking_87 (lv_at hl 0 rfl) ?_
            obtain ⟨v12, e9, hJ⟩ := rp_b hJ
            refine rp_zald X I e9 rfl dX7_isLacking_89 ?_
            refine lv_if_ne (tgt := 97) hx hb dX7_isLacking_90 (by decide) (fun c9 => ?_) (fun c9 => ?_)
            · rw [if_neg c9] at hJ
              exact w_Mod_isLacking_97 X hN hr k25 k34 _ _ _ _ _ _ _ hJ I (lv_sub hl [1, 3, 4] rfl)
            · rw [if_pos c9] at hJ
              refine lv_iconst (v := 1) hx hb dX7_isLacking_93 (by decide) ?_
              refine lv_goto (tgt := 98) hx hb dX7_isLacking_94 (by decide) ?_
              refine lv_istore_n (lv' := [(2, .int (1 : Int32)), (5, .int v8), (0, .ref x0), (3, .int x3), (4, .int x4)]) hx hb dX7_isLacking_98 rfl hl (by decide) rfl (fun ls hl => ?_)
              refine lv_iinc (v := (x4 + (1 : Int32))) (lv' := [(4, .int (x4 + (1 : Int32))), (2, .int (1 : Int32)), (5, .int v8), (0, .ref x0), (3, .int x3)]) hx hb dX7_isLacking_99 hl (k := 4) rfl rfl (by decide) rfl (fun ls hl => ?_)
              refine lv_goto (tgt := 34) hx hb dX7_isLacking_102 (by decide) ?_
              exact k34 _ _ _ _ _ _ _ _ hJ I (lv_sub hl [3, 1, 4, 0] rfl)
set_option maxHeartbeats 4000000 in
set_option maxRecDepth 100000 in
theorem w_Mod_isLacking_25 (X : Cx p s m args meth c D vwCl tys cX7_isLacking 6 RX7 wsG) (hN : nwS s) (hr : meth.sig.returnType = (some .boolean)) {res : (Int32 × Hp)} {N : Nat}   : ∀ (n : Nat) (x0 : Nat) (x2 : Int32) (x3 : Int32)  (h : Hp) (H : Heap) (locs : List Loc) (ls : Array Slot), J_Mod_isLacking_25 N n x0 x2 x3 h = some res → In D vwCl tys A s h H locs → lv_has ls 6 [(0, .ref x0), (2, .int x2), (3, .int x3)] → W p l e rmX7_isLacking s m args below meth c H locs 0 0 (MQ below (Qr D vwCl tys A (some (.int res.1)) res.2) args s 0 0 A) (F0 m 25 ls []) := by
  have hx := X.1.1
  have hb := X.1.2.1
  have hml := X.1.2.2.1
  have ho := X.1.2.2.2.1
  have hts := X.1.2.2.2.2
  have hK := X.2.1
  have hT := X.2.2.2
  intro n
  induction n with
  | zero =>
    intro x0 x2 x3  h H locs ls hJ I hl
    exact nomatch (show (none : Option (Int32 × Hp)) = some res from hJ)
  | succ n k25 =>
    intro x0 x2 x3  h H locs ls hJ I hl
    rw [J_Mod_isLacking_25] at hJ
    refine lv_iload_n hx hb dX7_isLacking_25 rfl (lv_at hl 2 rfl) ?_
    refine lv_bipush (v := 40) hx hb dX7_isLacking_26 (by decide) ?_
    refine lv_icmp_ge (tgt := 111) hx hb dX7_isLacking_28 (by decide) (fun c9 => ?_) (fun c9 => ?_)
    · rw [if_pos c9] at hJ
      refine lv_iload_n hx hb dX7_isLacking_111 rfl (lv_at hl 1 rfl) ?_
      obtain ⟨z9, hJ⟩ := zR_s hJ
      exact rp_zret X hr z9 hJ I dX7_isLacking_112
    · rw [if_neg c9] at hJ
      refine lv_iconst (v := 0) hx hb dX7_isLacking_31 (by decide) ?_
      refine lv_istore (lv' := [(4, .int (0 : Int32)), (0, .ref x0), (2, .int x2), (3, .int x3)]) hx hb dX7_isLacking_32 hl (by decide) rfl (fun ls hl => ?_)
      exact w_Mod_isLacking_34 X hN hr k25 N _ _ _ _ _ _ _ _ hJ I (lv_sub hl [1, 2, 3, 0] rfl)
set_option maxHeartbeats 4000000 in
set_option maxRecDepth 100000 in
theorem c_Mod_isLacking {l : Launch} {D : va_G} {tys : List (ClassId × FieldType)} {A : Nat → Prop} (hT : tys.map (fun q => q.2) = tyS) {N : Nat} {x0 : Nat} {x1 : Int32} {h : Hp} {res : (Int32 × Hp)} (hJ : J_Mod_isLacking N x0 x1 h = some res) : Ct l D vwCl tys A yX7_isLacking (Cond.code yX7_isLacking cX7_isLacking 6 (some .boolean) :: wsG) rmX7_isLacking [.ref x0, .int x1] h (some (.int res.1)) res.2 := by
  refine Met.ofW (cc := cX7_isLacking) (maxL := 6) (ret := (some .boolean)) (by decide) rfl ?_
  intro p e s m args below meth c s₁ B hml hv
  obtain ⟨rfl, hA, hR, hK, hN⟩ := hv
  have hr := B.returns
  have hts : ∀ w ∈ wsG, w.before [.ref x0, .int x1].toArray s = true := fun w hw => atoms_spec (ws := Cond.code yX7_isLacking cX7_isLacking 6 (some .boolean) :: wsG) B.pre w (List.mem_cons_of_mem _ hw)
  have X : Cx p s m [.ref x0, .int x1].toArray meth c D vwCl tys cX7_isLacking 6 RX7 wsG := ⟨⟨B.exec, B.bytes, hml, findClass_of_methodNamed B.named, hts⟩, hK, B.notSynchronized, hT⟩
  have hx := B.exec
  have hb := B.bytes
  have I : In D vwCl tys A s h s.heap [] := ⟨hR, va_S.rf, hA⟩
  have hl := lv_entry [.ref x0, .int x1] (n := 6) (Nat.le_of_ble_eq_true rfl)
  rw [lg_entry_eq]
  generalize (lg_sl [.ref x0, .int x1] ++ List.replicate (6 - (lg_sl [.ref x0, .int x1]).length) Slot.unset).toArray = ls at hl ⊢
  have hl : lv_has ls 6 [(0, .ref x0), (1, .int x1)] := hl
  have ho := X.1.2.2.2.1
  rw [J_Mod_isLacking] at hJ
  refine lv_aload_n hx hb dX7_isLacking_0 rfl (lv_at hl 0 rfl) ?_
  obtain ⟨v1, e9, hJ⟩ := rp_b hJ
  obtain ⟨f9, g9, e9⟩ := fR_s e9
  refine rp_get X I g9 e9 rfl wiX7 (by decide) wm_536 dX7_isLacking_1 ?_
  refine lv_iload_n hx hb dX7_isLacking_4 rfl (lv_at hl 1 rfl) ?_
  obtain ⟨v2, e9, hJ⟩ := rp_b hJ
  refine rp_iald X I e9 rfl dX7_isLacking_5 ?_
  refine lv_iconst (v := -1) hx hb dX7_isLacking_6 (by decide) ?_
  refine lv_icmp_ne (tgt := 21) hx hb dX7_isLacking_7 (by decide) (fun c9 => ?_) (fun c9 => ?_)
  · rw [if_neg c9] at hJ
    refine lv_iconst (v := 0) hx hb dX7_isLacking_21 (by decide) ?_
    refine lv_istore_n (lv' := [(2, .int (0 : Int32)), (0, .ref x0), (1, .int x1)]) hx hb dX7_isLacking_22 rfl hl (by decide) rfl (fun ls hl => ?_)
    refine lv_iconst (v := 0) hx hb dX7_isLacking_23 (by decide) ?_
    refine lv_istore_n (lv' := [(3, .int (0 : Int32)), (2, .int (0 : Int32)), (0, .ref x0), (1, .int x1)]) hx hb dX7_isLacking_24 rfl hl (by decide) rfl (fun ls hl => ?_)
    exact w_Mod_isLacking_25 X hN hr N _ _ _ _ _ _ _ hJ I (lv_sub hl [2, 1, 0] rfl)
  · rw [if_pos c9] at hJ
    refine lv_aload_n hx hb dX7_isLacking_10 rfl (lv_at hl 0 rfl) ?_
    obtain ⟨v13, e9, hJ⟩ := rp_b hJ
    obtain ⟨f9, g9, e9⟩ := fR_s e9
    refine rp_get X I g9 e9 rfl wiX7 (by decide) wm_534 dX7_isLacking_11 ?_
    refine lv_iload_n hx hb dX7_isLacking_14 rfl (lv_at hl 1 rfl) ?_
    obtain ⟨v14, e9, hJ⟩ := rp_b hJ
    refine rp_zald X I e9 rfl dX7_isLacking_15 ?_
    refine lv_if_ne (tgt := 21) hx hb dX7_isLacking_16 (by decide) (fun c9 => ?_) (fun c9 => ?_)
    · rw [if_neg c9] at hJ
      refine lv_iconst (v := 0) hx hb dX7_isLacking_21 (by decide) ?_
      refine lv_istore_n (lv' := [(2, .int (0 : Int32)), (0, .ref x0), (1, .int x1)]) hx hb dX7_isLacking_22 rfl hl (by decide) rfl (fun ls hl => ?_)
      refine lv_iconst (v := 0) hx hb dX7_isLacking_23 (by decide) ?_
      refine lv_istore_n (lv' := [(3, .int (0 : Int32)), (2, .int (0 : Int32)), (0, .ref x0), (1, .int x1)]) hx hb dX7_isLacking_24 rfl hl (by decide) rfl (fun ls hl => ?_)
      exact w_Mod_isLacking_25 X hN hr N _ _ _ _ _ _ _ hJ I (lv_sub hl [2, 1, 0] rfl)
    · rw [if_pos c9] at hJ
      refine lv_iconst (v := 1) hx hb dX7_isLacking_19 (by decide) ?_
      exact rp_zret X hr (Or.inr rfl) hJ I dX7_isLacking_20
def rmX7_order : Room := { frames := 1, cells := 0, slots := 0, locals := 24 }
def J_Mod_order_57 (N : Nat) (r41 : Nat → Int32 → Hp → Option (Unit × Hp)) (r49 : Nat → Int32 → Int32 → Hp → Option (Unit × Hp)) : Nat → Nat → Int32 → Int32 → Int32 → Hp → Option (Unit × Hp)
  | 0, _, _, _, _, _ => none
  | n + 1, x0, x1, x2, x3, h =>
  if (40 : Int32) ≤ x3 then
  (r49 x0 x1 (x2 + (1 : Int32)) h)
  else
  ((fR h 7 x0 20).bind fun v1 =>
  (aI h 1 v1 x2).bind fun v2 =>
  if v2 = 0 then
  (r49 x0 x1 (x2 + (1 : Int32)) h)
  else
  ((fR h 7 x0 20).bind fun v3 =>
  (aI h 1 v3 x3).bind fun v4 =>
  if v4 = 0 then
  ((J_Mod_order_57 N r41 r49 n) x0 x1 x2 (x3 + (1 : Int32)) h)
  else
  ((isO h 7 x0).bind fun _ =>
  (J_Mod_takes N x0 x3 x2 h).bind fun q5 =>
 if q5.1 = 0 then
  ((J_Mod_order_57 N r41 r49 n) x0 x1 x2 (x3 + (1 : Int32)) q5.2)
  else
  ((fR q5.2 7 x0 21).bind fun v6 =>
  (aI q5.2 0 v6 x3).bind fun v7 =>
  (fR q5.2 7 x0 7).bind fun v8 =>
  (aI q5.2 0 v8 x2).bind fun v9 =>
  (fR q5.2 7 x0 21).bind fun v10 =>
  (aI q5.2 0 v10 x2).bind fun v11 =>
  if v11 < (v7 + v9) then
  ((fR q5.2 7 x0 21).bind fun v12 =>
  (fR q5.2 7 x0 21).bind fun v13 =>
  (aI q5.2 0 v13 x3).bind fun v14 =>
  (fR q5.2 7 x0 7).bind fun v15 =>
  (aI q5.2 0 v15 x2).bind fun v16 =>
  (sI q5.2 0 v12 x2 (v14 + v16)).bind fun h17 =>
  (J_Mod_order_57 N r41 r49 n) x0 (1 : Int32) x2 (x3 + (1 : Int32)) h17)
  else
  ((J_Mod_order_57 N r41 r49 n) x0 x1 x2 (x3 + (1 : Int32)) q5.2)))))
def J_Mod_order_49 (N : Nat) (r41 : Nat → Int32 → Hp → Option (Unit × Hp)) : Nat → Nat → Int32 → Int32 → Hp → Option (Unit × Hp)
  | 0, _, _, _, _ => none
  | n + 1, x0, x1, x2, h =>
  if (40 : Int32) ≤ x2 then
  (r41 x0 x1 h)
  else
  (J_Mod_order_57 N r41 (J_Mod_order_49 N r41 n) N x0 x1 x2 (0 : Int32) h)
def J_Mod_order_41 (N : Nat)  : Nat → Nat → Int32 → Hp → Option (Unit × Hp)
  | 0, _, _, _ => none
  | n + 1, x0, x1, h =>
  if x1 = 0 then
  (some ((), h))
  else
  (J_Mod_order_49 N (J_Mod_order_41 N n) N x0 (0 : Int32) (0 : Int32) h)
def J_Mod_order_2 (N : Nat)  : Nat → Nat → Int32 → Hp → Option (Unit × Hp)
  | 0, _, _, _ => none
  | n + 1, x0, x1, h =>
  if (40 : Int32) ≤ x1 then
  (J_Mod_order_41 N N x0 (1 : Int32) h)
  else
  ((fR h 7 x0 21).bind fun v18 =>
  (fR h 7 x0 20).bind fun v19 =>
  (aI h 1 v19 x1).bind fun v20 =>
  if v20 = 0 then
  ((sI h 0 v18 x1 (0 : Int32)).bind fun h21 =>
  (J_Mod_order_2 N n) x0 (x1 + (1 : Int32)) h21)
  else
  ((fR h 7 x0 7).bind fun v22 =>
  (aI h 0 v22 x1).bind fun v23 =>
  (sI h 0 v18 x1 v23).bind fun h24 =>
  (J_Mod_order_2 N n) x0 (x1 + (1 : Int32)) h24))
def J_Mod_order (N : Nat) (x0 : Nat) (h : Hp) : Option (Unit × Hp) :=
  J_Mod_order_2 N N x0 (0 : Int32) h
set_option maxHeartbeats 4000000 in
set_option maxRecDepth 100000 in
theorem w_Mod_order_57 (X : Cx p s m args meth c D vwCl tys cX7_order 4 RX7 wsG) (hN : nwS s) (hr : meth.sig.returnType = none) {res : (Unit × Hp)} {N : Nat} {r41 : Nat → Int32 → Hp → Option (Unit × Hp)} {r49 : Nat → Int32 → Int32 → Hp → Option (Unit × Hp)} (k41 : ∀ (x0 : Nat) (x1 : Int32) (h : Hp) (H : Heap) (locs : List Loc) (ls : Array Slot), r41 x0 x1 h = some res → In D vwCl tys A s h H locs → lv_has ls 4 [(0, .ref x0), (1, .int x1)] → W p l e rmX7_order s m args below meth c H locs 0 0 (MQ below (Qr D vwCl tys A none res.2) args s 0 0 A) (F0 m 41 ls [])) (k49 : ∀ (x0 : Nat) (x1 : Int32) (x2 : Int32) (h : Hp) (H : Heap) (locs : List Loc) (ls : Array Slot), r49 x0 x1 x2 h = some res → In D vwCl tys A s h H locs → lv_has ls 4 [(0, .ref x0), (1, .int x1), (2, .int x2)] → W p l e rmX7_order s m args below meth c H locs 0 0 (MQ below (Qr D vwCl tys A none res.2) args s 0 0 A) (F0 m 49 ls [])) : ∀ (n : Nat) (x0 : Nat) (x1 : Int32) (x2 : Int32) (x3 : Int32)  (h : Hp) (H : Heap) (locs : List Loc) (ls : Array Slot), J_Mod_order_57 N r41 r49 n x0 x1 x2 x3 h = some res → In D vwCl tys A s h H locs → lv_has ls 4 [(0, .ref x0), (1, .int x1), (2, .int x2), (3, .int x3)] → W p l e rmX7_order s m args below meth c H locs 0 0 (MQ below (Qr D vwCl tys A none res.2) args s 0 0 A) (F0 m 57 ls []) := by
  have hx := X.1.1
  have hb := X.1.2.1
  have hml := X.1.2.2.1
  have ho := X.1.2.2.2.1
  have hts := X.1.2.2.2.2
  have hK := X.2.1
  have hT := X.2.2.2
  intro n
  induction n with
  | zero =>
    intro x0 x1 x2 x3  h H locs ls hJ I hl
    exact nomatch (show (none : Option (Unit × Hp)) = some res from hJ)
  | succ n k57 =>
    intro x0 x1 x2 x3  h H locs ls hJ I hl
    rw [J_Mod_order_57] at hJ
    refine lv_iload_n hx hb dX7_order_57 rfl (lv_at hl 3 rfl) ?_
    refine lv_bipush (v := 40) hx hb dX7_order_58 (by decide) ?_
    refine lv_icmp_ge (tgt := 142) hx hb dX7_order_60 (by decide) (fun c9 => ?_) (fun c9 => ?_)
    · rw [if_pos c9] at hJ
      refine lv_iinc (v := (x2 + (1 : Int32))) (lv' := [(2, .int (x2 + (1 : Int32))), (0, .ref x0), (1, .int x1), (3, .int x3)]) hx hb dX7_order_142 hl (k := 2) rfl rfl (by decide) rfl (fun ls hl => ?_)
      refine lv_goto (tgt := 49) hx hb dX7_order_145 (by decide) ?_
      exact k49 _ _ _ _ _ _ _ hJ I (lv_sub hl [1, 2, 0] rfl)
    · rw [if_neg c9] at hJ
      refine lv_aload_n hx hb dX7_order_63 rfl (lv_at hl 0 rfl) ?_
      obtain ⟨v1, e9, hJ⟩ := rp_b hJ
      obtain ⟨f9, g9, e9⟩ := fR_s e9
      refine rp_get X I g9 e9 rfl wiX7 (by decide) wm_553 dX7_order_64 ?_
      refine lv_iload_n hx hb dX7_order_67 rfl (lv_at hl 2 rfl) ?_
      obtain ⟨v2, e9, hJ⟩ := rp_b hJ
      refine rp_zald X I e9 rfl dX7_order_68 ?_
      refine lv_if_eq (tgt := 142) hx hb dX7_order_69 (by decide) (fun c9 => ?_) (fun c9 => ?_)
      · rw [if_pos c9] at hJ
        refine lv_iinc (v := (x2 + (1 : Int32))) (lv' := [(2, .int (x2 + (1 : Int32))), (0, .ref x0), (1, .int x1), (3, .int x3)]) hx hb dX7_order_142 hl (k := 2) rfl rfl (by decide) rfl (fun ls hl => ?_)
        refine lv_goto (tgt := 49) hx hb dX7_order_145 (by decide) ?_
        exact k49 _ _ _ _ _ _ _ hJ I (lv_sub hl [1, 2, 0] rfl)
      · rw [if_neg c9] at hJ
        refine lv_aload_n hx hb dX7_order_72 rfl (lv_at hl 0 rfl) ?_
        obtain ⟨v3, e9, hJ⟩ := rp_b hJ
        obtain ⟨f9, g9, e9⟩ := fR_s e9
        refine rp_get X I g9 e9 rfl wiX7 (by decide) wm_553 dX7_order_73 ?_
        refine lv_iload_n hx hb dX7_order_76 rfl (lv_at hl 3 rfl) ?_
        obtain ⟨v4, e9, hJ⟩ := rp_b hJ
        refine rp_zald X I e9 rfl dX7_order_77 ?_
        refine lv_if_eq (tgt := 136) hx hb dX7_order_78 (by decide) (fun c9 => ?_) (fun c9 => ?_)
        · rw [if_pos c9] at hJ
          refine lv_iinc (v := (x3 + (1 : Int32))) (lv' := [(3, .int (x3 + (1 : Int32))), (0, .ref x0), (1, .int x1), (2, .int x2)]) hx hb dX7_order_136 hl (k := 3) rfl rfl (by decide) rfl (fun ls hl => ?_)
          refine lv_goto (tgt := 57) hx hb dX7_order_139 (by decide) ?_
          exact k57 _ _ _ _ _ _ _ _ hJ I (lv_sub hl [1, 2, 3, 0] rfl)
        · rw [if_neg c9] at hJ
          refine lv_aload_n hx hb dX7_order_81 rfl (lv_at hl 0 rfl) ?_
          refine lv_iload_n hx hb dX7_order_82 rfl (lv_at hl 3 rfl) ?_
          refine lv_iload_n hx hb dX7_order_83 rfl (lv_at hl 2 rfl) ?_
          obtain ⟨u9, i9, hJ⟩ := rp_b hJ
          obtain ⟨f9, i9⟩ := isO_s i9
          obtain ⟨q5, e9, hJ⟩ := rp_b hJ
          refine rp_callV (As := [.int x3, .int x2]) (rest := []) X hN I (c_Mod_takes hT e9) (cwV 2 hts (gdV wm_668 wm_669 wm_21 wm_40 wm_670) rfl rfl rfl (by decide +kernel) ⟨Nat.le_of_ble_eq_true rfl, Nat.le_of_ble_eq_true rfl⟩) i9 rfl rfl hl.1 rfl (Nat.le_of_ble_eq_true rfl) dX7_order_84 ⟨(Nat.le_of_ble_eq_true rfl), (Nat.le_of_ble_eq_true rfl)⟩ (fun H locs I => ?_)
          refine W.cs (cells' := 0) (slots' := 0) rfl rfl ?_
          refine lv_if_eq (tgt := 136) hx hb dX7_order_87 (by decide) (fun c9 => ?_) (fun c9 => ?_)
          · rw [if_pos c9] at hJ
            refine lv_iinc (v := (x3 + (1 : Int32))) (lv' := [(3, .int (x3 + (1 : Int32))), (0, .ref x0), (1, .int x1), (2, .int x2)]) hx hb dX7_order_136 hl (k := 3) rfl rfl (by decide) rfl (fun ls hl => ?_)
            refine lv_goto (tgt := 57) hx hb dX7_order_139 (by decide) ?_
            exact k57 _ _ _ _ _ _ _ _ hJ I (lv_sub hl [1, 2, 3, 0] rfl)
          · rw [if_neg c9] at hJ
            refine lv_aload_n hx hb dX7_order_90 rfl (lv_at hl 0 rfl) ?_
            obtain ⟨v6, e9, hJ⟩ := rp_b hJ
            obtain ⟨f9, g9, e9⟩ := fR_s e9
            refine rp_get X I g9 e9 rfl wiX7 (by decide) wm_554 dX7_order_91 ?_
            refine lv_iload_n hx hb dX7_order_94 rfl (lv_at hl 3 rfl) ?_
            obtain ⟨v7, e9, hJ⟩ := rp_b hJ
            refine rp_iald X I e9 rfl dX7_order_95 ?_
            refine lv_aload_n hx hb dX7_order_96 rfl (lv_at hl 0 rfl) ?_
            obtain ⟨v8, e9, hJ⟩ := rp_b hJ
            obtain ⟨f9, g9, e9⟩ := fR_s e9
            refine rp_get X I g9 e9 rfl wiX7 (by decide) wm_540 dX7_order_97 ?_
            refine lv_iload_n hx hb dX7_order_100 rfl (lv_at hl 2 rfl) ?_
            obtain ⟨v9, e9, hJ⟩ := rp_b hJ
            refine rp_iald X I e9 rfl dX7_order_101 ?_
            refine lv_iadd hx hb dX7_order_102 ?_
            refine lv_aload_n hx hb dX7_order_103 rfl (lv_at hl 0 rfl) ?_
            obtain ⟨v10, e9, hJ⟩ := rp_b hJ
            obtain ⟨f9, g9, e9⟩ := fR_s e9
            refine rp_get X I g9 e9 rfl wiX7 (by decide) wm_554 dX7_order_104 ?_
            refine lv_iload_n hx hb dX7_order_107 rfl (lv_at hl 2 rfl) ?_
            obtain ⟨v11, e9, hJ⟩ := rp_b hJ
            refine rp_iald X I e9 rfl dX7_order_108 ?_
            refine lv_icmp_gt (tgt := 115) hx hb dX7_order_109 (by decide) (fun c9 => ?_) (fun c9 => ?_)
            · rw [if_pos c9] at hJ
              refine lv_aload_n hx hb dX7_order_115 rfl (lv_at hl 0 rfl) ?_
              obtain ⟨v12, e9, hJ⟩ := rp_b hJ
              obtain ⟨f9, g9, e9⟩ := fR_s e9
              refine rp_get X I g9 e9 rfl wiX7 (by decide) wm_554 dX7_order_116 ?_
              refine lv_iload_n hx hb dX7_order_119 rfl (lv_at hl 2 rfl) ?_
              refine lv_aload_n hx hb dX7_order_120 rfl (lv_at hl 0 rfl) ?_
              obtain ⟨v13, e9, hJ⟩ := rp_b hJ
              obtain ⟨f9, g9, e9⟩ := fR_s e9
              refine rp_get X I g9 e9 rfl wiX7 (by decide) wm_554 dX7_order_121 ?_
              refine lv_iload_n hx hb dX7_order_124 rfl (lv_at hl 3 rfl) ?_
              obtain ⟨v14, e9, hJ⟩ := rp_b hJ
              refine rp_iald X I e9 rfl dX7_order_125 ?_
              refine lv_aload_n hx hb dX7_order_126 rfl (lv_at hl 0 rfl) ?_
              obtain ⟨v15, e9, hJ⟩ := rp_b hJ
              obtain ⟨f9, g9, e9⟩ := fR_s e9
              refine rp_get X I g9 e9 rfl wiX7 (by decide) wm_540 dX7_order_127 ?_
              refine lv_iload_n hx hb dX7_order_130 rfl (lv_at hl 2 rfl) ?_
              obtain ⟨v16, e9, hJ⟩ := rp_b hJ
              refine rp_iald X I e9 rfl dX7_order_131 ?_
              refine lv_iadd hx hb dX7_order_132 ?_
              obtain ⟨h17, e9, hJ⟩ := rp_b hJ
              refine rp_iast X I e9 rfl dX7_order_133 (fun H locs I => ?_)
              refine lv_iconst (v := 1) hx hb dX7_order_134 (by decide) ?_
              refine lv_istore_n (lv' := [(1, .int (1 : Int32)), (0, .ref x0), (2, .int x2), (3, .int x3)]) hx hb dX7_order_135 rfl hl (by decide) rfl (fun ls hl => ?_)
              refine lv_iinc (v := (x3 + (1 : Int32))) (lv' := [(3, .int (x3 + (1 : Int32))), (1, .int (1 : Int32)), (0, .ref x0), (2, .int x2)]) hx hb dX7_order_136 hl (k := 3) rfl rfl (by decide) rfl (fun ls hl => ?_)
              refine lv_goto (tgt := 57) hx hb dX7_order_139 (by decide) ?_
              exact k57 _ _ _ _ _ _ _ _ hJ I (lv_sub hl [2, 1, 3, 0] rfl)
            · rw [if_neg c9] at hJ
              refine lv_goto (tgt := 136) hx hb dX7_order_112 (by decide) ?_
              refine lv_iinc (v := (x3 + (1 : Int32))) (lv' := [(3, .int (x3 + (1 : Int32))), (0, .ref x0), (1, .int x1), (2, .int x2)]) hx hb dX7_order_136 hl (k := 3) rfl rfl (by decide) rfl (fun ls hl => ?_)
              refine lv_goto (tgt := 57) hx hb dX7_order_139 (by decide) ?_
              exact k57 _ _ _ _ _ _ _ _ hJ I (lv_sub hl [1, 2, 3, 0] rfl)
set_option maxHeartbeats 4000000 in
set_option maxRecDepth 100000 in
theorem w_Mod_order_49 (X : Cx p s m args meth c D vwCl tys cX7_order 4 RX7 wsG) (hN : nwS s) (hr : meth.sig.returnType = none) {res : (Unit × Hp)} {N : Nat} {r41 : Nat → Int32 → Hp → Option (Unit × Hp)} (k41 : ∀ (x0 : Nat) (x1 : Int32) (h : Hp) (H : Heap) (locs : List Loc) (ls : Array Slot), r41 x0 x1 h = some res → In D vwCl tys A s h H locs → lv_has ls 4 [(0, .ref x0), (1, .int x1)] → W p l e rmX7_order s m args below meth c H locs 0 0 (MQ below (Qr D vwCl tys A none res.2) args s 0 0 A) (F0 m 41 ls [])) : ∀ (n : Nat) (x0 : Nat) (x1 : Int32) (x2 : Int32)  (h : Hp) (H : Heap) (locs : List Loc) (ls : Array Slot), J_Mod_order_49 N r41 n x0 x1 x2 h = some res → In D vwCl tys A s h H locs → lv_has ls 4 [(0, .ref x0), (1, .int x1), (2, .int x2)] → W p l e rmX7_order s m args below meth c H locs 0 0 (MQ below (Qr D vwCl tys A none res.2) args s 0 0 A) (F0 m 49 ls []) := by
  have hx := X.1.1
  have hb := X.1.2.1
  have hml := X.1.2.2.1
  have ho := X.1.2.2.2.1
  have hts := X.1.2.2.2.2
  have hK := X.2.1
  have hT := X.2.2.2
  intro n
  induction n with
  | zero =>
    intro x0 x1 x2  h H locs ls hJ I hl
    exact nomatch (show (none : Option (Unit × Hp)) = some res from hJ)
  | succ n k49 =>
    intro x0 x1 x2  h H locs ls hJ I hl
    rw [J_Mod_order_49] at hJ
    refine lv_iload_n hx hb dX7_order_49 rfl (lv_at hl 2 rfl) ?_
    refine lv_bipush (v := 40) hx hb dX7_order_50 (by decide) ?_
    refine lv_icmp_ge (tgt := 148) hx hb dX7_order_52 (by decide) (fun c9 => ?_) (fun c9 => ?_)
    · rw [if_pos c9] at hJ
      refine lv_goto (tgt := 41) hx hb dX7_order_148 (by decide) ?_
      exact k41 _ _ _ _ _ _ hJ I (lv_sub hl [0, 1] rfl)
    · rw [if_neg c9] at hJ
      refine lv_iconst (v := 0) hx hb dX7_order_55 (by decide) ?_
      refine lv_istore_n (lv' := [(3, .int (0 : Int32)), (0, .ref x0), (1, .int x1), (2, .int x2)]) hx hb dX7_order_56 rfl hl (by decide) rfl (fun ls hl => ?_)
      exact w_Mod_order_57 X hN hr k41 k49 N _ _ _ _ _ _ _ _ hJ I (lv_sub hl [1, 2, 3, 0] rfl)
set_option maxHeartbeats 4000000 in
set_option maxRecDepth 100000 in
theorem w_Mod_order_41 (X : Cx p s m args meth c D vwCl tys cX7_order 4 RX7 wsG) (hN : nwS s) (hr : meth.sig.returnType = none) {res : (Unit × Hp)} {N : Nat}   : ∀ (n : Nat) (x0 : Nat) (x1 : Int32)  (h : Hp) (H : Heap) (locs : List Loc) (ls : Array Slot), J_Mod_order_41 N n x0 x1 h = some res → In D vwCl tys A s h H locs → lv_has ls 4 [(0, .ref x0), (1, .int x1)] → W p l e rmX7_order s m args below meth c H locs 0 0 (MQ below (Qr D vwCl tys A none res.2) args s 0 0 A) (F0 m 41 ls []) := by
  have hx := X.1.1
  have hb := X.1.2.1
  have hml := X.1.2.2.1
  have ho := X.1.2.2.2.1
  have hts := X.1.2.2.2.2
  have hK := X.2.1
  have hT := X.2.2.2
  intro n
  induction n with
  | zero =>
    intro x0 x1  h H locs ls hJ I hl
    exact nomatch (show (none : Option (Unit × Hp)) = some res from hJ)
  | succ n k41 =>
    intro x0 x1  h H locs ls hJ I hl
    rw [J_Mod_order_41] at hJ
    refine lv_iload_n hx hb dX7_order_41 rfl (lv_at hl 1 rfl) ?_
    refine lv_if_eq (tgt := 151) hx hb dX7_order_42 (by decide) (fun c9 => ?_) (fun c9 => ?_)
    · rw [if_pos c9] at hJ
      exact rp_vret X hr hJ I dX7_order_151
    · rw [if_neg c9] at hJ
      refine lv_iconst (v := 0) hx hb dX7_order_45 (by decide) ?_
      refine lv_istore_n (lv' := [(1, .int (0 : Int32)), (0, .ref x0)]) hx hb dX7_order_46 rfl hl (by decide) rfl (fun ls hl => ?_)
      refine lv_iconst (v := 0) hx hb dX7_order_47 (by decide) ?_
      refine lv_istore_n (lv' := [(2, .int (0 : Int32)), (1, .int (0 : Int32)), (0, .ref x0)]) hx hb dX7_order_48 rfl hl (by decide) rfl (fun ls hl => ?_)
      exact w_Mod_order_49 X hN hr k41 N _ _ _ _ _ _ _ hJ I (lv_sub hl [2, 1, 0] rfl)
set_option maxHeartbeats 4000000 in
set_option maxRecDepth 100000 in
theorem w_Mod_order_2 (X : Cx p s m args meth c D vwCl tys cX7_order 4 RX7 wsG) (hN : nwS s) (hr : meth.sig.returnType = none) {res : (Unit × Hp)} {N : Nat}   : ∀ (n : Nat) (x0 : Nat) (x1 : Int32)  (h : Hp) (H : Heap) (locs : List Loc) (ls : Array Slot), J_Mod_order_2 N n x0 x1 h = some res → In D vwCl tys A s h H locs → lv_has ls 4 [(0, .ref x0), (1, .int x1)] → W p l e rmX7_order s m args below meth c H locs 0 0 (MQ below (Qr D vwCl tys A none res.2) args s 0 0 A) (F0 m 2 ls []) := by
  have hx := X.1.1
  have hb := X.1.2.1
  have hml := X.1.2.2.1
  have ho := X.1.2.2.2.1
  have hts := X.1.2.2.2.2
  have hK := X.2.1
  have hT := X.2.2.2
  intro n
  induction n with
  | zero =>
    intro x0 x1  h H locs ls hJ I hl
    exact nomatch (show (none : Option (Unit × Hp)) = some res from hJ)
  | succ n k2 =>
    intro x0 x1  h H locs ls hJ I hl
    rw [J_Mod_order_2] at hJ
    refine lv_iload_n hx hb dX7_order_2 rfl (lv_at hl 1 rfl) ?_
    refine lv_bipush (v := 40) hx hb dX7_order_3 (by decide) ?_
    refine lv_icmp_ge (tgt := 39) hx hb dX7_order_5 (by decide) (fun c9 => ?_) (fun c9 => ?_)
    · rw [if_pos c9] at hJ
      refine lv_iconst (v := 1) hx hb dX7_order_39 (by decide) ?_
      refine lv_istore_n (lv' := [(1, .int (1 : Int32)), (0, .ref x0)]) hx hb dX7_order_40 rfl hl (by decide) rfl (fun ls hl => ?_)
      exact w_Mod_order_41 X hN hr N _ _ _ _ _ _ hJ I (lv_sub hl [1, 0] rfl)
    · rw [if_neg c9] at hJ
      refine lv_aload_n hx hb dX7_order_8 rfl (lv_at hl 0 rfl) ?_
      obtain ⟨v18, e9, hJ⟩ := rp_b hJ
      obtain ⟨f9, g9, e9⟩ := fR_s e9
      refine rp_get X I g9 e9 rfl wiX7 (by decide) wm_554 dX7_order_9 ?_
      refine lv_iload_n hx hb dX7_order_12 rfl (lv_at hl 1 rfl) ?_
      refine lv_aload_n hx hb dX7_order_13 rfl (lv_at hl 0 rfl) ?_
      obtain ⟨v19, e9, hJ⟩ := rp_b hJ
      obtain ⟨f9, g9, e9⟩ := fR_s e9
      refine rp_get X I g9 e9 rfl wiX7 (by decide) wm_553 dX7_order_14 ?_
      refine lv_iload_n hx hb dX7_order_17 rfl (lv_at hl 1 rfl) ?_
      obtain ⟨v20, e9, hJ⟩ := rp_b hJ
      refine rp_zald X I e9 rfl dX7_order_18 ?_
      refine lv_if_eq (tgt := 31) hx hb dX7_order_19 (by decide) (fun c9 => ?_) (fun c9 => ?_)
      · rw [if_pos c9] at hJ
        refine lv_iconst (v := 0) hx hb dX7_order_31 (by decide) ?_
        obtain ⟨h21, e9, hJ⟩ := rp_b hJ
        refine rp_iast X I e9 rfl dX7_order_32 (fun H locs I => ?_)
        refine lv_iinc (v := (x1 + (1 : Int32))) (lv' := [(1, .int (x1 + (1 : Int32))), (0, .ref x0)]) hx hb dX7_order_33 hl (k := 1) rfl rfl (by decide) rfl (fun ls hl => ?_)
        refine lv_goto (tgt := 2) hx hb dX7_order_36 (by decide) ?_
        exact k2 _ _ _ _ _ _ hJ I (lv_sub hl [1, 0] rfl)
      · rw [if_neg c9] at hJ
        refine lv_aload_n hx hb dX7_order_22 rfl (lv_at hl 0 rfl) ?_
        obtain ⟨v22, e9, hJ⟩ := rp_b hJ
        obtain ⟨f9, g9, e9⟩ := fR_s e9
        refine rp_get X I g9 e9 rfl wiX7 (by decide) wm_540 dX7_order_23 ?_
        refine lv_iload_n hx hb dX7_order_26 rfl (lv_at hl 1 rfl) ?_
        obtain ⟨v23, e9, hJ⟩ := rp_b hJ
        refine rp_iald X I e9 rfl dX7_order_27 ?_
        refine lv_goto (tgt := 32) hx hb dX7_order_28 (by decide) ?_
        obtain ⟨h24, e9, hJ⟩ := rp_b hJ
        refine rp_iast X I e9 rfl dX7_order_32 (fun H locs I => ?_)
        refine lv_iinc (v := (x1 + (1 : Int32))) (lv' := [(1, .int (x1 + (1 : Int32))), (0, .ref x0)]) hx hb dX7_order_33 hl (k := 1) rfl rfl (by decide) rfl (fun ls hl => ?_)
        refine lv_goto (tgt := 2) hx hb dX7_order_36 (by decide) ?_
        exact k2 _ _ _ _ _ _ hJ I (lv_sub hl [1, 0] rfl)
set_option maxHeartbeats 4000000 in
set_option maxRecDepth 100000 in
theorem c_Mod_order {l : Launch} {D : va_G} {tys : List (ClassId × FieldType)} {A : Nat → Prop} (hT : tys.map (fun q => q.2) = tyS) {N : Nat} {x0 : Nat} {h : Hp} {res : (Unit × Hp)} (hJ : J_Mod_order N x0 h = some res) : Ct l D vwCl tys A yX7_order (Cond.code yX7_order cX7_order 4 none :: wsG) rmX7_order [.ref x0] h none res.2 := by
  refine Met.ofW (cc := cX7_order) (maxL := 4) (ret := none) (by decide) rfl ?_
  intro p e s m args below meth c s₁ B hml hv
  obtain ⟨rfl, hA, hR, hK, hN⟩ := hv
  have hr := B.returns
  have hts : ∀ w ∈ wsG, w.before [.ref x0].toArray s = true := fun w hw => atoms_spec (ws := Cond.code yX7_order cX7_order 4 none :: wsG) B.pre w (List.mem_cons_of_mem _ hw)
  have X : Cx p s m [.ref x0].toArray meth c D vwCl tys cX7_order 4 RX7 wsG := ⟨⟨B.exec, B.bytes, hml, findClass_of_methodNamed B.named, hts⟩, hK, B.notSynchronized, hT⟩
  have hx := B.exec
  have hb := B.bytes
  have I : In D vwCl tys A s h s.heap [] := ⟨hR, va_S.rf, hA⟩
  have hl := lv_entry [.ref x0] (n := 4) (Nat.le_of_ble_eq_true rfl)
  rw [lg_entry_eq]
  generalize (lg_sl [.ref x0] ++ List.replicate (4 - (lg_sl [.ref x0]).length) Slot.unset).toArray = ls at hl ⊢
  have hl : lv_has ls 4 [(0, .ref x0)] := hl
  have ho := X.1.2.2.2.1
  rw [J_Mod_order] at hJ
  refine lv_iconst (v := 0) hx hb dX7_order_0 (by decide) ?_
  refine lv_istore_n (lv' := [(1, .int (0 : Int32)), (0, .ref x0)]) hx hb dX7_order_1 rfl hl (by decide) rfl (fun ls hl => ?_)
  exact w_Mod_order_2 X hN hr N _ _ _ _ _ _ hJ I (lv_sub hl [1, 0] rfl)
def rmX7_isReady : Room := { frames := 0, cells := 0, slots := 0, locals := 0 }
def J_Mod_isReady_77 (N : Nat) (r24 : Nat → Int32 → Int32 → Int32 → Hp → Option (Int32 × Hp)) (x0 : Nat) (x1 : Int32) (x3 : Int32)  (h : Hp) : Option (Int32 × Hp) :=
  r24 x0 x1 (0 : Int32) (x3 + (1 : Int32)) h
def J_Mod_isReady_24 (N : Nat)  : Nat → Nat → Int32 → Int32 → Int32 → Hp → Option (Int32 × Hp)
  | 0, _, _, _, _, _ => none
  | n + 1, x0, x1, x2, x3, h =>
  (fR h 7 x0 8).bind fun v5 =>
  (aI h 0 v5 x1).bind fun v6 =>
  if v6 ≤ x3 then
  (zR x2 h)
  else
  ((fR h 7 x0 3).bind fun v7 =>
  (fR h 7 x0 10).bind fun v8 =>
  (aI h 0 v8 (((6 : Int32) * x1) + x3)).bind fun v9 =>
  (aI h 0 v7 v9).bind fun v10 =>
  if x2 = 0 then
  (J_Mod_isReady_77 N (J_Mod_isReady_24 N n) x0 x1 x3 h)
  else
  (if v10 = (-1 : Int32) then
  ((J_Mod_isReady_24 N n) x0 x1 (1 : Int32) (x3 + (1 : Int32)) h)
  else
  ((fR h 7 x0 22).bind fun v11 =>
  (aI h 0 v11 v10).bind fun v12 =>
  if v12 = (2 : Int32) then
  ((J_Mod_isReady_24 N n) x0 x1 (1 : Int32) (x3 + (1 : Int32)) h)
  else
  (J_Mod_isReady_77 N (J_Mod_isReady_24 N n) x0 x1 x3 h))))
def J_Mod_isReady (N : Nat) (x0 : Nat) (x1 : Int32) (h : Hp) : Option (Int32 × Hp) :=
  (fR h 7 x0 20).bind fun v1 =>
  (aI h 1 v1 x1).bind fun v2 =>
  if v2 = 0 then
  (some ((0 : Int32), h))
  else
  ((fR h 7 x0 22).bind fun v3 =>
  (aI h 0 v3 x1).bind fun v4 =>
  if v4 = 0 then
  (J_Mod_isReady_24 N N x0 x1 (1 : Int32) (0 : Int32) h)
  else
  (some ((0 : Int32), h)))
set_option maxHeartbeats 4000000 in
set_option maxRecDepth 100000 in
theorem w_Mod_isReady_77 (X : Cx p s m args meth c D vwCl tys cX7_isReady 5 RX7 wsG) (hN : nwS s) (hr : meth.sig.returnType = (some .boolean)) {res : (Int32 × Hp)} {N : Nat} {r24 : Nat → Int32 → Int32 → Int32 → Hp → Option (Int32 × Hp)} (k24 : ∀ (x0 : Nat) (x1 : Int32) (x2 : Int32) (x3 : Int32) (h : Hp) (H : Heap) (locs : List Loc) (ls : Array Slot), r24 x0 x1 x2 x3 h = some res → In D vwCl tys A s h H locs → lv_has ls 5 [(0, .ref x0), (1, .int x1), (2, .int x2), (3, .int x3)] → W p l e rmX7_isReady s m args below meth c H locs 0 0 (MQ below (Qr D vwCl tys A (some (.int res.1)) res.2) args s 0 0 A) (F0 m 24 ls [])) : ∀ (x0 : Nat) (x1 : Int32) (x3 : Int32)  (h : Hp) (H : Heap) (locs : List Loc) (ls : Array Slot), J_Mod_isReady_77 N r24 x0 x1 x3 h = some res → In D vwCl tys A s h H locs → lv_has ls 5 [(0, .ref x0), (1, .int x1), (3, .int x3)] → W p l e rmX7_isReady s m args below meth c H locs 0 0 (MQ below (Qr D vwCl tys A (some (.int res.1)) res.2) args s 0 0 A) (F0 m 77 ls []) := by
  have hx := X.1.1
  have hb := X.1.2.1
  have hml := X.1.2.2.1
  have ho := X.1.2.2.2.1
  have hts := X.1.2.2.2.2
  have hK := X.2.1
  have hT := X.2.2.2
  intro x0 x1 x3  h H locs ls hJ I hl
  rw [J_Mod_isReady_77] at hJ
  refine lv_iconst (v := 0) hx hb dX7_isReady_77 (by decide) ?_
  refine lv_istore_n (lv' := [(2, .int (0 : Int32)), (0, .ref x0), (1, .int x1), (3, .int x3)]) hx hb dX7_isReady_78 rfl hl (by decide) rfl (fun ls hl => ?_)
  refine lv_iinc (v := (x3 + (1 : Int32))) (lv' := [(3, .int (x3 + (1 : Int32))), (2, .int (0 : Int32)), (0, .ref x0), (1, .int x1)]) hx hb dX7_isReady_79 hl (k := 3) rfl rfl (by decide) rfl (fun ls hl => ?_)
  refine lv_goto (tgt := 24) hx hb dX7_isReady_82 (by decide) ?_
  exact k24 _ _ _ _ _ _ _ _ hJ I (lv_sub hl [2, 3, 1, 0] rfl)
set_option maxHeartbeats 4000000 in
set_option maxRecDepth 100000 in
theorem w_Mod_isReady_24 (X : Cx p s m args meth c D vwCl tys cX7_isReady 5 RX7 wsG) (hN : nwS s) (hr : meth.sig.returnType = (some .boolean)) {res : (Int32 × Hp)} {N : Nat}   : ∀ (n : Nat) (x0 : Nat) (x1 : Int32) (x2 : Int32) (x3 : Int32)  (h : Hp) (H : Heap) (locs : List Loc) (ls : Array Slot), J_Mod_isReady_24 N n x0 x1 x2 x3 h = some res → In D vwCl tys A s h H locs → lv_has ls 5 [(0, .ref x0), (1, .int x1), (2, .int x2), (3, .int x3)] → W p l e rmX7_isReady s m args below meth c H locs 0 0 (MQ below (Qr D vwCl tys A (some (.int res.1)) res.2) args s 0 0 A) (F0 m 24 ls []) := by
  have hx := X.1.1
  have hb := X.1.2.1
  have hml := X.1.2.2.1
  have ho := X.1.2.2.2.1
  have hts := X.1.2.2.2.2
  have hK := X.2.1
  have hT := X.2.2.2
  intro n
  induction n with
  | zero =>
    intro x0 x1 x2 x3  h H locs ls hJ I hl
    exact nomatch (show (none : Option (Int32 × Hp)) = some res from hJ)
  | succ n k24 =>
    intro x0 x1 x2 x3  h H locs ls hJ I hl
    rw [J_Mod_isReady_24] at hJ
    refine lv_iload_n hx hb dX7_isReady_24 rfl (lv_at hl 3 rfl) ?_
    refine lv_aload_n hx hb dX7_isReady_25 rfl (lv_at hl 0 rfl) ?_
    obtain ⟨v5, e9, hJ⟩ := rp_b hJ
    obtain ⟨f9, g9, e9⟩ := fR_s e9
    refine rp_get X I g9 e9 rfl wiX7 (by decide) wm_541 dX7_isReady_26 ?_
    refine lv_iload_n hx hb dX7_isReady_29 rfl (lv_at hl 1 rfl) ?_
    obtain ⟨v6, e9, hJ⟩ := rp_b hJ
    refine rp_iald X I e9 rfl dX7_isReady_30 ?_
    refine lv_icmp_ge (tgt := 85) hx hb dX7_isReady_31 (by decide) (fun c9 => ?_) (fun c9 => ?_)
    · rw [if_pos c9] at hJ
      refine lv_iload_n hx hb dX7_isReady_85 rfl (lv_at hl 2 rfl) ?_
      obtain ⟨z9, hJ⟩ := zR_s hJ
      exact rp_zret X hr z9 hJ I dX7_isReady_86
    · rw [if_neg c9] at hJ
      refine lv_aload_n hx hb dX7_isReady_34 rfl (lv_at hl 0 rfl) ?_
      obtain ⟨v7, e9, hJ⟩ := rp_b hJ
      obtain ⟨f9, g9, e9⟩ := fR_s e9
      refine rp_get X I g9 e9 rfl wiX7 (by decide) wm_536 dX7_isReady_35 ?_
      refine lv_aload_n hx hb dX7_isReady_38 rfl (lv_at hl 0 rfl) ?_
      obtain ⟨v8, e9, hJ⟩ := rp_b hJ
      obtain ⟨f9, g9, e9⟩ := fR_s e9
      refine rp_get X I g9 e9 rfl wiX7 (by decide) wm_543 dX7_isReady_39 ?_
      refine lv_bipush (v := 6) hx hb dX7_isReady_42 (by decide) ?_
      refine lv_iload_n hx hb dX7_isReady_44 rfl (lv_at hl 1 rfl) ?_
      refine lv_imul hx hb dX7_isReady_45 ?_
      refine lv_iload_n hx hb dX7_isReady_46 rfl (lv_at hl 3 rfl) ?_
      refine lv_iadd hx hb dX7_isReady_47 ?_
      obtain ⟨v9, e9, hJ⟩ := rp_b hJ
      refine rp_iald X I e9 rfl dX7_isReady_48 ?_
      obtain ⟨v10, e9, hJ⟩ := rp_b hJ
      refine rp_iald X I e9 rfl dX7_isReady_49 ?_
      refine lv_istore (lv' := [(4, .int v10), (0, .ref x0), (1, .int x1), (2, .int x2), (3, .int x3)]) hx hb dX7_isReady_50 hl (by decide) rfl (fun ls hl => ?_)
      refine lv_iload_n hx hb dX7_isReady_52 rfl (lv_at hl 3 rfl) ?_
      refine lv_if_eq (tgt := 77) hx hb dX7_isReady_53 (by decide) (fun c9 => ?_) (fun c9 => ?_)
      · rw [if_pos c9] at hJ
        exact w_Mod_isReady_77 X hN hr k24 _ _ _ _ _ _ _ hJ I (lv_sub hl [1, 2, 4] rfl)
      · rw [if_neg c9] at hJ
        refine lv_iload hx hb dX7_isReady_56 (lv_at hl 0 rfl) ?_
        refine lv_iconst (v := -1) hx hb dX7_isReady_58 (by decide) ?_
        refine lv_icmp_eq (tgt := 73) hx hb dX7_isReady_59 (by decide) (fun c9 => ?_) (fun c9 => ?_)
        · rw [if_pos c9] at hJ
          refine lv_iconst (v := 1) hx hb dX7_isReady_73 (by decide) ?_
          refine lv_goto (tgt := 78) hx hb dX7_isReady_74 (by decide) ?_
          refine lv_istore_n (lv' := [(2, .int (1 : Int32)), (4, .int v10), (0, .ref x0), (1, .int x1), (3, .int x3)]) hx hb dX7_isReady_78 rfl hl (by decide) rfl (fun ls hl => ?_)
          refine lv_iinc (v := (x3 + (1 : Int32))) (lv' := [(3, .int (x3 + (1 : Int32))), (2, .int (1 : Int32)), (4, .int v10), (0, .ref x0), (1, .int x1)]) hx hb dX7_isReady_79 hl (k := 4) rfl rfl (by decide) rfl (fun ls hl => ?_)
          refine lv_goto (tgt := 24) hx hb dX7_isReady_82 (by decide) ?_
          exact k24 _ _ _ _ _ _ _ _ hJ I (lv_sub hl [3, 4, 1, 0] rfl)
        · rw [if_neg c9] at hJ
          refine lv_aload_n hx hb dX7_isReady_62 rfl (lv_at hl 1 rfl) ?_
          obtain ⟨v11, e9, hJ⟩ := rp_b hJ
          obtain ⟨f9, g9, e9⟩ := fR_s e9
          refine rp_get X I g9 e9 rfl wiX7 (by decide) wm_555 dX7_isReady_63 ?_
          refine lv_iload hx hb dX7_isReady_66 (lv_at hl 0 rfl) ?_
          obtain ⟨v12, e9, hJ⟩ := rp_b hJ
          refine rp_iald X I e9 rfl dX7_isReady_68 ?_
          refine lv_iconst (v := 2) hx hb dX7_isReady_69 (by decide) ?_
          refine lv_icmp_ne (tgt := 77) hx hb dX7_isReady_70 (by decide) (fun c9 => ?_) (fun c9 => ?_)
          · rw [if_neg c9] at hJ
            exact w_Mod_isReady_77 X hN hr k24 _ _ _ _ _ _ _ hJ I (lv_sub hl [1, 2, 4] rfl)
          · rw [if_pos c9] at hJ
            refine lv_iconst (v := 1) hx hb dX7_isReady_73 (by decide) ?_
            refine lv_goto (tgt := 78) hx hb dX7_isReady_74 (by decide) ?_
            refine lv_istore_n (lv' := [(2, .int (1 : Int32)), (4, .int v10), (0, .ref x0), (1, .int x1), (3, .int x3)]) hx hb dX7_isReady_78 rfl hl (by decide) rfl (fun ls hl => ?_)
            refine lv_iinc (v := (x3 + (1 : Int32))) (lv' := [(3, .int (x3 + (1 : Int32))), (2, .int (1 : Int32)), (4, .int v10), (0, .ref x0), (1, .int x1)]) hx hb dX7_isReady_79 hl (k := 4) rfl rfl (by decide) rfl (fun ls hl => ?_)
            refine lv_goto (tgt := 24) hx hb dX7_isReady_82 (by decide) ?_
            exact k24 _ _ _ _ _ _ _ _ hJ I (lv_sub hl [3, 4, 1, 0] rfl)
set_option maxHeartbeats 4000000 in
set_option maxRecDepth 100000 in
theorem c_Mod_isReady {l : Launch} {D : va_G} {tys : List (ClassId × FieldType)} {A : Nat → Prop} (hT : tys.map (fun q => q.2) = tyS) {N : Nat} {x0 : Nat} {x1 : Int32} {h : Hp} {res : (Int32 × Hp)} (hJ : J_Mod_isReady N x0 x1 h = some res) : Ct l D vwCl tys A yX7_isReady (Cond.code yX7_isReady cX7_isReady 5 (some .boolean) :: wsG) rmX7_isReady [.ref x0, .int x1] h (some (.int res.1)) res.2 := by
  refine Met.ofW (cc := cX7_isReady) (maxL := 5) (ret := (some .boolean)) (by decide) rfl ?_
  intro p e s m args below meth c s₁ B hml hv
  obtain ⟨rfl, hA, hR, hK, hN⟩ := hv
  have hr := B.returns
  have hts : ∀ w ∈ wsG, w.before [.ref x0, .int x1].toArray s = true := fun w hw => atoms_spec (ws := Cond.code yX7_isReady cX7_isReady 5 (some .boolean) :: wsG) B.pre w (List.mem_cons_of_mem _ hw)
  have X : Cx p s m [.ref x0, .int x1].toArray meth c D vwCl tys cX7_isReady 5 RX7 wsG := ⟨⟨B.exec, B.bytes, hml, findClass_of_methodNamed B.named, hts⟩, hK, B.notSynchronized, hT⟩
  have hx := B.exec
  have hb := B.bytes
  have I : In D vwCl tys A s h s.heap [] := ⟨hR, va_S.rf, hA⟩
  have hl := lv_entry [.ref x0, .int x1] (n := 5) (Nat.le_of_ble_eq_true rfl)
  rw [lg_entry_eq]
  generalize (lg_sl [.ref x0, .int x1] ++ List.replicate (5 - (lg_sl [.ref x0, .int x1]).length) Slot.unset).toArray = ls at hl ⊢
  have hl : lv_has ls 5 [(0, .ref x0), (1, .int x1)] := hl
  have ho := X.1.2.2.2.1
  rw [J_Mod_isReady] at hJ
  refine lv_aload_n hx hb dX7_isReady_0 rfl (lv_at hl 0 rfl) ?_
  obtain ⟨v1, e9, hJ⟩ := rp_b hJ
  obtain ⟨f9, g9, e9⟩ := fR_s e9
  refine rp_get X I g9 e9 rfl wiX7 (by decide) wm_553 dX7_isReady_1 ?_
  refine lv_iload_n hx hb dX7_isReady_4 rfl (lv_at hl 1 rfl) ?_
  obtain ⟨v2, e9, hJ⟩ := rp_b hJ
  refine rp_zald X I e9 rfl dX7_isReady_5 ?_
  refine lv_if_eq (tgt := 18) hx hb dX7_isReady_6 (by decide) (fun c9 => ?_) (fun c9 => ?_)
  · rw [if_pos c9] at hJ
    refine lv_iconst (v := 0) hx hb dX7_isReady_18 (by decide) ?_
    exact rp_zret X hr (Or.inl rfl) hJ I dX7_isReady_19
  · rw [if_neg c9] at hJ
    refine lv_aload_n hx hb dX7_isReady_9 rfl (lv_at hl 0 rfl) ?_
    obtain ⟨v3, e9, hJ⟩ := rp_b hJ
    obtain ⟨f9, g9, e9⟩ := fR_s e9
    refine rp_get X I g9 e9 rfl wiX7 (by decide) wm_555 dX7_isReady_10 ?_
    refine lv_iload_n hx hb dX7_isReady_13 rfl (lv_at hl 1 rfl) ?_
    obtain ⟨v4, e9, hJ⟩ := rp_b hJ
    refine rp_iald X I e9 rfl dX7_isReady_14 ?_
    refine lv_if_eq (tgt := 20) hx hb dX7_isReady_15 (by decide) (fun c9 => ?_) (fun c9 => ?_)
    · rw [if_pos c9] at hJ
      refine lv_iconst (v := 1) hx hb dX7_isReady_20 (by decide) ?_
      refine lv_istore_n (lv' := [(2, .int (1 : Int32)), (0, .ref x0), (1, .int x1)]) hx hb dX7_isReady_21 rfl hl (by decide) rfl (fun ls hl => ?_)
      refine lv_iconst (v := 0) hx hb dX7_isReady_22 (by decide) ?_
      refine lv_istore_n (lv' := [(3, .int (0 : Int32)), (2, .int (1 : Int32)), (0, .ref x0), (1, .int x1)]) hx hb dX7_isReady_23 rfl hl (by decide) rfl (fun ls hl => ?_)
      exact w_Mod_isReady_24 X hN hr N _ _ _ _ _ _ _ _ hJ I (lv_sub hl [2, 3, 1, 0] rfl)
    · rw [if_neg c9] at hJ
      refine lv_iconst (v := 0) hx hb dX7_isReady_18 (by decide) ?_
      exact rp_zret X hr (Or.inl rfl) hJ I dX7_isReady_19
def rmX7_end : Room := { frames := 0, cells := 0, slots := 0, locals := 0 }
def J_Mod_end_21 (N : Nat)  : Nat → Nat → Int32 → Int32 → Hp → Option (Unit × Hp)
  | 0, _, _, _, _ => none
  | n + 1, x0, x1, x2, h =>
  (fR h 7 x0 9).bind fun v7 =>
  (aI h 0 v7 x1).bind fun v8 =>
  if v8 ≤ x2 then
  ((fR h 7 x0 12).bind fun v9 =>
  (sB h 1 v9 x1 (1 : Int32)).bind fun h10 =>
  (fR h10 7 x0 13).bind fun v11 =>
  (fR h10 7 x0 5).bind fun v12 =>
  (aI h10 0 v12 x1).bind fun v13 =>
  (sI h10 0 v11 x1 v13).bind fun h14 =>
  (fR h14 7 x0 14).bind fun v15 =>
  (fR h14 7 x0 6).bind fun v16 =>
  (aI h14 0 v16 x1).bind fun v17 =>
  (sI h14 0 v15 x1 v17).bind fun h18 =>
  (fR h18 7 x0 15).bind fun v19 =>
  (fR h18 7 x0 8).bind fun v20 =>
  (aI h18 0 v20 x1).bind fun v21 =>
  (sI h18 0 v19 x1 v21).bind fun h22 =>
  (fR h22 7 x0 16).bind fun v23 =>
  (fR h22 7 x0 9).bind fun v24 =>
  (aI h22 0 v24 x1).bind fun v25 =>
  (sI h22 0 v23 x1 v25).bind fun h26 =>
  some ((), h26))
  else
  ((fR h 7 x0 11).bind fun v27 =>
  (aI h 0 v27 (((3 : Int32) * x1) + x2)).bind fun v28 =>
  (fR h 7 x0 1).bind fun v29 =>
  (sB h 1 v29 v28 (1 : Int32)).bind fun h30 =>
  (fR h30 7 x0 2).bind fun v31 =>
  (fR h30 7 x0 24).bind fun v32 =>
  (aI h30 0 v32 x1).bind fun v33 =>
  (fR h30 7 x0 6).bind fun v34 =>
  (aI h30 0 v34 x1).bind fun v35 =>
  (sI h30 0 v31 v28 ((v33 + x2) &&& v35)).bind fun h36 =>
  (fR h36 7 x0 18).bind fun v37 =>
  (sI h36 0 v37 (((3 : Int32) * x1) + x2) v28).bind fun h38 =>
  (J_Mod_end_21 N n) x0 x1 (x2 + (1 : Int32)) h38)
def J_Mod_end (N : Nat) (x0 : Nat) (x1 : Int32) (h : Hp) : Option (Unit × Hp) :=
  (fR h 7 x0 22).bind fun v1 =>
  (sI h 0 v1 x1 (2 : Int32)).bind fun h2 =>
  (fR h2 7 x0 26).bind fun v3 =>
  (fR h2 7 x0 25).bind fun v4 =>
  (aI h2 0 v4 x1).bind fun v5 =>
  (sB h2 1 v3 v5 (0 : Int32)).bind fun h6 =>
  J_Mod_end_21 N N x0 x1 (0 : Int32) h6
set_option maxHeartbeats 4000000 in
set_option maxRecDepth 100000 in
theorem w_Mod_end_21 (X : Cx p s m args meth c D vwCl tys cX7_end 4 RX7 wsG) (hN : nwS s) (hr : meth.sig.returnType = none) {res : (Unit × Hp)} {N : Nat}   : ∀ (n : Nat) (x0 : Nat) (x1 : Int32) (x2 : Int32)  (h : Hp) (H : Heap) (locs : List Loc) (ls : Array Slot), J_Mod_end_21 N n x0 x1 x2 h = some res → In D vwCl tys A s h H locs → lv_has ls 4 [(0, .ref x0), (1, .int x1), (2, .int x2)] → W p l e rmX7_end s m args below meth c H locs 0 0 (MQ below (Qr D vwCl tys A none res.2) args s 0 0 A) (F0 m 21 ls []) := by
  have hx := X.1.1
  have hb := X.1.2.1
  have hml := X.1.2.2.1
  have ho := X.1.2.2.2.1
  have hts := X.1.2.2.2.2
  have hK := X.2.1
  have hT := X.2.2.2
  intro n
  induction n with
  | zero =>
    intro x0 x1 x2  h H locs ls hJ I hl
    exact nomatch (show (none : Option (Unit × Hp)) = some res from hJ)
  | succ n k21 =>
    intro x0 x1 x2  h H locs ls hJ I hl
    rw [J_Mod_end_21] at hJ
    refine lv_iload_n hx hb dX7_end_21 rfl (lv_at hl 2 rfl) ?_
    refine lv_aload_n hx hb dX7_end_22 rfl (lv_at hl 0 rfl) ?_
    obtain ⟨v7, e9, hJ⟩ := rp_b hJ
    obtain ⟨f9, g9, e9⟩ := fR_s e9
    refine rp_get X I g9 e9 rfl wiX7 (by decide) wm_542 dX7_end_23 ?_
    refine lv_iload_n hx hb dX7_end_26 rfl (lv_at hl 1 rfl) ?_
    obtain ⟨v8, e9, hJ⟩ := rp_b hJ
    refine rp_iald X I e9 rfl dX7_end_27 ?_
    refine lv_icmp_ge (tgt := 87) hx hb dX7_end_28 (by decide) (fun c9 => ?_) (fun c9 => ?_)
    · rw [if_pos c9] at hJ
      refine lv_aload_n hx hb dX7_end_87 rfl (lv_at hl 0 rfl) ?_
      obtain ⟨v9, e9, hJ⟩ := rp_b hJ
      obtain ⟨f9, g9, e9⟩ := fR_s e9
      refine rp_get X I g9 e9 rfl wiX7 (by decide) wm_545 dX7_end_88 ?_
      refine lv_iload_n hx hb dX7_end_91 rfl (lv_at hl 1 rfl) ?_
      refine lv_iconst (v := 1) hx hb dX7_end_92 (by decide) ?_
      obtain ⟨h10, e9, hJ⟩ := rp_b hJ
      refine rp_zast X I e9 rfl dX7_end_93 (fun H locs I => ?_)
      refine lv_aload_n hx hb dX7_end_94 rfl (lv_at hl 0 rfl) ?_
      obtain ⟨v11, e9, hJ⟩ := rp_b hJ
      obtain ⟨f9, g9, e9⟩ := fR_s e9
      refine rp_get X I g9 e9 rfl wiX7 (by decide) wm_546 dX7_end_95 ?_
      refine lv_iload_n hx hb dX7_end_98 rfl (lv_at hl 1 rfl) ?_
      refine lv_aload_n hx hb dX7_end_99 rfl (lv_at hl 0 rfl) ?_
      obtain ⟨v12, e9, hJ⟩ := rp_b hJ
      obtain ⟨f9, g9, e9⟩ := fR_s e9
      refine rp_get X I g9 e9 rfl wiX7 (by decide) wm_538 dX7_end_100 ?_
      refine lv_iload_n hx hb dX7_end_103 rfl (lv_at hl 1 rfl) ?_
      obtain ⟨v13, e9, hJ⟩ := rp_b hJ
      refine rp_iald X I e9 rfl dX7_end_104 ?_
      obtain ⟨h14, e9, hJ⟩ := rp_b hJ
      refine rp_iast X I e9 rfl dX7_end_105 (fun H locs I => ?_)
      refine lv_aload_n hx hb dX7_end_106 rfl (lv_at hl 0 rfl) ?_
      obtain ⟨v15, e9, hJ⟩ := rp_b hJ
      obtain ⟨f9, g9, e9⟩ := fR_s e9
      refine rp_get X I g9 e9 rfl wiX7 (by decide) wm_547 dX7_end_107 ?_
      refine lv_iload_n hx hb dX7_end_110 rfl (lv_at hl 1 rfl) ?_
      refine lv_aload_n hx hb dX7_end_111 rfl (lv_at hl 0 rfl) ?_
      obtain ⟨v16, e9, hJ⟩ := rp_b hJ
      obtain ⟨f9, g9, e9⟩ := fR_s e9
      refine rp_get X I g9 e9 rfl wiX7 (by decide) wm_539 dX7_end_112 ?_
      refine lv_iload_n hx hb dX7_end_115 rfl (lv_at hl 1 rfl) ?_
      obtain ⟨v17, e9, hJ⟩ := rp_b hJ
      refine rp_iald X I e9 rfl dX7_end_116 ?_
      obtain ⟨h18, e9, hJ⟩ := rp_b hJ
      refine rp_iast X I e9 rfl dX7_end_117 (fun H locs I => ?_)
      refine lv_aload_n hx hb dX7_end_118 rfl (lv_at hl 0 rfl) ?_
      obtain ⟨v19, e9, hJ⟩ := rp_b hJ
      obtain ⟨f9, g9, e9⟩ := fR_s e9
      refine rp_get X I g9 e9 rfl wiX7 (by decide) wm_548 dX7_end_119 ?_
      refine lv_iload_n hx hb dX7_end_122 rfl (lv_at hl 1 rfl) ?_
      refine lv_aload_n hx hb dX7_end_123 rfl (lv_at hl 0 rfl) ?_
      obtain ⟨v20, e9, hJ⟩ := rp_b hJ
      obtain ⟨f9, g9, e9⟩ := fR_s e9
      refine rp_get X I g9 e9 rfl wiX7 (by decide) wm_541 dX7_end_124 ?_
      refine lv_iload_n hx hb dX7_end_127 rfl (lv_at hl 1 rfl) ?_
      obtain ⟨v21, e9, hJ⟩ := rp_b hJ
      refine rp_iald X I e9 rfl dX7_end_128 ?_
      obtain ⟨h22, e9, hJ⟩ := rp_b hJ
      refine rp_iast X I e9 rfl dX7_end_129 (fun H locs I => ?_)
      refine lv_aload_n hx hb dX7_end_130 rfl (lv_at hl 0 rfl) ?_
      obtain ⟨v23, e9, hJ⟩ := rp_b hJ
      obtain ⟨f9, g9, e9⟩ := fR_s e9
      refine rp_get X I g9 e9 rfl wiX7 (by decide) wm_549 dX7_end_131 ?_
      refine lv_iload_n hx hb dX7_end_134 rfl (lv_at hl 1 rfl) ?_
      refine lv_aload_n hx hb dX7_end_135 rfl (lv_at hl 0 rfl) ?_
      obtain ⟨v24, e9, hJ⟩ := rp_b hJ
      obtain ⟨f9, g9, e9⟩ := fR_s e9
      refine rp_get X I g9 e9 rfl wiX7 (by decide) wm_542 dX7_end_136 ?_
      refine lv_iload_n hx hb dX7_end_139 rfl (lv_at hl 1 rfl) ?_
      obtain ⟨v25, e9, hJ⟩ := rp_b hJ
      refine rp_iald X I e9 rfl dX7_end_140 ?_
      obtain ⟨h26, e9, hJ⟩ := rp_b hJ
      refine rp_iast X I e9 rfl dX7_end_141 (fun H locs I => ?_)
      exact rp_vret X hr hJ I dX7_end_142
    · rw [if_neg c9] at hJ
      refine lv_aload_n hx hb dX7_end_31 rfl (lv_at hl 0 rfl) ?_
      obtain ⟨v27, e9, hJ⟩ := rp_b hJ
      obtain ⟨f9, g9, e9⟩ := fR_s e9
      refine rp_get X I g9 e9 rfl wiX7 (by decide) wm_544 dX7_end_32 ?_
      refine lv_iconst (v := 3) hx hb dX7_end_35 (by decide) ?_
      refine lv_iload_n hx hb dX7_end_36 rfl (lv_at hl 1 rfl) ?_
      refine lv_imul hx hb dX7_end_37 ?_
      refine lv_iload_n hx hb dX7_end_38 rfl (lv_at hl 2 rfl) ?_
      refine lv_iadd hx hb dX7_end_39 ?_
      obtain ⟨v28, e9, hJ⟩ := rp_b hJ
      refine rp_iald X I e9 rfl dX7_end_40 ?_
      refine lv_istore_n (lv' := [(3, .int v28), (0, .ref x0), (1, .int x1), (2, .int x2)]) hx hb dX7_end_41 rfl hl (by decide) rfl (fun ls hl => ?_)
      refine lv_aload_n hx hb dX7_end_42 rfl (lv_at hl 1 rfl) ?_
      obtain ⟨v29, e9, hJ⟩ := rp_b hJ
      obtain ⟨f9, g9, e9⟩ := fR_s e9
      refine rp_get X I g9 e9 rfl wiX7 (by decide) wm_534 dX7_end_43 ?_
      refine lv_iload_n hx hb dX7_end_46 rfl (lv_at hl 0 rfl) ?_
      refine lv_iconst (v := 1) hx hb dX7_end_47 (by decide) ?_
      obtain ⟨h30, e9, hJ⟩ := rp_b hJ
      refine rp_zast X I e9 rfl dX7_end_48 (fun H locs I => ?_)
      refine lv_aload_n hx hb dX7_end_49 rfl (lv_at hl 1 rfl) ?_
      obtain ⟨v31, e9, hJ⟩ := rp_b hJ
      obtain ⟨f9, g9, e9⟩ := fR_s e9
      refine rp_get X I g9 e9 rfl wiX7 (by decide) wm_535 dX7_end_50 ?_
      refine lv_iload_n hx hb dX7_end_53 rfl (lv_at hl 0 rfl) ?_
      refine lv_aload_n hx hb dX7_end_54 rfl (lv_at hl 1 rfl) ?_
      obtain ⟨v32, e9, hJ⟩ := rp_b hJ
      obtain ⟨f9, g9, e9⟩ := fR_s e9
      refine rp_get X I g9 e9 rfl wiX7 (by decide) wm_557 dX7_end_55 ?_
      refine lv_iload_n hx hb dX7_end_58 rfl (lv_at hl 2 rfl) ?_
      obtain ⟨v33, e9, hJ⟩ := rp_b hJ
      refine rp_iald X I e9 rfl dX7_end_59 ?_
      refine lv_iload_n hx hb dX7_end_60 rfl (lv_at hl 3 rfl) ?_
      refine lv_iadd hx hb dX7_end_61 ?_
      refine lv_aload_n hx hb dX7_end_62 rfl (lv_at hl 1 rfl) ?_
      obtain ⟨v34, e9, hJ⟩ := rp_b hJ
      obtain ⟨f9, g9, e9⟩ := fR_s e9
      refine rp_get X I g9 e9 rfl wiX7 (by decide) wm_539 dX7_end_63 ?_
      refine lv_iload_n hx hb dX7_end_66 rfl (lv_at hl 2 rfl) ?_
      obtain ⟨v35, e9, hJ⟩ := rp_b hJ
      refine rp_iald X I e9 rfl dX7_end_67 ?_
      refine lv_iand hx hb dX7_end_68 ?_
      obtain ⟨h36, e9, hJ⟩ := rp_b hJ
      refine rp_iast X I e9 rfl dX7_end_69 (fun H locs I => ?_)
      refine lv_aload_n hx hb dX7_end_70 rfl (lv_at hl 1 rfl) ?_
      obtain ⟨v37, e9, hJ⟩ := rp_b hJ
      obtain ⟨f9, g9, e9⟩ := fR_s e9
      refine rp_get X I g9 e9 rfl wiX7 (by decide) wm_551 dX7_end_71 ?_
      refine lv_iconst (v := 3) hx hb dX7_end_74 (by decide) ?_
      refine lv_iload_n hx hb dX7_end_75 rfl (lv_at hl 2 rfl) ?_
      refine lv_imul hx hb dX7_end_76 ?_
      refine lv_iload_n hx hb dX7_end_77 rfl (lv_at hl 3 rfl) ?_
      refine lv_iadd hx hb dX7_end_78 ?_
      refine lv_iload_n hx hb dX7_end_79 rfl (lv_at hl 0 rfl) ?_
      obtain ⟨h38, e9, hJ⟩ := rp_b hJ
      refine rp_iast X I e9 rfl dX7_end_80 (fun H locs I => ?_)
      refine lv_iinc (v := (x2 + (1 : Int32))) (lv' := [(2, .int (x2 + (1 : Int32))), (3, .int v28), (0, .ref x0), (1, .int x1)]) hx hb dX7_end_81 hl (k := 3) rfl rfl (by decide) rfl (fun ls hl => ?_)
      refine lv_goto (tgt := 21) hx hb dX7_end_84 (by decide) ?_
      exact k21 _ _ _ _ _ _ _ hJ I (lv_sub hl [2, 3, 0] rfl)
set_option maxHeartbeats 4000000 in
set_option maxRecDepth 100000 in
theorem c_Mod_end {l : Launch} {D : va_G} {tys : List (ClassId × FieldType)} {A : Nat → Prop} (hT : tys.map (fun q => q.2) = tyS) {N : Nat} {x0 : Nat} {x1 : Int32} {h : Hp} {res : (Unit × Hp)} (hJ : J_Mod_end N x0 x1 h = some res) : Ct l D vwCl tys A yX7_end (Cond.code yX7_end cX7_end 4 none :: wsG) rmX7_end [.ref x0, .int x1] h none res.2 := by
  refine Met.ofW (cc := cX7_end) (maxL := 4) (ret := none) (by decide) rfl ?_
  intro p e s m args below meth c s₁ B hml hv
  obtain ⟨rfl, hA, hR, hK, hN⟩ := hv
  have hr := B.returns
  have hts : ∀ w ∈ wsG, w.before [.ref x0, .int x1].toArray s = true := fun w hw => atoms_spec (ws := Cond.code yX7_end cX7_end 4 none :: wsG) B.pre w (List.mem_cons_of_mem _ hw)
  have X : Cx p s m [.ref x0, .int x1].toArray meth c D vwCl tys cX7_end 4 RX7 wsG := ⟨⟨B.exec, B.bytes, hml, findClass_of_methodNamed B.named, hts⟩, hK, B.notSynchronized, hT⟩
  have hx := B.exec
  have hb := B.bytes
  have I : In D vwCl tys A s h s.heap [] := ⟨hR, va_S.rf, hA⟩
  have hl := lv_entry [.ref x0, .int x1] (n := 4) (Nat.le_of_ble_eq_true rfl)
  rw [lg_entry_eq]
  generalize (lg_sl [.ref x0, .int x1] ++ List.replicate (4 - (lg_sl [.ref x0, .int x1]).length) Slot.unset).toArray = ls at hl ⊢
  have hl : lv_has ls 4 [(0, .ref x0), (1, .int x1)] := hl
  have ho := X.1.2.2.2.1
  rw [J_Mod_end] at hJ
  refine lv_aload_n hx hb dX7_end_0 rfl (lv_at hl 0 rfl) ?_
  obtain ⟨v1, e9, hJ⟩ := rp_b hJ
  obtain ⟨f9, g9, e9⟩ := fR_s e9
  refine rp_get X I g9 e9 rfl wiX7 (by decide) wm_555 dX7_end_1 ?_
  refine lv_iload_n hx hb dX7_end_4 rfl (lv_at hl 1 rfl) ?_
  refine lv_iconst (v := 2) hx hb dX7_end_5 (by decide) ?_
  obtain ⟨h2, e9, hJ⟩ := rp_b hJ
  refine rp_iast X I e9 rfl dX7_end_6 (fun H locs I => ?_)
  refine lv_aload_n hx hb dX7_end_7 rfl (lv_at hl 0 rfl) ?_
  obtain ⟨v3, e9, hJ⟩ := rp_b hJ
  obtain ⟨f9, g9, e9⟩ := fR_s e9
  refine rp_get X I g9 e9 rfl wiX7 (by decide) wm_559 dX7_end_8 ?_
  refine lv_aload_n hx hb dX7_end_11 rfl (lv_at hl 0 rfl) ?_
  obtain ⟨v4, e9, hJ⟩ := rp_b hJ
  obtain ⟨f9, g9, e9⟩ := fR_s e9
  refine rp_get X I g9 e9 rfl wiX7 (by decide) wm_558 dX7_end_12 ?_
  refine lv_iload_n hx hb dX7_end_15 rfl (lv_at hl 1 rfl) ?_
  obtain ⟨v5, e9, hJ⟩ := rp_b hJ
  refine rp_iald X I e9 rfl dX7_end_16 ?_
  refine lv_iconst (v := 0) hx hb dX7_end_17 (by decide) ?_
  obtain ⟨h6, e9, hJ⟩ := rp_b hJ
  refine rp_zast X I e9 rfl dX7_end_18 (fun H locs I => ?_)
  refine lv_iconst (v := 0) hx hb dX7_end_19 (by decide) ?_
  refine lv_istore_n (lv' := [(2, .int (0 : Int32)), (0, .ref x0), (1, .int x1)]) hx hb dX7_end_20 rfl hl (by decide) rfl (fun ls hl => ?_)
  exact w_Mod_end_21 X hN hr N _ _ _ _ _ _ _ hJ I (lv_sub hl [1, 2, 0] rfl)
def rmX7_pass : Room := { frames := 2, cells := 0, slots := 0, locals := 48 }
def J_Mod_pass_10 (N : Nat) (r2 : Nat → Int32 → Hp → Option (Unit × Hp)) : Nat → Nat → Int32 → Int32 → Hp → Option (Unit × Hp)
  | 0, _, _, _, _ => none
  | n + 1, x0, x1, x2, h =>
  if (40 : Int32) ≤ x2 then
  (r2 x0 x1 h)
  else
  ((isO h 7 x0).bind fun _ =>
  (J_Mod_isReady N x0 x2 h).bind fun q1 =>
 if q1.1 = 0 then
  ((J_Mod_pass_10 N r2 n) x0 x1 (x2 + (1 : Int32)) q1.2)
  else
  ((isO q1.2 7 x0).bind fun _ =>
  (J_Mod_why N x0 x2 q1.2).bind fun q2 =>
 if q2.1 ≤ 0 then
  ((fR q2.2 7 x0 22).bind fun v3 =>
  (sI q2.2 0 v3 x2 (2 : Int32)).bind fun h4 =>
  (J_Mod_pass_10 N r2 n) x0 (1 : Int32) (x2 + (1 : Int32)) h4)
  else
  ((J_Mod_pass_10 N r2 n) x0 x1 (x2 + (1 : Int32)) q2.2)))
def J_Mod_pass_2 (N : Nat)  : Nat → Nat → Int32 → Hp → Option (Unit × Hp)
  | 0, _, _, _ => none
  | n + 1, x0, x1, h =>
  if x1 = 0 then
  (some ((), h))
  else
  (J_Mod_pass_10 N (J_Mod_pass_2 N n) N x0 (0 : Int32) (0 : Int32) h)
def J_Mod_pass (N : Nat) (x0 : Nat) (h : Hp) : Option (Unit × Hp) :=
  J_Mod_pass_2 N N x0 (1 : Int32) h
set_option maxHeartbeats 4000000 in
set_option maxRecDepth 100000 in
theorem w_Mod_pass_10 (X : Cx p s m args meth c D vwCl tys cX7_pass 3 RX7 wsG) (hN : nwS s) (hr : meth.sig.returnType = none) {res : (Unit × Hp)} {N : Nat} {r2 : Nat → Int32 → Hp → Option (Unit × Hp)} (k2 : ∀ (x0 : Nat) (x1 : Int32) (h : Hp) (H : Heap) (locs : List Loc) (ls : Array Slot), r2 x0 x1 h = some res → In D vwCl tys A s h H locs → lv_has ls 3 [(0, .ref x0), (1, .int x1)] → W p l e rmX7_pass s m args below meth c H locs 0 0 (MQ below (Qr D vwCl tys A none res.2) args s 0 0 A) (F0 m 2 ls [])) : ∀ (n : Nat) (x0 : Nat) (x1 : Int32) (x2 : Int32)  (h : Hp) (H : Heap) (locs : List Loc) (ls : Array Slot), J_Mod_pass_10 N r2 n x0 x1 x2 h = some res → In D vwCl tys A s h H locs → lv_has ls 3 [(0, .ref x0), (1, .int x1), (2, .int x2)] → W p l e rmX7_pass s m args below meth c H locs 0 0 (MQ below (Qr D vwCl tys A none res.2) args s 0 0 A) (F0 m 10 ls []) := by
  have hx := X.1.1
  have hb := X.1.2.1
  have hml := X.1.2.2.1
  have ho := X.1.2.2.2.1
  have hts := X.1.2.2.2.2
  have hK := X.2.1
  have hT := X.2.2.2
  intro n
  induction n with
  | zero =>
    intro x0 x1 x2  h H locs ls hJ I hl
    exact nomatch (show (none : Option (Unit × Hp)) = some res from hJ)
  | succ n k10 =>
    intro x0 x1 x2  h H locs ls hJ I hl
    rw [J_Mod_pass_10] at hJ
    refine lv_iload_n hx hb dX7_pass_10 rfl (lv_at hl 2 rfl) ?_
    refine lv_bipush (v := 40) hx hb dX7_pass_11 (by decide) ?_
    refine lv_icmp_ge (tgt := 50) hx hb dX7_pass_13 (by decide) (fun c9 => ?_) (fun c9 => ?_)
    · rw [if_pos c9] at hJ
      refine lv_goto (tgt := 2) hx hb dX7_pass_50 (by decide) ?_
      exact k2 _ _ _ _ _ _ hJ I (lv_sub hl [0, 1] rfl)
    · rw [if_neg c9] at hJ
      refine lv_aload_n hx hb dX7_pass_16 rfl (lv_at hl 0 rfl) ?_
      refine lv_iload_n hx hb dX7_pass_17 rfl (lv_at hl 2 rfl) ?_
      obtain ⟨u9, i9, hJ⟩ := rp_b hJ
      obtain ⟨f9, i9⟩ := isO_s i9
      obtain ⟨q1, e9, hJ⟩ := rp_b hJ
      refine rp_callV (As := [.int x2]) (rest := []) X hN I (c_Mod_isReady hT e9) (cwV 1 hts (gdV wm_692 wm_693 wm_29 wm_40 wm_694) rfl rfl rfl (by decide +kernel) ⟨Nat.le_of_ble_eq_true rfl, Nat.le_of_ble_eq_true rfl⟩) i9 rfl rfl hl.1 rfl (Nat.le_of_ble_eq_true rfl) dX7_pass_18 ⟨(Nat.le_of_ble_eq_true rfl), (Nat.le_of_ble_eq_true rfl)⟩ (fun H locs I => ?_)
      refine W.cs (cells' := 0) (slots' := 0) rfl rfl ?_
      refine lv_if_eq (tgt := 44) hx hb dX7_pass_21 (by decide) (fun c9 => ?_) (fun c9 => ?_)
      · rw [if_pos c9] at hJ
        refine lv_iinc (v := (x2 + (1 : Int32))) (lv' := [(2, .int (x2 + (1 : Int32))), (0, .ref x0), (1, .int x1)]) hx hb dX7_pass_44 hl (k := 2) rfl rfl (by decide) rfl (fun ls hl => ?_)
        refine lv_goto (tgt := 10) hx hb dX7_pass_47 (by decide) ?_
        exact k10 _ _ _ _ _ _ _ hJ I (lv_sub hl [1, 2, 0] rfl)
      · rw [if_neg c9] at hJ
        refine lv_aload_n hx hb dX7_pass_24 rfl (lv_at hl 0 rfl) ?_
        refine lv_iload_n hx hb dX7_pass_25 rfl (lv_at hl 2 rfl) ?_
        obtain ⟨u9, i9, hJ⟩ := rp_b hJ
        obtain ⟨f9, i9⟩ := isO_s i9
        obtain ⟨q2, e9, hJ⟩ := rp_b hJ
        refine rp_callV (As := [.int x2]) (rest := []) X hN I (c_Mod_why hT e9) (cwV 1 hts (gdV wm_652 wm_653 wm_17 wm_40 wm_654) rfl rfl rfl (by decide +kernel) ⟨Nat.le_of_ble_eq_true rfl, Nat.le_of_ble_eq_true rfl⟩) i9 rfl rfl hl.1 rfl (Nat.le_of_ble_eq_true rfl) dX7_pass_26 ⟨(Nat.le_of_ble_eq_true rfl), (Nat.le_of_ble_eq_true rfl)⟩ (fun H locs I => ?_)
        refine W.cs (cells' := 0) (slots' := 0) rfl rfl ?_
        refine lv_if_le (tgt := 35) hx hb dX7_pass_29 (by decide) (fun c9 => ?_) (fun c9 => ?_)
        · rw [if_pos c9] at hJ
          refine lv_aload_n hx hb dX7_pass_35 rfl (lv_at hl 0 rfl) ?_
          obtain ⟨v3, e9, hJ⟩ := rp_b hJ
          obtain ⟨f9, g9, e9⟩ := fR_s e9
          refine rp_get X I g9 e9 rfl wiX7 (by decide) wm_555 dX7_pass_36 ?_
          refine lv_iload_n hx hb dX7_pass_39 rfl (lv_at hl 2 rfl) ?_
          refine lv_iconst (v := 2) hx hb dX7_pass_40 (by decide) ?_
          obtain ⟨h4, e9, hJ⟩ := rp_b hJ
          refine rp_iast X I e9 rfl dX7_pass_41 (fun H locs I => ?_)
          refine lv_iconst (v := 1) hx hb dX7_pass_42 (by decide) ?_
          refine lv_istore_n (lv' := [(1, .int (1 : Int32)), (0, .ref x0), (2, .int x2)]) hx hb dX7_pass_43 rfl hl (by decide) rfl (fun ls hl => ?_)
          refine lv_iinc (v := (x2 + (1 : Int32))) (lv' := [(2, .int (x2 + (1 : Int32))), (1, .int (1 : Int32)), (0, .ref x0)]) hx hb dX7_pass_44 hl (k := 2) rfl rfl (by decide) rfl (fun ls hl => ?_)
          refine lv_goto (tgt := 10) hx hb dX7_pass_47 (by decide) ?_
          exact k10 _ _ _ _ _ _ _ hJ I (lv_sub hl [2, 1, 0] rfl)
        · rw [if_neg c9] at hJ
          refine lv_goto (tgt := 44) hx hb dX7_pass_32 (by decide) ?_
          refine lv_iinc (v := (x2 + (1 : Int32))) (lv' := [(2, .int (x2 + (1 : Int32))), (0, .ref x0), (1, .int x1)]) hx hb dX7_pass_44 hl (k := 2) rfl rfl (by decide) rfl (fun ls hl => ?_)
          refine lv_goto (tgt := 10) hx hb dX7_pass_47 (by decide) ?_
          exact k10 _ _ _ _ _ _ _ hJ I (lv_sub hl [1, 2, 0] rfl)
set_option maxHeartbeats 4000000 in
set_option maxRecDepth 100000 in
theorem w_Mod_pass_2 (X : Cx p s m args meth c D vwCl tys cX7_pass 3 RX7 wsG) (hN : nwS s) (hr : meth.sig.returnType = none) {res : (Unit × Hp)} {N : Nat}   : ∀ (n : Nat) (x0 : Nat) (x1 : Int32)  (h : Hp) (H : Heap) (locs : List Loc) (ls : Array Slot), J_Mod_pass_2 N n x0 x1 h = some res → In D vwCl tys A s h H locs → lv_has ls 3 [(0, .ref x0), (1, .int x1)] → W p l e rmX7_pass s m args below meth c H locs 0 0 (MQ below (Qr D vwCl tys A none res.2) args s 0 0 A) (F0 m 2 ls []) := by
  have hx := X.1.1
  have hb := X.1.2.1
  have hml := X.1.2.2.1
  have ho := X.1.2.2.2.1
  have hts := X.1.2.2.2.2
  have hK := X.2.1
  have hT := X.2.2.2
  intro n
  induction n with
  | zero =>
    intro x0 x1  h H locs ls hJ I hl
    exact nomatch (show (none : Option (Unit × Hp)) = some res from hJ)
  | succ n k2 =>
    intro x0 x1  h H locs ls hJ I hl
    rw [J_Mod_pass_2] at hJ
    refine lv_iload_n hx hb dX7_pass_2 rfl (lv_at hl 1 rfl) ?_
    refine lv_if_eq (tgt := 53) hx hb dX7_pass_3 (by decide) (fun c9 => ?_) (fun c9 => ?_)
    · rw [if_pos c9] at hJ
      exact rp_vret X hr hJ I dX7_pass_53
    · rw [if_neg c9] at hJ
      refine lv_iconst (v := 0) hx hb dX7_pass_6 (by decide) ?_
      refine lv_istore_n (lv' := [(1, .int (0 : Int32)), (0, .ref x0)]) hx hb dX7_pass_7 rfl hl (by decide) rfl (fun ls hl => ?_)
      refine lv_iconst (v := 0) hx hb dX7_pass_8 (by decide) ?_
      refine lv_istore_n (lv' := [(2, .int (0 : Int32)), (1, .int (0 : Int32)), (0, .ref x0)]) hx hb dX7_pass_9 rfl hl (by decide) rfl (fun ls hl => ?_)
      exact w_Mod_pass_10 X hN hr k2 N _ _ _ _ _ _ _ hJ I (lv_sub hl [2, 1, 0] rfl)
set_option maxHeartbeats 4000000 in
set_option maxRecDepth 100000 in
theorem c_Mod_pass {l : Launch} {D : va_G} {tys : List (ClassId × FieldType)} {A : Nat → Prop} (hT : tys.map (fun q => q.2) = tyS) {N : Nat} {x0 : Nat} {h : Hp} {res : (Unit × Hp)} (hJ : J_Mod_pass N x0 h = some res) : Ct l D vwCl tys A yX7_pass (Cond.code yX7_pass cX7_pass 3 none :: wsG) rmX7_pass [.ref x0] h none res.2 := by
  refine Met.ofW (cc := cX7_pass) (maxL := 3) (ret := none) (by decide) rfl ?_
  intro p e s m args below meth c s₁ B hml hv
  obtain ⟨rfl, hA, hR, hK, hN⟩ := hv
  have hr := B.returns
  have hts : ∀ w ∈ wsG, w.before [.ref x0].toArray s = true := fun w hw => atoms_spec (ws := Cond.code yX7_pass cX7_pass 3 none :: wsG) B.pre w (List.mem_cons_of_mem _ hw)
  have X : Cx p s m [.ref x0].toArray meth c D vwCl tys cX7_pass 3 RX7 wsG := ⟨⟨B.exec, B.bytes, hml, findClass_of_methodNamed B.named, hts⟩, hK, B.notSynchronized, hT⟩
  have hx := B.exec
  have hb := B.bytes
  have I : In D vwCl tys A s h s.heap [] := ⟨hR, va_S.rf, hA⟩
  have hl := lv_entry [.ref x0] (n := 3) (Nat.le_of_ble_eq_true rfl)
  rw [lg_entry_eq]
  generalize (lg_sl [.ref x0] ++ List.replicate (3 - (lg_sl [.ref x0]).length) Slot.unset).toArray = ls at hl ⊢
  have hl : lv_has ls 3 [(0, .ref x0)] := hl
  have ho := X.1.2.2.2.1
  rw [J_Mod_pass] at hJ
  refine lv_iconst (v := 1) hx hb dX7_pass_0 (by decide) ?_
  refine lv_istore_n (lv' := [(1, .int (1 : Int32)), (0, .ref x0)]) hx hb dX7_pass_1 rfl hl (by decide) rfl (fun ls hl => ?_)
  exact w_Mod_pass_2 X hN hr N _ _ _ _ _ _ hJ I (lv_sub hl [1, 0] rfl)
def rmX7_start : Room := { frames := 0, cells := 0, slots := 0, locals := 0 }
def J_Mod_start_10 (N : Nat)  : Nat → Nat → Int32 → Int32 → Int32 → Int32 → Hp → Option (Unit × Hp)
  | 0, _, _, _, _, _, _ => none
  | n + 1, x0, x1, x2, x3, x4, h =>
  (fR h 7 x0 8).bind fun v3 =>
  (aI h 0 v3 x1).bind fun v4 =>
  if v4 ≤ x4 then
  ((fR h 7 x0 32).bind fun v5 =>
  (fI h 7 x0 28).bind fun v6 =>
  (sI h 0 v5 v6 x1).bind fun h7 =>
  (fR h7 7 x0 33).bind fun v8 =>
  (fI h7 7 x0 28).bind fun v9 =>
  (fI h7 7 x0 27).bind fun v10 =>
  (sI h7 0 v8 v9 v10).bind fun h11 =>
  (fR h11 7 x0 34).bind fun v12 =>
  (fI h11 7 x0 28).bind fun v13 =>
  (fI h11 7 x0 27).bind fun v14 =>
  (fR h11 7 x0 7).bind fun v15 =>
  (aI h11 0 v15 x1).bind fun v16 =>
  (sI h11 0 v12 v13 (v14 + v16)).bind fun h17 =>
  (fR h17 7 x0 35).bind fun v18 =>
  (fI h17 7 x0 28).bind fun v19 =>
  (sI h17 0 v18 v19 x2).bind fun h20 =>
  (fI h20 7 x0 28).bind fun v21 =>
  (sF h20 7 x0 28 (.int (v21 + (1 : Int32)))).bind fun h22 =>
  (fI h22 7 x0 30).bind fun v23 =>
  (fR h22 7 x0 7).bind fun v24 =>
  (aI h22 0 v24 x1).bind fun v25 =>
  (sF h22 7 x0 30 (.int (v23 + v25))).bind fun h26 =>
  (fR h26 7 x0 24).bind fun v27 =>
  (sI h26 0 v27 x1 x3).bind fun h28 =>
  (fR h28 7 x0 22).bind fun v29 =>
  (sI h28 0 v29 x1 (1 : Int32)).bind fun h30 =>
  (fR h30 7 x0 23).bind fun v31 =>
  (fI h30 7 x0 27).bind fun v32 =>
  (fR h30 7 x0 7).bind fun v33 =>
  (aI h30 0 v33 x1).bind fun v34 =>
  (sI h30 0 v31 x1 (v32 + v34)).bind fun h35 =>
  (fR h35 7 x0 25).bind fun v36 =>
  (sI h35 0 v36 x1 x2).bind fun h37 =>
  (fR h37 7 x0 26).bind fun v38 =>
  (sB h37 1 v38 x2 (1 : Int32)).bind fun h39 =>
  some ((), h39))
  else
  ((fR h 7 x0 10).bind fun v40 =>
  (aI h 0 v40 (((6 : Int32) * x1) + x4)).bind fun v41 =>
  (fR h 7 x0 2).bind fun v42 =>
  (aI h 0 v42 v41).bind fun v43 =>
  (fR h 7 x0 17).bind fun v44 =>
  (sI h 0 v44 (((6 : Int32) * x1) + x4) v41).bind fun h45 =>
  (fR h45 7 x0 19).bind fun v46 =>
  (fR h45 7 x0 2).bind fun v47 =>
  (aI h45 0 v47 v41).bind fun v48 =>
  (sI h45 0 v46 (((6 : Int32) * x1) + x4) v48).bind fun h49 =>
  (J_Mod_start_10 N n) x0 x1 x2 ((x3 ^^^ v43) * (16777619 : Int32)) (x4 + (1 : Int32)) h49)
def J_Mod_start (N : Nat) (x0 : Nat) (x1 : Int32) (x2 : Int32) (h : Hp) : Option (Unit × Hp) :=
  (fR h 7 x0 5).bind fun v1 =>
  (aI h 0 v1 x1).bind fun v2 =>
  J_Mod_start_10 N N x0 x1 x2 v2 (0 : Int32) h
set_option maxHeartbeats 4000000 in
set_option maxRecDepth 100000 in
theorem w_Mod_start_10 (X : Cx p s m args meth c D vwCl tys cX7_start 6 RX7 wsG) (hN : nwS s) (hr : meth.sig.returnType = none) {res : (Unit × Hp)} {N : Nat}   : ∀ (n : Nat) (x0 : Nat) (x1 : Int32) (x2 : Int32) (x3 : Int32) (x4 : Int32)  (h : Hp) (H : Heap) (locs : List Loc) (ls : Array Slot), J_Mod_start_10 N n x0 x1 x2 x3 x4 h = some res → In D vwCl tys A s h H locs → lv_has ls 6 [(0, .ref x0), (1, .int x1), (2, .int x2), (3, .int x3), (4, .int x4)] → W p l e rmX7_start s m args below meth c H locs 0 0 (MQ below (Qr D vwCl tys A none res.2) args s 0 0 A) (F0 m 10 ls []) := by
  have hx := X.1.1
  have hb := X.1.2.1
  have hml := X.1.2.2.1
  have ho := X.1.2.2.2.1
  have hts := X.1.2.2.2.2
  have hK := X.2.1
  have hT := X.2.2.2
  intro n
  induction n with
  | zero =>
    intro x0 x1 x2 x3 x4  h H locs ls hJ I hl
    exact nomatch (show (none : Option (Unit × Hp)) = some res from hJ)
  | succ n k10 =>
    intro x0 x1 x2 x3 x4  h H locs ls hJ I hl
    rw [J_Mod_start_10] at hJ
    refine lv_iload hx hb dX7_start_10 (lv_at hl 4 rfl) ?_
    refine lv_aload_n hx hb dX7_start_12 rfl (lv_at hl 0 rfl) ?_
    obtain ⟨v3, e9, hJ⟩ := rp_b hJ
    obtain ⟨f9, g9, e9⟩ := fR_s e9
    refine rp_get X I g9 e9 rfl wiX7 (by decide) wm_541 dX7_start_13 ?_
    refine lv_iload_n hx hb dX7_start_16 rfl (lv_at hl 1 rfl) ?_
    obtain ⟨v4, e9, hJ⟩ := rp_b hJ
    refine rp_iald X I e9 rfl dX7_start_17 ?_
    refine lv_icmp_ge (tgt := 87) hx hb dX7_start_18 (by decide) (fun c9 => ?_) (fun c9 => ?_)
    · rw [if_pos c9] at hJ
      refine lv_aload_n hx hb dX7_start_87 rfl (lv_at hl 0 rfl) ?_
      obtain ⟨v5, e9, hJ⟩ := rp_b hJ
      obtain ⟨f9, g9, e9⟩ := fR_s e9
      refine rp_get X I g9 e9 rfl wiX7 (by decide) wm_565 dX7_start_88 ?_
      refine lv_aload_n hx hb dX7_start_91 rfl (lv_at hl 0 rfl) ?_
      obtain ⟨v6, e9, hJ⟩ := rp_b hJ
      obtain ⟨f9, g9, e9⟩ := fI_s e9
      refine rp_get X I g9 e9 rfl wiX7 (by decide) wm_561 dX7_start_92 ?_
      refine lv_iload_n hx hb dX7_start_95 rfl (lv_at hl 1 rfl) ?_
      obtain ⟨h7, e9, hJ⟩ := rp_b hJ
      refine rp_iast X I e9 rfl dX7_start_96 (fun H locs I => ?_)
      refine lv_aload_n hx hb dX7_start_97 rfl (lv_at hl 0 rfl) ?_
      obtain ⟨v8, e9, hJ⟩ := rp_b hJ
      obtain ⟨f9, g9, e9⟩ := fR_s e9
      refine rp_get X I g9 e9 rfl wiX7 (by decide) wm_566 dX7_start_98 ?_
      refine lv_aload_n hx hb dX7_start_101 rfl (lv_at hl 0 rfl) ?_
      obtain ⟨v9, e9, hJ⟩ := rp_b hJ
      obtain ⟨f9, g9, e9⟩ := fI_s e9
      refine rp_get X I g9 e9 rfl wiX7 (by decide) wm_561 dX7_start_102 ?_
      refine lv_aload_n hx hb dX7_start_105 rfl (lv_at hl 0 rfl) ?_
      obtain ⟨v10, e9, hJ⟩ := rp_b hJ
      obtain ⟨f9, g9, e9⟩ := fI_s e9
      refine rp_get X I g9 e9 rfl wiX7 (by decide) wm_560 dX7_start_106 ?_
      obtain ⟨h11, e9, hJ⟩ := rp_b hJ
      refine rp_iast X I e9 rfl dX7_start_109 (fun H locs I => ?_)
      refine lv_aload_n hx hb dX7_start_110 rfl (lv_at hl 0 rfl) ?_
      obtain ⟨v12, e9, hJ⟩ := rp_b hJ
      obtain ⟨f9, g9, e9⟩ := fR_s e9
      refine rp_get X I g9 e9 rfl wiX7 (by decide) wm_567 dX7_start_111 ?_
      refine lv_aload_n hx hb dX7_start_114 rfl (lv_at hl 0 rfl) ?_
      obtain ⟨v13, e9, hJ⟩ := rp_b hJ
      obtain ⟨f9, g9, e9⟩ := fI_s e9
      refine rp_get X I g9 e9 rfl wiX7 (by decide) wm_561 dX7_start_115 ?_
      refine lv_aload_n hx hb dX7_start_118 rfl (lv_at hl 0 rfl) ?_
      obtain ⟨v14, e9, hJ⟩ := rp_b hJ
      obtain ⟨f9, g9, e9⟩ := fI_s e9
      refine rp_get X I g9 e9 rfl wiX7 (by decide) wm_560 dX7_start_119 ?_
      refine lv_aload_n hx hb dX7_start_122 rfl (lv_at hl 0 rfl) ?_
      obtain ⟨v15, e9, hJ⟩ := rp_b hJ
      obtain ⟨f9, g9, e9⟩ := fR_s e9
      refine rp_get X I g9 e9 rfl wiX7 (by decide) wm_540 dX7_start_123 ?_
      refine lv_iload_n hx hb dX7_start_126 rfl (lv_at hl 1 rfl) ?_
      obtain ⟨v16, e9, hJ⟩ := rp_b hJ
      refine rp_iald X I e9 rfl dX7_start_127 ?_
      refine lv_iadd hx hb dX7_start_128 ?_
      obtain ⟨h17, e9, hJ⟩ := rp_b hJ
      refine rp_iast X I e9 rfl dX7_start_129 (fun H locs I => ?_)
      refine lv_aload_n hx hb dX7_start_130 rfl (lv_at hl 0 rfl) ?_
      obtain ⟨v18, e9, hJ⟩ := rp_b hJ
      obtain ⟨f9, g9, e9⟩ := fR_s e9
      refine rp_get X I g9 e9 rfl wiX7 (by decide) wm_568 dX7_start_131 ?_
      refine lv_aload_n hx hb dX7_start_134 rfl (lv_at hl 0 rfl) ?_
      obtain ⟨v19, e9, hJ⟩ := rp_b hJ
      obtain ⟨f9, g9, e9⟩ := fI_s e9
      refine rp_get X I g9 e9 rfl wiX7 (by decide) wm_561 dX7_start_135 ?_
      refine lv_iload_n hx hb dX7_start_138 rfl (lv_at hl 2 rfl) ?_
      obtain ⟨h20, e9, hJ⟩ := rp_b hJ
      refine rp_iast X I e9 rfl dX7_start_139 (fun H locs I => ?_)
      refine lv_aload_n hx hb dX7_start_140 rfl (lv_at hl 0 rfl) ?_
      refine lv_dup hx hb dX7_start_141 rfl ?_
      obtain ⟨v21, e9, hJ⟩ := rp_b hJ
      obtain ⟨f9, g9, e9⟩ := fI_s e9
      refine rp_get X I g9 e9 rfl wiX7 (by decide) wm_561 dX7_start_142 ?_
      refine lv_iconst (v := 1) hx hb dX7_start_145 (by decide) ?_
      refine lv_iadd hx hb dX7_start_146 ?_
      obtain ⟨h22, e9, hJ⟩ := rp_b hJ
      refine rp_put (ty := .int) X I e9 rfl wiX7 tyX7 tyX7_ok nmX7 (by decide) wm_561 rfl (by decide +kernel) rfl rfl dX7_start_147 (fun H locs I => ?_)
      refine lv_aload_n hx hb dX7_start_150 rfl (lv_at hl 0 rfl) ?_
      refine lv_dup hx hb dX7_start_151 rfl ?_
      obtain ⟨v23, e9, hJ⟩ := rp_b hJ
      obtain ⟨f9, g9, e9⟩ := fI_s e9
      refine rp_get X I g9 e9 rfl wiX7 (by decide) wm_563 dX7_start_152 ?_
      refine lv_aload_n hx hb dX7_start_155 rfl (lv_at hl 0 rfl) ?_
      obtain ⟨v24, e9, hJ⟩ := rp_b hJ
      obtain ⟨f9, g9, e9⟩ := fR_s e9
      refine rp_get X I g9 e9 rfl wiX7 (by decide) wm_540 dX7_start_156 ?_
      refine lv_iload_n hx hb dX7_start_159 rfl (lv_at hl 1 rfl) ?_
      obtain ⟨v25, e9, hJ⟩ := rp_b hJ
      refine rp_iald X I e9 rfl dX7_start_160 ?_
      refine lv_iadd hx hb dX7_start_161 ?_
      obtain ⟨h26, e9, hJ⟩ := rp_b hJ
      refine rp_put (ty := .int) X I e9 rfl wiX7 tyX7 tyX7_ok nmX7 (by decide) wm_563 rfl (by decide +kernel) rfl rfl dX7_start_162 (fun H locs I => ?_)
      refine lv_aload_n hx hb dX7_start_165 rfl (lv_at hl 0 rfl) ?_
      obtain ⟨v27, e9, hJ⟩ := rp_b hJ
      obtain ⟨f9, g9, e9⟩ := fR_s e9
      refine rp_get X I g9 e9 rfl wiX7 (by decide) wm_557 dX7_start_166 ?_
      refine lv_iload_n hx hb dX7_start_169 rfl (lv_at hl 1 rfl) ?_
      refine lv_iload_n hx hb dX7_start_170 rfl (lv_at hl 3 rfl) ?_
      obtain ⟨h28, e9, hJ⟩ := rp_b hJ
      refine rp_iast X I e9 rfl dX7_start_171 (fun H locs I => ?_)
      refine lv_aload_n hx hb dX7_start_172 rfl (lv_at hl 0 rfl) ?_
      obtain ⟨v29, e9, hJ⟩ := rp_b hJ
      obtain ⟨f9, g9, e9⟩ := fR_s e9
      refine rp_get X I g9 e9 rfl wiX7 (by decide) wm_555 dX7_start_173 ?_
      refine lv_iload_n hx hb dX7_start_176 rfl (lv_at hl 1 rfl) ?_
      refine lv_iconst (v := 1) hx hb dX7_start_177 (by decide) ?_
      obtain ⟨h30, e9, hJ⟩ := rp_b hJ
      refine rp_iast X I e9 rfl dX7_start_178 (fun H locs I => ?_)
      refine lv_aload_n hx hb dX7_start_179 rfl (lv_at hl 0 rfl) ?_
      obtain ⟨v31, e9, hJ⟩ := rp_b hJ
      obtain ⟨f9, g9, e9⟩ := fR_s e9
      refine rp_get X I g9 e9 rfl wiX7 (by decide) wm_556 dX7_start_180 ?_
      refine lv_iload_n hx hb dX7_start_183 rfl (lv_at hl 1 rfl) ?_
      refine lv_aload_n hx hb dX7_start_184 rfl (lv_at hl 0 rfl) ?_
      obtain ⟨v32, e9, hJ⟩ := rp_b hJ
      obtain ⟨f9, g9, e9⟩ := fI_s e9
      refine rp_get X I g9 e9 rfl wiX7 (by decide) wm_560 dX7_start_185 ?_
      refine lv_aload_n hx hb dX7_start_188 rfl (lv_at hl 0 rfl) ?_
      obtain ⟨v33, e9, hJ⟩ := rp_b hJ
      obtain ⟨f9, g9, e9⟩ := fR_s e9
      refine rp_get X I g9 e9 rfl wiX7 (by decide) wm_540 dX7_start_189 ?_
      refine lv_iload_n hx hb dX7_start_192 rfl (lv_at hl 1 rfl) ?_
      obtain ⟨v34, e9, hJ⟩ := rp_b hJ
      refine rp_iald X I e9 rfl dX7_start_193 ?_
      refine lv_iadd hx hb dX7_start_194 ?_
      obtain ⟨h35, e9, hJ⟩ := rp_b hJ
      refine rp_iast X I e9 rfl dX7_start_195 (fun H locs I => ?_)
      refine lv_aload_n hx hb dX7_start_196 rfl (lv_at hl 0 rfl) ?_
      obtain ⟨v36, e9, hJ⟩ := rp_b hJ
      obtain ⟨f9, g9, e9⟩ := fR_s e9
      refine rp_get X I g9 e9 rfl wiX7 (by decide) wm_558 dX7_start_197 ?_
      refine lv_iload_n hx hb dX7_start_200 rfl (lv_at hl 1 rfl) ?_
      refine lv_iload_n hx hb dX7_start_201 rfl (lv_at hl 2 rfl) ?_
      obtain ⟨h37, e9, hJ⟩ := rp_b hJ
      refine rp_iast X I e9 rfl dX7_start_202 (fun H locs I => ?_)
      refine lv_aload_n hx hb dX7_start_203 rfl (lv_at hl 0 rfl) ?_
      obtain ⟨v38, e9, hJ⟩ := rp_b hJ
      obtain ⟨f9, g9, e9⟩ := fR_s e9
      refine rp_get X I g9 e9 rfl wiX7 (by decide) wm_559 dX7_start_204 ?_
      refine lv_iload_n hx hb dX7_start_207 rfl (lv_at hl 2 rfl) ?_
      refine lv_iconst (v := 1) hx hb dX7_start_208 (by decide) ?_
      obtain ⟨h39, e9, hJ⟩ := rp_b hJ
      refine rp_zast X I e9 rfl dX7_start_209 (fun H locs I => ?_)
      exact rp_vret X hr hJ I dX7_start_210
    · rw [if_neg c9] at hJ
      refine lv_aload_n hx hb dX7_start_21 rfl (lv_at hl 0 rfl) ?_
      obtain ⟨v40, e9, hJ⟩ := rp_b hJ
      obtain ⟨f9, g9, e9⟩ := fR_s e9
      refine rp_get X I g9 e9 rfl wiX7 (by decide) wm_543 dX7_start_22 ?_
      refine lv_bipush (v := 6) hx hb dX7_start_25 (by decide) ?_
      refine lv_iload_n hx hb dX7_start_27 rfl (lv_at hl 1 rfl) ?_
      refine lv_imul hx hb dX7_start_28 ?_
      refine lv_iload hx hb dX7_start_29 (lv_at hl 4 rfl) ?_
      refine lv_iadd hx hb dX7_start_31 ?_
      obtain ⟨v41, e9, hJ⟩ := rp_b hJ
      refine rp_iald X I e9 rfl dX7_start_32 ?_
      refine lv_istore (lv' := [(5, .int v41), (0, .ref x0), (1, .int x1), (2, .int x2), (3, .int x3), (4, .int x4)]) hx hb dX7_start_33 hl (by decide) rfl (fun ls hl => ?_)
      refine lv_iload_n hx hb dX7_start_35 rfl (lv_at hl 4 rfl) ?_
      refine lv_aload_n hx hb dX7_start_36 rfl (lv_at hl 1 rfl) ?_
      obtain ⟨v42, e9, hJ⟩ := rp_b hJ
      obtain ⟨f9, g9, e9⟩ := fR_s e9
      refine rp_get X I g9 e9 rfl wiX7 (by decide) wm_535 dX7_start_37 ?_
      refine lv_iload hx hb dX7_start_40 (lv_at hl 0 rfl) ?_
      obtain ⟨v43, e9, hJ⟩ := rp_b hJ
      refine rp_iald X I e9 rfl dX7_start_42 ?_
      refine lv_ixor hx hb dX7_start_43 ?_
      refine lv_ldc (v := 16777619) hx hb ho (hts _ wm_701) dX7_start_44 ?_
      refine lv_imul hx hb dX7_start_46 ?_
      refine lv_istore_n (lv' := [(3, .int ((x3 ^^^ v43) * (16777619 : Int32))), (5, .int v41), (0, .ref x0), (1, .int x1), (2, .int x2), (4, .int x4)]) hx hb dX7_start_47 rfl hl (by decide) rfl (fun ls hl => ?_)
      refine lv_aload_n hx hb dX7_start_48 rfl (lv_at hl 2 rfl) ?_
      obtain ⟨v44, e9, hJ⟩ := rp_b hJ
      obtain ⟨f9, g9, e9⟩ := fR_s e9
      refine rp_get X I g9 e9 rfl wiX7 (by decide) wm_550 dX7_start_49 ?_
      refine lv_bipush (v := 6) hx hb dX7_start_52 (by decide) ?_
      refine lv_iload_n hx hb dX7_start_54 rfl (lv_at hl 3 rfl) ?_
      refine lv_imul hx hb dX7_start_55 ?_
      refine lv_iload hx hb dX7_start_56 (lv_at hl 5 rfl) ?_
      refine lv_iadd hx hb dX7_start_58 ?_
      refine lv_iload hx hb dX7_start_59 (lv_at hl 1 rfl) ?_
      obtain ⟨h45, e9, hJ⟩ := rp_b hJ
      refine rp_iast X I e9 rfl dX7_start_61 (fun H locs I => ?_)
      refine lv_aload_n hx hb dX7_start_62 rfl (lv_at hl 2 rfl) ?_
      obtain ⟨v46, e9, hJ⟩ := rp_b hJ
      obtain ⟨f9, g9, e9⟩ := fR_s e9
      refine rp_get X I g9 e9 rfl wiX7 (by decide) wm_552 dX7_start_63 ?_
      refine lv_bipush (v := 6) hx hb dX7_start_66 (by decide) ?_
      refine lv_iload_n hx hb dX7_start_68 rfl (lv_at hl 3 rfl) ?_
      refine lv_imul hx hb dX7_start_69 ?_
      refine lv_iload hx hb dX7_start_70 (lv_at hl 5 rfl) ?_
      refine lv_iadd hx hb dX7_start_72 ?_
      refine lv_aload_n hx hb dX7_start_73 rfl (lv_at hl 2 rfl) ?_
      obtain ⟨v47, e9, hJ⟩ := rp_b hJ
      obtain ⟨f9, g9, e9⟩ := fR_s e9
      refine rp_get X I g9 e9 rfl wiX7 (by decide) wm_535 dX7_start_74 ?_
      refine lv_iload hx hb dX7_start_77 (lv_at hl 1 rfl) ?_
      obtain ⟨v48, e9, hJ⟩ := rp_b hJ
      refine rp_iald X I e9 rfl dX7_start_79 ?_
      obtain ⟨h49, e9, hJ⟩ := rp_b hJ
      refine rp_iast X I e9 rfl dX7_start_80 (fun H locs I => ?_)
      refine lv_iinc (v := (x4 + (1 : Int32))) (lv' := [(4, .int (x4 + (1 : Int32))), (3, .int ((x3 ^^^ v43) * (16777619 : Int32))), (5, .int v41), (0, .ref x0), (1, .int x1), (2, .int x2)]) hx hb dX7_start_81 hl (k := 5) rfl rfl (by decide) rfl (fun ls hl => ?_)
      refine lv_goto (tgt := 10) hx hb dX7_start_84 (by decide) ?_
      exact k10 _ _ _ _ _ _ _ _ _ hJ I (lv_sub hl [3, 4, 5, 1, 0] rfl)
set_option maxHeartbeats 4000000 in
set_option maxRecDepth 100000 in
theorem c_Mod_start {l : Launch} {D : va_G} {tys : List (ClassId × FieldType)} {A : Nat → Prop} (hT : tys.map (fun q => q.2) = tyS) {N : Nat} {x0 : Nat} {x1 : Int32} {x2 : Int32} {h : Hp} {res : (Unit × Hp)} (hJ : J_Mod_start N x0 x1 x2 h = some res) : Ct l D vwCl tys A yX7_start (Cond.code yX7_start cX7_start 6 none :: wsG) rmX7_start [.ref x0, .int x1, .int x2] h none res.2 := by
  refine Met.ofW (cc := cX7_start) (maxL := 6) (ret := none) (by decide) rfl ?_
  intro p e s m args below meth c s₁ B hml hv
  obtain ⟨rfl, hA, hR, hK, hN⟩ := hv
  have hr := B.returns
  have hts : ∀ w ∈ wsG, w.before [.ref x0, .int x1, .int x2].toArray s = true := fun w hw => atoms_spec (ws := Cond.code yX7_start cX7_start 6 none :: wsG) B.pre w (List.mem_cons_of_mem _ hw)
  have X : Cx p s m [.ref x0, .int x1, .int x2].toArray meth c D vwCl tys cX7_start 6 RX7 wsG := ⟨⟨B.exec, B.bytes, hml, findClass_of_methodNamed B.named, hts⟩, hK, B.notSynchronized, hT⟩
  have hx := B.exec
  have hb := B.bytes
  have I : In D vwCl tys A s h s.heap [] := ⟨hR, va_S.rf, hA⟩
  have hl := lv_entry [.ref x0, .int x1, .int x2] (n := 6) (Nat.le_of_ble_eq_true rfl)
  rw [lg_entry_eq]
  generalize (lg_sl [.ref x0, .int x1, .int x2] ++ List.replicate (6 - (lg_sl [.ref x0, .int x1, .int x2]).length) Slot.unset).toArray = ls at hl ⊢
  have hl : lv_has ls 6 [(0, .ref x0), (1, .int x1), (2, .int x2)] := hl
  have ho := X.1.2.2.2.1
  rw [J_Mod_start] at hJ
  refine lv_aload_n hx hb dX7_start_0 rfl (lv_at hl 0 rfl) ?_
  obtain ⟨v1, e9, hJ⟩ := rp_b hJ
  obtain ⟨f9, g9, e9⟩ := fR_s e9
  refine rp_get X I g9 e9 rfl wiX7 (by decide) wm_538 dX7_start_1 ?_
  refine lv_iload_n hx hb dX7_start_4 rfl (lv_at hl 1 rfl) ?_
  obtain ⟨v2, e9, hJ⟩ := rp_b hJ
  refine rp_iald X I e9 rfl dX7_start_5 ?_
  refine lv_istore_n (lv' := [(3, .int v2), (0, .ref x0), (1, .int x1), (2, .int x2)]) hx hb dX7_start_6 rfl hl (by decide) rfl (fun ls hl => ?_)
  refine lv_iconst (v := 0) hx hb dX7_start_7 (by decide) ?_
  refine lv_istore (lv' := [(4, .int (0 : Int32)), (3, .int v2), (0, .ref x0), (1, .int x1), (2, .int x2)]) hx hb dX7_start_8 hl (by decide) rfl (fun ls hl => ?_)
  exact w_Mod_start_10 X hN hr N _ _ _ _ _ _ _ _ _ hJ I (lv_sub hl [2, 3, 4, 1, 0] rfl)
def rmX7_hire : Room := { frames := 2, cells := 0, slots := 0, locals := 48 }
def J_Mod_hire_61 (N : Nat) (r2 : Nat → Int32 → Int32 → Hp → Option (Unit × Hp)) (r24 : Nat → Int32 → Int32 → Int32 → Int32 → Hp → Option (Unit × Hp)) (x0 : Nat) (x1 : Int32) (x2 : Int32) (x4 : Int32)  (h : Hp) : Option (Unit × Hp) :=
  r24 x0 x1 x2 x4 (x4 + (1 : Int32)) h
def J_Mod_hire_24 (N : Nat) (r2 : Nat → Int32 → Int32 → Hp → Option (Unit × Hp)) : Nat → Nat → Int32 → Int32 → Int32 → Int32 → Hp → Option (Unit × Hp)
  | 0, _, _, _, _, _, _ => none
  | n + 1, x0, x1, x2, x3, x4, h =>
  if (40 : Int32) ≤ x4 then
  (if x3 = (-1 : Int32) then
  (some ((), h))
  else
  ((fR h 7 x0 36).bind fun v3 =>
  (fI h 7 x0 28).bind fun v4 =>
  (isO h 7 x0).bind fun _ =>
  (J_Mod_why N x0 x3 h).bind fun q5 =>
 (sI q5.2 0 v3 v4 q5.1).bind fun h6 =>
  (isO h6 7 x0).bind fun _ =>
  (J_Mod_start N x0 x3 x2 h6).bind fun q7 =>
 r2 x0 x1 (x2 + (1 : Int32)) q7.2))
  else
  ((isO h 7 x0).bind fun _ =>
  (J_Mod_isReady N x0 x4 h).bind fun q8 =>
 if q8.1 = 0 then
  ((J_Mod_hire_24 N r2 n) x0 x1 x2 x3 (x4 + (1 : Int32)) q8.2)
  else
  (if x3 = (-1 : Int32) then
  (J_Mod_hire_61 N r2 (J_Mod_hire_24 N r2 n) x0 x1 x2 x4 q8.2)
  else
  ((fR q8.2 7 x0 21).bind fun v9 =>
  (aI q8.2 0 v9 x4).bind fun v10 =>
  (fR q8.2 7 x0 21).bind fun v11 =>
  (aI q8.2 0 v11 x3).bind fun v12 =>
  if v10 ≤ v12 then
  ((J_Mod_hire_24 N r2 n) x0 x1 x2 x3 (x4 + (1 : Int32)) q8.2)
  else
  (J_Mod_hire_61 N r2 (J_Mod_hire_24 N r2 n) x0 x1 x2 x4 q8.2))))
def J_Mod_hire_2 (N : Nat)  : Nat → Nat → Int32 → Int32 → Hp → Option (Unit × Hp)
  | 0, _, _, _, _ => none
  | n + 1, x0, x1, x2, h =>
  if x1 ≤ x2 then
  (some ((), h))
  else
  ((fR h 7 x0 26).bind fun v1 =>
  (aI h 1 v1 x2).bind fun v2 =>
  if v2 = 0 then
  (J_Mod_hire_24 N (J_Mod_hire_2 N n) N x0 x1 x2 (-1 : Int32) (0 : Int32) h)
  else
  ((J_Mod_hire_2 N n) x0 x1 (x2 + (1 : Int32)) h))
def J_Mod_hire (N : Nat) (x0 : Nat) (x1 : Int32) (h : Hp) : Option (Unit × Hp) :=
  J_Mod_hire_2 N N x0 x1 (0 : Int32) h
set_option maxHeartbeats 4000000 in
set_option maxRecDepth 100000 in
theorem w_Mod_hire_61 (X : Cx p s m args meth c D vwCl tys cX7_hire 5 RX7 wsG) (hN : nwS s) (hr : meth.sig.returnType = none) {res : (Unit × Hp)} {N : Nat} {r2 : Nat → Int32 → Int32 → Hp → Option (Unit × Hp)} {r24 : Nat → Int32 → Int32 → Int32 → Int32 → Hp → Option (Unit × Hp)} (k2 : ∀ (x0 : Nat) (x1 : Int32) (x2 : Int32) (h : Hp) (H : Heap) (locs : List Loc) (ls : Array Slot), r2 x0 x1 x2 h = some res → In D vwCl tys A s h H locs → lv_has ls 5 [(0, .ref x0), (1, .int x1), (2, .int x2)] → W p l e rmX7_hire s m args below meth c H locs 0 0 (MQ below (Qr D vwCl tys A none res.2) args s 0 0 A) (F0 m 2 ls [])) (k24 : ∀ (x0 : Nat) (x1 : Int32) (x2 : Int32) (x3 : Int32) (x4 : Int32) (h : Hp) (H : Heap) (locs : List Loc) (ls : Array Slot), r24 x0 x1 x2 x3 x4 h = some res → In D vwCl tys A s h H locs → lv_has ls 5 [(0, .ref x0), (1, .int x1), (2, .int x2), (3, .int x3), (4, .int x4)] → W p l e rmX7_hire s m args below meth c H locs 0 0 (MQ below (Qr D vwCl tys A none res.2) args s 0 0 A) (F0 m 24 ls [])) : ∀ (x0 : Nat) (x1 : Int32) (x2 : Int32) (x4 : Int32)  (h : Hp) (H : Heap) (locs : List Loc) (ls : Array Slot), J_Mod_hire_61 N r2 r24 x0 x1 x2 x4 h = some res → In D vwCl tys A s h H locs → lv_has ls 5 [(0, .ref x0), (1, .int x1), (2, .int x2), (4, .int x4)] → W p l e rmX7_hire s m args below meth c H locs 0 0 (MQ below (Qr D vwCl tys A none res.2) args s 0 0 A) (F0 m 61 ls []) := by
  have hx := X.1.1
  have hb := X.1.2.1
  have hml := X.1.2.2.1
  have ho := X.1.2.2.2.1
  have hts := X.1.2.2.2.2
  have hK := X.2.1
  have hT := X.2.2.2
  intro x0 x1 x2 x4  h H locs ls hJ I hl
  rw [J_Mod_hire_61] at hJ
  refine lv_iload hx hb dX7_hire_61 (lv_at hl 3 rfl) ?_
  refine lv_istore_n (lv' := [(3, .int x4), (0, .ref x0), (1, .int x1), (2, .int x2), (4, .int x4)]) hx hb dX7_hire_63 rfl hl (by decide) rfl (fun ls hl => ?_)
  refine lv_iinc (v := (x4 + (1 : Int32))) (lv' := [(4, .int (x4 + (1 : Int32))), (3, .int x4), (0, .ref x0), (1, .int x1), (2, .int x2)]) hx hb dX7_hire_64 hl (k := 4) rfl rfl (by decide) rfl (fun ls hl => ?_)
  refine lv_goto (tgt := 24) hx hb dX7_hire_67 (by decide) ?_
  exact k24 _ _ _ _ _ _ _ _ _ hJ I (lv_sub hl [2, 3, 4, 1, 0] rfl)
set_option maxHeartbeats 4000000 in
set_option maxRecDepth 100000 in
theorem w_Mod_hire_24 (X : Cx p s m args meth c D vwCl tys cX7_hire 5 RX7 wsG) (hN : nwS s) (hr : meth.sig.returnType = none) {res : (Unit × Hp)} {N : Nat} {r2 : Nat → Int32 → Int32 → Hp → Option (Unit × Hp)} (k2 : ∀ (x0 : Nat) (x1 : Int32) (x2 : Int32) (h : Hp) (H : Heap) (locs : List Loc) (ls : Array Slot), r2 x0 x1 x2 h = some res → In D vwCl tys A s h H locs → lv_has ls 5 [(0, .ref x0), (1, .int x1), (2, .int x2)] → W p l e rmX7_hire s m args below meth c H locs 0 0 (MQ below (Qr D vwCl tys A none res.2) args s 0 0 A) (F0 m 2 ls [])) : ∀ (n : Nat) (x0 : Nat) (x1 : Int32) (x2 : Int32) (x3 : Int32) (x4 : Int32)  (h : Hp) (H : Heap) (locs : List Loc) (ls : Array Slot), J_Mod_hire_24 N r2 n x0 x1 x2 x3 x4 h = some res → In D vwCl tys A s h H locs → lv_has ls 5 [(0, .ref x0), (1, .int x1), (2, .int x2), (3, .int x3), (4, .int x4)] → W p l e rmX7_hire s m args below meth c H locs 0 0 (MQ below (Qr D vwCl tys A none res.2) args s 0 0 A) (F0 m 24 ls []) := by
  have hx := X.1.1
  have hb := X.1.2.1
  have hml := X.1.2.2.1
  have ho := X.1.2.2.2.1
  have hts := X.1.2.2.2.2
  have hK := X.2.1
  have hT := X.2.2.2
  intro n
  induction n with
  | zero =>
    intro x0 x1 x2 x3 x4  h H locs ls hJ I hl
    exact nomatch (show (none : Option (Unit × Hp)) = some res from hJ)
  | succ n k24 =>
    intro x0 x1 x2 x3 x4  h H locs ls hJ I hl
    rw [J_Mod_hire_24] at hJ
    refine lv_iload hx hb dX7_hire_24 (lv_at hl 4 rfl) ?_
    refine lv_bipush (v := 40) hx hb dX7_hire_26 (by decide) ?_
    refine lv_icmp_ge (tgt := 70) hx hb dX7_hire_28 (by decide) (fun c9 => ?_) (fun c9 => ?_)
    · rw [if_pos c9] at hJ
      refine lv_iload_n hx hb dX7_hire_70 rfl (lv_at hl 3 rfl) ?_
      refine lv_iconst (v := -1) hx hb dX7_hire_71 (by decide) ?_
      refine lv_icmp_ne (tgt := 76) hx hb dX7_hire_72 (by decide) (fun c9 => ?_) (fun c9 => ?_)
      · rw [if_neg c9] at hJ
        refine lv_aload_n hx hb dX7_hire_76 rfl (lv_at hl 0 rfl) ?_
        obtain ⟨v3, e9, hJ⟩ := rp_b hJ
        obtain ⟨f9, g9, e9⟩ := fR_s e9
        refine rp_get X I g9 e9 rfl wiX7 (by decide) wm_569 dX7_hire_77 ?_
        refine lv_aload_n hx hb dX7_hire_80 rfl (lv_at hl 0 rfl) ?_
        obtain ⟨v4, e9, hJ⟩ := rp_b hJ
        obtain ⟨f9, g9, e9⟩ := fI_s e9
        refine rp_get X I g9 e9 rfl wiX7 (by decide) wm_561 dX7_hire_81 ?_
        refine lv_aload_n hx hb dX7_hire_84 rfl (lv_at hl 0 rfl) ?_
        refine lv_iload_n hx hb dX7_hire_85 rfl (lv_at hl 3 rfl) ?_
        obtain ⟨u9, i9, hJ⟩ := rp_b hJ
        obtain ⟨f9, i9⟩ := isO_s i9
        obtain ⟨q5, e9, hJ⟩ := rp_b hJ
        refine rp_callV (As := [.int x3]) (rest := [.int v4, .ref v3]) X hN I (c_Mod_why hT e9) (cwV 1 hts (gdV wm_652 wm_653 wm_17 wm_40 wm_654) rfl rfl rfl (by decide +kernel) ⟨Nat.le_of_ble_eq_true rfl, Nat.le_of_ble_eq_true rfl⟩) i9 rfl rfl hl.1 rfl (Nat.le_of_ble_eq_true rfl) dX7_hire_86 ⟨(Nat.le_of_ble_eq_true rfl), (Nat.le_of_ble_eq_true rfl)⟩ (fun H locs I => ?_)
        refine W.cs (cells' := 0) (slots' := 0) rfl rfl ?_
        obtain ⟨h6, e9, hJ⟩ := rp_b hJ
        refine rp_iast X I e9 rfl dX7_hire_89 (fun H locs I => ?_)
        refine lv_aload_n hx hb dX7_hire_90 rfl (lv_at hl 0 rfl) ?_
        refine lv_iload_n hx hb dX7_hire_91 rfl (lv_at hl 3 rfl) ?_
        refine lv_iload_n hx hb dX7_hire_92 rfl (lv_at hl 2 rfl) ?_
        obtain ⟨u9, i9, hJ⟩ := rp_b hJ
        obtain ⟨f9, i9⟩ := isO_s i9
        obtain ⟨q7, e9, hJ⟩ := rp_b hJ
        refine rp_callV (As := [.int x3, .int x2]) (rest := []) X hN I (c_Mod_start hT e9) (cwV 2 hts (gdV wm_698 wm_699 wm_31 wm_40 wm_700) rfl rfl rfl (by decide +kernel) ⟨Nat.le_of_ble_eq_true rfl, Nat.le_of_ble_eq_true rfl⟩) i9 rfl rfl hl.1 rfl (Nat.le_of_ble_eq_true rfl) dX7_hire_93 ⟨(Nat.le_of_ble_eq_true rfl), (Nat.le_of_ble_eq_true rfl)⟩ (fun H locs I => ?_)
        refine W.cs (cells' := 0) (slots' := 0) rfl rfl ?_
        refine lv_iinc (v := (x2 + (1 : Int32))) (lv' := [(2, .int (x2 + (1 : Int32))), (0, .ref x0), (1, .int x1), (3, .int x3), (4, .int x4)]) hx hb dX7_hire_96 hl (k := 2) rfl rfl (by decide) rfl (fun ls hl => ?_)
        refine lv_goto (tgt := 2) hx hb dX7_hire_99 (by decide) ?_
        exact k2 _ _ _ _ _ _ _ hJ I (lv_sub hl [1, 2, 0] rfl)
      · rw [if_pos c9] at hJ
        exact rp_vret X hr hJ I dX7_hire_75
    · rw [if_neg c9] at hJ
      refine lv_aload_n hx hb dX7_hire_31 rfl (lv_at hl 0 rfl) ?_
      refine lv_iload hx hb dX7_hire_32 (lv_at hl 4 rfl) ?_
      obtain ⟨u9, i9, hJ⟩ := rp_b hJ
      obtain ⟨f9, i9⟩ := isO_s i9
      obtain ⟨q8, e9, hJ⟩ := rp_b hJ
      refine rp_callV (As := [.int x4]) (rest := []) X hN I (c_Mod_isReady hT e9) (cwV 1 hts (gdV wm_692 wm_693 wm_29 wm_40 wm_694) rfl rfl rfl (by decide +kernel) ⟨Nat.le_of_ble_eq_true rfl, Nat.le_of_ble_eq_true rfl⟩) i9 rfl rfl hl.1 rfl (Nat.le_of_ble_eq_true rfl) dX7_hire_34 ⟨(Nat.le_of_ble_eq_true rfl), (Nat.le_of_ble_eq_true rfl)⟩ (fun H locs I => ?_)
      refine W.cs (cells' := 0) (slots' := 0) rfl rfl ?_
      refine lv_if_eq (tgt := 64) hx hb dX7_hire_37 (by decide) (fun c9 => ?_) (fun c9 => ?_)
      · rw [if_pos c9] at hJ
        refine lv_iinc (v := (x4 + (1 : Int32))) (lv' := [(4, .int (x4 + (1 : Int32))), (0, .ref x0), (1, .int x1), (2, .int x2), (3, .int x3)]) hx hb dX7_hire_64 hl (k := 4) rfl rfl (by decide) rfl (fun ls hl => ?_)
        refine lv_goto (tgt := 24) hx hb dX7_hire_67 (by decide) ?_
        exact k24 _ _ _ _ _ _ _ _ _ hJ I (lv_sub hl [1, 2, 3, 4, 0] rfl)
      · rw [if_neg c9] at hJ
        refine lv_iload_n hx hb dX7_hire_40 rfl (lv_at hl 3 rfl) ?_
        refine lv_iconst (v := -1) hx hb dX7_hire_41 (by decide) ?_
        refine lv_icmp_eq (tgt := 61) hx hb dX7_hire_42 (by decide) (fun c9 => ?_) (fun c9 => ?_)
        · rw [if_pos c9] at hJ
          exact w_Mod_hire_61 X hN hr k2 k24 _ _ _ _ _ _ _ _ hJ I (lv_sub hl [0, 1, 2, 4] rfl)
        · rw [if_neg c9] at hJ
          refine lv_aload_n hx hb dX7_hire_45 rfl (lv_at hl 0 rfl) ?_
          obtain ⟨v9, e9, hJ⟩ := rp_b hJ
          obtain ⟨f9, g9, e9⟩ := fR_s e9
          refine rp_get X I g9 e9 rfl wiX7 (by decide) wm_554 dX7_hire_46 ?_
          refine lv_iload hx hb dX7_hire_49 (lv_at hl 4 rfl) ?_
          obtain ⟨v10, e9, hJ⟩ := rp_b hJ
          refine rp_iald X I e9 rfl dX7_hire_51 ?_
          refine lv_aload_n hx hb dX7_hire_52 rfl (lv_at hl 0 rfl) ?_
          obtain ⟨v11, e9, hJ⟩ := rp_b hJ
          obtain ⟨f9, g9, e9⟩ := fR_s e9
          refine rp_get X I g9 e9 rfl wiX7 (by decide) wm_554 dX7_hire_53 ?_
          refine lv_iload_n hx hb dX7_hire_56 rfl (lv_at hl 3 rfl) ?_
          obtain ⟨v12, e9, hJ⟩ := rp_b hJ
          refine rp_iald X I e9 rfl dX7_hire_57 ?_
          refine lv_icmp_le (tgt := 64) hx hb dX7_hire_58 (by decide) (fun c9 => ?_) (fun c9 => ?_)
          · rw [if_pos c9] at hJ
            refine lv_iinc (v := (x4 + (1 : Int32))) (lv' := [(4, .int (x4 + (1 : Int32))), (0, .ref x0), (1, .int x1), (2, .int x2), (3, .int x3)]) hx hb dX7_hire_64 hl (k := 4) rfl rfl (by decide) rfl (fun ls hl => ?_)
            refine lv_goto (tgt := 24) hx hb dX7_hire_67 (by decide) ?_
            exact k24 _ _ _ _ _ _ _ _ _ hJ I (lv_sub hl [1, 2, 3, 4, 0] rfl)
          · rw [if_neg c9] at hJ
            exact w_Mod_hire_61 X hN hr k2 k24 _ _ _ _ _ _ _ _ hJ I (lv_sub hl [0, 1, 2, 4] rfl)
set_option maxHeartbeats 4000000 in
set_option maxRecDepth 100000 in
theorem w_Mod_hire_2 (X : Cx p s m args meth c D vwCl tys cX7_hire 5 RX7 wsG) (hN : nwS s) (hr : meth.sig.returnType = none) {res : (Unit × Hp)} {N : Nat}   : ∀ (n : Nat) (x0 : Nat) (x1 : Int32) (x2 : Int32)  (h : Hp) (H : Heap) (locs : List Loc) (ls : Array Slot), J_Mod_hire_2 N n x0 x1 x2 h = some res → In D vwCl tys A s h H locs → lv_has ls 5 [(0, .ref x0), (1, .int x1), (2, .int x2)] → W p l e rmX7_hire s m args below meth c H locs 0 0 (MQ below (Qr D vwCl tys A none res.2) args s 0 0 A) (F0 m 2 ls []) := by
  have hx := X.1.1
  have hb := X.1.2.1
  have hml := X.1.2.2.1
  have ho := X.1.2.2.2.1
  have hts := X.1.2.2.2.2
  have hK := X.2.1
  have hT := X.2.2.2
  intro n
  induction n with
  | zero =>
    intro x0 x1 x2  h H locs ls hJ I hl
    exact nomatch (show (none : Option (Unit × Hp)) = some res from hJ)
  | succ n k2 =>
    intro x0 x1 x2  h H locs ls hJ I hl
    rw [J_Mod_hire_2] at hJ
    refine lv_iload_n hx hb dX7_hire_2 rfl (lv_at hl 2 rfl) ?_
    refine lv_iload_n hx hb dX7_hire_3 rfl (lv_at hl 1 rfl) ?_
    refine lv_icmp_ge (tgt := 102) hx hb dX7_hire_4 (by decide) (fun c9 => ?_) (fun c9 => ?_)
    · rw [if_pos c9] at hJ
      exact rp_vret X hr hJ I dX7_hire_102
    · rw [if_neg c9] at hJ
      refine lv_aload_n hx hb dX7_hire_7 rfl (lv_at hl 0 rfl) ?_
      obtain ⟨v1, e9, hJ⟩ := rp_b hJ
      obtain ⟨f9, g9, e9⟩ := fR_s e9
      refine rp_get X I g9 e9 rfl wiX7 (by decide) wm_559 dX7_hire_8 ?_
      refine lv_iload_n hx hb dX7_hire_11 rfl (lv_at hl 2 rfl) ?_
      obtain ⟨v2, e9, hJ⟩ := rp_b hJ
      refine rp_zald X I e9 rfl dX7_hire_12 ?_
      refine lv_if_eq (tgt := 19) hx hb dX7_hire_13 (by decide) (fun c9 => ?_) (fun c9 => ?_)
      · rw [if_pos c9] at hJ
        refine lv_iconst (v := -1) hx hb dX7_hire_19 (by decide) ?_
        refine lv_istore_n (lv' := [(3, .int (-1 : Int32)), (0, .ref x0), (1, .int x1), (2, .int x2)]) hx hb dX7_hire_20 rfl hl (by decide) rfl (fun ls hl => ?_)
        refine lv_iconst (v := 0) hx hb dX7_hire_21 (by decide) ?_
        refine lv_istore (lv' := [(4, .int (0 : Int32)), (3, .int (-1 : Int32)), (0, .ref x0), (1, .int x1), (2, .int x2)]) hx hb dX7_hire_22 hl (by decide) rfl (fun ls hl => ?_)
        exact w_Mod_hire_24 X hN hr k2 N _ _ _ _ _ _ _ _ _ hJ I (lv_sub hl [2, 3, 4, 1, 0] rfl)
      · rw [if_neg c9] at hJ
        refine lv_goto (tgt := 96) hx hb dX7_hire_16 (by decide) ?_
        refine lv_iinc (v := (x2 + (1 : Int32))) (lv' := [(2, .int (x2 + (1 : Int32))), (0, .ref x0), (1, .int x1)]) hx hb dX7_hire_96 hl (k := 2) rfl rfl (by decide) rfl (fun ls hl => ?_)
        refine lv_goto (tgt := 2) hx hb dX7_hire_99 (by decide) ?_
        exact k2 _ _ _ _ _ _ _ hJ I (lv_sub hl [1, 2, 0] rfl)
set_option maxHeartbeats 4000000 in
set_option maxRecDepth 100000 in
theorem c_Mod_hire {l : Launch} {D : va_G} {tys : List (ClassId × FieldType)} {A : Nat → Prop} (hT : tys.map (fun q => q.2) = tyS) {N : Nat} {x0 : Nat} {x1 : Int32} {h : Hp} {res : (Unit × Hp)} (hJ : J_Mod_hire N x0 x1 h = some res) : Ct l D vwCl tys A yX7_hire (Cond.code yX7_hire cX7_hire 5 none :: wsG) rmX7_hire [.ref x0, .int x1] h none res.2 := by
  refine Met.ofW (cc := cX7_hire) (maxL := 5) (ret := none) (by decide) rfl ?_
  intro p e s m args below meth c s₁ B hml hv
  obtain ⟨rfl, hA, hR, hK, hN⟩ := hv
  have hr := B.returns
  have hts : ∀ w ∈ wsG, w.before [.ref x0, .int x1].toArray s = true := fun w hw => atoms_spec (ws := Cond.code yX7_hire cX7_hire 5 none :: wsG) B.pre w (List.mem_cons_of_mem _ hw)
  have X : Cx p s m [.ref x0, .int x1].toArray meth c D vwCl tys cX7_hire 5 RX7 wsG := ⟨⟨B.exec, B.bytes, hml, findClass_of_methodNamed B.named, hts⟩, hK, B.notSynchronized, hT⟩
  have hx := B.exec
  have hb := B.bytes
  have I : In D vwCl tys A s h s.heap [] := ⟨hR, va_S.rf, hA⟩
  have hl := lv_entry [.ref x0, .int x1] (n := 5) (Nat.le_of_ble_eq_true rfl)
  rw [lg_entry_eq]
  generalize (lg_sl [.ref x0, .int x1] ++ List.replicate (5 - (lg_sl [.ref x0, .int x1]).length) Slot.unset).toArray = ls at hl ⊢
  have hl : lv_has ls 5 [(0, .ref x0), (1, .int x1)] := hl
  have ho := X.1.2.2.2.1
  rw [J_Mod_hire] at hJ
  refine lv_iconst (v := 0) hx hb dX7_hire_0 (by decide) ?_
  refine lv_istore_n (lv' := [(2, .int (0 : Int32)), (0, .ref x0), (1, .int x1)]) hx hb dX7_hire_1 rfl hl (by decide) rfl (fun ls hl => ?_)
  exact w_Mod_hire_2 X hN hr N _ _ _ _ _ _ _ hJ I (lv_sub hl [1, 2, 0] rfl)
def rmX7_build : Room := { frames := 3, cells := 0, slots := 0, locals := 72 }
def J_Mod_build_18 (N : Nat)  (x0 : Nat)  (h : Hp) : Option (Int32 × Hp) :=
  (isO h 7 x0).bind fun _ =>
  (J_Mod_raise N x0 (1 : Int32) h).bind fun q2 =>
 some (q2.1, q2.2)
def J_Mod_build_44 (N : Nat)  (x0 : Nat)  (h : Hp) : Option (Int32 × Hp) :=
  (isO h 7 x0).bind fun _ =>
  (J_Mod_raise N x0 (2 : Int32) h).bind fun q5 =>
 some (q5.1, q5.2)
def J_Mod_build_309 (N : Nat) (r181 : Nat → Int32 → Int32 → Hp → Option (Int32 × Hp)) (x0 : Nat) (x2 : Int32) (x4 : Int32) (y0 : Int32) (h : Hp) : Option (Int32 × Hp) :=
  if y0 = 0 then
  (r181 x0 x2 y0 h)
  else
  ((sF h 7 x0 27 (.int x4)).bind fun h17 =>
  r181 x0 x2 y0 h17)
def J_Mod_build_283 (N : Nat) (r181 : Nat → Int32 → Int32 → Hp → Option (Int32 × Hp)) (r247 : Nat → Int32 → Int32 → Int32 → Hp → Option (Int32 × Hp)) (x0 : Nat) (x2 : Int32) (x5 : Int32)  (h : Hp) : Option (Int32 × Hp) :=
  (fR h 7 x0 23).bind fun v20 =>
  (aI h 0 v20 x5).bind fun v21 =>
  r247 x0 x2 v21 (x5 + (1 : Int32)) h
def J_Mod_build_247 (N : Nat) (r181 : Nat → Int32 → Int32 → Hp → Option (Int32 × Hp)) : Nat → Nat → Int32 → Int32 → Int32 → Hp → Option (Int32 × Hp)
  | 0, _, _, _, _, _ => none
  | n + 1, x0, x2, x4, x5, h =>
  if (40 : Int32) ≤ x5 then
  (if x4 = (-1 : Int32) then
  (J_Mod_build_309 N r181 x0 x2 x4 (0 : Int32) h)
  else
  (J_Mod_build_309 N r181 x0 x2 x4 (1 : Int32) h))
  else
  ((fR h 7 x0 22).bind fun v18 =>
  (aI h 0 v18 x5).bind fun v19 =>
  if v19 = (1 : Int32) then
  (if x4 = (-1 : Int32) then
  (J_Mod_build_283 N r181 (J_Mod_build_247 N r181 n) x0 x2 x5 h)
  else
  ((fR h 7 x0 23).bind fun v22 =>
  (aI h 0 v22 x5).bind fun v23 =>
  if x4 ≤ v23 then
  ((J_Mod_build_247 N r181 n) x0 x2 x4 (x5 + (1 : Int32)) h)
  else
  (J_Mod_build_283 N r181 (J_Mod_build_247 N r181 n) x0 x2 x5 h)))
  else
  ((J_Mod_build_247 N r181 n) x0 x2 x4 (x5 + (1 : Int32)) h))
def J_Mod_build_188 (N : Nat) (r181 : Nat → Int32 → Int32 → Hp → Option (Int32 × Hp)) : Nat → Nat → Int32 → Int32 → Hp → Option (Int32 × Hp)
  | 0, _, _, _, _ => none
  | n + 1, x0, x2, x4, h =>
  if (40 : Int32) ≤ x4 then
  ((isO h 7 x0).bind fun _ =>
  (J_Mod_pass N x0 h).bind fun q15 =>
 (isO q15.2 7 x0).bind fun _ =>
  (J_Mod_hire N x0 x2 q15.2).bind fun q16 =>
 J_Mod_build_247 N r181 N x0 x2 (-1 : Int32) (0 : Int32) q16.2)
  else
  ((fR h 7 x0 22).bind fun v24 =>
  (aI h 0 v24 x4).bind fun v25 =>
  if v25 = (1 : Int32) then
  ((fR h 7 x0 23).bind fun v26 =>
  (aI h 0 v26 x4).bind fun v27 =>
  (fI h 7 x0 27).bind fun v28 =>
  if v27 = v28 then
  ((isO h 7 x0).bind fun _ =>
  (J_Mod_end N x0 x4 h).bind fun q29 =>
 (J_Mod_build_188 N r181 n) x0 x2 (x4 + (1 : Int32)) q29.2)
  else
  ((J_Mod_build_188 N r181 n) x0 x2 (x4 + (1 : Int32)) h))
  else
  ((J_Mod_build_188 N r181 n) x0 x2 (x4 + (1 : Int32)) h))
def J_Mod_build_181 (N : Nat)  : Nat → Nat → Int32 → Int32 → Hp → Option (Int32 × Hp)
  | 0, _, _, _, _ => none
  | n + 1, x0, x2, x3, h =>
  if x3 = 0 then
  ((fI h 7 x0 27).bind fun v14 =>
  some (v14, h))
  else
  (J_Mod_build_188 N (J_Mod_build_181 N n) N x0 x2 (0 : Int32) h)
def J_Mod_build_160 (N : Nat)  : Nat → Nat → Int32 → Int32 → Hp → Option (Int32 × Hp)
  | 0, _, _, _, _ => none
  | n + 1, x0, x2, x3, h =>
  if (8 : Int32) ≤ x3 then
  (J_Mod_build_181 N N x0 x2 (1 : Int32) h)
  else
  ((fR h 7 x0 26).bind fun v30 =>
  (sB h 1 v30 x3 (0 : Int32)).bind fun h31 =>
  (J_Mod_build_160 N n) x0 x2 (x3 + (1 : Int32)) h31)
def J_Mod_build_118 (N : Nat) (r86 : Nat → Int32 → Int32 → Hp → Option (Int32 × Hp)) (x0 : Nat) (x2 : Int32) (x3 : Int32) (y0 : Nat) (y1 : Int32) (y2 : Int32) (h : Hp) : Option (Int32 × Hp) :=
  (sF h 7 y0 29 (.int (y1 + y2))).bind fun h37 =>
  (fR h37 7 x0 21).bind fun v38 =>
  (aI h37 0 v38 x3).bind fun v39 =>
  (fI h37 7 x0 31).bind fun v40 =>
  if v39 ≤ v40 then
  ((fI h37 7 x0 31).bind fun v41 =>
  (sF h37 7 x0 31 (.int v41)).bind fun h42 =>
  r86 x0 x2 (x3 + (1 : Int32)) h42)
  else
  ((fR h37 7 x0 21).bind fun v43 =>
  (aI h37 0 v43 x3).bind fun v44 =>
  (sF h37 7 x0 31 (.int v44)).bind fun h45 =>
  r86 x0 x2 (x3 + (1 : Int32)) h45)
def J_Mod_build_86 (N : Nat)  : Nat → Nat → Int32 → Int32 → Hp → Option (Int32 × Hp)
  | 0, _, _, _, _ => none
  | n + 1, x0, x2, x3, h =>
  if (40 : Int32) ≤ x3 then
  (J_Mod_build_160 N N x0 x2 (0 : Int32) h)
  else
  ((fR h 7 x0 22).bind fun v32 =>
  (sI h 0 v32 x3 (0 : Int32)).bind fun h33 =>
  (fI h33 7 x0 29).bind fun v34 =>
  (fR h33 7 x0 20).bind fun v35 =>
  (aI h33 1 v35 x3).bind fun v36 =>
  if v36 = 0 then
  (J_Mod_build_118 N (J_Mod_build_86 N n) x0 x2 x3 x0 v34 (0 : Int32) h33)
  else
  (J_Mod_build_118 N (J_Mod_build_86 N n) x0 x2 x3 x0 v34 (1 : Int32) h33))
def J_Mod_build (N : Nat) (x0 : Nat) (x1 : Int32) (x2 : Int32) (h : Hp) : Option (Int32 × Hp) :=
  (J_Mod_isFile N x1 h).bind fun q1 =>
 if q1.1 = 0 then
  (J_Mod_build_18 N x0 q1.2)
  else
  (if x2 < (1 : Int32) then
  (J_Mod_build_18 N x0 q1.2)
  else
  (if x2 ≤ (8 : Int32) then
  ((isO q1.2 7 x0).bind fun _ =>
  (J_Mod_spread N x0 x1 q1.2).bind fun q3 =>
 (isO q3.2 7 x0).bind fun _ =>
  (J_Mod_isRound N x0 q3.2).bind fun q4 =>
 if q4.1 = 0 then
  ((isO q4.2 7 x0).bind fun _ =>
  (J_Mod_isLacking N x0 x1 q4.2).bind fun q6 =>
 if q6.1 = 0 then
  ((sF q6.2 7 x0 0 (.int (0 : Int32))).bind fun h7 =>
  (isO h7 7 x0).bind fun _ =>
  (J_Mod_order N x0 h7).bind fun q8 =>
 (sF q8.2 7 x0 28 (.int (0 : Int32))).bind fun h9 =>
  (sF h9 7 x0 29 (.int (0 : Int32))).bind fun h10 =>
  (sF h10 7 x0 30 (.int (0 : Int32))).bind fun h11 =>
  (sF h11 7 x0 31 (.int (0 : Int32))).bind fun h12 =>
  (sF h12 7 x0 27 (.int (0 : Int32))).bind fun h13 =>
  J_Mod_build_86 N N x0 x2 (0 : Int32) h13)
  else
  (J_Mod_build_44 N x0 q6.2))
  else
  (J_Mod_build_44 N x0 q4.2))
  else
  (J_Mod_build_18 N x0 q1.2)))
set_option maxHeartbeats 4000000 in
set_option maxRecDepth 100000 in
theorem w_Mod_build_18 (X : Cx p s m args meth c D vwCl tys cX7_build 6 RX7 wsG) (hN : nwS s) (hr : meth.sig.returnType = (some .int)) {res : (Int32 × Hp)} {N : Nat}   : ∀ (x0 : Nat)  (h : Hp) (H : Heap) (locs : List Loc) (ls : Array Slot), J_Mod_build_18 N x0 h = some res → In D vwCl tys A s h H locs → lv_has ls 6 [(0, .ref x0)] → W p l e rmX7_build s m args below meth c H locs 0 0 (MQ below (Qr D vwCl tys A (some (.int res.1)) res.2) args s 0 0 A) (F0 m 18 ls []) := by
  have hx := X.1.1
  have hb := X.1.2.1
  have hml := X.1.2.2.1
  have ho := X.1.2.2.2.1
  have hts := X.1.2.2.2.2
  have hK := X.2.1
  have hT := X.2.2.2
  intro x0  h H locs ls hJ I hl
  rw [J_Mod_build_18] at hJ
  refine lv_aload_n hx hb dX7_build_18 rfl (lv_at hl 0 rfl) ?_
  refine lv_iconst (v := 1) hx hb dX7_build_19 (by decide) ?_
  obtain ⟨u9, i9, hJ⟩ := rp_b hJ
  obtain ⟨f9, i9⟩ := isO_s i9
  obtain ⟨q2, e9, hJ⟩ := rp_b hJ
  refine rp_callV (As := [.int (1 : Int32)]) (rest := []) X hN I (c_Mod_raise hT e9) (cwV 1 hts (gdV wm_662 wm_663 wm_19 wm_40 wm_664) rfl rfl rfl (by decide +kernel) ⟨Nat.le_of_ble_eq_true rfl, Nat.le_of_ble_eq_true rfl⟩) i9 rfl rfl hl.1 rfl (Nat.le_of_ble_eq_true rfl) dX7_build_20 ⟨(Nat.le_of_ble_eq_true rfl), (Nat.le_of_ble_eq_true rfl)⟩ (fun H locs I => ?_)
  refine W.cs (cells' := 0) (slots' := 0) rfl rfl ?_
  exact rp_iret X hr hJ I dX7_build_23
set_option maxHeartbeats 4000000 in
set_option maxRecDepth 100000 in
theorem w_Mod_build_44 (X : Cx p s m args meth c D vwCl tys cX7_build 6 RX7 wsG) (hN : nwS s) (hr : meth.sig.returnType = (some .int)) {res : (Int32 × Hp)} {N : Nat}   : ∀ (x0 : Nat)  (h : Hp) (H : Heap) (locs : List Loc) (ls : Array Slot), J_Mod_build_44 N x0 h = some res → In D vwCl tys A s h H locs → lv_has ls 6 [(0, .ref x0)] → W p l e rmX7_build s m args below meth c H locs 0 0 (MQ below (Qr D vwCl tys A (some (.int res.1)) res.2) args s 0 0 A) (F0 m 44 ls []) := by
  have hx := X.1.1
  have hb := X.1.2.1
  have hml := X.1.2.2.1
  have ho := X.1.2.2.2.1
  have hts := X.1.2.2.2.2
  have hK := X.2.1
  have hT := X.2.2.2
  intro x0  h H locs ls hJ I hl
  rw [J_Mod_build_44] at hJ
  refine lv_aload_n hx hb dX7_build_44 rfl (lv_at hl 0 rfl) ?_
  refine lv_iconst (v := 2) hx hb dX7_build_45 (by decide) ?_
  obtain ⟨u9, i9, hJ⟩ := rp_b hJ
  obtain ⟨f9, i9⟩ := isO_s i9
  obtain ⟨q5, e9, hJ⟩ := rp_b hJ
  refine rp_callV (As := [.int (2 : Int32)]) (rest := []) X hN I (c_Mod_raise hT e9) (cwV 1 hts (gdV wm_662 wm_663 wm_19 wm_40 wm_664) rfl rfl rfl (by decide +kernel) ⟨Nat.le_of_ble_eq_true rfl, Nat.le_of_ble_eq_true rfl⟩) i9 rfl rfl hl.1 rfl (Nat.le_of_ble_eq_true rfl) dX7_build_46 ⟨(Nat.le_of_ble_eq_true rfl), (Nat.le_of_ble_eq_true rfl)⟩ (fun H locs I => ?_)
  refine W.cs (cells' := 0) (slots' := 0) rfl rfl ?_
  exact rp_iret X hr hJ I dX7_build_49
set_option maxHeartbeats 4000000 in
set_option maxRecDepth 100000 in
theorem w_Mod_build_309 (X : Cx p s m args meth c D vwCl tys cX7_build 6 RX7 wsG) (hN : nwS s) (hr : meth.sig.returnType = (some .int)) {res : (Int32 × Hp)} {N : Nat} {r181 : Nat → Int32 → Int32 → Hp → Option (Int32 × Hp)} (k181 : ∀ (x0 : Nat) (x2 : Int32) (x3 : Int32) (h : Hp) (H : Heap) (locs : List Loc) (ls : Array Slot), r181 x0 x2 x3 h = some res → In D vwCl tys A s h H locs → lv_has ls 6 [(0, .ref x0), (2, .int x2), (3, .int x3)] → W p l e rmX7_build s m args below meth c H locs 0 0 (MQ below (Qr D vwCl tys A (some (.int res.1)) res.2) args s 0 0 A) (F0 m 181 ls [])) : ∀ (x0 : Nat) (x2 : Int32) (x4 : Int32) (y0 : Int32) (h : Hp) (H : Heap) (locs : List Loc) (ls : Array Slot), J_Mod_build_309 N r181 x0 x2 x4 y0 h = some res → In D vwCl tys A s h H locs → lv_has ls 6 [(0, .ref x0), (2, .int x2), (4, .int x4)] → W p l e rmX7_build s m args below meth c H locs 0 0 (MQ below (Qr D vwCl tys A (some (.int res.1)) res.2) args s 0 0 A) (F0 m 309 ls [.int y0]) := by
  have hx := X.1.1
  have hb := X.1.2.1
  have hml := X.1.2.2.1
  have ho := X.1.2.2.2.1
  have hts := X.1.2.2.2.2
  have hK := X.2.1
  have hT := X.2.2.2
  intro x0 x2 x4 y0 h H locs ls hJ I hl
  rw [J_Mod_build_309] at hJ
  refine lv_istore_n (lv' := [(3, .int y0), (0, .ref x0), (2, .int x2), (4, .int x4)]) hx hb dX7_build_309 rfl hl (by decide) rfl (fun ls hl => ?_)
  refine lv_iload_n hx hb dX7_build_310 rfl (lv_at hl 0 rfl) ?_
  refine lv_if_eq (tgt := 320) hx hb dX7_build_311 (by decide) (fun c9 => ?_) (fun c9 => ?_)
  · rw [if_pos c9] at hJ
    refine lv_goto (tgt := 181) hx hb dX7_build_320 (by decide) ?_
    exact k181 _ _ _ _ _ _ _ hJ I (lv_sub hl [1, 2, 0] rfl)
  · rw [if_neg c9] at hJ
    refine lv_aload_n hx hb dX7_build_314 rfl (lv_at hl 1 rfl) ?_
    refine lv_iload hx hb dX7_build_315 (lv_at hl 3 rfl) ?_
    obtain ⟨h17, e9, hJ⟩ := rp_b hJ
    refine rp_put (ty := .int) X I e9 rfl wiX7 tyX7 tyX7_ok nmX7 (by decide) wm_560 rfl (by decide +kernel) rfl rfl dX7_build_317 (fun H locs I => ?_)
    refine lv_goto (tgt := 181) hx hb dX7_build_320 (by decide) ?_
    exact k181 _ _ _ _ _ _ _ hJ I (lv_sub hl [1, 2, 0] rfl)
set_option maxHeartbeats 4000000 in
set_option maxRecDepth 100000 in
theorem w_Mod_build_283 (X : Cx p s m args meth c D vwCl tys cX7_build 6 RX7 wsG) (hN : nwS s) (hr : meth.sig.returnType = (some .int)) {res : (Int32 × Hp)} {N : Nat} {r181 : Nat → Int32 → Int32 → Hp → Option (Int32 × Hp)} {r247 : Nat → Int32 → Int32 → Int32 → Hp → Option (Int32 × Hp)} (k181 : ∀ (x0 : Nat) (x2 : Int32) (x3 : Int32) (h : Hp) (H : Heap) (locs : List Loc) (ls : Array Slot), r181 x0 x2 x3 h = some res → In D vwCl tys A s h H locs → lv_has ls 6 [(0, .ref x0), (2, .int x2), (3, .int x3)] → W p l e rmX7_build s m args below meth c H locs 0 0 (MQ below (Qr D vwCl tys A (some (.int res.1)) res.2) args s 0 0 A) (F0 m 181 ls [])) (k247 : ∀ (x0 : Nat) (x2 : Int32) (x4 : Int32) (x5 : Int32) (h : Hp) (H : Heap) (locs : List Loc) (ls : Array Slot), r247 x0 x2 x4 x5 h = some res → In D vwCl tys A s h H locs → lv_has ls 6 [(0, .ref x0), (2, .int x2), (4, .int x4), (5, .int x5)] → W p l e rmX7_build s m args below meth c H locs 0 0 (MQ below (Qr D vwCl tys A (some (.int res.1)) res.2) args s 0 0 A) (F0 m 247 ls [])) : ∀ (x0 : Nat) (x2 : Int32) (x5 : Int32)  (h : Hp) (H : Heap) (locs : List Loc) (ls : Array Slot), J_Mod_build_283 N r181 r247 x0 x2 x5 h = some res → In D vwCl tys A s h H locs → lv_has ls 6 [(0, .ref x0), (2, .int x2), (5, .int x5)] → W p l e rmX7_build s m args below meth c H locs 0 0 (MQ below (Qr D vwCl tys A (some (.int res.1)) res.2) args s 0 0 A) (F0 m 283 ls []) := by
  have hx := X.1.1
  have hb := X.1.2.1
  have hml := X.1.2.2.1
  have ho := X.1.2.2.2.1
  have hts := X.1.2.2.2.2
  have hK := X.2.1
  have hT := X.2.2.2
  intro x0 x2 x5  h H locs ls hJ I hl
  rw [J_Mod_build_283] at hJ
  refine lv_aload_n hx hb dX7_build_283 rfl (lv_at hl 0 rfl) ?_
  obtain ⟨v20, e9, hJ⟩ := rp_b hJ
  obtain ⟨f9, g9, e9⟩ := fR_s e9
  refine rp_get X I g9 e9 rfl wiX7 (by decide) wm_556 dX7_build_284 ?_
  refine lv_iload hx hb dX7_build_287 (lv_at hl 2 rfl) ?_
  obtain ⟨v21, e9, hJ⟩ := rp_b hJ
  refine rp_iald X I e9 rfl dX7_build_289 ?_
  refine lv_istore (lv' := [(4, .int v21), (0, .ref x0), (2, .int x2), (5, .int x5)]) hx hb dX7_build_290 hl (by decide) rfl (fun ls hl => ?_)
  refine lv_iinc (v := (x5 + (1 : Int32))) (lv' := [(5, .int (x5 + (1 : Int32))), (4, .int v21), (0, .ref x0), (2, .int x2)]) hx hb dX7_build_292 hl (k := 3) rfl rfl (by decide) rfl (fun ls hl => ?_)
  refine lv_goto (tgt := 247) hx hb dX7_build_295 (by decide) ?_
  exact k247 _ _ _ _ _ _ _ _ hJ I (lv_sub hl [2, 3, 1, 0] rfl)
set_option maxHeartbeats 4000000 in
set_option maxRecDepth 100000 in
theorem w_Mod_build_247 (X : Cx p s m args meth c D vwCl tys cX7_build 6 RX7 wsG) (hN : nwS s) (hr : meth.sig.returnType = (some .int)) {res : (Int32 × Hp)} {N : Nat} {r181 : Nat → Int32 → Int32 → Hp → Option (Int32 × Hp)} (k181 : ∀ (x0 : Nat) (x2 : Int32) (x3 : Int32) (h : Hp) (H : Heap) (locs : List Loc) (ls : Array Slot), r181 x0 x2 x3 h = some res → In D vwCl tys A s h H locs → lv_has ls 6 [(0, .ref x0), (2, .int x2), (3, .int x3)] → W p l e rmX7_build s m args below meth c H locs 0 0 (MQ below (Qr D vwCl tys A (some (.int res.1)) res.2) args s 0 0 A) (F0 m 181 ls [])) : ∀ (n : Nat) (x0 : Nat) (x2 : Int32) (x4 : Int32) (x5 : Int32)  (h : Hp) (H : Heap) (locs : List Loc) (ls : Array Slot), J_Mod_build_247 N r181 n x0 x2 x4 x5 h = some res → In D vwCl tys A s h H locs → lv_has ls 6 [(0, .ref x0), (2, .int x2), (4, .int x4), (5, .int x5)] → W p l e rmX7_build s m args below meth c H locs 0 0 (MQ below (Qr D vwCl tys A (some (.int res.1)) res.2) args s 0 0 A) (F0 m 247 ls []) := by
  have hx := X.1.1
  have hb := X.1.2.1
  have hml := X.1.2.2.1
  have ho := X.1.2.2.2.1
  have hts := X.1.2.2.2.2
  have hK := X.2.1
  have hT := X.2.2.2
  intro n
  induction n with
  | zero =>
    intro x0 x2 x4 x5  h H locs ls hJ I hl
    exact nomatch (show (none : Option (Int32 × Hp)) = some res from hJ)
  | succ n k247 =>
    intro x0 x2 x4 x5  h H locs ls hJ I hl
    rw [J_Mod_build_247] at hJ
    refine lv_iload hx hb dX7_build_247 (lv_at hl 3 rfl) ?_
    refine lv_bipush (v := 40) hx hb dX7_build_249 (by decide) ?_
    refine lv_icmp_ge (tgt := 298) hx hb dX7_build_251 (by decide) (fun c9 => ?_) (fun c9 => ?_)
    · rw [if_pos c9] at hJ
      refine lv_iload hx hb dX7_build_298 (lv_at hl 2 rfl) ?_
      refine lv_iconst (v := -1) hx hb dX7_build_300 (by decide) ?_
      refine lv_icmp_eq (tgt := 308) hx hb dX7_build_301 (by decide) (fun c9 => ?_) (fun c9 => ?_)
      · rw [if_pos c9] at hJ
        refine lv_iconst (v := 0) hx hb dX7_build_308 (by decide) ?_
        exact w_Mod_build_309 X hN hr k181 _ _ _ _ _ _ _ _ hJ I (lv_sub hl [0, 1, 2] rfl)
      · rw [if_neg c9] at hJ
        refine lv_iconst (v := 1) hx hb dX7_build_304 (by decide) ?_
        refine lv_goto (tgt := 309) hx hb dX7_build_305 (by decide) ?_
        exact w_Mod_build_309 X hN hr k181 _ _ _ _ _ _ _ _ hJ I (lv_sub hl [0, 1, 2] rfl)
    · rw [if_neg c9] at hJ
      refine lv_aload_n hx hb dX7_build_254 rfl (lv_at hl 0 rfl) ?_
      obtain ⟨v18, e9, hJ⟩ := rp_b hJ
      obtain ⟨f9, g9, e9⟩ := fR_s e9
      refine rp_get X I g9 e9 rfl wiX7 (by decide) wm_555 dX7_build_255 ?_
      refine lv_iload hx hb dX7_build_258 (lv_at hl 3 rfl) ?_
      obtain ⟨v19, e9, hJ⟩ := rp_b hJ
      refine rp_iald X I e9 rfl dX7_build_260 ?_
      refine lv_iconst (v := 1) hx hb dX7_build_261 (by decide) ?_
      refine lv_icmp_ne (tgt := 292) hx hb dX7_build_262 (by decide) (fun c9 => ?_) (fun c9 => ?_)
      · rw [if_neg c9] at hJ
        refine lv_iinc (v := (x5 + (1 : Int32))) (lv' := [(5, .int (x5 + (1 : Int32))), (0, .ref x0), (2, .int x2), (4, .int x4)]) hx hb dX7_build_292 hl (k := 3) rfl rfl (by decide) rfl (fun ls hl => ?_)
        refine lv_goto (tgt := 247) hx hb dX7_build_295 (by decide) ?_
        exact k247 _ _ _ _ _ _ _ _ hJ I (lv_sub hl [1, 2, 3, 0] rfl)
      · rw [if_pos c9] at hJ
        refine lv_iload hx hb dX7_build_265 (lv_at hl 2 rfl) ?_
        refine lv_iconst (v := -1) hx hb dX7_build_267 (by decide) ?_
        refine lv_icmp_eq (tgt := 283) hx hb dX7_build_268 (by decide) (fun c9 => ?_) (fun c9 => ?_)
        · rw [if_pos c9] at hJ
          exact w_Mod_build_283 X hN hr k181 k247 _ _ _ _ _ _ _ hJ I (lv_sub hl [0, 1, 3] rfl)
        · rw [if_neg c9] at hJ
          refine lv_aload_n hx hb dX7_build_271 rfl (lv_at hl 0 rfl) ?_
          obtain ⟨v22, e9, hJ⟩ := rp_b hJ
          obtain ⟨f9, g9, e9⟩ := fR_s e9
          refine rp_get X I g9 e9 rfl wiX7 (by decide) wm_556 dX7_build_272 ?_
          refine lv_iload hx hb dX7_build_275 (lv_at hl 3 rfl) ?_
          obtain ⟨v23, e9, hJ⟩ := rp_b hJ
          refine rp_iald X I e9 rfl dX7_build_277 ?_
          refine lv_iload hx hb dX7_build_278 (lv_at hl 2 rfl) ?_
          refine lv_icmp_ge (tgt := 292) hx hb dX7_build_280 (by decide) (fun c9 => ?_) (fun c9 => ?_)
          · rw [if_pos c9] at hJ
            refine lv_iinc (v := (x5 + (1 : Int32))) (lv' := [(5, .int (x5 + (1 : Int32))), (0, .ref x0), (2, .int x2), (4, .int x4)]) hx hb dX7_build_292 hl (k := 3) rfl rfl (by decide) rfl (fun ls hl => ?_)
            refine lv_goto (tgt := 247) hx hb dX7_build_295 (by decide) ?_
            exact k247 _ _ _ _ _ _ _ _ hJ I (lv_sub hl [1, 2, 3, 0] rfl)
          · rw [if_neg c9] at hJ
            exact w_Mod_build_283 X hN hr k181 k247 _ _ _ _ _ _ _ hJ I (lv_sub hl [0, 1, 3] rfl)
set_option maxHeartbeats 4000000 in
set_option maxRecDepth 100000 in
theorem w_Mod_build_188 (X : Cx p s m args meth c D vwCl tys cX7_build 6 RX7 wsG) (hN : nwS s) (hr : meth.sig.returnType = (some .int)) {res : (Int32 × Hp)} {N : Nat} {r181 : Nat → Int32 → Int32 → Hp → Option (Int32 × Hp)} (k181 : ∀ (x0 : Nat) (x2 : Int32) (x3 : Int32) (h : Hp) (H : Heap) (locs : List Loc) (ls : Array Slot), r181 x0 x2 x3 h = some res → In D vwCl tys A s h H locs → lv_has ls 6 [(0, .ref x0), (2, .int x2), (3, .int x3)] → W p l e rmX7_build s m args below meth c H locs 0 0 (MQ below (Qr D vwCl tys A (some (.int res.1)) res.2) args s 0 0 A) (F0 m 181 ls [])) : ∀ (n : Nat) (x0 : Nat) (x2 : Int32) (x4 : Int32)  (h : Hp) (H : Heap) (locs : List Loc) (ls : Array Slot), J_Mod_build_188 N r181 n x0 x2 x4 h = some res → In D vwCl tys A s h H locs → lv_has ls 6 [(0, .ref x0), (2, .int x2), (4, .int x4)] → W p l e rmX7_build s m args below meth c H locs 0 0 (MQ below (Qr D vwCl tys A (some (.int res.1)) res.2) args s 0 0 A) (F0 m 188 ls []) := by
  have hx := X.1.1
  have hb := X.1.2.1
  have hml := X.1.2.2.1
  have ho := X.1.2.2.2.1
  have hts := X.1.2.2.2.2
  have hK := X.2.1
  have hT := X.2.2.2
  intro n
  induction n with
  | zero =>
    intro x0 x2 x4  h H locs ls hJ I hl
    exact nomatch (show (none : Option (Int32 × Hp)) = some res from hJ)
  | succ n k188 =>
    intro x0 x2 x4  h H locs ls hJ I hl
    rw [J_Mod_build_188] at hJ
    refine lv_iload hx hb dX7_build_188 (lv_at hl 2 rfl) ?_
    refine lv_bipush (v := 40) hx hb dX7_build_190 (by decide) ?_
    refine lv_icmp_ge (tgt := 232) hx hb dX7_build_192 (by decide) (fun c9 => ?_) (fun c9 => ?_)
    · rw [if_pos c9] at hJ
      refine lv_aload_n hx hb dX7_build_232 rfl (lv_at hl 0 rfl) ?_
      obtain ⟨u9, i9, hJ⟩ := rp_b hJ
      obtain ⟨f9, i9⟩ := isO_s i9
      obtain ⟨q15, e9, hJ⟩ := rp_b hJ
      refine rp_callV (As := []) (rest := []) X hN I (c_Mod_pass hT e9) (cwV 0 hts (gdV wm_689 wm_690 wm_28 wm_40 wm_691) rfl rfl rfl (by decide +kernel) ⟨Nat.le_of_ble_eq_true rfl, Nat.le_of_ble_eq_true rfl⟩) i9 rfl rfl hl.1 rfl (Nat.le_of_ble_eq_true rfl) dX7_build_233 ⟨(Nat.le_of_ble_eq_true rfl), (Nat.le_of_ble_eq_true rfl)⟩ (fun H locs I => ?_)
      refine W.cs (cells' := 0) (slots' := 0) rfl rfl ?_
      refine lv_aload_n hx hb dX7_build_236 rfl (lv_at hl 0 rfl) ?_
      refine lv_iload_n hx hb dX7_build_237 rfl (lv_at hl 1 rfl) ?_
      obtain ⟨u9, i9, hJ⟩ := rp_b hJ
      obtain ⟨f9, i9⟩ := isO_s i9
      obtain ⟨q16, e9, hJ⟩ := rp_b hJ
      refine rp_callV (As := [.int x2]) (rest := []) X hN I (c_Mod_hire hT e9) (cwV 1 hts (gdV wm_695 wm_696 wm_30 wm_40 wm_697) rfl rfl rfl (by decide +kernel) ⟨Nat.le_of_ble_eq_true rfl, Nat.le_of_ble_eq_true rfl⟩) i9 rfl rfl hl.1 rfl (Nat.le_of_ble_eq_true rfl) dX7_build_238 ⟨(Nat.le_of_ble_eq_true rfl), (Nat.le_of_ble_eq_true rfl)⟩ (fun H locs I => ?_)
      refine W.cs (cells' := 0) (slots' := 0) rfl rfl ?_
      refine lv_iconst (v := -1) hx hb dX7_build_241 (by decide) ?_
      refine lv_istore (lv' := [(4, .int (-1 : Int32)), (0, .ref x0), (2, .int x2)]) hx hb dX7_build_242 hl (by decide) rfl (fun ls hl => ?_)
      refine lv_iconst (v := 0) hx hb dX7_build_244 (by decide) ?_
      refine lv_istore (lv' := [(5, .int (0 : Int32)), (4, .int (-1 : Int32)), (0, .ref x0), (2, .int x2)]) hx hb dX7_build_245 hl (by decide) rfl (fun ls hl => ?_)
      exact w_Mod_build_247 X hN hr k181 N _ _ _ _ _ _ _ _ hJ I (lv_sub hl [2, 3, 1, 0] rfl)
    · rw [if_neg c9] at hJ
      refine lv_aload_n hx hb dX7_build_195 rfl (lv_at hl 0 rfl) ?_
      obtain ⟨v24, e9, hJ⟩ := rp_b hJ
      obtain ⟨f9, g9, e9⟩ := fR_s e9
      refine rp_get X I g9 e9 rfl wiX7 (by decide) wm_555 dX7_build_196 ?_
      refine lv_iload hx hb dX7_build_199 (lv_at hl 2 rfl) ?_
      obtain ⟨v25, e9, hJ⟩ := rp_b hJ
      refine rp_iald X I e9 rfl dX7_build_201 ?_
      refine lv_iconst (v := 1) hx hb dX7_build_202 (by decide) ?_
      refine lv_icmp_ne (tgt := 226) hx hb dX7_build_203 (by decide) (fun c9 => ?_) (fun c9 => ?_)
      · rw [if_neg c9] at hJ
        refine lv_iinc (v := (x4 + (1 : Int32))) (lv' := [(4, .int (x4 + (1 : Int32))), (0, .ref x0), (2, .int x2)]) hx hb dX7_build_226 hl (k := 2) rfl rfl (by decide) rfl (fun ls hl => ?_)
        refine lv_goto (tgt := 188) hx hb dX7_build_229 (by decide) ?_
        exact k188 _ _ _ _ _ _ _ hJ I (lv_sub hl [1, 2, 0] rfl)
      · rw [if_pos c9] at hJ
        refine lv_aload_n hx hb dX7_build_206 rfl (lv_at hl 0 rfl) ?_
        obtain ⟨v26, e9, hJ⟩ := rp_b hJ
        obtain ⟨f9, g9, e9⟩ := fR_s e9
        refine rp_get X I g9 e9 rfl wiX7 (by decide) wm_556 dX7_build_207 ?_
        refine lv_iload hx hb dX7_build_210 (lv_at hl 2 rfl) ?_
        obtain ⟨v27, e9, hJ⟩ := rp_b hJ
        refine rp_iald X I e9 rfl dX7_build_212 ?_
        refine lv_aload_n hx hb dX7_build_213 rfl (lv_at hl 0 rfl) ?_
        obtain ⟨v28, e9, hJ⟩ := rp_b hJ
        obtain ⟨f9, g9, e9⟩ := fI_s e9
        refine rp_get X I g9 e9 rfl wiX7 (by decide) wm_560 dX7_build_214 ?_
        refine lv_icmp_ne (tgt := 226) hx hb dX7_build_217 (by decide) (fun c9 => ?_) (fun c9 => ?_)
        · rw [if_neg c9] at hJ
          refine lv_iinc (v := (x4 + (1 : Int32))) (lv' := [(4, .int (x4 + (1 : Int32))), (0, .ref x0), (2, .int x2)]) hx hb dX7_build_226 hl (k := 2) rfl rfl (by decide) rfl (fun ls hl => ?_)
          refine lv_goto (tgt := 188) hx hb dX7_build_229 (by decide) ?_
          exact k188 _ _ _ _ _ _ _ hJ I (lv_sub hl [1, 2, 0] rfl)
        · rw [if_pos c9] at hJ
          refine lv_aload_n hx hb dX7_build_220 rfl (lv_at hl 0 rfl) ?_
          refine lv_iload hx hb dX7_build_221 (lv_at hl 2 rfl) ?_
          obtain ⟨u9, i9, hJ⟩ := rp_b hJ
          obtain ⟨f9, i9⟩ := isO_s i9
          obtain ⟨q29, e9, hJ⟩ := rp_b hJ
          refine rp_callV (As := [.int x4]) (rest := []) X hN I (c_Mod_end hT e9) (cwV 1 hts (gdV wm_686 wm_687 wm_27 wm_40 wm_688) rfl rfl rfl (by decide +kernel) ⟨Nat.le_of_ble_eq_true rfl, Nat.le_of_ble_eq_true rfl⟩) i9 rfl rfl hl.1 rfl (Nat.le_of_ble_eq_true rfl) dX7_build_223 ⟨(Nat.le_of_ble_eq_true rfl), (Nat.le_of_ble_eq_true rfl)⟩ (fun H locs I => ?_)
          refine W.cs (cells' := 0) (slots' := 0) rfl rfl ?_
          refine lv_iinc (v := (x4 + (1 : Int32))) (lv' := [(4, .int (x4 + (1 : Int32))), (0, .ref x0), (2, .int x2)]) hx hb dX7_build_226 hl (k := 2) rfl rfl (by decide) rfl (fun ls hl => ?_)
          refine lv_goto (tgt := 188) hx hb dX7_build_229 (by decide) ?_
          exact k188 _ _ _ _ _ _ _ hJ I (lv_sub hl [1, 2, 0] rfl)
set_option maxHeartbeats 4000000 in
set_option maxRecDepth 100000 in
theorem w_Mod_build_181 (X : Cx p s m args meth c D vwCl tys cX7_build 6 RX7 wsG) (hN : nwS s) (hr : meth.sig.returnType = (some .int)) {res : (Int32 × Hp)} {N : Nat}   : ∀ (n : Nat) (x0 : Nat) (x2 : Int32) (x3 : Int32)  (h : Hp) (H : Heap) (locs : List Loc) (ls : Array Slot), J_Mod_build_181 N n x0 x2 x3 h = some res → In D vwCl tys A s h H locs → lv_has ls 6 [(0, .ref x0), (2, .int x2), (3, .int x3)] → W p l e rmX7_build s m args below meth c H locs 0 0 (MQ below (Qr D vwCl tys A (some (.int res.1)) res.2) args s 0 0 A) (F0 m 181 ls []) := by
  have hx := X.1.1
  have hb := X.1.2.1
  have hml := X.1.2.2.1
  have ho := X.1.2.2.2.1
  have hts := X.1.2.2.2.2
  have hK := X.2.1
  have hT := X.2.2.2
  intro n
  induction n with
  | zero =>
    intro x0 x2 x3  h H locs ls hJ I hl
    exact nomatch (show (none : Option (Int32 × Hp)) = some res from hJ)
  | succ n k181 =>
    intro x0 x2 x3  h H locs ls hJ I hl
    rw [J_Mod_build_181] at hJ
    refine lv_iload_n hx hb dX7_build_181 rfl (lv_at hl 2 rfl) ?_
    refine lv_if_eq (tgt := 323) hx hb dX7_build_182 (by decide) (fun c9 => ?_) (fun c9 => ?_)
    · rw [if_pos c9] at hJ
      refine lv_aload_n hx hb dX7_build_323 rfl (lv_at hl 0 rfl) ?_
      obtain ⟨v14, e9, hJ⟩ := rp_b hJ
      obtain ⟨f9, g9, e9⟩ := fI_s e9
      refine rp_get X I g9 e9 rfl wiX7 (by decide) wm_560 dX7_build_324 ?_
      exact rp_iret X hr hJ I dX7_build_327
    · rw [if_neg c9] at hJ
      refine lv_iconst (v := 0) hx hb dX7_build_185 (by decide) ?_
      refine lv_istore (lv' := [(4, .int (0 : Int32)), (0, .ref x0), (2, .int x2), (3, .int x3)]) hx hb dX7_build_186 hl (by decide) rfl (fun ls hl => ?_)
      exact w_Mod_build_188 X hN hr k181 N _ _ _ _ _ _ _ hJ I (lv_sub hl [1, 2, 0] rfl)
set_option maxHeartbeats 4000000 in
set_option maxRecDepth 100000 in
theorem w_Mod_build_160 (X : Cx p s m args meth c D vwCl tys cX7_build 6 RX7 wsG) (hN : nwS s) (hr : meth.sig.returnType = (some .int)) {res : (Int32 × Hp)} {N : Nat}   : ∀ (n : Nat) (x0 : Nat) (x2 : Int32) (x3 : Int32)  (h : Hp) (H : Heap) (locs : List Loc) (ls : Array Slot), J_Mod_build_160 N n x0 x2 x3 h = some res → In D vwCl tys A s h H locs → lv_has ls 6 [(0, .ref x0), (2, .int x2), (3, .int x3)] → W p l e rmX7_build s m args below meth c H locs 0 0 (MQ below (Qr D vwCl tys A (some (.int res.1)) res.2) args s 0 0 A) (F0 m 160 ls []) := by
  have hx := X.1.1
  have hb := X.1.2.1
  have hml := X.1.2.2.1
  have ho := X.1.2.2.2.1
  have hts := X.1.2.2.2.2
  have hK := X.2.1
  have hT := X.2.2.2
  intro n
  induction n with
  | zero =>
    intro x0 x2 x3  h H locs ls hJ I hl
    exact nomatch (show (none : Option (Int32 × Hp)) = some res from hJ)
  | succ n k160 =>
    intro x0 x2 x3  h H locs ls hJ I hl
    rw [J_Mod_build_160] at hJ
    refine lv_iload_n hx hb dX7_build_160 rfl (lv_at hl 2 rfl) ?_
    refine lv_bipush (v := 8) hx hb dX7_build_161 (by decide) ?_
    refine lv_icmp_ge (tgt := 179) hx hb dX7_build_163 (by decide) (fun c9 => ?_) (fun c9 => ?_)
    · rw [if_pos c9] at hJ
      refine lv_iconst (v := 1) hx hb dX7_build_179 (by decide) ?_
      refine lv_istore_n (lv' := [(3, .int (1 : Int32)), (0, .ref x0), (2, .int x2)]) hx hb dX7_build_180 rfl hl (by decide) rfl (fun ls hl => ?_)
      exact w_Mod_build_181 X hN hr N _ _ _ _ _ _ _ hJ I (lv_sub hl [1, 2, 0] rfl)
    · rw [if_neg c9] at hJ
      refine lv_aload_n hx hb dX7_build_166 rfl (lv_at hl 0 rfl) ?_
      obtain ⟨v30, e9, hJ⟩ := rp_b hJ
      obtain ⟨f9, g9, e9⟩ := fR_s e9
      refine rp_get X I g9 e9 rfl wiX7 (by decide) wm_559 dX7_build_167 ?_
      refine lv_iload_n hx hb dX7_build_170 rfl (lv_at hl 2 rfl) ?_
      refine lv_iconst (v := 0) hx hb dX7_build_171 (by decide) ?_
      obtain ⟨h31, e9, hJ⟩ := rp_b hJ
      refine rp_zast X I e9 rfl dX7_build_172 (fun H locs I => ?_)
      refine lv_iinc (v := (x3 + (1 : Int32))) (lv' := [(3, .int (x3 + (1 : Int32))), (0, .ref x0), (2, .int x2)]) hx hb dX7_build_173 hl (k := 2) rfl rfl (by decide) rfl (fun ls hl => ?_)
      refine lv_goto (tgt := 160) hx hb dX7_build_176 (by decide) ?_
      exact k160 _ _ _ _ _ _ _ hJ I (lv_sub hl [1, 2, 0] rfl)
set_option maxHeartbeats 4000000 in
set_option maxRecDepth 100000 in
theorem w_Mod_build_118 (X : Cx p s m args meth c D vwCl tys cX7_build 6 RX7 wsG) (hN : nwS s) (hr : meth.sig.returnType = (some .int)) {res : (Int32 × Hp)} {N : Nat} {r86 : Nat → Int32 → Int32 → Hp → Option (Int32 × Hp)} (k86 : ∀ (x0 : Nat) (x2 : Int32) (x3 : Int32) (h : Hp) (H : Heap) (locs : List Loc) (ls : Array Slot), r86 x0 x2 x3 h = some res → In D vwCl tys A s h H locs → lv_has ls 6 [(0, .ref x0), (2, .int x2), (3, .int x3)] → W p l e rmX7_build s m args below meth c H locs 0 0 (MQ below (Qr D vwCl tys A (some (.int res.1)) res.2) args s 0 0 A) (F0 m 86 ls [])) : ∀ (x0 : Nat) (x2 : Int32) (x3 : Int32) (y0 : Nat) (y1 : Int32) (y2 : Int32) (h : Hp) (H : Heap) (locs : List Loc) (ls : Array Slot), J_Mod_build_118 N r86 x0 x2 x3 y0 y1 y2 h = some res → In D vwCl tys A s h H locs → lv_has ls 6 [(0, .ref x0), (2, .int x2), (3, .int x3)] → W p l e rmX7_build s m args below meth c H locs 0 0 (MQ below (Qr D vwCl tys A (some (.int res.1)) res.2) args s 0 0 A) (F0 m 118 ls [.int y2, .int y1, .ref y0]) := by
  have hx := X.1.1
  have hb := X.1.2.1
  have hml := X.1.2.2.1
  have ho := X.1.2.2.2.1
  have hts := X.1.2.2.2.2
  have hK := X.2.1
  have hT := X.2.2.2
  intro x0 x2 x3 y0 y1 y2 h H locs ls hJ I hl
  rw [J_Mod_build_118] at hJ
  refine lv_iadd hx hb dX7_build_118 ?_
  obtain ⟨h37, e9, hJ⟩ := rp_b hJ
  refine rp_put (ty := .int) X I e9 rfl wiX7 tyX7 tyX7_ok nmX7 (by decide) wm_562 rfl (by decide +kernel) rfl rfl dX7_build_119 (fun H locs I => ?_)
  refine lv_aload_n hx hb dX7_build_122 rfl (lv_at hl 0 rfl) ?_
  refine lv_aload_n hx hb dX7_build_123 rfl (lv_at hl 0 rfl) ?_
  obtain ⟨v38, e9, hJ⟩ := rp_b hJ
  obtain ⟨f9, g9, e9⟩ := fR_s e9
  refine rp_get X I g9 e9 rfl wiX7 (by decide) wm_554 dX7_build_124 ?_
  refine lv_iload_n hx hb dX7_build_127 rfl (lv_at hl 2 rfl) ?_
  obtain ⟨v39, e9, hJ⟩ := rp_b hJ
  refine rp_iald X I e9 rfl dX7_build_128 ?_
  refine lv_aload_n hx hb dX7_build_129 rfl (lv_at hl 0 rfl) ?_
  obtain ⟨v40, e9, hJ⟩ := rp_b hJ
  obtain ⟨f9, g9, e9⟩ := fI_s e9
  refine rp_get X I g9 e9 rfl wiX7 (by decide) wm_564 dX7_build_130 ?_
  refine lv_icmp_le (tgt := 145) hx hb dX7_build_133 (by decide) (fun c9 => ?_) (fun c9 => ?_)
  · rw [if_pos c9] at hJ
    refine lv_aload_n hx hb dX7_build_145 rfl (lv_at hl 0 rfl) ?_
    obtain ⟨v41, e9, hJ⟩ := rp_b hJ
    obtain ⟨f9, g9, e9⟩ := fI_s e9
    refine rp_get X I g9 e9 rfl wiX7 (by decide) wm_564 dX7_build_146 ?_
    obtain ⟨h42, e9, hJ⟩ := rp_b hJ
    refine rp_put (ty := .int) X I e9 rfl wiX7 tyX7 tyX7_ok nmX7 (by decide) wm_564 rfl (by decide +kernel) rfl rfl dX7_build_149 (fun H locs I => ?_)
    refine lv_iinc (v := (x3 + (1 : Int32))) (lv' := [(3, .int (x3 + (1 : Int32))), (0, .ref x0), (2, .int x2)]) hx hb dX7_build_152 hl (k := 2) rfl rfl (by decide) rfl (fun ls hl => ?_)
    refine lv_goto (tgt := 86) hx hb dX7_build_155 (by decide) ?_
    exact k86 _ _ _ _ _ _ _ hJ I (lv_sub hl [1, 2, 0] rfl)
  · rw [if_neg c9] at hJ
    refine lv_aload_n hx hb dX7_build_136 rfl (lv_at hl 0 rfl) ?_
    obtain ⟨v43, e9, hJ⟩ := rp_b hJ
    obtain ⟨f9, g9, e9⟩ := fR_s e9
    refine rp_get X I g9 e9 rfl wiX7 (by decide) wm_554 dX7_build_137 ?_
    refine lv_iload_n hx hb dX7_build_140 rfl (lv_at hl 2 rfl) ?_
    obtain ⟨v44, e9, hJ⟩ := rp_b hJ
    refine rp_iald X I e9 rfl dX7_build_141 ?_
    refine lv_goto (tgt := 149) hx hb dX7_build_142 (by decide) ?_
    obtain ⟨h45, e9, hJ⟩ := rp_b hJ
    refine rp_put (ty := .int) X I e9 rfl wiX7 tyX7 tyX7_ok nmX7 (by decide) wm_564 rfl (by decide +kernel) rfl rfl dX7_build_149 (fun H locs I => ?_)
    refine lv_iinc (v := (x3 + (1 : Int32))) (lv' := [(3, .int (x3 + (1 : Int32))), (0, .ref x0), (2, .int x2)]) hx hb dX7_build_152 hl (k := 2) rfl rfl (by decide) rfl (fun ls hl => ?_)
    refine lv_goto (tgt := 86) hx hb dX7_build_155 (by decide) ?_
    exact k86 _ _ _ _ _ _ _ hJ I (lv_sub hl [1, 2, 0] rfl)
set_option maxHeartbeats 4000000 in
set_option maxRecDepth 100000 in
theorem w_Mod_build_86 (X : Cx p s m args meth c D vwCl tys cX7_build 6 RX7 wsG) (hN : nwS s) (hr : meth.sig.returnType = (some .int)) {res : (Int32 × Hp)} {N : Nat}   : ∀ (n : Nat) (x0 : Nat) (x2 : Int32) (x3 : Int32)  (h : Hp) (H : Heap) (locs : List Loc) (ls : Array Slot), J_Mod_build_86 N n x0 x2 x3 h = some res → In D vwCl tys A s h H locs → lv_has ls 6 [(0, .ref x0), (2, .int x2), (3, .int x3)] → W p l e rmX7_build s m args below meth c H locs 0 0 (MQ below (Qr D vwCl tys A (some (.int res.1)) res.2) args s 0 0 A) (F0 m 86 ls []) := by
  have hx := X.1.1
  have hb := X.1.2.1
  have hml := X.1.2.2.1
  have ho := X.1.2.2.2.1
  have hts := X.1.2.2.2.2
  have hK := X.2.1
  have hT := X.2.2.2
  intro n
  induction n with
  | zero =>
    intro x0 x2 x3  h H locs ls hJ I hl
    exact nomatch (show (none : Option (Int32 × Hp)) = some res from hJ)
  | succ n k86 =>
    intro x0 x2 x3  h H locs ls hJ I hl
    rw [J_Mod_build_86] at hJ
    refine lv_iload_n hx hb dX7_build_86 rfl (lv_at hl 2 rfl) ?_
    refine lv_bipush (v := 40) hx hb dX7_build_87 (by decide) ?_
    refine lv_icmp_ge (tgt := 158) hx hb dX7_build_89 (by decide) (fun c9 => ?_) (fun c9 => ?_)
    · rw [if_pos c9] at hJ
      refine lv_iconst (v := 0) hx hb dX7_build_158 (by decide) ?_
      refine lv_istore_n (lv' := [(3, .int (0 : Int32)), (0, .ref x0), (2, .int x2)]) hx hb dX7_build_159 rfl hl (by decide) rfl (fun ls hl => ?_)
      exact w_Mod_build_160 X hN hr N _ _ _ _ _ _ _ hJ I (lv_sub hl [1, 2, 0] rfl)
    · rw [if_neg c9] at hJ
      refine lv_aload_n hx hb dX7_build_92 rfl (lv_at hl 0 rfl) ?_
      obtain ⟨v32, e9, hJ⟩ := rp_b hJ
      obtain ⟨f9, g9, e9⟩ := fR_s e9
      refine rp_get X I g9 e9 rfl wiX7 (by decide) wm_555 dX7_build_93 ?_
      refine lv_iload_n hx hb dX7_build_96 rfl (lv_at hl 2 rfl) ?_
      refine lv_iconst (v := 0) hx hb dX7_build_97 (by decide) ?_
      obtain ⟨h33, e9, hJ⟩ := rp_b hJ
      refine rp_iast X I e9 rfl dX7_build_98 (fun H locs I => ?_)
      refine lv_aload_n hx hb dX7_build_99 rfl (lv_at hl 0 rfl) ?_
      refine lv_dup hx hb dX7_build_100 rfl ?_
      obtain ⟨v34, e9, hJ⟩ := rp_b hJ
      obtain ⟨f9, g9, e9⟩ := fI_s e9
      refine rp_get X I g9 e9 rfl wiX7 (by decide) wm_562 dX7_build_101 ?_
      refine lv_aload_n hx hb dX7_build_104 rfl (lv_at hl 0 rfl) ?_
      obtain ⟨v35, e9, hJ⟩ := rp_b hJ
      obtain ⟨f9, g9, e9⟩ := fR_s e9
      refine rp_get X I g9 e9 rfl wiX7 (by decide) wm_553 dX7_build_105 ?_
      refine lv_iload_n hx hb dX7_build_108 rfl (lv_at hl 2 rfl) ?_
      obtain ⟨v36, e9, hJ⟩ := rp_b hJ
      refine rp_zald X I e9 rfl dX7_build_109 ?_
      refine lv_if_eq (tgt := 117) hx hb dX7_build_110 (by decide) (fun c9 => ?_) (fun c9 => ?_)
      · rw [if_pos c9] at hJ
        refine lv_iconst (v := 0) hx hb dX7_build_117 (by decide) ?_
        exact w_Mod_build_118 X hN hr k86 _ _ _ _ _ _ _ _ _ _ hJ I (lv_sub hl [0, 1, 2] rfl)
      · rw [if_neg c9] at hJ
        refine lv_iconst (v := 1) hx hb dX7_build_113 (by decide) ?_
        refine lv_goto (tgt := 118) hx hb dX7_build_114 (by decide) ?_
        exact w_Mod_build_118 X hN hr k86 _ _ _ _ _ _ _ _ _ _ hJ I (lv_sub hl [0, 1, 2] rfl)
set_option maxHeartbeats 4000000 in
set_option maxRecDepth 100000 in
theorem c_Mod_build {l : Launch} {D : va_G} {tys : List (ClassId × FieldType)} {A : Nat → Prop} (hT : tys.map (fun q => q.2) = tyS) {N : Nat} {x0 : Nat} {x1 : Int32} {x2 : Int32} {h : Hp} {res : (Int32 × Hp)} (hJ : J_Mod_build N x0 x1 x2 h = some res) : Ct l D vwCl tys A yX7_build (Cond.code yX7_build cX7_build 6 (some .int) :: wsG) rmX7_build [.ref x0, .int x1, .int x2] h (some (.int res.1)) res.2 := by
  refine Met.ofW (cc := cX7_build) (maxL := 6) (ret := (some .int)) (by decide) rfl ?_
  intro p e s m args below meth c s₁ B hml hv
  obtain ⟨rfl, hA, hR, hK, hN⟩ := hv
  have hr := B.returns
  have hts : ∀ w ∈ wsG, w.before [.ref x0, .int x1, .int x2].toArray s = true := fun w hw => atoms_spec (ws := Cond.code yX7_build cX7_build 6 (some .int) :: wsG) B.pre w (List.mem_cons_of_mem _ hw)
  have X : Cx p s m [.ref x0, .int x1, .int x2].toArray meth c D vwCl tys cX7_build 6 RX7 wsG := ⟨⟨B.exec, B.bytes, hml, findClass_of_methodNamed B.named, hts⟩, hK, B.notSynchronized, hT⟩
  have hx := B.exec
  have hb := B.bytes
  have I : In D vwCl tys A s h s.heap [] := ⟨hR, va_S.rf, hA⟩
  have hl := lv_entry [.ref x0, .int x1, .int x2] (n := 6) (Nat.le_of_ble_eq_true rfl)
  rw [lg_entry_eq]
  generalize (lg_sl [.ref x0, .int x1, .int x2] ++ List.replicate (6 - (lg_sl [.ref x0, .int x1, .int x2]).length) Slot.unset).toArray = ls at hl ⊢
  have hl : lv_has ls 6 [(0, .ref x0), (1, .int x1), (2, .int x2)] := hl
  have ho := X.1.2.2.2.1
  rw [J_Mod_build] at hJ
  refine lv_iload_n hx hb dX7_build_0 rfl (lv_at hl 1 rfl) ?_
  obtain ⟨q1, e9, hJ⟩ := rp_b hJ
  refine rp_callS (As := [.int x1]) (rest := []) X hN I (c_Mod_isFile hT e9) (cwS 1 hts (gdS wm_629 wm_630 wm_40 wm_631) rfl rfl rfl (by decide +kernel) ⟨Nat.le_of_ble_eq_true rfl, Nat.le_of_ble_eq_true rfl⟩) rfl hl.1 rfl (Nat.le_of_ble_eq_true rfl) dX7_build_1 ⟨(Nat.le_of_ble_eq_true rfl), (Nat.le_of_ble_eq_true rfl)⟩ (fun H locs I => ?_)
  refine W.cs (cells' := 0) (slots' := 0) rfl rfl ?_
  refine lv_if_eq (tgt := 18) hx hb dX7_build_4 (by decide) (fun c9 => ?_) (fun c9 => ?_)
  · rw [if_pos c9] at hJ
    exact w_Mod_build_18 X hN hr _ _ _ _ _ hJ I (lv_sub hl [0] rfl)
  · rw [if_neg c9] at hJ
    refine lv_iload_n hx hb dX7_build_7 rfl (lv_at hl 2 rfl) ?_
    refine lv_iconst (v := 1) hx hb dX7_build_8 (by decide) ?_
    refine lv_icmp_lt (tgt := 18) hx hb dX7_build_9 (by decide) (fun c9 => ?_) (fun c9 => ?_)
    · rw [if_pos c9] at hJ
      exact w_Mod_build_18 X hN hr _ _ _ _ _ hJ I (lv_sub hl [0] rfl)
    · rw [if_neg c9] at hJ
      refine lv_iload_n hx hb dX7_build_12 rfl (lv_at hl 2 rfl) ?_
      refine lv_bipush (v := 8) hx hb dX7_build_13 (by decide) ?_
      refine lv_icmp_le (tgt := 24) hx hb dX7_build_15 (by decide) (fun c9 => ?_) (fun c9 => ?_)
      · rw [if_pos c9] at hJ
        refine lv_aload_n hx hb dX7_build_24 rfl (lv_at hl 0 rfl) ?_
        refine lv_iload_n hx hb dX7_build_25 rfl (lv_at hl 1 rfl) ?_
        obtain ⟨u9, i9, hJ⟩ := rp_b hJ
        obtain ⟨f9, i9⟩ := isO_s i9
        obtain ⟨q3, e9, hJ⟩ := rp_b hJ
        refine rp_callV (As := [.int x1]) (rest := []) X hN I (c_Mod_spread hT e9) (cwV 1 hts (gdV wm_665 wm_666 wm_20 wm_40 wm_667) rfl rfl rfl (by decide +kernel) ⟨Nat.le_of_ble_eq_true rfl, Nat.le_of_ble_eq_true rfl⟩) i9 rfl rfl hl.1 rfl (Nat.le_of_ble_eq_true rfl) dX7_build_26 ⟨(Nat.le_of_ble_eq_true rfl), (Nat.le_of_ble_eq_true rfl)⟩ (fun H locs I => ?_)
        refine W.cs (cells' := 0) (slots' := 0) rfl rfl ?_
        refine lv_aload_n hx hb dX7_build_29 rfl (lv_at hl 0 rfl) ?_
        obtain ⟨u9, i9, hJ⟩ := rp_b hJ
        obtain ⟨f9, i9⟩ := isO_s i9
        obtain ⟨q4, e9, hJ⟩ := rp_b hJ
        refine rp_callV (As := []) (rest := []) X hN I (c_Mod_isRound hT e9) (cwV 0 hts (gdV wm_671 wm_672 wm_22 wm_40 wm_673) rfl rfl rfl (by decide +kernel) ⟨Nat.le_of_ble_eq_true rfl, Nat.le_of_ble_eq_true rfl⟩) i9 rfl rfl hl.1 rfl (Nat.le_of_ble_eq_true rfl) dX7_build_30 ⟨(Nat.le_of_ble_eq_true rfl), (Nat.le_of_ble_eq_true rfl)⟩ (fun H locs I => ?_)
        refine W.cs (cells' := 0) (slots' := 0) rfl rfl ?_
        refine lv_if_ne (tgt := 44) hx hb dX7_build_33 (by decide) (fun c9 => ?_) (fun c9 => ?_)
        · rw [if_neg c9] at hJ
          exact w_Mod_build_44 X hN hr _ _ _ _ _ hJ I (lv_sub hl [0] rfl)
        · rw [if_pos c9] at hJ
          refine lv_aload_n hx hb dX7_build_36 rfl (lv_at hl 0 rfl) ?_
          refine lv_iload_n hx hb dX7_build_37 rfl (lv_at hl 1 rfl) ?_
          obtain ⟨u9, i9, hJ⟩ := rp_b hJ
          obtain ⟨f9, i9⟩ := isO_s i9
          obtain ⟨q6, e9, hJ⟩ := rp_b hJ
          refine rp_callV (As := [.int x1]) (rest := []) X hN I (c_Mod_isLacking hT e9) (cwV 1 hts (gdV wm_680 wm_681 wm_25 wm_40 wm_682) rfl rfl rfl (by decide +kernel) ⟨Nat.le_of_ble_eq_true rfl, Nat.le_of_ble_eq_true rfl⟩) i9 rfl rfl hl.1 rfl (Nat.le_of_ble_eq_true rfl) dX7_build_38 ⟨(Nat.le_of_ble_eq_true rfl), (Nat.le_of_ble_eq_true rfl)⟩ (fun H locs I => ?_)
          refine W.cs (cells' := 0) (slots' := 0) rfl rfl ?_
          refine lv_if_eq (tgt := 50) hx hb dX7_build_41 (by decide) (fun c9 => ?_) (fun c9 => ?_)
          · rw [if_pos c9] at hJ
            refine lv_aload_n hx hb dX7_build_50 rfl (lv_at hl 0 rfl) ?_
            refine lv_iconst (v := 0) hx hb dX7_build_51 (by decide) ?_
            obtain ⟨h7, e9, hJ⟩ := rp_b hJ
            refine rp_put (ty := .int) X I e9 rfl wiX7 tyX7 tyX7_ok nmX7 (by decide) wm_533 rfl (by decide +kernel) rfl rfl dX7_build_52 (fun H locs I => ?_)
            refine lv_aload_n hx hb dX7_build_55 rfl (lv_at hl 0 rfl) ?_
            obtain ⟨u9, i9, hJ⟩ := rp_b hJ
            obtain ⟨f9, i9⟩ := isO_s i9
            obtain ⟨q8, e9, hJ⟩ := rp_b hJ
            refine rp_callV (As := []) (rest := []) X hN I (c_Mod_order hT e9) (cwV 0 hts (gdV wm_683 wm_684 wm_26 wm_40 wm_685) rfl rfl rfl (by decide +kernel) ⟨Nat.le_of_ble_eq_true rfl, Nat.le_of_ble_eq_true rfl⟩) i9 rfl rfl hl.1 rfl (Nat.le_of_ble_eq_true rfl) dX7_build_56 ⟨(Nat.le_of_ble_eq_true rfl), (Nat.le_of_ble_eq_true rfl)⟩ (fun H locs I => ?_)
            refine W.cs (cells' := 0) (slots' := 0) rfl rfl ?_
            refine lv_aload_n hx hb dX7_build_59 rfl (lv_at hl 0 rfl) ?_
            refine lv_iconst (v := 0) hx hb dX7_build_60 (by decide) ?_
            obtain ⟨h9, e9, hJ⟩ := rp_b hJ
            refine rp_put (ty := .int) X I e9 rfl wiX7 tyX7 tyX7_ok nmX7 (by decide) wm_561 rfl (by decide +kernel) rfl rfl dX7_build_61 (fun H locs I => ?_)
            refine lv_aload_n hx hb dX7_build_64 rfl (lv_at hl 0 rfl) ?_
            refine lv_iconst (v := 0) hx hb dX7_build_65 (by decide) ?_
            obtain ⟨h10, e9, hJ⟩ := rp_b hJ
            refine rp_put (ty := .int) X I e9 rfl wiX7 tyX7 tyX7_ok nmX7 (by decide) wm_562 rfl (by decide +kernel) rfl rfl dX7_build_66 (fun H locs I => ?_)
            refine lv_aload_n hx hb dX7_build_69 rfl (lv_at hl 0 rfl) ?_
            refine lv_iconst (v := 0) hx hb dX7_build_70 (by decide) ?_
            obtain ⟨h11, e9, hJ⟩ := rp_b hJ
            refine rp_put (ty := .int) X I e9 rfl wiX7 tyX7 tyX7_ok nmX7 (by decide) wm_563 rfl (by decide +kernel) rfl rfl dX7_build_71 (fun H locs I => ?_)
            refine lv_aload_n hx hb dX7_build_74 rfl (lv_at hl 0 rfl) ?_
            refine lv_iconst (v := 0) hx hb dX7_build_75 (by decide) ?_
            obtain ⟨h12, e9, hJ⟩ := rp_b hJ
            refine rp_put (ty := .int) X I e9 rfl wiX7 tyX7 tyX7_ok nmX7 (by decide) wm_564 rfl (by decide +kernel) rfl rfl dX7_build_76 (fun H locs I => ?_)
            refine lv_aload_n hx hb dX7_build_79 rfl (lv_at hl 0 rfl) ?_
            refine lv_iconst (v := 0) hx hb dX7_build_80 (by decide) ?_
            obtain ⟨h13, e9, hJ⟩ := rp_b hJ
            refine rp_put (ty := .int) X I e9 rfl wiX7 tyX7 tyX7_ok nmX7 (by decide) wm_560 rfl (by decide +kernel) rfl rfl dX7_build_81 (fun H locs I => ?_)
            refine lv_iconst (v := 0) hx hb dX7_build_84 (by decide) ?_
            refine lv_istore_n (lv' := [(3, .int (0 : Int32)), (0, .ref x0), (1, .int x1), (2, .int x2)]) hx hb dX7_build_85 rfl hl (by decide) rfl (fun ls hl => ?_)
            exact w_Mod_build_86 X hN hr N _ _ _ _ _ _ _ hJ I (lv_sub hl [1, 3, 0] rfl)
          · rw [if_neg c9] at hJ
            exact w_Mod_build_44 X hN hr _ _ _ _ _ hJ I (lv_sub hl [0] rfl)
      · rw [if_neg c9] at hJ
        exact w_Mod_build_18 X hN hr _ _ _ _ _ hJ I (lv_sub hl [0] rfl)
end GW
