/-! ABSTRACT HEAPS: a size, and at some addresses what lies there: an array (its type's place in tys, length, contents) or an object (its class's place in vwCl, its fields). Every method of the system is a function J_.. over them; the rows rp_.. say that the machine does what the function does. -/
abbrev HE : Type := (Nat × vp_A) ⊕ (Nat × List Value)
abbrev Hp : Type := Nat × (Nat → Option HE)
def hU (M : Nat → Option HE) (a : Nat) (e : HE) : Nat → Option HE := fun q => if q = a then some e else M q
def gO (h : Hp) (ci a : Nat) : Option (List Value) := match h.2 a with
  | some (.inr (c, fs)) => if c = ci then some fs else none
  | _ => none
def gA (h : Hp) (t a : Nat) : Option vp_A := match h.2 a with
  | some (.inl (c, x)) => if c = t then some x else none
  | _ => none
def vI (v : Option Value) : Option Int32 := match v with
  | some (.int x) => some x
  | _ => none
def vJ (v : Option Value) : Option Int64 := match v with
  | some (.long x) => some x
  | _ => none
def vR (v : Option Value) : Option Nat := match v with
  | some (.ref x) => some x
  | _ => none
def fI (h : Hp) (ci a k : Nat) : Option Int32 := (gO h ci a).bind fun fs => vI fs[k]?
def fJ (h : Hp) (ci a k : Nat) : Option Int64 := (gO h ci a).bind fun fs => vJ fs[k]?
def fR (h : Hp) (ci a k : Nat) : Option Nat := (gO h ci a).bind fun fs => vR fs[k]?
def isO (h : Hp) (ci a : Nat) : Option Unit := (gO h ci a).bind fun _ => some ()
def sF (h : Hp) (ci a k : Nat) (v : Value) : Option Hp := (gO h ci a).bind fun fs => if k < fs.length then some (h.1, hU h.2 a (.inr (ci, fs.set k v))) else none
def sZ (h : Hp) (ci a k : Nat) (x : Int32) : Option Hp := if x = 0 ∨ x = 1 then sF h ci a k (.int x) else none
def xI (x : vp_A) : Option (Nat × (Nat → Int32)) := match x with
  | (n, .inl f) => some (n, f)
  | _ => none
def xJ (x : vp_A) : Option (Nat × (Nat → Int64)) := match x with
  | (n, .inr (.inl f)) => some (n, f)
  | _ => none
def xR (x : vp_A) : Option (Nat × (Nat → Option Nat)) := match x with
  | (n, .inr (.inr (.inr (.inr f)))) => some (n, f)
  | _ => none
def iX (i : Int32) (n : Nat) : Option Nat := if i < 0 ∨ n ≤ i.toNatClampNeg then none else some i.toNatClampNeg
def aI (h : Hp) (t a : Nat) (i : Int32) : Option Int32 := ((gA h t a).bind xI).bind fun x => (iX i x.1).bind fun k => some (x.2 k)
def aJ (h : Hp) (t a : Nat) (i : Int32) : Option Int64 := ((gA h t a).bind xJ).bind fun x => (iX i x.1).bind fun k => some (x.2 k)
def aR (h : Hp) (t a : Nat) (i : Int32) : Option Nat := ((gA h t a).bind xR).bind fun x => (iX i x.1).bind fun k => x.2 k
def sI (h : Hp) (t a : Nat) (i x : Int32) : Option Hp := ((gA h t a).bind xI).bind fun y => (iX i y.1).bind fun k => some (h.1, hU h.2 a (.inl (t, y.1, .inl (upd y.2 k x))))
def sB (h : Hp) (t a : Nat) (i x : Int32) : Option Hp := ((gA h t a).bind xI).bind fun y => (iX i y.1).bind fun k => some (h.1, hU h.2 a (.inl (t, y.1, .inl (upd y.2 k (vp_nar .boolean x)))))
def sJ (h : Hp) (t a : Nat) (i : Int32) (x : Int64) : Option Hp := ((gA h t a).bind xJ).bind fun y => (iX i y.1).bind fun k => some (h.1, hU h.2 a (.inl (t, y.1, .inr (.inl (vp_updL y.2 k x)))))
def sR (h : Hp) (t ci a : Nat) (i : Int32) (v : Nat) : Option Hp := ((gA h t a).bind xR).bind fun y => (iX i y.1).bind fun k => (gO h ci v).bind fun _ => some (h.1, hU h.2 a (.inl (t, y.1, .inr (.inr (.inr (.inr (va_up y.2 k (some v))))))))
def nO_ (h : Hp) (ci : Nat) (fs : List Value) : Option (Nat × Hp) := some (h.1, (h.1 + 1, hU h.2 h.1 (.inr (ci, fs))))
def nI_ (h : Hp) (t : Nat) (n : Int32) : Option (Nat × Hp) := if n < 0 ∨ 100000 < n.toNatClampNeg then none else some (h.1, (h.1 + 1, hU h.2 h.1 (.inl (t, n.toNatClampNeg, .inl (fun _ => 0)))))
def nJ_ (h : Hp) (t : Nat) (n : Int32) : Option (Nat × Hp) := if n < 0 ∨ 100000 < n.toNatClampNeg then none else some (h.1, (h.1 + 1, hU h.2 h.1 (.inl (t, n.toNatClampNeg, .inr (.inl (fun _ => 0))))))
def nR_ (h : Hp) (t : Nat) (n : Int32) : Option (Nat × Hp) := if n < 0 ∨ 100000 < n.toNatClampNeg then none else some (h.1, (h.1 + 1, hU h.2 h.1 (.inl (t, n.toNatClampNeg, .inr (.inr (.inr (.inr (fun _ => none))))))))
def zR (v : Int32) (h : Hp) : Option (Int32 × Hp) := if v = 0 ∨ v = 1 then some (v, h) else none
def m_max (a b : Int32) : Int32 := if a < b then b else a
def m_min (a b : Int32) : Int32 := if b < a then b else a
theorem rp_b {α β : Type} {o : Option α} {f : α → Option β} {r : β} (h : o.bind f = some r) : ∃ v, o = some v ∧ f v = some r := by
  cases o with
  | none => cases h
  | some v => exact ⟨v, rfl, h⟩
theorem gO_s {h : Hp} {ci a : Nat} {fs : List Value} (g : gO h ci a = some fs) : h.2 a = some (.inr (ci, fs)) := by
  unfold gO at g
  split at g
  · rename_i c fs' hq
    split at g
    · rename_i hc
      cases g
      rw [hq, hc]
    · cases g
  · cases g
theorem gA_s {h : Hp} {t a : Nat} {x : vp_A} (g : gA h t a = some x) : h.2 a = some (.inl (t, x)) := by
  unfold gA at g
  split at g
  · rename_i c fs' hq
    split at g
    · rename_i hc
      cases g
      rw [hq, hc]
    · cases g
  · cases g
theorem vI_s {v : Option Value} {x : Int32} (g : vI v = some x) : v = some (.int x) := by
  unfold vI at g
  split at g
  · cases g; rfl
  · cases g
theorem vJ_s {v : Option Value} {x : Int64} (g : vJ v = some x) : v = some (.long x) := by
  unfold vJ at g
  split at g
  · cases g; rfl
  · cases g
theorem vR_s {v : Option Value} {x : Nat} (g : vR v = some x) : v = some (.ref x) := by
  unfold vR at g
  split at g
  · cases g; rfl
  · cases g
theorem xI_s {x : vp_A} {n : Nat} {f : Nat → Int32} (g : xI x = some (n, f)) : x = (n, .inl f) := by
  unfold xI at g
  split at g
  · cases g; rfl
  · cases g
theorem xJ_s {x : vp_A} {n : Nat} {f : Nat → Int64} (g : xJ x = some (n, f)) : x = (n, .inr (.inl f)) := by
  unfold xJ at g
  split at g
  · cases g; rfl
  · cases g
theorem xR_s {x : vp_A} {n : Nat} {f : Nat → Option Nat} (g : xR x = some (n, f)) : x = (n, .inr (.inr (.inr (.inr f)))) := by
  unfold xR at g
  split at g
  · cases g; rfl
  · cases g
theorem iX_s {i : Int32} {n k : Nat} (g : iX i n = some k) : vp_in i n ∧ k = i.toNatClampNeg := by
  unfold iX at g
  split at g
  · cases g
  · rename_i hq
    cases g
    exact ⟨hq, rfl⟩
def hC (tys : List (ClassId × FieldType)) (e : HE) : va_E := match e with
  | .inl (t, x) => .inl ((tys.getD t (0, .int)).1, x)
  | .inr o => .inr o
def Rp (D : va_G) (cl : List vw_C) (tys : List (ClassId × FieldType)) (A : Nat → Prop) (h : Hp) (H : Heap) : Prop := H.size = h.1 ∧ ∀ (a : Nat) (e : HE), h.2 a = some e → A a ∧ va_at D cl (a, hC tys e) H
def In (D : va_G) (cl : List vw_C) (tys : List (ClassId × FieldType)) (A : Nat → Prop) (s : State) (h : Hp) (H : Heap) (locs : List Loc) : Prop := Rp D cl tys A h H ∧ va_S A s.heap H locs ∧ ∀ q : Nat, s.heap.size ≤ q → A q
theorem rp_upd {D : va_G} {cl : List vw_C} {tys : List (ClassId × FieldType)} {A : Nat → Prop} {s : State} {h : Hp} {H H1 : Heap} {locs : List Loc} {a k : Nat} {e : HE} (I : In D cl tys A s h H locs) (ha : A a) (he : va_at D cl (a, hC tys e) H1) (hz : H1.size = H.size) (oq : ∀ q : Nat, q ≠ a → H1[q]? = H[q]?) : In D cl tys A s (h.1, hU h.2 a e) H1 (locs ++ [⟨a, k⟩]) := by
  obtain ⟨⟨R1, R2⟩, S, hA⟩ := I
  refine ⟨⟨by rw [hz]; exact R1, fun b e' hb => ?_⟩, S.put hz oq ha, hA⟩
  dsimp only [hU] at hb
  split at hb
  · rename_i hq
    cases hb
    subst hq
    exact ⟨ha, he⟩
  · rename_i hq
    obtain ⟨x, y⟩ := R2 b e' hb
    exact ⟨x, y.kept (oq b hq)⟩
theorem rp_push {D : va_G} {cl : List vw_C} {tys : List (ClassId × FieldType)} {A : Nat → Prop} {s : State} {h : Hp} {H H1 : Heap} {locs : List Loc} {e : HE} (I : In D cl tys A s h H locs) (he : va_at D cl (h.1, hC tys e) H1) (hz : H1.size = h.1 + 1) (oq : ∀ q : Nat, q < h.1 → H1[q]? = H[q]?) : In D cl tys A s (h.1 + 1, hU h.2 h.1 e) H1 locs := by
  obtain ⟨⟨R1, R2⟩, S, hA⟩ := I
  refine ⟨⟨hz, fun b e' hb => ?_⟩, ⟨?_, fun q h1 h2 => ?_, S.2.2⟩, hA⟩
  · dsimp only [hU] at hb
    split at hb
    · rename_i hq
      cases hb
      subst hq
      exact ⟨hA _ (by rw [← R1]; exact S.1), he⟩
    · obtain ⟨x, y⟩ := R2 b e' hb
      have hl := y.lt
      dsimp only at hl
      exact ⟨x, y.kept (oq b (by rw [← R1]; exact hl))⟩
  · have := S.1
    omega
  · rw [oq q (by have := S.1; omega)]
    exact S.2.1 q h1 h2
section RP
variable {p : Program} {l : Launch} {e : Env} {R : Room} {s : State} {m : MethodId} {args : Array Value} {below : List Frame} {meth : Method} {c : Code} {H : Heap} {locs : List Loc} {cells slots : Nat} {Q : State → Prop}
variable {cc : ByteArray} {pc nL : Nat} {ls : Array Slot} {rest : List Value} {D : va_G} {cl : List vw_C} {A : Nat → Prop} {a : Nat} {tys : List (ClassId × FieldType)} {h : Hp} {Ts : List Cond} {own : String}
theorem rp_one {q : Nat × va_E} (h : va_at D cl q H) : va_P D cl [q] H := by
  intro k q' hk
  cases k with
  | zero => cases hk; exact h
  | succ k => simp at hk
theorem rp_obj {ci : Nat} {fs : List Value} (I : In D cl tys A s h H locs) (g : gO h ci a = some fs) : A a ∧ va_at D cl (a, .inr (ci, fs)) H := I.1.2 a _ (gO_s g)
/-- what a method's proof has at hand all the time -/
def Cx (p : Program) (s : State) (m : MethodId) (args : Array Value) (meth : Method) (c : Code) (D : va_G) (cl : List vw_C) (tys : List (ClassId × FieldType)) (cc : ByteArray) (nL : Nat) (own : String) (Ts : List Cond) : Prop := CallFix p m c cc nL s args Ts own ∧ va_K D cl tys s ∧ meth.locks = false ∧ tys.map (fun q => q.2) = tyS
theorem rp_get {C : String} {T : u_T} {N ci index k : Nat} {fs : List Value} {v : Value} (X : Cx p s m args meth c D cl tys cc nL own Ts) (I : In D cl tys A s h H locs) (g : gO h ci a = some fs) (hv : fs[k]? = some v) (hc : cl[ci]? = some (C, T, N)) (hin : ∀ w ∈ u_ws C T N, w ∈ Ts) (hk : k < N) (hl : Cond.fieldLink own index (T k).1 (T k).2.1 (T k).2.2.1 ∈ Ts) (hdg : decode cc pc = .ok (.getfield index, 3))
    (kk : W p l e R s m args below meth c H locs cells slots Q (F0 m (pc + 3) ls (v :: rest))) : W p l e R s m args below meth c H locs cells slots Q (F0 m pc ls (.ref a :: rest)) := by
  obtain ⟨⟨hx, hb, hml, ho, hts⟩, hK, -, hT⟩ := X
  exact va_get (D := D) hx hb hts hin ho hK (rp_one (rp_obj I g).2) 0 rfl hc k hk (hts _ hl) (fun _ h9 => h9) hv hdg kk
theorem rp_getN {C host : String} {T : u_T} {N ci index k : Nat} {fs : List Value} {v : Value} (X : Cx p s m args meth c D cl tys cc nL own Ts) (I : In D cl tys A s h H locs) (g : gO h ci a = some fs) (hv : fs[k]? = some v) (hc : cl[ci]? = some (C, T, N)) (hin : ∀ w ∈ u_ws C T N, w ∈ Ts) (hk : k < N) (hl : va_Nw (.fieldLinkNest own index (T k).1 (T k).2.1 (T k).2.2.1 host) s) (hdg : decode cc pc = .ok (.getfield index, 3))
    (kk : W p l e R s m args below meth c H locs cells slots Q (F0 m (pc + 3) ls (v :: rest))) : W p l e R s m args below meth c H locs cells slots Q (F0 m pc ls (.ref a :: rest)) := by
  obtain ⟨⟨hx, hb, hml, ho, hts⟩, hK, -, hT⟩ := X
  exact va_getN (D := D) hx hb hts hin ho hK (rp_one (rp_obj I g).2) 0 rfl hc k hk (va_Nw.use rfl hl) (fun _ h9 => h9) hv hdg kk
theorem fI_s {ci k : Nat} {v : Int32} (g : fI h ci a k = some v) : ∃ fs, gO h ci a = some fs ∧ fs[k]? = some (.int v) := by
  obtain ⟨fs, g1, g2⟩ := rp_b g
  exact ⟨fs, g1, vI_s g2⟩
theorem fJ_s {ci k : Nat} {v : Int64} (g : fJ h ci a k = some v) : ∃ fs, gO h ci a = some fs ∧ fs[k]? = some (.long v) := by
  obtain ⟨fs, g1, g2⟩ := rp_b g
  exact ⟨fs, g1, vJ_s g2⟩
theorem fR_s {ci k : Nat} {v : Nat} (g : fR h ci a k = some v) : ∃ fs, gO h ci a = some fs ∧ fs[k]? = some (.ref v) := by
  obtain ⟨fs, g1, g2⟩ := rp_b g
  exact ⟨fs, g1, vR_s g2⟩
theorem isO_s {ci : Nat} {v : Unit} (g : isO h ci a = some v) : ∃ fs, gO h ci a = some fs := by
  obtain ⟨fs, g1, g2⟩ := rp_b g
  exact ⟨fs, g1⟩
theorem sF_s {ci k : Nat} {v : Value} {h' : Hp} (g : sF h ci a k v = some h') : ∃ fs, gO h ci a = some fs ∧ k < fs.length ∧ h' = (h.1, hU h.2 a (.inr (ci, fs.set k v))) := by
  obtain ⟨fs, g1, g2⟩ := rp_b g
  split at g2
  · rename_i hq
    cases g2
    exact ⟨fs, g1, hq, rfl⟩
  · cases g2
theorem rp_fz {x : Int32} (h : x = 0 ∨ x = 1) : fits .boolean (.int x) = true := by
  rcases h with rfl | rfl <;> rfl
theorem sZ_s {ci k : Nat} {x : Int32} {h' : Hp} (g : sZ h ci a k x = some h') : (x = 0 ∨ x = 1) ∧ sF h ci a k (.int x) = some h' := by
  unfold sZ at g
  split at g
  · rename_i hq
    exact ⟨hq, g⟩
  · cases g
/-- a field is written: what the machine does, as the abstract heap has it -/
theorem rp_wr {C : String} {T : u_T} {N ci k : Nat} {fs : List Value} {v : Value} (X : Cx p s m args meth c D cl tys cc nL own Ts) (I : In D cl tys A s h H locs) (g : gO h ci a = some fs) (hlen : k < fs.length) (hc : cl[ci]? = some (C, T, N)) (hin : ∀ w ∈ u_ws C T N, w ∈ Ts) (ty0 : Nat → FieldType) (hty : ∀ k, k < N → parseFieldDescriptor (T k).2.2.1 = some (ty0 k)) (hnm : ∀ a, a < N → ∀ b, b < N → a ≠ b → (T a).2.1 ≠ (T b).2.1) (hk : k < N) :
    ∃ (cell : Cell) (i : Nat), H[a]? = some cell ∧ cell.cls = D.1 ci ∧ cell.vm = .none ∧ D.2 ci k = i ∧ i < cell.slots.size ∧ ∀ H1 : Heap, H1[a]? = some (cell.setSlot i v) → H1.size = H.size → (∀ q : Nat, q ≠ a → H1[q]? = H[q]?) → In D cl tys A s (h.1, hU h.2 a (.inr (ci, fs.set k v))) H1 (locs ++ [⟨a, i⟩]) := by
  obtain ⟨⟨hx, hb, hml, ho, hts⟩, hK, -, hT⟩ := X
  have hap := va_apart (own := own) hts hin ty0 hty hnm hK hc
  obtain ⟨hAa, r, h1, cell, q1, q2, q3, q4⟩ := rp_obj I g
  have hr : r = (C, T, N) := Option.some.inj (h1.symm.trans hc)
  subst hr
  refine ⟨cell, _, q1, q2, q3, rfl, k2_hasslot (q4 k hk), fun H1 e1 e2 e3 => rp_upd I hAa ⟨_, hc, t_OB.to (V := updV (vp_V fs) k v) ⟨_, e1, q2, q3, t_set q4 hap hk v⟩ (fun j _ => vp_updV_set hlen v j)⟩ e2 e3⟩
theorem rp_put {C : String} {T : u_T} {N ci index k : Nat} {v : Value} {h' : Hp} {ty : FieldType} (X : Cx p s m args meth c D cl tys cc nL own Ts) (I : In D cl tys A s h H locs) (g : sF h ci a k v = some h') (hc : cl[ci]? = some (C, T, N)) (hin : ∀ w ∈ u_ws C T N, w ∈ Ts) (ty0 : Nat → FieldType) (hty : ∀ k, k < N → parseFieldDescriptor (T k).2.2.1 = some (ty0 k)) (hnm : ∀ a, a < N → ∀ b, b < N → a ≠ b → (T a).2.1 ≠ (T b).2.1) (hk : k < N) (hl : Cond.fieldLink own index (T k).1 (T k).2.1 (T k).2.2.1 ∈ Ts) (hfin : (T k).2.2.2 = false) (hd : parseFieldDescriptor (T k).2.2.1 = some ty) (hn : narrow ty v = v) (hfit : fits ty v = true) (hdg : decode cc pc = .ok (.putfield index, 3))
    (kk : ∀ (H1 : Heap) (locs1 : List Loc), In D cl tys A s h' H1 locs1 → W p l e R s m args below meth c H1 locs1 cells slots Q (F0 m (pc + 3) ls rest)) : W p l e R s m args below meth c H locs cells slots Q (F0 m pc ls (v :: .ref a :: rest)) := by
  obtain ⟨fs, g1, hlen, rfl⟩ := sF_s g
  obtain ⟨cell, i, q1, q2, q3, hi1, hlt, hup⟩ := rp_wr (v := v) X I g1 hlen hc hin ty0 hty hnm hk
  obtain ⟨⟨hx, hb, hml, ho, hts⟩, hK, -, hT⟩ := X
  obtain ⟨hS, hfc, kC, hkC, hkind⟩ := hK.1 ci _ hc
  obtain ⟨cf, kf, fi, f, hi, hsl⟩ := hS k hk
  have hlay := hts _ (hin _ (u_in_lay hk))
  unfold u_lay at hlay
  rw [if_neg (by rw [hfin]; decide)] at hlay
  have hst := (u_facts hfc hkC (u_lays hts hin hk) hi).1
  have h6 := u_store hfc hkC hkind hlay hi hd hn hfit
  have hsl' : f.slot = i := hsl.trans hi1
  refine W.putK hx hb (f := f) ⟨ho, hts _ hl, ⟨_, _, _, hi⟩, hst⟩ (by rw [q2]; exact h6) q1 q3 (by rw [hsl']; exact hlt) rfl rfl hdg fun H' e1 e2 e3 => ?_
  rw [hsl'] at e1 ⊢
  exact kk H' _ (hup H' e1 e2 e3)
theorem rp_putF {C : String} {T : u_T} {N ci index k : Nat} {v : Value} {h' : Hp} {ty : FieldType} (X : Cx p s m args meth c D cl tys cc nL own Ts) (I : In D cl tys A s h H locs) (g : sF h ci a k v = some h') (hc : cl[ci]? = some (C, T, N)) (hin : ∀ w ∈ u_ws C T N, w ∈ Ts) (ty0 : Nat → FieldType) (hty : ∀ k, k < N → parseFieldDescriptor (T k).2.2.1 = some (ty0 k)) (hnm : ∀ a, a < N → ∀ b, b < N → a ≠ b → (T a).2.1 ≠ (T b).2.1) (hk : k < N) (hl : Cond.fieldLink own index (T k).1 (T k).2.1 (T k).2.2.1 ∈ Ts) (hfin : (T k).2.2.2 = true) (hin2 : meth.name = "<init>") (hdecl : (T k).1 = own) (hd : parseFieldDescriptor (T k).2.2.1 = some ty) (hn : narrow ty v = v) (hfit : fits ty v = true) (hdg : decode cc pc = .ok (.putfield index, 3))
    (kk : ∀ (H1 : Heap) (locs1 : List Loc), In D cl tys A s h' H1 locs1 → W p l e R s m args below meth c H1 locs1 cells slots Q (F0 m (pc + 3) ls rest)) : W p l e R s m args below meth c H locs cells slots Q (F0 m pc ls (v :: .ref a :: rest)) := by
  obtain ⟨fs, g1, hlen, rfl⟩ := sF_s g
  obtain ⟨cell, i, q1, q2, q3, hi1, hlt, hup⟩ := rp_wr (v := v) X I g1 hlen hc hin ty0 hty hnm hk
  obtain ⟨⟨hx, hb, hml, ho, hts⟩, hK, -, hT⟩ := X
  obtain ⟨hS, hfc, kC, hkC, hkind⟩ := hK.1 ci _ hc
  obtain ⟨cf, kf, fi, f, hi, hsl⟩ := hS k hk
  have hlay := hts _ (hin _ (u_in_lay hk))
  unfold u_lay at hlay
  rw [if_pos hfin] at hlay
  have hst := (u_facts hfc hkC (u_lays hts hin hk) hi).1
  have hcf : m.cls = cf := by
    obtain ⟨_, _, c', _, _, _, -, -, hf', -, -, -, hown2, -⟩ := Cond.laysFinal_spec hlay
    have e1 : c' = cf := by have := hi.symm.trans hf'; simp at this; exact this.1.symm
    rw [hdecl] at hown2
    rw [← e1]; exact Option.some.inj (ho.symm.trans hown2)
  have h6 := u_fits hfc hkC hkind (Or.inr hlay) hi hd hn hfit
  have hsl' : f.slot = i := hsl.trans hi1
  refine W.putFinK hx hb ho (hts _ hl) hi hst hcf hin2 (by rw [q2]; exact h6) q1 q3 (by rw [hsl']; exact hlt) rfl rfl hdg fun H' e1 e2 e3 => ?_
  rw [hsl'] at e1 ⊢
  exact kk H' _ (hup H' e1 e2 e3)
theorem rp_arr {t : Nat} {x : vp_A} (I : In D cl tys A s h H locs) (g : gA h t a = some x) : A a ∧ H[a]? = some (vp_cell (tys.getD t (0, .int)).1 x) := I.1.2 a _ (gA_s g)
theorem rp_ty {t : Nat} {ty : FieldType} (hK : va_K D cl tys s) (hT : tys.map (fun q => q.2) = tyS) (ht : tyS[t]? = some ty) : ArrOfT s (tys.getD t (0, .int)).1 ty ∧ va_RA s (tys.getD t (0, .int)).1 ty := by
  rw [← hT, List.getElem?_map] at ht
  cases hq : tys[t]? with
  | none => rw [hq] at ht; cases ht
  | some q =>
    rw [hq] at ht
    cases ht
    have e : tys.getD t (0, .int) = q := by rw [List.getD_eq_getElem?_getD, hq]; rfl
    rw [e]
    exact hK.2 t q hq
theorem aI_s {t : Nat} {i v : Int32} (g : aI h t a i = some v) : ∃ n f, gA h t a = some (n, .inl f) ∧ vp_in i n ∧ v = f i.toNatClampNeg := by
  obtain ⟨⟨n, f⟩, g1, g2⟩ := rp_b g
  obtain ⟨x, g3, g4⟩ := rp_b g1
  obtain ⟨k, g5, g6⟩ := rp_b g2
  obtain ⟨g7, g8⟩ := iX_s g5
  have := xI_s g4
  subst this
  subst g8
  cases g6
  exact ⟨n, f, g3, g7, rfl⟩
theorem aJ_s {t : Nat} {i : Int32} {v : Int64} (g : aJ h t a i = some v) : ∃ n f, gA h t a = some (n, .inr (.inl f)) ∧ vp_in i n ∧ v = f i.toNatClampNeg := by
  obtain ⟨⟨n, f⟩, g1, g2⟩ := rp_b g
  obtain ⟨x, g3, g4⟩ := rp_b g1
  obtain ⟨k, g5, g6⟩ := rp_b g2
  obtain ⟨g7, g8⟩ := iX_s g5
  have := xJ_s g4
  subst this
  subst g8
  cases g6
  exact ⟨n, f, g3, g7, rfl⟩
theorem aR_s {t : Nat} {i : Int32} {v : Nat} (g : aR h t a i = some v) : ∃ n f, gA h t a = some (n, .inr (.inr (.inr (.inr f)))) ∧ vp_in i n ∧ f i.toNatClampNeg = some v := by
  obtain ⟨⟨n, f⟩, g1, g2⟩ := rp_b g
  obtain ⟨x, g3, g4⟩ := rp_b g1
  obtain ⟨k, g5, g6⟩ := rp_b g2
  obtain ⟨g7, g8⟩ := iX_s g5
  have := xR_s g4
  subst this
  subst g8
  exact ⟨n, f, g3, g7, g6⟩
theorem rp_in {i : Int32} {n : Nat} {cA : ClassId} {f : Nat → Value} (hin : vp_in i n) : ¬ (i < 0 ∨ (arrV cA n f).slots.size ≤ i.toNatClampNeg) := by rw [arrV_size]; exact hin
theorem rp_rd {i : Int32} {n : Nat} {cA : ClassId} {f : Nat → Value} (hin : vp_in i n) : (arrV cA n f).slots[i.toNatClampNeg]? = some (f i.toNatClampNeg) := by
  have hlt : i.toNatClampNeg < n := Nat.not_le.mp fun q => hin (Or.inr q)
  rw [arrV_read _ _ hlt]
theorem rp_iald {t : Nat} {i v : Int32} (X : Cx p s m args meth c D cl tys cc nL own Ts) (I : In D cl tys A s h H locs) (g : aI h t a i = some v) (ht : tyS[t]? = some .int) (hdg : decode cc pc = .ok (.iaload, 1))
    (kk : W p l e R s m args below meth c H locs cells slots Q (F0 m (pc + 1) ls (.int v :: rest))) : W p l e R s m args below meth c H locs cells slots Q (F0 m pc ls (.int i :: .ref a :: rest)) := by
  obtain ⟨n, f, g1, g2, rfl⟩ := aI_s g
  obtain ⟨⟨hx, hb, hml, ho, hts⟩, hK, -, hT⟩ := X
  exact W.iald (v := .int (f i.toNatClampNeg)) hx hb (rp_arr I g1).2 ((rp_ty hK hT ht).1 n (fun j => .int (f j))) (fun q => by cases q) (rp_in g2) (rp_rd (f := fun j => .int (f j)) g2) rfl rfl hdg kk
theorem rp_zald {t : Nat} {i v : Int32} (X : Cx p s m args meth c D cl tys cc nL own Ts) (I : In D cl tys A s h H locs) (g : aI h t a i = some v) (ht : tyS[t]? = some .boolean) (hdg : decode cc pc = .ok (.baload, 1))
    (kk : W p l e R s m args below meth c H locs cells slots Q (F0 m (pc + 1) ls (.int v :: rest))) : W p l e R s m args below meth c H locs cells slots Q (F0 m pc ls (.int i :: .ref a :: rest)) := by
  obtain ⟨n, f, g1, g2, rfl⟩ := aI_s g
  obtain ⟨⟨hx, hb, hml, ho, hts⟩, hK, -, hT⟩ := X
  exact W.zald (v := .int (f i.toNatClampNeg)) hx hb (rp_arr I g1).2 ((rp_ty hK hT ht).1 n (fun j => .int (f j))) (fun q => by cases q) (rp_in g2) (rp_rd (f := fun j => .int (f j)) g2) rfl rfl hdg kk
theorem rp_lald {t : Nat} {i : Int32} {v : Int64} (X : Cx p s m args meth c D cl tys cc nL own Ts) (I : In D cl tys A s h H locs) (g : aJ h t a i = some v) (ht : tyS[t]? = some .long) (hdg : decode cc pc = .ok (.laload, 1))
    (kk : W p l e R s m args below meth c H locs cells slots Q (F0 m (pc + 1) ls (.long v :: rest))) : W p l e R s m args below meth c H locs cells slots Q (F0 m pc ls (.int i :: .ref a :: rest)) := by
  obtain ⟨n, f, g1, g2, rfl⟩ := aJ_s g
  obtain ⟨⟨hx, hb, hml, ho, hts⟩, hK, -, hT⟩ := X
  exact W.lald (v := .long (f i.toNatClampNeg)) hx hb (rp_arr I g1).2 ((rp_ty hK hT ht).1 n (fun j => .long (f j))) (fun q => by cases q) (rp_in g2) (rp_rd (f := fun j => .long (f j)) g2) rfl rfl hdg kk
theorem rp_aald {t : Nat} {i : Int32} {v : Nat} {C : String} (X : Cx p s m args meth c D cl tys cc nL own Ts) (I : In D cl tys A s h H locs) (g : aR h t a i = some v) (ht : tyS[t]? = some (.object C)) (hdg : decode cc pc = .ok (.aaload, 1))
    (kk : W p l e R s m args below meth c H locs cells slots Q (F0 m (pc + 1) ls (.ref v :: rest))) : W p l e R s m args below meth c H locs cells slots Q (F0 m pc ls (.int i :: .ref a :: rest)) := by
  obtain ⟨n, f, g1, g2, g3⟩ := aR_s g
  obtain ⟨⟨hx, hb, hml, ho, hts⟩, hK, -, hT⟩ := X
  have e1 : va_rf (f i.toNatClampNeg) = .ref v := by rw [g3]; rfl
  exact W.aald (v := .ref v) (ty := .object C) hx hb (rp_arr I g1).2 ((rp_ty hK hT ht).1 n (fun j => va_rf (f j))) rfl (fun q => by cases q) (rp_in g2) (by rw [← e1]; exact rp_rd (f := fun j => va_rf (f j)) g2) rfl rfl hdg kk
theorem sI_s {t : Nat} {i x : Int32} {h' : Hp} (g : sI h t a i x = some h') : ∃ n f, gA h t a = some (n, .inl f) ∧ vp_in i n ∧ h' = (h.1, hU h.2 a (.inl (t, n, .inl (upd f i.toNatClampNeg x)))) := by
  obtain ⟨⟨n, f⟩, g1, g2⟩ := rp_b g
  obtain ⟨y, g3, g4⟩ := rp_b g1
  obtain ⟨k, g5, g6⟩ := rp_b g2
  obtain ⟨g7, g8⟩ := iX_s g5
  have := xI_s g4
  subst this
  subst g8
  cases g6
  exact ⟨n, f, g3, g7, rfl⟩
theorem sB_s {t : Nat} {i x : Int32} {h' : Hp} (g : sB h t a i x = some h') : ∃ n f, gA h t a = some (n, .inl f) ∧ vp_in i n ∧ h' = (h.1, hU h.2 a (.inl (t, n, .inl (upd f i.toNatClampNeg (vp_nar .boolean x))))) := by
  obtain ⟨⟨n, f⟩, g1, g2⟩ := rp_b g
  obtain ⟨y, g3, g4⟩ := rp_b g1
  obtain ⟨k, g5, g6⟩ := rp_b g2
  obtain ⟨g7, g8⟩ := iX_s g5
  have := xI_s g4
  subst this
  subst g8
  cases g6
  exact ⟨n, f, g3, g7, rfl⟩
theorem sJ_s {t : Nat} {i : Int32} {x : Int64} {h' : Hp} (g : sJ h t a i x = some h') : ∃ n f, gA h t a = some (n, .inr (.inl f)) ∧ vp_in i n ∧ h' = (h.1, hU h.2 a (.inl (t, n, .inr (.inl (vp_updL f i.toNatClampNeg x))))) := by
  obtain ⟨⟨n, f⟩, g1, g2⟩ := rp_b g
  obtain ⟨y, g3, g4⟩ := rp_b g1
  obtain ⟨k, g5, g6⟩ := rp_b g2
  obtain ⟨g7, g8⟩ := iX_s g5
  have := xJ_s g4
  subst this
  subst g8
  cases g6
  exact ⟨n, f, g3, g7, rfl⟩
theorem sR_s {t ci v : Nat} {i : Int32} {h' : Hp} (g : sR h t ci a i v = some h') : ∃ n f fs, gA h t a = some (n, .inr (.inr (.inr (.inr f)))) ∧ vp_in i n ∧ gO h ci v = some fs ∧ h' = (h.1, hU h.2 a (.inl (t, n, .inr (.inr (.inr (.inr (va_up f i.toNatClampNeg (some v)))))))) := by
  obtain ⟨⟨n, f⟩, g1, g2⟩ := rp_b g
  obtain ⟨y, g3, g4⟩ := rp_b g1
  obtain ⟨k, g5, g6⟩ := rp_b g2
  obtain ⟨fs, g9, g10⟩ := rp_b g6
  obtain ⟨g7, g8⟩ := iX_s g5
  have := xR_s g4
  subst this
  subst g8
  cases g10
  exact ⟨n, f, fs, g3, g7, g9, rfl⟩
theorem rp_iast {t : Nat} {i x : Int32} {h' : Hp} (X : Cx p s m args meth c D cl tys cc nL own Ts) (I : In D cl tys A s h H locs) (g : sI h t a i x = some h') (ht : tyS[t]? = some .int) (hdg : decode cc pc = .ok (.iastore, 1))
    (kk : ∀ (H1 : Heap) (locs1 : List Loc), In D cl tys A s h' H1 locs1 → W p l e R s m args below meth c H1 locs1 cells slots Q (F0 m (pc + 1) ls rest)) : W p l e R s m args below meth c H locs cells slots Q (F0 m pc ls (.int x :: .int i :: .ref a :: rest)) := by
  obtain ⟨n, f, g1, g2, rfl⟩ := sI_s g
  obtain ⟨⟨hx, hb, hml, ho, hts⟩, hK, -, hT⟩ := X
  obtain ⟨hAa, hcell⟩ := rp_arr I g1
  refine W.iast hx hb hcell ((rp_ty hK hT ht).1 n (fun j => .int (f j))) (fun q => by cases q) (rp_in g2) rfl rfl hdg fun H1 e z oq => ?_
  refine kk H1 _ (rp_upd I hAa ?_ z oq)
  show H1[a]? = some (vp_cell _ _)
  rw [e]
  rw [vp_cell_i, vp_cell_i, arrV_store]
  congr 2
  funext q
  by_cases hq : q = i.toNatClampNeg
  · subst hq
    simp [updV, upd]
  · simp [updV, upd, hq]
theorem rp_zast {t : Nat} {i x : Int32} {h' : Hp} (X : Cx p s m args meth c D cl tys cc nL own Ts) (I : In D cl tys A s h H locs) (g : sB h t a i x = some h') (ht : tyS[t]? = some .boolean) (hdg : decode cc pc = .ok (.bastore, 1))
    (kk : ∀ (H1 : Heap) (locs1 : List Loc), In D cl tys A s h' H1 locs1 → W p l e R s m args below meth c H1 locs1 cells slots Q (F0 m (pc + 1) ls rest)) : W p l e R s m args below meth c H locs cells slots Q (F0 m pc ls (.int x :: .int i :: .ref a :: rest)) := by
  obtain ⟨n, f, g1, g2, rfl⟩ := sB_s g
  obtain ⟨⟨hx, hb, hml, ho, hts⟩, hK, -, hT⟩ := X
  obtain ⟨hAa, hcell⟩ := rp_arr I g1
  refine W.zast hx hb hcell ((rp_ty hK hT ht).1 n (fun j => .int (f j))) (fun q => by cases q) (rp_in g2) rfl rfl hdg fun H1 e z oq => ?_
  refine kk H1 _ (rp_upd I hAa ?_ z oq)
  show H1[a]? = some (vp_cell _ _)
  rw [e]
  rw [vp_cell_i, vp_cell_i, arrV_store]
  congr 2
  funext q
  by_cases hq : q = i.toNatClampNeg
  · subst hq
    simp [updV, upd, vp_nar]
    try rfl
  · simp [updV, upd, hq]
theorem rp_last {t : Nat} {i : Int32} {x : Int64} {h' : Hp} (X : Cx p s m args meth c D cl tys cc nL own Ts) (I : In D cl tys A s h H locs) (g : sJ h t a i x = some h') (ht : tyS[t]? = some .long) (hdg : decode cc pc = .ok (.lastore, 1))
    (kk : ∀ (H1 : Heap) (locs1 : List Loc), In D cl tys A s h' H1 locs1 → W p l e R s m args below meth c H1 locs1 cells slots Q (F0 m (pc + 1) ls rest)) : W p l e R s m args below meth c H locs cells slots Q (F0 m pc ls (.long x :: .int i :: .ref a :: rest)) := by
  obtain ⟨n, f, g1, g2, rfl⟩ := sJ_s g
  obtain ⟨⟨hx, hb, hml, ho, hts⟩, hK, -, hT⟩ := X
  obtain ⟨hAa, hcell⟩ := rp_arr I g1
  refine W.last hx hb hcell ((rp_ty hK hT ht).1 n (fun j => .long (f j))) (fun q => by cases q) (rp_in g2) rfl rfl hdg fun H1 e z oq => ?_
  refine kk H1 _ (rp_upd I hAa ?_ z oq)
  show H1[a]? = some (vp_cell _ _)
  rw [e]
  rw [vp_cell_l, vp_cell_l, arrV_store]
  congr 2
  funext q
  by_cases hq : q = i.toNatClampNeg
  · subst hq
    simp [updV, vp_updL]
  · simp [updV, vp_updL, hq]
end RP
