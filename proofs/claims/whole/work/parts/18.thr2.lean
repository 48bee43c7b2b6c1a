/-! what the methods that throw take along beside the rest -/
def thW : List Cond := [.declares (Bundle.initS "java/lang/RuntimeException"), .declares (Bundle.initS "java/lang/Exception"), .declares (Bundle.initS Bundle.tN)]
def thT : List (Nat × String) := [(90, "no such file"), (95, "workers are 1 to 8"), (115, "steps wait for one another"), (121, "a source has no content"), (155, "nothing such began"), (165, "no such step of a round"), (174, "no content")]
def ncS (U : State) : Prop := ∀ c t : ClassId, U.vm.findClass "java/lang/IllegalStateException" = some c → U.vm.findClass "java/lang/IllegalArgumentException" = some t → U.vm.assignable c t = false
def thS (A : Nat → Prop) (U : State) : Prop := (∀ w ∈ thW, va_Nw w U) ∧ ncS U ∧ (∀ q ∈ thT, ∃ a : Nat, vk_R RX6 q.1 q.2 a U) ∧ lsS A "UNASSIGNED_STACK" Bundle.steD U U.heap ∧ lsS A "SUPPRESSED_SENTINEL" Bundle.listD U U.heap
theorem thW_moved {u U : State} (hvm : u.vm.Alike U.vm) (h : ∀ w ∈ thW, va_Nw w u) : ∀ w ∈ thW, va_Nw w U := by
  have key : ∀ x : MethodName, va_Nw (.declares x) u → va_Nw (.declares x) U := fun x hx => va_tabs rfl (rfl : (u.setVm U.vm).vm = U.vm) (by rw [Cond.declares_setVm hvm]; exact hx : (Cond.declares x).before #[] (u.setVm U.vm) = true)
  intro w hw
  have hx := h w hw
  simp only [thW, List.mem_cons, List.not_mem_nil, or_false] at hw
  rcases hw with rfl | rfl | rfl <;> exact key _ hx
theorem ncS.moved {u U : State} (hvm : u.vm.Alike U.vm) (h : ncS u) : ncS U := by
  intro c t h1 h2
  rw [hvm.assignable]
  rw [hvm.findClass] at h1 h2
  exact h c t h1 h2
theorem thS_blind {A : Nat → Prop} {U : State} {g : JFrame} {mk : MethodId} {a : Array Value} (h : thS A U) : thS A (U.calling g mk a) := by
  obtain ⟨h1, h2, h3, h4, h5⟩ := h
  exact ⟨thW_moved (u := U) (U := U.calling g mk a) (Vm.Alike.refl U.vm) h1, ncS.moved (u := U) (U := U.calling g mk a) (Vm.Alike.refl U.vm) h2, fun q hq => (h3 q hq).elim fun x hx => ⟨x, vk_R.same (u := U) (U := U.calling g mk a) rfl hx⟩, lsS.moved (u := U) (U := U.calling g mk a) (Vm.Alike.refl U.vm) h4, lsS.moved (u := U) (U := U.calling g mk a) (Vm.Alike.refl U.vm) h5⟩
theorem thS_warm {A : Nat → Prop} {s U : State} {H : Heap} {locs : List Loc} (hU : U.heap = H) (hS : va_S A s.heap H locs) (hW : s.WarmedH U.vm) (h : thS A s) : thS A U := by
  obtain ⟨h1, h2, h3, h4, h5⟩ := h
  refine ⟨thW_moved hW.alike h1, h2.moved hW.alike, fun q hq => (h3 q hq).elim fun x hx => ⟨x, vk_R.warm hW hx⟩, ?_, ?_⟩
  · rw [hU]; exact (h4.moved hW.alike).kept hS.2.1
  · rw [hU]; exact (h5.moved hW.alike).kept hS.2.1
def PrX (D : va_G) (cl : List vw_C) (tys : List (ClassId × FieldType)) (A : Nat → Prop) (h : Hp) (U : State) : Prop := Pr D cl tys A h U ∧ thS A U
def excN : Nat → String
  | 0 => "java/lang/IllegalArgumentException"
  | 1 => "java/lang/IllegalStateException"
  | _ => "java/util/NoSuchElementException"
def Qx (D : va_G) (cl : List vw_C) (tys : List (ClassId × FieldType)) (A : Nat → Prop) (res : (Nat ⊕ Int32) × Hp) (st : State) (oc : Outcome) (t : State) : Prop :=
  (match res.1 with
    | .inr v => oc = .returned (some (.int v))
    | .inl k => ∃ (x : Nat) (cell : Cell), oc = .threw x ∧ t.heap[x]? = some cell ∧ cell.vm = .none ∧ st.vm.findClass (excN k) = some cell.cls) ∧ Rp D cl tys A res.2 t.heap ∧ va_F A st t
def Fx (st t : State) (mc ms : Nat) (A : Nat → Prop) : Prop := ∃ L : List Loc, (st.WarmedH t.vm ∧ st.sameButNew ({ t with vm := st.vm } : State) L mc ms) ∧ ∀ q ∈ L, A q.base
def MX (below : List Frame) (D : va_G) (cl : List vw_C) (tys : List (ClassId × FieldType)) (A : Nat → Prop) (res : (Nat ⊕ Int32) × Hp) (s : State) (mc ms : Nat) : State → Prop := fun t => ∃ o, t.status = .running ∧ Ended t below o ∧ Qx D cl tys A res s o t ∧ Fx s t mc ms A
def CtX (l : Launch) (D : va_G) (cl : List vw_C) (tys : List (ClassId × FieldType)) (A : Nat → Prop) (y : MethodName) (ws : List Cond) (rm : Room) (av : List Value) (h : Hp) (res : (Nat ⊕ Int32) × Hp) : Prop :=
  MetFree l y (headSpec ws rm) (va_Pc av (PrX D cl tys A h)) (fun _ _ _ _ _ => True) (fun _ st o t => Qx D cl tys A res st o t ∧ Fx st t rm.cells rm.slots A)
section THX
variable {p : Program} {l : Launch} {e : Env} {R : Room} {s : State} {m : MethodId} {args : Array Value} {below : List Frame} {meth : Method} {c : Code} {H : Heap} {locs : List Loc} {cells slots : Nat} {Q : State → Prop}
variable {cc : ByteArray} {pc nL : Nat} {ls : Array Slot} {rest : List Value} {D : va_G} {cl : List vw_C} {A : Nat → Prop} {a : Nat} {tys : List (ClassId × FieldType)} {h : Hp} {Ts : List Cond} {own : String}
theorem CtX.ofW {y : MethodName} {ws ws' : List Cond} {rm : Room} {av : List Value} {res : (Nat ⊕ Int32) × Hp} {maxL : Nat} {ret : Option FieldType} (hy : plainName y.cls = true) (hw : ws = Cond.code y cc maxL ret :: ws')
    (body : ∀ p e s m args below meth c s₁, BodyLoose p l y (headSpec ws rm) cc maxL ret e s m args below meth c s₁ → c.maxLocals = maxL → va_Pc av (PrX D cl tys A h) args s →
      W p l e (headSpec ws rm).room s m args below meth c s.heap [] 0 0 (MX below D cl tys A res s rm.cells rm.slots) (entryFrame m args maxL)) : CtX l D cl tys A y ws rm av h res := by
  refine MetFree.of_bodyS (code := cc) (maxLocals := maxL) (ret := ret) hy ?_ ?_
  · intro args s m h hn
    obtain ⟨meth, c, h1, h2, h3, h4, h5, h6, -, -⟩ := Cond.code_spec hn (atoms_spec (ws := ws) h _ (by rw [hw]; exact List.mem_cons_self))
    exact ⟨meth, c, h1, h2, h3, h4, h5, h6⟩
  · intro p e s m args below meth c s₁ B hml hP _
    have hh0 : s₁.heap = s.heap := by rw [B.state]; rfl
    obtain ⟨t, a1, o, b1, b2, b3⟩ := body p e s m args below meth c s₁ B hml hP s₁ hh0 (Stand.of_body B)
    exact ⟨t, o, a1, b1, b2, b3⟩
theorem W.weakQ {Q' : State → Prop} {g : JFrame} (hq : ∀ t, Q t → Q' t) (w : W p l e R s m args below meth c H locs cells slots Q g) : W p l e R s m args below meth c H locs cells slots Q' g := fun T hT X => by
  obtain ⟨t, a1, b1⟩ := w T hT X
  exact ⟨t, a1, hq t b1⟩
theorem rp_xret {v : Int32} {res : (Nat ⊕ Int32) × Hp} (X : Cx p s m args meth c D cl tys cc nL own Ts) (hr : meth.sig.returnType = some .int) (hJ : some ((.inr v : Nat ⊕ Int32), h) = some res) (I : In D cl tys A s h H locs) (hdg : decode cc pc = .ok (.ireturn, 1)) : W p l e R s m args below meth c H locs cells slots (MX below D cl tys A res s cells slots) (F0 m pc ls [.int v]) := by
  cases hJ
  obtain ⟨⟨hx, hb, hml, ho, hts⟩, hK, hlocks, hT⟩ := X
  refine W.weakQ ?_ (W.iret (v := v) (Qc := fun _ st oc t => Qx D cl tys A (.inr v, h) st oc t) (free := A) hx hb hr (fun t ht hW => ⟨rfl, by rw [ht]; exact I.1, I.2.1.F ht⟩) I.2.1.2.2 hdg hlocks)
  intro t ⟨o, h1, h2, h3, L, h4, h5⟩
  exact ⟨o, h1, h2, h3, L, ⟨h4.2.1, h4.2.2⟩, h5⟩
set_option maxHeartbeats 1000000 in
theorem rp_throw {k : Nat} {tx : String} {icl ix ic idx : Nat} {bytes : ByteArray} {res : (Nat ⊕ Int32) × Hp} (X : Cx p s m args meth c D cl tys cc nL RX6 wsG) (hfl : l.flags = flags0) (hex : c.exceptionTable.isEmpty = true) (hth : thS A s) (I : In D cl tys A s h H locs) (hls : ls.size = nL) (hJ : some ((.inl k : Nat ⊕ Int32), (h.1 + 1, h.2)) = some res)
    (hcl : Cond.classLink RX6 icl (excN k) ∈ wsG) (hins : Cond.instantiable (excN k) 6 ∈ wsG) (hini : Cond.initialized (excN k) ∈ wsG) (hwA : ∀ w ∈ thA RX6 ic (excN k) idx bytes, w ∈ wsG ∨ w ∈ thW ∨ w = .laysStatic Bundle.tN "UNASSIGNED_STACK" Bundle.steD ∨ w = .laysStatic Bundle.tN "SUPPRESSED_SENTINEL" Bundle.listD)
    (hfit : Bundle.fit (excN k) = true) (hb0 : decode bytes 0 = .ok (.aload_n 0, 1)) (hb1 : decode bytes 1 = .ok (.aload_n 1, 1)) (hb2 : decode bytes 2 = .ok (.invokespecial idx, 3)) (hb5 : decode bytes 5 = .ok (.return_, 1))
    (hstr : (ix, tx) ∈ thT) (d0 : decode cc pc = .ok (.new icl, 3)) (d3 : decode cc (pc + 3) = .ok (.dup, 1)) (d4 : decode cc (pc + 4) = .ok (.ldc ix, 2)) (d6 : decode cc (pc + 6) = .ok (.invokespecial ic, 3)) (d9 : decode cc (pc + 9) = .ok (.athrow, 1))
    (hRc : cells + 1 ≤ R.cells) (hRs : slots + 6 ≤ R.slots) (hRf : 5 < R.frames) (hRl : 82 ≤ R.locals) :
    W p l e R s m args below meth c H locs cells slots (MX below D cl tys A res s (cells + 1) (slots + 6)) (F0 m pc ls []) := by
  cases hJ
  obtain ⟨⟨hx, hb, hml, ho, hts⟩, hK, hlocks, hT⟩ := X
  obtain ⟨t1, t2, t3, t4, t5⟩ := hth
  obtain ⟨a0, hstr1, hstr2⟩ := t3 _ hstr
  obtain ⟨cX, kX, hcX, hkX, -⟩ := Cond.instantiable_spec (hts _ hins)
  refine W.newcK hx hb ho (hts _ hcl) (hts _ hins) (hts _ hini) rfl d0 hRc hRs hcX I.1.1 fun H1 kC hkC e1 z1 o1 => ?_
  refine W.eq (g2 := F0 m (pc + 3) ls [.ref h.1]) rfl ?_
  refine lv_dup hx hb d3 rfl ?_
  intro T hTh XS
  have hdl : decode c.code (F0 m (pc + 3 + 1) ls [Value.ref h.1, Value.ref h.1]).pc = .ok (.ldc ix, 2) := by rw [hb]; exact d4
  have hs4 : (Cond.stringRef RX6 ix tx).before args s = true := hstr1
  have hs5 : (Term.string RX6 ix).eval args s none [] s = some (.ref a0) := hstr2
  have st1 := XS.ldcString hx ho hs4 hs5 (g := F0 m (pc + 3 + 1) ls [Value.ref h.1, Value.ref h.1]) rfl hdl
  have hSn : va_S A s.heap H1 locs := ⟨by have := I.2.1.1; have := I.1.1; omega, fun q g1 g2 => by rw [o1 q (by have := I.2.1.1; have := I.1.1; omega)]; exact I.2.1.2.1 q g1 g2, I.2.1.2.2⟩
  have hwb : ∀ w ∈ thA RX6 ic (excN k) idx bytes, w.before args s = true := by
    intro w hw
    rcases hwA w hw with q | q | q | q
    · exact hts w q
    · have q9 := t1 w q
      simp only [thW, List.mem_cons, List.not_mem_nil, or_false] at q
      rcases q with rfl | rfl | rfl <;> exact va_Nw.use rfl q9
    · rw [q]; exact t4.lays
    · rw [q]; exact t5.lays
  have hlt : s.heap.size ≤ h.1 := by have := I.2.1.1; have := I.1.1; omega
  obtain ⟨vm', ce, c1, c2, st2, r1, r2, r3, r4⟩ := rq_throw (A := A) XS hx (Launch.traces_off hfl XS.admits) ho hfit hb0 hb1 hb2 hb5 hwb (by rw [hTh]; exact t4.kept hSn.2.1) (by rw [hTh]; exact t5.kept hSn.2.1) hcX hkC (a := h.1) (by rw [hTh]; exact e1) hlt (msg := .ref a0) rfl (g := F0 m (pc + 6) ls [.ref a0, .ref h.1, .ref h.1]) rfl (by rw [hml]; exact hls) rfl rfl (rest := []) rfl (by rw [hb]; exact d6) (by rw [hb]; exact d9)
    (fun x hx => by rw [Array.isEmpty_iff] at hex; rw [hex] at hx; simp at hx) hRf (by show 2 * 0 + (1 + 0) + 81 ≤ _; omega) hlocks
  have hTl : h.1 < T.heap.size := by rw [hTh, z1]; omega
  have hheap : ∀ q : Nat, q ≠ h.1 → (((T.setVm vm').setCell h.1 ce).setFrames (.throwing h.1 :: below)).heap[q]? = H1[q]? := fun q hq => by
    rw [← hTh]
    exact heapAt_setCell_ne (s := T.setVm vm') ce (Ne.symm hq)
  have hself : (((T.setVm vm').setCell h.1 ce).setFrames (.throwing h.1 :: below)).heap[h.1]? = some ce := heapAt_setCell_self (s := T.setVm vm') ce hTl
  have hsz : (((T.setVm vm').setCell h.1 ce).setFrames (.throwing h.1 :: below)).heap.size = h.1 + 1 := (size_setCell (T.setVm vm') h.1 ce).trans (by show T.heap.size = _; rw [hTh, z1])
  refine ⟨_, st1 _ st2, .threw h.1, r1, r2, ⟨⟨h.1, ce, rfl, hself, c2, by rw [c1]; exact hcX⟩, ⟨hsz, fun b e' hb' => ?_⟩, ?_⟩, locs, ⟨r3, r4⟩, I.2.1.2.2⟩
  · obtain ⟨g1, g2⟩ := I.1.2 b e' hb'
    have hl := g2.lt
    dsimp only at hl
    refine ⟨g1, g2.kept ?_⟩
    have hne : b ≠ h.1 := by have := I.1.1; omega
    rw [hheap b hne, o1 b (by have := I.1.1; omega)]
  · refine ⟨by rw [hsz]; omega, fun q g1 g2 => ?_⟩
    rw [hheap q (by omega), hSn.2.1 q g1 g2]
end THX
