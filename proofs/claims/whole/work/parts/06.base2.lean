section RQ
variable {p : Program} {l : Launch} {e : Env} {R : Room} {s : State} {m : MethodId} {args : Array Value} {below : List Frame} {meth : Method} {c : Code} {H : Heap} {locs : List Loc} {cells slots : Nat} {Q : State → Prop}
variable {cc : ByteArray} {pc nL : Nat} {ls : Array Slot} {rest : List Value} {D : va_G} {cl : List vw_C} {A : Nat → Prop} {a : Nat} {tys : List (ClassId × FieldType)} {h : Hp} {Ts : List Cond} {own : String}
theorem rp_aast {t ci v : Nat} {i : Int32} {h' : Hp} {r : vw_C} (X : Cx p s m args meth c D cl tys cc nL own Ts) (I : In D cl tys A s h H locs) (g : sR h t ci a i v = some h') (hc : cl[ci]? = some r) (ht : tyS[t]? = some (.object r.1)) (hdg : decode cc pc = .ok (.aastore, 1))
    (kk : ∀ (H1 : Heap) (locs1 : List Loc), In D cl tys A s h' H1 locs1 → W p l e R s m args below meth c H1 locs1 cells slots Q (F0 m (pc + 1) ls rest)) : W p l e R s m args below meth c H locs cells slots Q (F0 m pc ls (.ref v :: .int i :: .ref a :: rest)) := by
  obtain ⟨n, f, fs, g1, g2, g3, rfl⟩ := sR_s g
  obtain ⟨⟨hx, hb, hml, ho, hts⟩, hK, -, hT⟩ := X
  obtain ⟨hAa, hcell⟩ := rp_arr I g1
  have hlt : i.toNatClampNeg < n := Nat.not_le.mp fun q => g2 (Or.inr q)
  have h0 : ¬ i < 0 := fun q => g2 (Or.inl q)
  obtain ⟨-, r', hr', cellV, q1, q2, q3, -⟩ := rp_obj I g3
  have hcls := (hK.1 ci r hc).2
  obtain ⟨kA, comp, k1, k2, k3, -⟩ := (rp_ty hK hT ht).2
  have hcomp : comp = D.1 ci := Option.some.inj (k3.symm.trans hcls.1)
  subst hcomp
  obtain ⟨kC, hkC, -⟩ := hcls.2
  refine W.aast hx hb hcell (fun q h => by cases h) (fun h => by cases h) k1 k2 rfl hkC ⟨h0, by show _ < (arrV _ _ _).slots.size; rw [arrV_size]; exact hlt⟩ q1 (fun q h => by rw [q3] at h; cases h) (by rw [q2]; exact hkC) (by rw [q2]; exact va_assign hcls) rfl rfl hdg fun H1 e z oq => ?_
  refine kk H1 _ (rp_upd I hAa ?_ z oq)
  show H1[a]? = some (vp_cell _ _)
  rw [e]
  rw [vp_cell_q, vp_cell_q, arrV_store]
  congr 2
  funext q
  by_cases hq : q = i.toNatClampNeg
  · subst hq
    simp [updV, va_up, va_rf]
  · simp [updV, va_up, hq]
theorem rp_new {C : String} {T : u_T} {N ci index : Nat} {fs : List Value} {q : Nat × Hp} (X : Cx p s m args meth c D cl tys cc nL own Ts) (I : In D cl tys A s h H locs) (g : nO_ h ci fs = some q) (hc : cl[ci]? = some (C, T, N)) (hin : ∀ w ∈ u_ws C T N, w ∈ Ts) (ty : Nat → FieldType) (hty : ∀ k, k < N → parseFieldDescriptor (T k).2.2.1 = some (ty k)) (hcl : Cond.classLink own index C ∈ Ts) (hinst : Cond.instantiable C N ∈ Ts) (hini : Cond.initialized C ∈ Ts) (hfs : ∀ j, j < N → defaultValue (ty j) = vp_V fs j) (hcells : cells + 1 ≤ R.cells) (hslots : slots + N ≤ R.slots) (hdg : decode cc pc = .ok (.new index, 3))
    (kk : ∀ H1 : Heap, In D cl tys A s q.2 H1 locs → W p l e R s m args below meth c H1 locs (cells + 1) (slots + N) Q (F0 m (pc + 3) ls (.ref q.1 :: rest))) : W p l e R s m args below meth c H locs cells slots Q (F0 m pc ls rest) := by
  cases g
  obtain ⟨⟨hx, hb, hml, ho, hts⟩, hK, -, hT⟩ := X
  have hKn := hK.1 ci _ hc
  refine W.newcK hx hb ho (hts _ hcl) (hts _ hinst) (hts _ hini) rfl hdg hcells hslots hKn.2.1 I.1.1 fun H1 kC hkC e1 z1 o1 => ?_
  exact kk H1 (rp_push I ⟨_, hc, (u_born ty hts hin hKn hkC e1 hty).to hfs⟩ z1 o1)
theorem rp_newa {t : Nat} {n : Int32} {x : vp_A} {atype : ArrayType} {ty : FieldType} (X : Cx p s m args meth c D cl tys cc nL own Ts) (I : In D cl tys A s h H locs) (hneg : ¬ n < 0) (hle : n.toNatClampNeg ≤ 100000) (hN : n.toNatClampNeg = x.1) (hxx : ∀ cA : ClassId, vp_cell cA x = arrV cA x.1 (fun _ => defaultValue ty)) (hty : newarray.typeOf atype = ty) (hby : componentBytes ty ≤ 8) (harr : Cond.arrayClass ty ∈ Ts) (ht : tyS[t]? = some ty) (hra : ∀ c : ClassId, va_RA s c ty → s.vm.findClass ("[" ++ ty.toString) = some c) (hcells : cells + 1 ≤ R.cells) (hslots : slots + x.1 ≤ R.slots) (hdg : decode cc pc = .ok (.newarray atype, 2))
    (kk : ∀ H1 : Heap, In D cl tys A s (h.1 + 1, hU h.2 h.1 (.inl (t, x))) H1 locs → W p l e R s m args below meth c H1 locs (cells + 1) (slots + x.1) Q (F0 m (pc + 2) ls (.ref h.1 :: rest))) : W p l e R s m args below meth c H locs cells slots Q (F0 m pc ls (.int n :: rest)) := by
  subst hty
  obtain ⟨⟨hx, hb, hml, ho, hts⟩, hK, -, hT⟩ := X
  have hby2 : x.1 * componentBytes (newarray.typeOf atype) ≤ 536870912 := by
    rw [← hN]
    exact Nat.le_trans (Nat.mul_le_mul hle hby) (by decide)
  refine va_newaK hx hb (hts _ harr) rfl hdg rfl hneg hN hby2 hcells hslots I.1.1 fun H1 cA e1 z1 o1 hAr hNm => ?_
  have hcA : (tys.getD t (0, .int)).1 = cA := Option.some.inj ((hra _ (rp_ty hK hT ht).2).symm.trans hNm)
  refine kk H1 (rp_push I ?_ z1 o1)
  show H1[h.1]? = some (vp_cell _ _)
  rw [hcA, hxx]
  exact e1
theorem rp_newI {t K : Nat} {n : Int32} {q : Nat × Hp} {atype : ArrayType} {ty : FieldType} (X : Cx p s m args meth c D cl tys cc nL own Ts) (I : In D cl tys A s h H locs) (g : nI_ h t n = some q) (hKn : n.toNatClampNeg = K) (hd0 : defaultValue ty = .int 0) (hty : newarray.typeOf atype = ty) (hby : componentBytes ty ≤ 8) (harr : Cond.arrayClass ty ∈ Ts) (ht : tyS[t]? = some ty) (hra : ∀ c : ClassId, va_RA s c ty → s.vm.findClass ("[" ++ ty.toString) = some c) (hcells : cells + 1 ≤ R.cells) (hslots : slots + K ≤ R.slots) (hdg : decode cc pc = .ok (.newarray atype, 2))
    (kk : ∀ H1 : Heap, In D cl tys A s q.2 H1 locs → W p l e R s m args below meth c H1 locs (cells + 1) (slots + K) Q (F0 m (pc + 2) ls (.ref q.1 :: rest))) : W p l e R s m args below meth c H locs cells slots Q (F0 m pc ls (.int n :: rest)) := by
  subst hKn
  unfold nI_ at g
  split at g
  · cases g
  · rename_i hq
    cases g
    exact rp_newa (x := (n.toNatClampNeg, .inl (fun _ => 0))) X I (fun z => hq (Or.inl z)) (by omega) rfl (fun cA => by rw [hd0]; rfl) hty hby harr ht hra hcells hslots hdg kk
theorem rp_newJ {t K : Nat} {n : Int32} {q : Nat × Hp} {atype : ArrayType} {ty : FieldType} (X : Cx p s m args meth c D cl tys cc nL own Ts) (I : In D cl tys A s h H locs) (g : nJ_ h t n = some q) (hKn : n.toNatClampNeg = K) (hd0 : defaultValue ty = .long 0) (hty : newarray.typeOf atype = ty) (hby : componentBytes ty ≤ 8) (harr : Cond.arrayClass ty ∈ Ts) (ht : tyS[t]? = some ty) (hra : ∀ c : ClassId, va_RA s c ty → s.vm.findClass ("[" ++ ty.toString) = some c) (hcells : cells + 1 ≤ R.cells) (hslots : slots + K ≤ R.slots) (hdg : decode cc pc = .ok (.newarray atype, 2))
    (kk : ∀ H1 : Heap, In D cl tys A s q.2 H1 locs → W p l e R s m args below meth c H1 locs (cells + 1) (slots + K) Q (F0 m (pc + 2) ls (.ref q.1 :: rest))) : W p l e R s m args below meth c H locs cells slots Q (F0 m pc ls (.int n :: rest)) := by
  subst hKn
  unfold nJ_ at g
  split at g
  · cases g
  · rename_i hq
    cases g
    exact rp_newa (x := (n.toNatClampNeg, .inr (.inl (fun _ => 0)))) X I (fun z => hq (Or.inl z)) (by omega) rfl (fun cA => by rw [hd0]; rfl) hty hby harr ht hra hcells hslots hdg kk
theorem rp_newR {t K index : Nat} {n : Int32} {q : Nat × Hp} {C : String} (X : Cx p s m args meth c D cl tys cc nL own Ts) (I : In D cl tys A s h H locs) (g : nR_ h t n = some q) (hKn : n.toNatClampNeg = K) (hcl : Cond.classLink own index C ∈ Ts) (hover : va_AO C s) (ht : tyS[t]? = some (.object C)) (hcells : cells + 1 ≤ R.cells) (hslots : slots + K ≤ R.slots) (hdg : decode cc pc = .ok (.anewarray index, 3))
    (kk : ∀ H1 : Heap, In D cl tys A s q.2 H1 locs → W p l e R s m args below meth c H1 locs (cells + 1) (slots + K) Q (F0 m (pc + 3) ls (.ref q.1 :: rest))) : W p l e R s m args below meth c H locs cells slots Q (F0 m pc ls (.int n :: rest)) := by
  subst hKn
  unfold nR_ at g
  split at g
  · cases g
  · rename_i hq
    cases g
    obtain ⟨⟨hx, hb, hml, ho, hts⟩, hK, -, hT⟩ := X
    refine W.anew hx hb ho (hts _ hcl) (va_AO.use hover) rfl hdg rfl (fun z => hq (Or.inl z)) (by omega) hcells hslots fun cA kA comp f1 f2 f3 f4 => ?_
    obtain ⟨kA', comp', -, -, -, f5⟩ := (rp_ty hK hT ht).2
    have hcA : (tys.getD t (0, .int)).1 = cA := Option.some.inj (f5.symm.trans f1)
    have hz := I.1.1
    generalize hH1 : H.push ({ cls := cA, slots := Array.replicate n.toNatClampNeg .null, vm := .none } : Cell) = H1
    have z1 : H1.size = h.1 + 1 := by rw [← hH1, Array.size_push, hz]
    have e1 : H1[h.1]? = some (arrV cA n.toNatClampNeg (fun _ => .null)) := by rw [← hH1, ← hz, Array.getElem?_push_size, ← arrV_new]
    have o1 : ∀ q : Nat, q < h.1 → H1[q]? = H[q]? := fun q hq => by rw [← hH1, Array.getElem?_push, if_neg (by omega)]
    refine W.eq (g2 := F0 m (pc + 3) ls (.ref h.1 :: rest)) (by rw [← hz]) (kk H1 (rp_push I ?_ z1 o1))
    show H1[h.1]? = some (vp_cell _ _)
    rw [hcA, vp_cell_q]
    exact e1
/-! answers -/
def Qr (D : va_G) (cl : List vw_C) (tys : List (ClassId × FieldType)) (A : Nat → Prop) (v : Option Value) (h' : Hp) : Array Value → State → Outcome → State → Prop := fun _ st oc t => oc = .returned v ∧ Rp D cl tys A h' t.heap ∧ va_F A st t
theorem rp_iret {v : Int32} {res : Int32 × Hp} (X : Cx p s m args meth c D cl tys cc nL own Ts) (hr : meth.sig.returnType = some .int) (hJ : some (v, h) = some res) (I : In D cl tys A s h H locs) (hdg : decode cc pc = .ok (.ireturn, 1)) : W p l e R s m args below meth c H locs cells slots (MQ below (Qr D cl tys A (some (.int res.1)) res.2) args s cells slots A) (F0 m pc ls [.int v]) := by
  cases hJ
  obtain ⟨⟨hx, hb, hml, ho, hts⟩, hK, hlocks, hT⟩ := X
  exact W.iret (v := v) hx hb hr (fun t ht hW => ⟨rfl, by rw [ht]; exact I.1, I.2.1.F ht⟩) I.2.1.2.2 hdg hlocks
theorem rp_nz {v : Int32} (h : v = 0 ∨ v = 1) : narrow .boolean (.int v) = .int v := by
  rcases h with rfl | rfl <;> rfl
theorem rp_zret {v : Int32} {res : Int32 × Hp} (X : Cx p s m args meth c D cl tys cc nL own Ts) (hr : meth.sig.returnType = some .boolean) (hv : v = 0 ∨ v = 1) (hJ : some (v, h) = some res) (I : In D cl tys A s h H locs) (hdg : decode cc pc = .ok (.ireturn, 1)) : W p l e R s m args below meth c H locs cells slots (MQ below (Qr D cl tys A (some (.int res.1)) res.2) args s cells slots A) (F0 m pc ls [.int v]) := by
  cases hJ
  obtain ⟨⟨hx, hb, hml, ho, hts⟩, hK, hlocks, hT⟩ := X
  exact W.zret (v := v) hx hb hr (rp_nz hv) (fun t ht hW => ⟨rfl, by rw [ht]; exact I.1, I.2.1.F ht⟩) I.2.1.2.2 hdg hlocks
theorem zR_s {v : Int32} {h : Hp} {res : Int32 × Hp} (g : zR v h = some res) : (v = 0 ∨ v = 1) ∧ some (v, h) = some res := by
  unfold zR at g
  split at g
  · rename_i hq
    exact ⟨hq, g⟩
  · cases g
theorem rp_lret {v : Int64} {res : Int64 × Hp} (X : Cx p s m args meth c D cl tys cc nL own Ts) (hr : meth.sig.returnType = some .long) (hJ : some (v, h) = some res) (I : In D cl tys A s h H locs) (hdg : decode cc pc = .ok (.lreturn, 1)) : W p l e R s m args below meth c H locs cells slots (MQ below (Qr D cl tys A (some (.long res.1)) res.2) args s cells slots A) (F0 m pc ls [.long v]) := by
  cases hJ
  obtain ⟨⟨hx, hb, hml, ho, hts⟩, hK, hlocks, hT⟩ := X
  exact W.lret (v := v) hx hb hr (fun t ht hW => ⟨rfl, by rw [ht]; exact I.1, I.2.1.F ht⟩) I.2.1.2.2 hdg hlocks
theorem rp_vret {res : Unit × Hp} (X : Cx p s m args meth c D cl tys cc nL own Ts) (hr : meth.sig.returnType = none) (hJ : some ((), h) = some res) (I : In D cl tys A s h H locs) (hdg : decode cc pc = .ok (.return_, 1)) : W p l e R s m args below meth c H locs cells slots (MQ below (Qr D cl tys A none res.2) args s cells slots A) (F0 m pc ls []) := by
  cases hJ
  obtain ⟨⟨hx, hb, hml, ho, hts⟩, hK, hlocks, hT⟩ := X
  exact W.vret hx hb hr (fun t ht hW => ⟨rfl, by rw [ht]; exact I.1, I.2.1.F ht⟩) I.2.1.2.2 hdg hlocks
/-! contracts and calls -/
def Pr (D : va_G) (cl : List vw_C) (tys : List (ClassId × FieldType)) (A : Nat → Prop) (h : Hp) (U : State) : Prop := (∀ q : Nat, U.heap.size ≤ q → A q) ∧ Rp D cl tys A h U.heap ∧ va_K D cl tys U ∧ nwS U
/-- the contract: at the abstract heap h, with the arguments av, the method answers v and leaves h' -/
def Ct (l : Launch) (D : va_G) (cl : List vw_C) (tys : List (ClassId × FieldType)) (A : Nat → Prop) (y : MethodName) (ws : List Cond) (rm : Room) (av : List Value) (h : Hp) (v : Option Value) (h' : Hp) : Prop := Met l y ws rm (va_Pc av (Pr D cl tys A h)) (Qr D cl tys A v h') rm.cells rm.slots A
theorem rp_blind {av : List Value} : FrameBlind (va_Pc av (Pr D cl tys A h)) := fun a U g mk ⟨q0, q1, q2, q3, q4⟩ => ⟨q0, q1, q2, va_K.moved (u := U) (U := U.calling g mk a) (Vm.Alike.refl U.vm) q3, nwS_same (u := U) (U := U.calling g mk a) rfl q4⟩
theorem rp_pre {av : List Value} (hK : va_K D cl tys s) (hN : nwS s) (I : In D cl tys A s h H locs) (U : State) (hU : U.heap = H) (hW : s.WarmedH U.vm) : va_Pc av (Pr D cl tys A h) av.toArray U := by
  refine ⟨rfl, fun q hq => ?_, by rw [hU]; exact I.1, va_K.moved hW.alike hK, nwS_warm hW hN⟩
  rw [hU] at hq
  exact I.2.2 q (Nat.le_trans I.2.1.1 hq)
theorem rp_go {v : Option Value} {h' : Hp} {mc ms : Nat} {st0 : List Value} {av : Array Value} (hr : va_Run p l e R s m args below meth c H locs cells slots mc ms (F0 m pc ls st0) rest (Qr D cl tys A v h' av) A) (I : In D cl tys A s h H locs)
    (kk : ∀ (H1 : Heap) (locs1 : List Loc), In D cl tys A s h' H1 locs1 → W p l e R s m args below meth c H1 locs1 (cells + mc) (slots + ms) Q (F0 m (pc + 3) ls (v.toList ++ rest))) : W p l e R s m args below meth c H locs cells slots Q (F0 m pc ls st0) := by
  intro T hT X
  obtain ⟨v', st₀, t, T', L, h0, X', hL, e1, e2, ⟨hv, hR, hz, hk⟩, st⟩ := hr T hT X
  cases hv
  rw [h0] at hz hk
  obtain ⟨t2, a1, b1⟩ := kk T'.heap (locs ++ L) ⟨by rw [e1]; exact hR, ⟨Nat.le_trans I.2.1.1 (by rw [e1]; exact hz), fun q h1 h2 => by rw [e1, hk q (Nat.lt_of_lt_of_le h1 I.2.1.1) h2]; exact I.2.1.2.1 q h1 h2, fun q hq => by
      rcases List.mem_append.mp hq with h | h
      · exact I.2.1.2.2 q h
      · exact hL q h⟩, I.2.2⟩ T' rfl X'
  exact ⟨t2, st t2 a1, b1⟩
variable {y : MethodName} {bytes : ByteArray} {maxL n index : Nat} {ret : Option FieldType} {ws : List Cond} {rm : Room} {C host : String} {b : Nat} {As st0 : List Value} {v : Option Value} {h' : Hp}
theorem rp_recv {ci : Nat} {T : u_T} {N : Nat} {fs : List Value} (hK : va_K D cl tys s) (I : In D cl tys A s h H locs) (g : gO h ci b = some fs) (hc : cl[ci]? = some (C, T, N)) : ∃ cell : Cell, H[b]? = some cell ∧ cell.vm.isStatics = false ∧ s.vm.findClass C = some cell.cls := va_recv hK (rp_one (rp_obj I g).2) (q0 := 0) hc rfl
theorem rp_callV {ci : Nat} {T : u_T} {N : Nat} {fs : List Value} (X : Cx p s m args meth c D cl tys cc nL own Ts) (hN : nwS s) (I : In D cl tys A s h H locs) (hM : Ct l D cl tys A y ws rm (.ref b :: As) h v h') (cw : CallW R s args own C index y bytes maxL ret ws rm rm.cells rm.slots n) (g : gO h ci b = some fs) (hc : cl[ci]? = some (C, T, N)) (hn : As.length = n) (hsz : ls.size = nL) (hst : st0 = As.reverse ++ .ref b :: rest) (hW : (rest.map fun v => v.category).sum ≤ 8) (hdg : decode cc pc = .ok (.invokevirtual index, 3)) (hf : cells + rm.cells ≤ R.cells ∧ slots + rm.slots ≤ R.slots)
    (kk : ∀ (H1 : Heap) (locs1 : List Loc), In D cl tys A s h' H1 locs1 → W p l e R s m args below meth c H1 locs1 (cells + rm.cells) (slots + rm.slots) Q (F0 m (pc + 3) ls (v.toList ++ rest))) : W p l e R s m args below meth c H locs cells slots Q (F0 m pc ls st0) :=
  rp_go (va_runV X.1 hM cw ⟨rp_blind, rp_recv X.2.1 I g hc, rp_pre X.2.1 hN I⟩ rfl hn hsz hst (lv_room hW) hdg hf) I kk
theorem rp_callS (X : Cx p s m args meth c D cl tys cc nL own Ts) (hN : nwS s) (I : In D cl tys A s h H locs) (hM : Ct l D cl tys A y ws rm As h v h') (cw : CallB R s args own index y bytes maxL ret ws rm rm.cells rm.slots n ∧ (Cond.static y).before args s = true) (hn : As.length = n) (hsz : ls.size = nL) (hst : st0 = As.reverse ++ rest) (hW : (rest.map fun v => v.category).sum ≤ 8) (hdg : decode cc pc = .ok (.invokestatic index, 3)) (hf : cells + rm.cells ≤ R.cells ∧ slots + rm.slots ≤ R.slots)
    (kk : ∀ (H1 : Heap) (locs1 : List Loc), In D cl tys A s h' H1 locs1 → W p l e R s m args below meth c H1 locs1 (cells + rm.cells) (slots + rm.slots) Q (F0 m (pc + 3) ls (v.toList ++ rest))) : W p l e R s m args below meth c H locs cells slots Q (F0 m pc ls st0) :=
  rp_go (va_runS X.1 hM cw ⟨rp_blind, rp_pre X.2.1 hN I⟩ rfl hn hsz hst (lv_room hW) hdg hf) I kk
theorem rp_callSN (X : Cx p s m args meth c D cl tys cc nL own Ts) (hN : nwS s) (I : In D cl tys A s h H locs) (hM : Ct l D cl tys A y ws rm As h v h') (cw : va_CN R s args own index y host bytes maxL ret ws rm rm.cells rm.slots n ∧ (Cond.static y).before args s = true ∧ True) (hn : As.length = n) (hsz : ls.size = nL) (hst : st0 = As.reverse ++ rest) (hW : (rest.map fun v => v.category).sum ≤ 8) (hdg : decode cc pc = .ok (.invokestatic index, 3)) (hf : cells + rm.cells ≤ R.cells ∧ slots + rm.slots ≤ R.slots)
    (kk : ∀ (H1 : Heap) (locs1 : List Loc), In D cl tys A s h' H1 locs1 → W p l e R s m args below meth c H1 locs1 (cells + rm.cells) (slots + rm.slots) Q (F0 m (pc + 3) ls (v.toList ++ rest))) : W p l e R s m args below meth c H locs cells slots Q (F0 m pc ls st0) :=
  rp_go (va_runSN X.1 hM cw ⟨rp_blind, rp_pre X.2.1 hN I⟩ rfl hn hsz hst (lv_room hW) hdg hf) I kk
theorem rp_callI (X : Cx p s m args meth c D cl tys cc nL own Ts) (hN : nwS s) (I : In D cl tys A s h H locs) (hM : Ct l D cl tys A y ws rm (.ref b :: As) h v h') (cw : CallB R s args own index y bytes maxL none ws rm rm.cells rm.slots n ∧ y.name = "<init>" ∧ (Cond.instanceMethod y).before args s = true) (hn : As.length = n) (hsz : ls.size = nL) (hst : st0 = As.reverse ++ .ref b :: rest) (hW : (rest.map fun v => v.category).sum ≤ 8) (hdg : decode cc pc = .ok (.invokespecial index, 3)) (hf : cells + rm.cells ≤ R.cells ∧ slots + rm.slots ≤ R.slots)
    (kk : ∀ (H1 : Heap) (locs1 : List Loc), In D cl tys A s h' H1 locs1 → W p l e R s m args below meth c H1 locs1 (cells + rm.cells) (slots + rm.slots) Q (F0 m (pc + 3) ls (v.toList ++ rest))) : W p l e R s m args below meth c H locs cells slots Q (F0 m pc ls st0) :=
  rp_go (va_runI X.1 hM cw ⟨rp_blind, rp_pre X.2.1 hN I⟩ rfl hn hsz hst (lv_room hW) hdg hf) I kk
theorem rp_callIN (X : Cx p s m args meth c D cl tys cc nL own Ts) (hN : nwS s) (I : In D cl tys A s h H locs) (hM : Ct l D cl tys A y ws rm (.ref b :: As) h v h') (cw : va_CN R s args own index y host bytes maxL none ws rm rm.cells rm.slots n ∧ y.name = "<init>" ∧ (Cond.instanceMethod y).before args s = true) (hn : As.length = n) (hsz : ls.size = nL) (hst : st0 = As.reverse ++ .ref b :: rest) (hW : (rest.map fun v => v.category).sum ≤ 8) (hdg : decode cc pc = .ok (.invokespecial index, 3)) (hf : cells + rm.cells ≤ R.cells ∧ slots + rm.slots ≤ R.slots)
    (kk : ∀ (H1 : Heap) (locs1 : List Loc), In D cl tys A s h' H1 locs1 → W p l e R s m args below meth c H1 locs1 (cells + rm.cells) (slots + rm.slots) Q (F0 m (pc + 3) ls (v.toList ++ rest))) : W p l e R s m args below meth c H locs cells slots Q (F0 m pc ls st0) :=
  rp_go (va_runIN X.1 hM cw ⟨rp_blind, rp_pre X.2.1 hN I⟩ rfl hn hsz hst (lv_room hW) hdg hf) I kk
end RQ
theorem rp_swOut {x : Int32} (m : Nat) (hm : m < 2 ^ 31) (h : ∀ k : Nat, k < m → ¬ x = nI k) : x.toInt < 0 ∨ ((m : Int) - 1) < x.toInt := by
  by_cases h0 : x < 0
  · left
    have := Int32.lt_iff_toInt_lt.mp h0
    simpa using this
  · right
    obtain ⟨j, hj, rfl⟩ := nI_of h0
    rw [nI_toInt hj]
    by_cases hjm : j < m
    · exact absurd rfl (h j hjm)
    · omega
