
section CTE
variable {p : Program} {l : Launch} {e : Env} {R : Room} {s : State} {m : MethodId} {args : Array Value} {below : List Frame} {meth : Method} {c : Code} {H : Heap} {locs : List Loc} {cells slots : Nat} {Q : State → Prop}
variable {cc : ByteArray} {pc nL : Nat} {ls : Array Slot} {rest : List Value} {D : va_G} {cl : List vw_C} {A : Nat → Prop} {tys : List (ClassId × FieldType)} {h : Hp} {Ts : List Cond} {own : String}
variable {y : MethodName} {bytes : ByteArray} {maxL n index : Nat} {ret : Option FieldType} {ws : List Cond} {rm : Room} {C : String} {b : Nat} {As st0 : List Value} {res : (Nat ⊕ Int32) × Hp}
theorem rp_callVt {ci : Nat} {T : u_T} {N : Nat} {fs : List Value} {k hpc : Nat} (X : Cx p s m args meth c D cl tys cc nL own Ts) (hN : nwS s) (hth : thS A s) (I : In D cl tys A s h H locs) (hM : CtX l D cl tys A y ws rm (.ref b :: As) h res) (hv : res.1 = .inl k) (cw : CallW R s args own C index y bytes maxL ret ws rm rm.cells rm.slots n) (g : gO h ci b = some fs) (hc : cl[ci]? = some (C, T, N)) (hn : As.length = n) (hsz : ls.size = nL) (hst : st0 = As.reverse ++ .ref b :: rest) (hW : (rest.map fun v => v.category).sum ≤ 8) (hdg : decode cc pc = .ok (.invokevirtual index, 3)) (hf : cells + rm.cells ≤ R.cells ∧ slots + rm.slots ≤ R.slots)
    (hcatch : ∀ (T' : State) (x : Nat) (cell : Cell) (g' : JFrame) (locs' : List Loc) (c1 s1 : Nat), Stand p l e R s m args below meth c T' locs' c1 s1 → g'.method = m → g'.pc = pc → T'.heap[x]? = some cell → cell.vm = .none → s.vm.findClass (excN k) = some cell.cls → ∃ vm', Stand p l e R s m args below meth c (T'.setVm vm') locs' c1 s1 ∧ ∀ target, Steps p.tables e below ((T'.setVm vm').setTop { g' with pc := hpc, stack := [.ref x] }) target → Steps p.tables e below ((T'.setTop g').pushFrame (.throwing x)) target)
    (kk : ∀ (x : Nat) (H1 : Heap) (locs1 : List Loc), In D cl tys A s res.2 H1 locs1 → W p l e R s m args below meth c H1 locs1 (cells + rm.cells) (slots + rm.slots) Q (F0 m hpc ls [.ref x])) : W p l e R s m args below meth c H locs cells slots Q (F0 m pc ls st0) := by
  intro T₀ hT XS
  obtain ⟨o, vm₁, mk, t, X₁, st, hend, hq, L, ⟨hW1, hsame⟩, hL⟩ := rq_callT (rest := rest) XS X.1 hM cw (by rw [hT]; exact rp_recv X.2.1 I g hc) (fun U hU hWU => rp_preX X.2.1 hN hth I U (hU.trans hT) hWU) (g := F0 m pc ls st0) rfl hn hsz hst (lv_room hW) hdg hf
  unfold Qx at hq
  rw [hv] at hq
  obtain ⟨⟨x, cell, rfl, hcell, hvm, hcls⟩, hR, hz, hk⟩ := hq
  obtain ⟨T', XT, -, -, rfl⟩ := X₁.outOfThrown (g := { F0 m pc ls st0 with stack := rest }) rfl hend hW1 hsame
  have hhp : ((T'.setTop { F0 m pc ls st0 with stack := rest }).pushFrame (.throwing x)).heap = T'.heap := Stand.throwing_heap T' _ x
  rw [hhp] at hcell hR hz hk
  have hcls' : s.vm.findClass (excN k) = some cell.cls := by
    rw [← X₁.warmed.alike.findClass]
    exact hcls
  obtain ⟨vm', XT2, st2⟩ := hcatch T' x cell { F0 m pc ls st0 with stack := rest } _ _ _ XT rfl rfl hcell hvm hcls'
  have hTh : ((T₀.setVm vm₁).calling { F0 m pc ls st0 with stack := rest } mk (Value.ref b :: As).toArray).heap = H := hT
  rw [hTh] at hz hk
  obtain ⟨t2, a1, b1⟩ := kk x T'.heap (locs ++ L) ⟨hR, ⟨Nat.le_trans I.2.1.1 hz, fun q h1 h2 => by rw [hk q (Nat.lt_of_lt_of_le h1 I.2.1.1) h2]; exact I.2.1.2.1 q h1 h2, fun q hq => by
      rcases List.mem_append.mp hq with h | h
      · exact I.2.1.2.2 q h
      · exact hL q h⟩, I.2.2⟩ (T'.setVm vm') rfl XT2
  exact ⟨t2, st.trans (st2 t2 a1), b1⟩
/-- a static method with an exception table is called -/
theorem rp_callSW {hh : List (Nat × Nat × Nat × Nat)} {v : Option Value} {h' : Hp} (X : Cx p s m args meth c D cl tys cc nL own Ts) (hN : nwS s) (hth : thS A s) (I : In D cl tys A s h H locs) (hM : Met l y ws rm (va_Pc As (PrX D cl tys A h)) (Qr D cl tys A v h') rm.cells rm.slots A)
    (hG : GoodIn Ts ws) (hcw : Cond.codeWith y bytes maxL ret hh ∈ ws) (hstat : Cond.static y ∈ Ts) (hini : Cond.initialized y.cls ∈ Ts) (hl : Cond.methodLink own index y ∈ Ts) (hd : y.cls ≠ "java/lang/invoke/MethodHandle" ∧ y.cls ≠ "java/lang/invoke/VarHandle" ∧ (parseMethodDescriptor y.desc).map (fun d => d.parameters.length) = some As.length) (hfr : rm.frames + 1 ≤ R.frames) (hlo : 8 + (maxL + 11) + rm.locals ≤ R.locals)
    (hsz : ls.size = nL) (hst : st0 = As.reverse ++ rest) (hW : (rest.map fun v => v.category).sum ≤ 8) (hdg : decode cc pc = .ok (.invokestatic index, 3)) (hf : cells + rm.cells ≤ R.cells ∧ slots + rm.slots ≤ R.slots)
    (kk : ∀ (H1 : Heap) (locs1 : List Loc), In D cl tys A s h' H1 locs1 → W p l e R s m args below meth c H1 locs1 (cells + rm.cells) (slots + rm.slots) Q (F0 m (pc + 3) ls (v.toList ++ rest))) : W p l e R s m args below meth c H locs cells slots Q (F0 m pc ls st0) := by
  refine rp_go (av := As.toArray) (mc := rm.cells) (ms := rm.slots) (rest := rest) ?_ I kk
  obtain ⟨⟨hx, hb, hml, ho, hts⟩, hK, -, hT⟩ := X
  have hKb : Back l R p e below s args y 3 8 (PreOf R rm.cells rm.slots (va_Pc As (PrX D cl tys A h))) (PostOf (Qr D cl tys A v h') rm.cells rm.slots A) := va_backW (hh := hh) (bytes := bytes) (maxL := maxL) (ret := ret) hM rp_blindX rfl rfl hfr hlo (pay_in hts hG) hcw (fun a' U hW => word_at hW (Or.inl (by first | rfl | simp [Cond.onTables, Cond.keeps, Cond.steady])) (hts _ hini))
  intro T hTh XS
  obtain ⟨mk, methM, cM, hnamed, hmethM, -, -, -, -, -, -, hsigM⟩ := Cond.codeWith_spec (hts _ (hG _ hcw).1)
  have hstatic : methM.isStatic = true := Cond.static_spec hnamed hmethM (hts _ hstat)
  obtain ⟨kP, hkP, -⟩ := className_of_methodNamed hnamed
  have hinitP : kP.init = .initialized := Cond.initialized_spec (findClass_of_methodNamed hnamed) hkP (hts _ hini)
  have hlen : As.length = methM.sig.parameters.length := by
    have h2 := hd.2.2
    rw [hsigM] at h2
    exact (Option.some.inj h2).symm
  obtain ⟨vm₁, X₁, hstep₁⟩ := XS.invokestatic hx ho (hts _ hl) hnamed hmethM hstatic hkP hinitP ⟨hd.1, hd.2.1⟩ (g := F0 m pc ls st0) rfl (argsL := As) (rest := rest) hlen hst (by rw [hb]; exact hdg)
  obtain ⟨v2, B, X', ⟨g', mk', t, L, e1, e2, hq, h1, hL, h2, h3⟩, hsteps⟩ := hKb m meth c ⟨T.setVm vm₁, locs, cells, slots⟩ { F0 m pc ls st0 with stack := rest } (.invokestatic index) mk As.toArray X₁ rfl (hsz.trans hml.symm) (by rw [hb]; exact hdg) (lv_room (rest := rest) hW) (X₁.named hnamed) ⟨hf.1, hf.2, rp_preX hK hN hth I (T.setVm vm₁) hTh X₁.warmed⟩
  obtain ⟨U', l2, c2, s2⟩ := B
  dsimp only [Pt.U, Pt.locs, Pt.cells, Pt.slots] at X' e1 e2 h1 h2 h3 hsteps
  subst h1; subst h2; subst h3
  exact ⟨v2, (T.setVm vm₁).calling g' mk' As.toArray, t, U', L, hTh, X', hL, e1, e2, hq, fun target hr => hstep₁ _ fun acts => by rw [doInvoke_state]; exact hsteps.trans hr⟩
theorem rq_tab {hh : List (Nat × Nat × Nat × Nat)} {ws' : List Cond} {s₁ : State} (B : BodyLoose p l y (headSpec (Cond.codeWith y bytes maxL ret hh :: ws') rm) bytes maxL ret e s m args below meth c s₁) : c.exceptionTable.toList.map (fun h => (h.startPc, h.endPc, h.handlerPc, h.catchType)) = hh := by
  obtain ⟨m', meth', c', hn', hm', hc', -, -, ht', -⟩ := Cond.codeWith_spec (atoms_spec (ws := Cond.codeWith y bytes maxL ret hh :: ws') B.pre _ List.mem_cons_self)
  cases B.named.symm.trans hn'
  cases B.method.symm.trans hm'
  cases (Stand.of_body B).code.symm.trans hc'
  exact ht'
theorem rq_self {k : Nat} (hts : ∀ w ∈ wsG, w.before args s = true) (hi : Cond.instantiable (excN k) 6 ∈ wsG) {cX : ClassId} (hc : s.vm.findClass (excN k) = some cX) : s.vm.assignable cX cX = true := by
  obtain ⟨c1, k1, h1, h2, h3, -⟩ := Cond.instantiable_spec (hts _ hi)
  cases hc.symm.trans h1
  exact va_assign (C := excN k) ⟨h1, k1, h2, h3⟩
theorem rq_l1 {l : List ExceptionTableEntry} {a : Nat × Nat × Nat × Nat} (h : l.map (fun h => (h.startPc, h.endPc, h.handlerPc, h.catchType)) = [a]) : ∃ x1 : ExceptionTableEntry, l = [x1] ∧ (x1.startPc, x1.endPc, x1.handlerPc, x1.catchType) = a := by
  cases l with
  | nil => cases h
  | cons x t =>
    cases t with
    | nil => simp only [List.map_cons, List.map_nil, List.cons.injEq, and_true] at h; exact ⟨x, rfl, h⟩
    | cons y t => simp at h
theorem rq_l2 {l : List ExceptionTableEntry} {a b : Nat × Nat × Nat × Nat} (h : l.map (fun h => (h.startPc, h.endPc, h.handlerPc, h.catchType)) = [a, b]) : ∃ x1 x2 : ExceptionTableEntry, l = [x1, x2] ∧ (x1.startPc, x1.endPc, x1.handlerPc, x1.catchType) = a ∧ (x2.startPc, x2.endPc, x2.handlerPc, x2.catchType) = b := by
  cases l with
  | nil => cases h
  | cons x t =>
    simp only [List.map_cons, List.cons.injEq] at h
    obtain ⟨y, ht, hy⟩ := rq_l1 h.2
    exact ⟨x, y, by rw [ht], h.1, hy⟩
end CTE
section GW
variable {p : Program} {l : Launch} {e : Env} {s : State} {m : MethodId} {args : Array Value} {below : List Frame} {meth : Method} {c : Code} {D : va_G} {tys : List (ClassId × FieldType)} {A : Nat → Prop}
def rmL_build : Room := { frames := 8, cells := 1, slots := 6, locals := 178 }
def J_Law_build (N : Nat) (x0 : Nat) (x1 : Int32) (x2 : Int32) (x3 : Nat) (h : Hp) : Option (Int32 × Hp) :=
  (isO h 6 x0).bind fun _ =>
  (J_Desk_build N x0 x1 x2 h).bind fun q => match q.1 with
    | .inr v => (sJ q.2 2 x3 (0 : Int32) v.toInt64).bind fun h2 => some ((0 : Int32), h2)
    | .inl k => if k = 0 then some ((1 : Int32), q.2) else if k = 1 then some ((2 : Int32), q.2) else none
set_option maxHeartbeats 4000000 in
set_option maxRecDepth 100000 in
theorem c_Law_build {l : Launch} {D : va_G} {tys : List (ClassId × FieldType)} {A : Nat → Prop} (hT : tys.map (fun q => q.2) = tyS) (hfl : l.flags = flags0) {N : Nat} {x0 : Nat} {x1 : Int32} {x2 : Int32} {x3 : Nat} {h : Hp} {res : Int32 × Hp} (hJ : J_Law_build N x0 x1 x2 x3 h = some res) : Met l yL_build (Cond.codeWith yL_build cL_build 5 (some .int) [(0, 10, 13, 13), (0, 10, 17, 15)] :: wsG) rmL_build (va_Pc [.ref x0, .int x1, .int x2, .ref x3] (PrX D vwCl tys A h)) (Qr D vwCl tys A (some (.int res.1)) res.2) rmL_build.cells rmL_build.slots A := by
  refine va_MetW (cc := cL_build) (maxL := 5) (ret := (some .int)) (hh := [(0, 10, 13, 13), (0, 10, 17, 15)]) (by decide) rfl ?_
  intro p e s m args below meth c s₁ B hml hv
  obtain ⟨rfl, ⟨hA, hR, hK, hN⟩, hth⟩ := hv
  have hr := B.returns
  have htab := rq_tab B
  have hts : ∀ w ∈ wsG, w.before [.ref x0, .int x1, .int x2, .ref x3].toArray s = true := fun w hw => atoms_spec (ws := Cond.codeWith yL_build cL_build 5 (some .int) [(0, 10, 13, 13), (0, 10, 17, 15)] :: wsG) B.pre w (List.mem_cons_of_mem _ hw)
  have X : Cx p s m [.ref x0, .int x1, .int x2, .ref x3].toArray meth c D vwCl tys cL_build 5 RL wsG := ⟨⟨B.exec, B.bytes, hml, findClass_of_methodNamed B.named, hts⟩, hK, B.notSynchronized, hT⟩
  have hx := B.exec
  have hb := B.bytes
  have I : In D vwCl tys A s h s.heap [] := ⟨hR, va_S.rf, hA⟩
  have ho := X.1.2.2.2.1
  have hl := lv_entry [.ref x0, .int x1, .int x2, .ref x3] (n := 5) (Nat.le_of_ble_eq_true rfl)
  rw [lg_entry_eq]
  generalize (lg_sl [.ref x0, .int x1, .int x2, .ref x3] ++ List.replicate (5 - (lg_sl [.ref x0, .int x1, .int x2, .ref x3]).length) Slot.unset).toArray = ls at hl ⊢
  have hl : lv_has ls 5 [(0, .ref x0), (1, .int x1), (2, .int x2), (3, .ref x3)] := hl
  rw [J_Law_build] at hJ
  obtain ⟨u9, i9, hJ⟩ := rp_b hJ
  obtain ⟨f9, i9⟩ := isO_s i9
  obtain ⟨q, e9, hJ⟩ := rp_b hJ
  refine lv_aload_n hx hb dL_build_0 rfl (lv_at hl 3 rfl) ?_
  refine lv_iconst (v := 0) hx hb dL_build_1 (by decide) ?_
  refine lv_aload_n hx hb dL_build_2 rfl (lv_at hl 0 rfl) ?_
  refine lv_iload_n hx hb dL_build_3 rfl (lv_at hl 1 rfl) ?_
  refine lv_iload_n hx hb dL_build_4 rfl (lv_at hl 2 rfl) ?_
  cases hq : q.1 with
  | inr v =>
    rw [hq] at hJ
    obtain ⟨h2, e2, hJ⟩ := rp_b hJ
    refine rp_callVr (As := [.int x1, .int x2]) (rest := [.int 0, .ref x3]) X hN hth I (c_Desk_build hT e9 hfl) hq (cwV 2 hts (gdV wm_289 wm_290 wm_291 wm_33 wm_292) rfl rfl rfl (by decide +kernel) ⟨Nat.le_of_ble_eq_true rfl, Nat.le_of_ble_eq_true rfl⟩) i9 rfl rfl hl.1 rfl (Nat.le_of_ble_eq_true rfl) dL_build_5 ⟨Nat.le_of_ble_eq_true rfl, Nat.le_of_ble_eq_true rfl⟩ (fun H locs I => ?_)
    refine W.cs (cells' := 1) (slots' := 6) rfl rfl ?_
    refine lv_i2l hx hb dL_build_8 rfl ?_
    refine rp_last X I e2 rfl dL_build_9 (fun H locs I => ?_)
    refine lv_goto (tgt := 21) hx hb dL_build_10 (by decide) ?_
    refine lv_iconst (v := 0) hx hb dL_build_21 (by decide) ?_
    exact rp_iret X hr hJ I dL_build_22
  | inl k =>
    rw [hq] at hJ
    by_cases hk : k = 0
    · subst hk
      dsimp only at hJ
      rw [if_pos rfl] at hJ
      refine rp_callVt (hpc := 13) (As := [.int x1, .int x2]) (rest := [.int 0, .ref x3]) X hN hth I (c_Desk_build hT e9 hfl) hq (cwV 2 hts (gdV wm_289 wm_290 wm_291 wm_33 wm_292) rfl rfl rfl (by decide +kernel) ⟨Nat.le_of_ble_eq_true rfl, Nat.le_of_ble_eq_true rfl⟩) i9 rfl rfl hl.1 rfl (Nat.le_of_ble_eq_true rfl) dL_build_5 ⟨Nat.le_of_ble_eq_true rfl, Nat.le_of_ble_eq_true rfl⟩ (fun T1 z cell g1 locs1 c1 s1 XT h1 h2 h3 h4 h5 => ?_) (fun z H locs I => ?_)
      · obtain ⟨x1, x2, hq9, ha, hb9⟩ := rq_l2 htab
        simp only [Prod.mk.injEq] at ha hb9
        obtain ⟨a1, a2, a3, a4⟩ := ha
        obtain ⟨b1, b2, b3, b4⟩ := hb9
        have := rq_catch1 XT z h1 ho (name := excN 0) hq9 (by rw [h2, covers, a1, a2]; decide) (by rw [a4]; decide) (by rw [a4]; exact hts _ wm_287) h5 h3 h4 (rq_self (k := 0) hts wm_294 h5)
        rw [a3] at this
        exact this
      · refine W.cs (cells' := 1) (slots' := 6) rfl rfl ?_
        refine lv_astore (lv' := [(4, .ref z), (0, .ref x0), (1, .int x1), (2, .int x2), (3, .ref x3)]) hx hb dL_build_13 hl (by decide) rfl (fun ls hl => ?_)
        refine lv_iconst (v := 1) hx hb dL_build_15 (by decide) ?_
        exact rp_iret X hr hJ I dL_build_16
    · dsimp only at hJ
      rw [if_neg hk] at hJ
      by_cases hk1 : k = 1
      · subst hk1
        rw [if_pos rfl] at hJ
        refine rp_callVt (hpc := 17) (As := [.int x1, .int x2]) (rest := [.int 0, .ref x3]) X hN hth I (c_Desk_build hT e9 hfl) hq (cwV 2 hts (gdV wm_289 wm_290 wm_291 wm_33 wm_292) rfl rfl rfl (by decide +kernel) ⟨Nat.le_of_ble_eq_true rfl, Nat.le_of_ble_eq_true rfl⟩) i9 rfl rfl hl.1 rfl (Nat.le_of_ble_eq_true rfl) dL_build_5 ⟨Nat.le_of_ble_eq_true rfl, Nat.le_of_ble_eq_true rfl⟩ (fun T1 z cell g1 locs1 c1 s1 XT h1 h2 h3 h4 h5 => ?_) (fun z H locs I => ?_)
        · obtain ⟨cI, kI, hcI, -⟩ := Cond.instantiable_spec (hts _ wm_294)
          obtain ⟨x1, x2, hq9, ha, hb9⟩ := rq_l2 htab
          simp only [Prod.mk.injEq] at ha hb9
          obtain ⟨a1, a2, a3, a4⟩ := ha
          obtain ⟨b1, b2, b3, b4⟩ := hb9
          have := rq_catch2 XT z h1 ho (name1 := excN 0) (name := excN 1) hq9 (by rw [h2, covers, a1, a2]; decide) (by rw [a4]; decide) (by rw [h2, covers, b1, b2]; decide) (by rw [b4]; decide) (by rw [a4]; exact hts _ wm_287) (by rw [b4]; exact hts _ wm_288) hcI h5 h3 h4 (hth.2.1 _ _ h5 hcI) (rq_self (k := 1) hts wm_379 h5)
          rw [b3] at this
          exact this
        · refine W.cs (cells' := 1) (slots' := 6) rfl rfl ?_
          refine lv_astore (lv' := [(4, .ref z), (0, .ref x0), (1, .int x1), (2, .int x2), (3, .ref x3)]) hx hb dL_build_17 hl (by decide) rfl (fun ls hl => ?_)
          refine lv_iconst (v := 2) hx hb dL_build_19 (by decide) ?_
          exact rp_iret X hr hJ I dL_build_20
      · rw [if_neg hk1] at hJ
        cases hJ
def rmL_begun : Room := { frames := 7, cells := 1, slots := 6, locals := 104 }
def J_Law_begun (N : Nat) (x0 : Nat) (x1 : Int32) (x2 : Int32) (x3 : Nat) (h : Hp) : Option (Int32 × Hp) :=
  (isO h 6 x0).bind fun _ =>
  (J_Desk_begun N x0 x1 x2 h).bind fun q => match q.1 with
    | .inr v => (sJ q.2 2 x3 (0 : Int32) v.toInt64).bind fun h2 => some ((0 : Int32), h2)
    | .inl k => if k = 2 then some ((1 : Int32), q.2) else none
set_option maxHeartbeats 4000000 in
set_option maxRecDepth 100000 in
theorem c_Law_begun {l : Launch} {D : va_G} {tys : List (ClassId × FieldType)} {A : Nat → Prop} (hT : tys.map (fun q => q.2) = tyS) (hfl : l.flags = flags0) {N : Nat} {x0 : Nat} {x1 : Int32} {x2 : Int32} {x3 : Nat} {h : Hp} {res : Int32 × Hp} (hJ : J_Law_begun N x0 x1 x2 x3 h = some res) : Met l yL_begun (Cond.codeWith yL_begun cL_begun 5 (some .int) [(0, 10, 13, 20)] :: wsG) rmL_begun (va_Pc [.ref x0, .int x1, .int x2, .ref x3] (PrX D vwCl tys A h)) (Qr D vwCl tys A (some (.int res.1)) res.2) rmL_begun.cells rmL_begun.slots A := by
  refine va_MetW (cc := cL_begun) (maxL := 5) (ret := (some .int)) (hh := [(0, 10, 13, 20)]) (by decide) rfl ?_
  intro p e s m args below meth c s₁ B hml hv
  obtain ⟨rfl, ⟨hA, hR, hK, hN⟩, hth⟩ := hv
  have hr := B.returns
  have htab := rq_tab B
  have hts : ∀ w ∈ wsG, w.before [.ref x0, .int x1, .int x2, .ref x3].toArray s = true := fun w hw => atoms_spec (ws := Cond.codeWith yL_begun cL_begun 5 (some .int) [(0, 10, 13, 20)] :: wsG) B.pre w (List.mem_cons_of_mem _ hw)
  have X : Cx p s m [.ref x0, .int x1, .int x2, .ref x3].toArray meth c D vwCl tys cL_begun 5 RL wsG := ⟨⟨B.exec, B.bytes, hml, findClass_of_methodNamed B.named, hts⟩, hK, B.notSynchronized, hT⟩
  have hx := B.exec
  have hb := B.bytes
  have I : In D vwCl tys A s h s.heap [] := ⟨hR, va_S.rf, hA⟩
  have ho := X.1.2.2.2.1
  have hl := lv_entry [.ref x0, .int x1, .int x2, .ref x3] (n := 5) (Nat.le_of_ble_eq_true rfl)
  rw [lg_entry_eq]
  generalize (lg_sl [.ref x0, .int x1, .int x2, .ref x3] ++ List.replicate (5 - (lg_sl [.ref x0, .int x1, .int x2, .ref x3]).length) Slot.unset).toArray = ls at hl ⊢
  have hl : lv_has ls 5 [(0, .ref x0), (1, .int x1), (2, .int x2), (3, .ref x3)] := hl
  rw [J_Law_begun] at hJ
  obtain ⟨u9, i9, hJ⟩ := rp_b hJ
  obtain ⟨f9, i9⟩ := isO_s i9
  obtain ⟨q, e9, hJ⟩ := rp_b hJ
  refine lv_aload_n hx hb dL_begun_0 rfl (lv_at hl 3 rfl) ?_
  refine lv_iconst (v := 0) hx hb dL_begun_1 (by decide) ?_
  refine lv_aload_n hx hb dL_begun_2 rfl (lv_at hl 0 rfl) ?_
  refine lv_iload_n hx hb dL_begun_3 rfl (lv_at hl 1 rfl) ?_
  refine lv_iload_n hx hb dL_begun_4 rfl (lv_at hl 2 rfl) ?_
  cases hq : q.1 with
  | inr v =>
    rw [hq] at hJ
    obtain ⟨h2, e2, hJ⟩ := rp_b hJ
    refine rp_callVr (As := [.int x1, .int x2]) (rest := [.int 0, .ref x3]) X hN hth I (c_Desk_begun hT e9 hfl) hq (cwV 2 hts (gdV wm_489 wm_490 wm_491 wm_33 wm_492) rfl rfl rfl (by decide +kernel) ⟨Nat.le_of_ble_eq_true rfl, Nat.le_of_ble_eq_true rfl⟩) i9 rfl rfl hl.1 rfl (Nat.le_of_ble_eq_true rfl) dL_begun_5 ⟨Nat.le_of_ble_eq_true rfl, Nat.le_of_ble_eq_true rfl⟩ (fun H locs I => ?_)
    refine W.cs (cells' := 1) (slots' := 6) rfl rfl ?_
    refine lv_i2l hx hb dL_begun_8 rfl ?_
    refine rp_last X I e2 rfl dL_begun_9 (fun H locs I => ?_)
    refine lv_goto (tgt := 17) hx hb dL_begun_10 (by decide) ?_
    refine lv_iconst (v := 0) hx hb dL_begun_17 (by decide) ?_
    exact rp_iret X hr hJ I dL_begun_18
  | inl k =>
    rw [hq] at hJ
    by_cases hk : k = 2
    · subst hk
      dsimp only at hJ
      rw [if_pos rfl] at hJ
      refine rp_callVt (hpc := 13) (As := [.int x1, .int x2]) (rest := [.int 0, .ref x3]) X hN hth I (c_Desk_begun hT e9 hfl) hq (cwV 2 hts (gdV wm_489 wm_490 wm_491 wm_33 wm_492) rfl rfl rfl (by decide +kernel) ⟨Nat.le_of_ble_eq_true rfl, Nat.le_of_ble_eq_true rfl⟩) i9 rfl rfl hl.1 rfl (Nat.le_of_ble_eq_true rfl) dL_begun_5 ⟨Nat.le_of_ble_eq_true rfl, Nat.le_of_ble_eq_true rfl⟩ (fun T1 z cell g1 locs1 c1 s1 XT h1 h2 h3 h4 h5 => ?_) (fun z H locs I => ?_)
      · obtain ⟨x1, hq9, ha⟩ := rq_l1 htab
        simp only [Prod.mk.injEq] at ha
        obtain ⟨a1, a2, a3, a4⟩ := ha
        have := rq_catch1 XT z h1 ho (name := excN 2) hq9 (by rw [h2, covers, a1, a2]; decide) (by rw [a4]; decide) (by rw [a4]; exact hts _ wm_488) h5 h3 h4 (rq_self (k := 2) hts wm_494 h5)
        rw [a3] at this
        exact this
      · refine W.cs (cells' := 1) (slots' := 6) rfl rfl ?_
        refine lv_astore (lv' := [(4, .ref z), (0, .ref x0), (1, .int x1), (2, .int x2), (3, .ref x3)]) hx hb dL_begun_13 hl (by decide) rfl (fun ls hl => ?_)
        refine lv_iconst (v := 1) hx hb dL_begun_15 (by decide) ?_
        exact rp_iret X hr hJ I dL_begun_16
    · dsimp only at hJ
      rw [if_neg hk] at hJ
      cases hJ
def rmL_cycle : Room := { frames := 7, cells := 1, slots := 6, locals := 103 }
def J_Law_cycle (N : Nat) (x0 : Nat) (x1 : Int32) (x2 : Nat) (h : Hp) : Option (Int32 × Hp) :=
  (isO h 6 x0).bind fun _ =>
  (J_Desk_cycle N x0 x1 h).bind fun q => match q.1 with
    | .inr v => (sJ q.2 2 x2 (0 : Int32) v.toInt64).bind fun h2 => some ((0 : Int32), h2)
    | .inl k => if k = 2 then some ((1 : Int32), q.2) else none
set_option maxHeartbeats 4000000 in
set_option maxRecDepth 100000 in
theorem c_Law_cycle {l : Launch} {D : va_G} {tys : List (ClassId × FieldType)} {A : Nat → Prop} (hT : tys.map (fun q => q.2) = tyS) (hfl : l.flags = flags0) {N : Nat} {x0 : Nat} {x1 : Int32} {x2 : Nat} {h : Hp} {res : Int32 × Hp} (hJ : J_Law_cycle N x0 x1 x2 h = some res) : Met l yL_cycle (Cond.codeWith yL_cycle cL_cycle 4 (some .int) [(0, 9, 12, 20)] :: wsG) rmL_cycle (va_Pc [.ref x0, .int x1, .ref x2] (PrX D vwCl tys A h)) (Qr D vwCl tys A (some (.int res.1)) res.2) rmL_cycle.cells rmL_cycle.slots A := by
  refine va_MetW (cc := cL_cycle) (maxL := 4) (ret := (some .int)) (hh := [(0, 9, 12, 20)]) (by decide) rfl ?_
  intro p e s m args below meth c s₁ B hml hv
  obtain ⟨rfl, ⟨hA, hR, hK, hN⟩, hth⟩ := hv
  have hr := B.returns
  have htab := rq_tab B
  have hts : ∀ w ∈ wsG, w.before [.ref x0, .int x1, .ref x2].toArray s = true := fun w hw => atoms_spec (ws := Cond.codeWith yL_cycle cL_cycle 4 (some .int) [(0, 9, 12, 20)] :: wsG) B.pre w (List.mem_cons_of_mem _ hw)
  have X : Cx p s m [.ref x0, .int x1, .ref x2].toArray meth c D vwCl tys cL_cycle 4 RL wsG := ⟨⟨B.exec, B.bytes, hml, findClass_of_methodNamed B.named, hts⟩, hK, B.notSynchronized, hT⟩
  have hx := B.exec
  have hb := B.bytes
  have I : In D vwCl tys A s h s.heap [] := ⟨hR, va_S.rf, hA⟩
  have ho := X.1.2.2.2.1
  have hl := lv_entry [.ref x0, .int x1, .ref x2] (n := 4) (Nat.le_of_ble_eq_true rfl)
  rw [lg_entry_eq]
  generalize (lg_sl [.ref x0, .int x1, .ref x2] ++ List.replicate (4 - (lg_sl [.ref x0, .int x1, .ref x2]).length) Slot.unset).toArray = ls at hl ⊢
  have hl : lv_has ls 4 [(0, .ref x0), (1, .int x1), (2, .ref x2)] := hl
  rw [J_Law_cycle] at hJ
  obtain ⟨u9, i9, hJ⟩ := rp_b hJ
  obtain ⟨f9, i9⟩ := isO_s i9
  obtain ⟨q, e9, hJ⟩ := rp_b hJ
  refine lv_aload_n hx hb dL_cycle_0 rfl (lv_at hl 2 rfl) ?_
  refine lv_iconst (v := 0) hx hb dL_cycle_1 (by decide) ?_
  refine lv_aload_n hx hb dL_cycle_2 rfl (lv_at hl 0 rfl) ?_
  refine lv_iload_n hx hb dL_cycle_3 rfl (lv_at hl 1 rfl) ?_
  cases hq : q.1 with
  | inr v =>
    rw [hq] at hJ
    obtain ⟨h2, e2, hJ⟩ := rp_b hJ
    refine rp_callVr (As := [.int x1]) (rest := [.int 0, .ref x2]) X hN hth I (c_Desk_cycle hT e9 hfl) hq (cwV 1 hts (gdV wm_514 wm_515 wm_516 wm_33 wm_517) rfl rfl rfl (by decide +kernel) ⟨Nat.le_of_ble_eq_true rfl, Nat.le_of_ble_eq_true rfl⟩) i9 rfl rfl hl.1 rfl (Nat.le_of_ble_eq_true rfl) dL_cycle_4 ⟨Nat.le_of_ble_eq_true rfl, Nat.le_of_ble_eq_true rfl⟩ (fun H locs I => ?_)
    refine W.cs (cells' := 1) (slots' := 6) rfl rfl ?_
    refine lv_i2l hx hb dL_cycle_7 rfl ?_
    refine rp_last X I e2 rfl dL_cycle_8 (fun H locs I => ?_)
    refine lv_goto (tgt := 15) hx hb dL_cycle_9 (by decide) ?_
    refine lv_iconst (v := 0) hx hb dL_cycle_15 (by decide) ?_
    exact rp_iret X hr hJ I dL_cycle_16
  | inl k =>
    rw [hq] at hJ
    by_cases hk : k = 2
    · subst hk
      dsimp only at hJ
      rw [if_pos rfl] at hJ
      refine rp_callVt (hpc := 12) (As := [.int x1]) (rest := [.int 0, .ref x2]) X hN hth I (c_Desk_cycle hT e9 hfl) hq (cwV 1 hts (gdV wm_514 wm_515 wm_516 wm_33 wm_517) rfl rfl rfl (by decide +kernel) ⟨Nat.le_of_ble_eq_true rfl, Nat.le_of_ble_eq_true rfl⟩) i9 rfl rfl hl.1 rfl (Nat.le_of_ble_eq_true rfl) dL_cycle_4 ⟨Nat.le_of_ble_eq_true rfl, Nat.le_of_ble_eq_true rfl⟩ (fun T1 z cell g1 locs1 c1 s1 XT h1 h2 h3 h4 h5 => ?_) (fun z H locs I => ?_)
      · obtain ⟨x1, hq9, ha⟩ := rq_l1 htab
        simp only [Prod.mk.injEq] at ha
        obtain ⟨a1, a2, a3, a4⟩ := ha
        have := rq_catch1 XT z h1 ho (name := excN 2) hq9 (by rw [h2, covers, a1, a2]; decide) (by rw [a4]; decide) (by rw [a4]; exact hts _ wm_488) h5 h3 h4 (rq_self (k := 2) hts wm_494 h5)
        rw [a3] at this
        exact this
      · refine W.cs (cells' := 1) (slots' := 6) rfl rfl ?_
        refine lv_astore_n (lv' := [(3, .ref z), (0, .ref x0), (1, .int x1), (2, .ref x2)]) hx hb dL_cycle_12 rfl hl (by decide) rfl (fun ls hl => ?_)
        refine lv_iconst (v := 1) hx hb dL_cycle_13 (by decide) ?_
        exact rp_iret X hr hJ I dL_cycle_14
    · dsimp only at hJ
      rw [if_neg hk] at hJ
      cases hJ
def rmL_content : Room := { frames := 7, cells := 1, slots := 6, locals := 103 }
def J_Law_content (N : Nat) (x0 : Nat) (x1 : Int32) (x2 : Nat) (h : Hp) : Option (Int32 × Hp) :=
  (isO h 6 x0).bind fun _ =>
  (J_Desk_content N x0 x1 h).bind fun q => match q.1 with
    | .inr v => (sJ q.2 2 x2 (0 : Int32) v.toInt64).bind fun h2 => some ((0 : Int32), h2)
    | .inl k => if k = 2 then some ((1 : Int32), q.2) else none
set_option maxHeartbeats 4000000 in
set_option maxRecDepth 100000 in
theorem c_Law_content {l : Launch} {D : va_G} {tys : List (ClassId × FieldType)} {A : Nat → Prop} (hT : tys.map (fun q => q.2) = tyS) (hfl : l.flags = flags0) {N : Nat} {x0 : Nat} {x1 : Int32} {x2 : Nat} {h : Hp} {res : Int32 × Hp} (hJ : J_Law_content N x0 x1 x2 h = some res) : Met l yL_content (Cond.codeWith yL_content cL_content 4 (some .int) [(0, 9, 12, 20)] :: wsG) rmL_content (va_Pc [.ref x0, .int x1, .ref x2] (PrX D vwCl tys A h)) (Qr D vwCl tys A (some (.int res.1)) res.2) rmL_content.cells rmL_content.slots A := by
  refine va_MetW (cc := cL_content) (maxL := 4) (ret := (some .int)) (hh := [(0, 9, 12, 20)]) (by decide) rfl ?_
  intro p e s m args below meth c s₁ B hml hv
  obtain ⟨rfl, ⟨hA, hR, hK, hN⟩, hth⟩ := hv
  have hr := B.returns
  have htab := rq_tab B
  have hts : ∀ w ∈ wsG, w.before [.ref x0, .int x1, .ref x2].toArray s = true := fun w hw => atoms_spec (ws := Cond.codeWith yL_content cL_content 4 (some .int) [(0, 9, 12, 20)] :: wsG) B.pre w (List.mem_cons_of_mem _ hw)
  have X : Cx p s m [.ref x0, .int x1, .ref x2].toArray meth c D vwCl tys cL_content 4 RL wsG := ⟨⟨B.exec, B.bytes, hml, findClass_of_methodNamed B.named, hts⟩, hK, B.notSynchronized, hT⟩
  have hx := B.exec
  have hb := B.bytes
  have I : In D vwCl tys A s h s.heap [] := ⟨hR, va_S.rf, hA⟩
  have ho := X.1.2.2.2.1
  have hl := lv_entry [.ref x0, .int x1, .ref x2] (n := 4) (Nat.le_of_ble_eq_true rfl)
  rw [lg_entry_eq]
  generalize (lg_sl [.ref x0, .int x1, .ref x2] ++ List.replicate (4 - (lg_sl [.ref x0, .int x1, .ref x2]).length) Slot.unset).toArray = ls at hl ⊢
  have hl : lv_has ls 4 [(0, .ref x0), (1, .int x1), (2, .ref x2)] := hl
  rw [J_Law_content] at hJ
  obtain ⟨u9, i9, hJ⟩ := rp_b hJ
  obtain ⟨f9, i9⟩ := isO_s i9
  obtain ⟨q, e9, hJ⟩ := rp_b hJ
  refine lv_aload_n hx hb dL_content_0 rfl (lv_at hl 2 rfl) ?_
  refine lv_iconst (v := 0) hx hb dL_content_1 (by decide) ?_
  refine lv_aload_n hx hb dL_content_2 rfl (lv_at hl 0 rfl) ?_
  refine lv_iload_n hx hb dL_content_3 rfl (lv_at hl 1 rfl) ?_
  cases hq : q.1 with
  | inr v =>
    rw [hq] at hJ
    obtain ⟨h2, e2, hJ⟩ := rp_b hJ
    refine rp_callVr (As := [.int x1]) (rest := [.int 0, .ref x2]) X hN hth I (c_Desk_content hT e9 hfl) hq (cwV 1 hts (gdV wm_521 wm_522 wm_523 wm_33 wm_524) rfl rfl rfl (by decide +kernel) ⟨Nat.le_of_ble_eq_true rfl, Nat.le_of_ble_eq_true rfl⟩) i9 rfl rfl hl.1 rfl (Nat.le_of_ble_eq_true rfl) dL_content_4 ⟨Nat.le_of_ble_eq_true rfl, Nat.le_of_ble_eq_true rfl⟩ (fun H locs I => ?_)
    refine W.cs (cells' := 1) (slots' := 6) rfl rfl ?_
    refine lv_i2l hx hb dL_content_7 rfl ?_
    refine rp_last X I e2 rfl dL_content_8 (fun H locs I => ?_)
    refine lv_goto (tgt := 15) hx hb dL_content_9 (by decide) ?_
    refine lv_iconst (v := 0) hx hb dL_content_15 (by decide) ?_
    exact rp_iret X hr hJ I dL_content_16
  | inl k =>
    rw [hq] at hJ
    by_cases hk : k = 2
    · subst hk
      dsimp only at hJ
      rw [if_pos rfl] at hJ
      refine rp_callVt (hpc := 12) (As := [.int x1]) (rest := [.int 0, .ref x2]) X hN hth I (c_Desk_content hT e9 hfl) hq (cwV 1 hts (gdV wm_521 wm_522 wm_523 wm_33 wm_524) rfl rfl rfl (by decide +kernel) ⟨Nat.le_of_ble_eq_true rfl, Nat.le_of_ble_eq_true rfl⟩) i9 rfl rfl hl.1 rfl (Nat.le_of_ble_eq_true rfl) dL_content_4 ⟨Nat.le_of_ble_eq_true rfl, Nat.le_of_ble_eq_true rfl⟩ (fun T1 z cell g1 locs1 c1 s1 XT h1 h2 h3 h4 h5 => ?_) (fun z H locs I => ?_)
      · obtain ⟨x1, hq9, ha⟩ := rq_l1 htab
        simp only [Prod.mk.injEq] at ha
        obtain ⟨a1, a2, a3, a4⟩ := ha
        have := rq_catch1 XT z h1 ho (name := excN 2) hq9 (by rw [h2, covers, a1, a2]; decide) (by rw [a4]; decide) (by rw [a4]; exact hts _ wm_488) h5 h3 h4 (rq_self (k := 2) hts wm_494 h5)
        rw [a3] at this
        exact this
      · refine W.cs (cells' := 1) (slots' := 6) rfl rfl ?_
        refine lv_astore_n (lv' := [(3, .ref z), (0, .ref x0), (1, .int x1), (2, .ref x2)]) hx hb dL_content_12 rfl hl (by decide) rfl (fun ls hl => ?_)
        refine lv_iconst (v := 1) hx hb dL_content_13 (by decide) ?_
        exact rp_iret X hr hJ I dL_content_14
    · dsimp only at hJ
      rw [if_neg hk] at hJ
      cases hJ
end GW
