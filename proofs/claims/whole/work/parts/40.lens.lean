/-! LENSES: the heap of one object's graph, whose references never change: a shape (which cell is what), ints I o k and longs J o k (cell o, place k) -/
abbrev Shp : Type := (Nat × Nat) ⊕ (Nat × List Nat)
/-- a field's kind: 0 an int, 1 a long, r + 2 a reference to cell r -/
def fval (b f : Nat) (x : Int32) (y : Int64) : Value := match f with
  | 0 => .int x
  | 1 => .long y
  | r + 2 => .ref (b + r)
def flds (b : Nat) (x : Nat → Int32) (y : Nat → Int64) : Nat → List Nat → List Value
  | _, [] => []
  | k, f :: r => fval b f (x k) (y k) :: flds b x y (k + 1) r
def cel (b : Nat) (sh : Shp) (x : Nat → Int32) (y : Nat → Int64) : HE := match sh with
  | .inl (t, n) => bif Nat.beq t 2 then .inl (2, n, .inr (.inl y)) else bif Nat.beq t 3 then .inl (3, n, .inr (.inr (.inr (.inr (fun k => if k < n then some (b + (6 + 4 * k)) else none))))) else .inl (t, n, .inl x)
  | .inr (c, fk) => .inr (c, flds b x y 0 fk)
def up2 (I : Nat → Nat → Int32) (o k : Nat) (v : Int32) : Nat → Nat → Int32 := fun o' k' => if o' = o ∧ k' = k then v else I o' k'
def up2J (J : Nat → Nat → Int64) (o k : Nat) (v : Int64) : Nat → Nat → Int64 := fun o' k' => if o' = o ∧ k' = k then v else J o' k'
def dk (b n : Nat) (sh : Nat → Shp) (I : Nat → Nat → Int32) (J : Nat → Nat → Int64) (F : Nat → Option HE) : Nat → Option HE := fun q => if b ≤ q ∧ q < b + n then some (cel b (sh (q - b)) (I (q - b)) (J (q - b))) else F q
theorem up2_eq {I : Nat → Nat → Int32} {o k : Nat} {v : Int32} : up2 I o k v o k = v := by simp [up2]
theorem up2_ne {I : Nat → Nat → Int32} {o k o' k' : Nat} {v : Int32} (h : o' ≠ o ∨ k' ≠ k) : up2 I o k v o' k' = I o' k' := by
  simp only [up2]
  rw [if_neg]
  omega
theorem up2J_eq {J : Nat → Nat → Int64} {o k : Nat} {v : Int64} : up2J J o k v o k = v := by simp [up2J]
theorem up2J_ne {J : Nat → Nat → Int64} {o k o' k' : Nat} {v : Int64} (h : o' ≠ o ∨ k' ≠ k) : up2J J o k v o' k' = J o' k' := by
  simp only [up2J]
  rw [if_neg]
  omega
section LENS
variable {z b n o k t ci : Nat} {sh : Nat → Shp} {I : Nat → Nat → Int32} {J : Nat → Nat → Int64} {F : Nat → Option HE}
theorem dk_at (ho : o < n) : dk b n sh I J F (b + o) = some (cel b (sh o) (I o) (J o)) := by
  simp only [dk]
  rw [if_pos (by omega), Nat.add_sub_cancel_left]
theorem dk_out {q : Nat} (h : q < b ∨ b + n ≤ q) : dk b n sh I J F q = F q := by
  simp only [dk]
  rw [if_neg (by omega)]
/-- a cell's new contents -/
theorem dk_hU (ho : o < n) {I' : Nat → Nat → Int32} {J' : Nat → Nat → Int64} (h1 : ∀ o', o' ≠ o → I' o' = I o') (h2 : ∀ o', o' ≠ o → J' o' = J o') : hU (dk b n sh I J F) (b + o) (cel b (sh o) (I' o) (J' o)) = dk b n sh I' J' F := by
  funext q
  simp only [hU, dk]
  by_cases hq : q = b + o
  · subst hq
    rw [if_pos rfl, if_pos (by omega), Nat.add_sub_cancel_left]
  · rw [if_neg hq]
    by_cases hr : b ≤ q ∧ q < b + n
    · rw [if_pos hr, if_pos hr, h1 (q - b) (by omega), h2 (q - b) (by omega)]
    · rw [if_neg hr, if_neg hr]
theorem flds_get (x : Nat → Int32) (y : Nat → Int64) : ∀ (fk : List Nat) (k0 k f : Nat), fk[k]? = some f → (flds b x y k0 fk)[k]? = some (fval b f (x (k0 + k)) (y (k0 + k)))
  | [], _, _, _, h => by simp at h
  | g :: r, k0, 0, f, h => by
    simp at h
    subst h
    rfl
  | g :: r, k0, k + 1, f, h => by
    simp only [List.getElem?_cons_succ] at h
    have := flds_get x y r (k0 + 1) k f h
    simp only [flds, List.getElem?_cons_succ, this]
    rw [show k0 + 1 + k = k0 + (k + 1) by omega]
theorem flds_len (x : Nat → Int32) (y : Nat → Int64) : ∀ (fk : List Nat) (k0 : Nat), (flds b x y k0 fk).length = fk.length
  | [], _ => rfl
  | g :: r, k0 => by simp [flds, flds_len x y r (k0 + 1)]
theorem flds_congr {x x' : Nat → Int32} {y y' : Nat → Int64} : ∀ (fk : List Nat) (k0 : Nat), (∀ j, k0 ≤ j → x j = x' j) → (∀ j, k0 ≤ j → y j = y' j) → flds b x y k0 fk = flds b x' y' k0 fk
  | [], _, _, _ => rfl
  | g :: r, k0, h1, h2 => by
    simp only [flds]
    rw [h1 k0 (Nat.le_refl _), h2 k0 (Nat.le_refl _), flds_congr r (k0 + 1) (fun j hj => h1 j (by omega)) (fun j hj => h2 j (by omega))]
theorem flds_set (x : Nat → Int32) (y : Nat → Int64) (v : Int32) : ∀ (fk : List Nat) (k0 k : Nat), fk[k]? = some 0 → (flds b x y k0 fk).set k (.int v) = flds b (upd x (k0 + k) v) y k0 fk
  | [], _, _, h => by simp at h
  | g :: r, k0, 0, h => by
    simp at h
    subst h
    simp only [flds, List.set_cons_zero, fval]
    congr 1
    · simp [upd]
    · refine flds_congr r (k0 + 1) (fun j hj => ?_) (fun j hj => rfl)
      simp only [upd, Nat.add_zero]
      rw [if_neg (by omega)]
  | g :: r, k0, k + 1, h => by
    simp only [List.getElem?_cons_succ] at h
    simp only [flds, List.set_cons_succ]
    rw [flds_set x y v r (k0 + 1) k h, show k0 + 1 + k = k0 + (k + 1) by omega]
    congr 1
    simp only [upd]
    rw [if_neg (by omega)]
theorem flds_setJ (x : Nat → Int32) (y : Nat → Int64) (v : Int64) : ∀ (fk : List Nat) (k0 k : Nat), fk[k]? = some 1 → (flds b x y k0 fk).set k (.long v) = flds b x (vp_updL y (k0 + k) v) k0 fk
  | [], _, _, h => by simp at h
  | g :: r, k0, 0, h => by
    simp at h
    subst h
    simp only [flds, List.set_cons_zero, fval]
    congr 1
    · simp [vp_updL]
    · refine flds_congr r (k0 + 1) (fun j hj => rfl) (fun j hj => ?_)
      simp only [vp_updL, Nat.add_zero]
      rw [if_neg (by omega)]
  | g :: r, k0, k + 1, h => by
    simp only [List.getElem?_cons_succ] at h
    simp only [flds, List.set_cons_succ]
    rw [flds_setJ x y v r (k0 + 1) k h, show k0 + 1 + k = k0 + (k + 1) by omega]
    congr 1
    simp only [vp_updL]
    rw [if_neg (by omega)]
/-- the shape says: cell o is an object of class c, its field k is of kind f -/
def okF (sh : Nat → Shp) (n o c k f : Nat) : Bool := Nat.blt o n && match sh o with
  | .inl _ => false
  | .inr (c', fk) => Nat.beq c' c && match fk[k]? with
    | none => false
    | some g => Nat.beq g f
def okO (sh : Nat → Shp) (n o c : Nat) : Bool := Nat.blt o n && match sh o with
  | .inl _ => false
  | .inr (c', _) => Nat.beq c' c
/-- cell o is an array of type t, of m places -/
def okA (sh : Nat → Shp) (n o t m : Nat) : Bool := Nat.blt o n && match sh o with
  | .inl (t', m') => Nat.beq t' t && Nat.beq m' m
  | .inr _ => false
theorem okF_s {f : Nat} (h : okF sh n o ci k f = true) : o < n ∧ ∃ fk, sh o = .inr (ci, fk) ∧ fk[k]? = some f := by
  simp only [okF, Bool.and_eq_true] at h
  obtain ⟨h1, h2⟩ := h
  refine ⟨by simpa using h1, ?_⟩
  split at h2
  · cases h2
  · rename_i c' fk hs
    simp only [Bool.and_eq_true] at h2
    obtain ⟨h3, h4⟩ := h2
    split at h4
    · cases h4
    · rename_i g hg
      exact ⟨fk, by rw [hs, Nat.eq_of_beq_eq_true h3], by rw [hg, Nat.eq_of_beq_eq_true h4]⟩
theorem okO_s (h : okO sh n o ci = true) : o < n ∧ ∃ fk, sh o = .inr (ci, fk) := by
  simp only [okO, Bool.and_eq_true] at h
  obtain ⟨h1, h2⟩ := h
  refine ⟨by simpa using h1, ?_⟩
  split at h2
  · cases h2
  · rename_i c' fk hs
    exact ⟨fk, by rw [hs, Nat.eq_of_beq_eq_true h2]⟩
theorem okA_s {m : Nat} (h : okA sh n o t m = true) : o < n ∧ sh o = .inl (t, m) := by
  simp only [okA, Bool.and_eq_true] at h
  obtain ⟨h1, h2⟩ := h
  refine ⟨by simpa using h1, ?_⟩
  split at h2
  · rename_i t' m' hs
    simp only [Bool.and_eq_true] at h2
    rw [hs, Nat.eq_of_beq_eq_true h2.1, Nat.eq_of_beq_eq_true h2.2]
  · cases h2
theorem dk_gO {fk : List Nat} (ho : o < n) (hs : sh o = .inr (ci, fk)) : gO (z, dk b n sh I J F) ci (b + o) = some (flds b (I o) (J o) 0 fk) := by
  simp only [gO, dk_at ho, hs, cel, if_true]
theorem dk_gA {m : Nat} (ho : o < n) (hs : sh o = .inl (t, m)) (ht : t < 2) : gA (z, dk b n sh I J F) t (b + o) = some (m, .inl (I o)) := by
  have h2 : Nat.beq t 2 = false := by rcases (show t = 0 ∨ t = 1 by omega) with rfl | rfl <;> rfl
  have h3 : Nat.beq t 3 = false := by rcases (show t = 0 ∨ t = 1 by omega) with rfl | rfl <;> rfl
  simp only [gA, dk_at ho, hs, cel, h2, h3, cond_false, if_true]
theorem dk_gAJ {m : Nat} (ho : o < n) (hs : sh o = .inl (2, m)) : gA (z, dk b n sh I J F) 2 (b + o) = some (m, .inr (.inl (J o))) := by
  simp only [gA, dk_at ho, hs, cel]
  rfl
theorem dk_gAR {m : Nat} (ho : o < n) (hs : sh o = .inl (3, m)) : gA (z, dk b n sh I J F) 3 (b + o) = some (m, .inr (.inr (.inr (.inr (fun k => if k < m then some (b + (6 + 4 * k)) else none))))) := by
  simp only [gA, dk_at ho, hs, cel]
  rfl
theorem dk_fI (h : okF sh n o ci k 0 = true) : fI (z, dk b n sh I J F) ci (b + o) k = some (I o k) := by
  obtain ⟨ho, fk, hs, hk⟩ := okF_s h
  simp only [fI, dk_gO ho hs, Option.bind_some, flds_get (I o) (J o) fk 0 k 0 hk, fval, vI, Nat.zero_add]
theorem dk_fJ (h : okF sh n o ci k 1 = true) : fJ (z, dk b n sh I J F) ci (b + o) k = some (J o k) := by
  obtain ⟨ho, fk, hs, hk⟩ := okF_s h
  simp only [fJ, dk_gO ho hs, Option.bind_some, flds_get (I o) (J o) fk 0 k 1 hk, fval, vJ, Nat.zero_add]
theorem dk_fR {r : Nat} (h : okF sh n o ci k (r + 2) = true) : fR (z, dk b n sh I J F) ci (b + o) k = some (b + r) := by
  obtain ⟨ho, fk, hs, hk⟩ := okF_s h
  simp only [fR, dk_gO ho hs, Option.bind_some, flds_get (I o) (J o) fk 0 k (r + 2) hk, fval, vR]
theorem dk_isO (h : okO sh n o ci = true) : isO (z, dk b n sh I J F) ci (b + o) = some () := by
  obtain ⟨ho, fk, hs⟩ := okO_s h
  simp only [isO, dk_gO ho hs, Option.bind_some]
theorem dk_sF {v : Int32} (h : okF sh n o ci k 0 = true) : sF (z, dk b n sh I J F) ci (b + o) k (.int v) = some (z, dk b n sh (up2 I o k v) J F) := by
  obtain ⟨ho, fk, hs, hk⟩ := okF_s h
  have hl : k < fk.length := (List.getElem?_eq_some_iff.mp hk).1
  simp only [sF, dk_gO ho hs, Option.bind_some, flds_len, hl, if_true]
  rw [flds_set (I o) (J o) v fk 0 k hk, ← dk_hU (I := I) (J := J) (I' := up2 I o k v) (J' := J) ho (fun o' h' => by funext j; simp [up2, h']) (fun _ _ => rfl), hs]
  simp only [cel]
  rw [show up2 I o k v o = upd (I o) (0 + k) v by funext j; simp [up2, upd]]
theorem dk_sZ {v : Int32} (hv : v = 0 ∨ v = 1) (h : okF sh n o ci k 0 = true) : sZ (z, dk b n sh I J F) ci (b + o) k v = some (z, dk b n sh (up2 I o k v) J F) := by
  simp only [sZ, hv, if_true, dk_sF h]
theorem dk_sFJ {v : Int64} (h : okF sh n o ci k 1 = true) : sF (z, dk b n sh I J F) ci (b + o) k (.long v) = some (z, dk b n sh I (up2J J o k v) F) := by
  obtain ⟨ho, fk, hs, hk⟩ := okF_s h
  have hl : k < fk.length := (List.getElem?_eq_some_iff.mp hk).1
  simp only [sF, dk_gO ho hs, Option.bind_some, flds_len, hl, if_true]
  rw [flds_setJ (I o) (J o) v fk 0 k hk, ← dk_hU (I := I) (J := J) (I' := I) (J' := up2J J o k v) ho (fun _ _ => rfl) (fun o' h' => by funext j; simp [up2J, h']), hs]
  simp only [cel]
  rw [show up2J J o k v o = vp_updL (J o) (0 + k) v by funext j; simp [up2J, vp_updL]]
theorem iX_n {j m : Nat} (hj : j < m) (hm : m < 2 ^ 31) : iX (nI j) m = some j := by
  simp only [iX]
  rw [if_neg (nI_in hj hm), nI_clamp (by omega)]
theorem dk_aI {m j : Nat} (h : okA sh n o t m = true) (ht : t < 2) (hj : j < m) (hm : m < 2 ^ 31) : aI (z, dk b n sh I J F) t (b + o) (nI j) = some (I o j) := by
  obtain ⟨ho, hs⟩ := okA_s h
  simp only [aI, dk_gA ho hs ht, Option.bind_some, xI, iX_n hj hm]
theorem dk_aJ {m j : Nat} (h : okA sh n o 2 m = true) (hj : j < m) (hm : m < 2 ^ 31) : aJ (z, dk b n sh I J F) 2 (b + o) (nI j) = some (J o j) := by
  obtain ⟨ho, hs⟩ := okA_s h
  simp only [aJ, dk_gAJ ho hs, Option.bind_some, xJ, iX_n hj hm]
theorem dk_aR {m j : Nat} (h : okA sh n o 3 m = true) (hj : j < m) (hm : m < 2 ^ 31) : aR (z, dk b n sh I J F) 3 (b + o) (nI j) = some (b + (6 + 4 * j)) := by
  obtain ⟨ho, hs⟩ := okA_s h
  simp only [aR, dk_gAR ho hs, Option.bind_some, xR, iX_n hj hm, if_pos hj]
theorem dk_sI {m j : Nat} {v : Int32} (h : okA sh n o t m = true) (ht : t < 2) (hj : j < m) (hm : m < 2 ^ 31) : sI (z, dk b n sh I J F) t (b + o) (nI j) v = some (z, dk b n sh (up2 I o j v) J F) := by
  obtain ⟨ho, hs⟩ := okA_s h
  have h2 : Nat.beq t 2 = false := by rcases (show t = 0 ∨ t = 1 by omega) with rfl | rfl <;> rfl
  have h3 : Nat.beq t 3 = false := by rcases (show t = 0 ∨ t = 1 by omega) with rfl | rfl <;> rfl
  simp only [sI, dk_gA ho hs ht, Option.bind_some, xI, iX_n hj hm]
  rw [← dk_hU (I := I) (J := J) (I' := up2 I o j v) (J' := J) ho (fun o' h' => by funext q; simp [up2, h']) (fun _ _ => rfl), hs]
  simp only [cel, h2, h3, cond_false]
  rw [show up2 I o j v o = upd (I o) j v by funext q; simp [up2, upd]]
theorem nar_z {v : Int32} (hv : v = 0 ∨ v = 1) : vp_nar .boolean v = v := by
  rcases hv with rfl | rfl <;> rfl
theorem dk_sB {m j : Nat} {v : Int32} (hv : v = 0 ∨ v = 1) (h : okA sh n o 1 m = true) (hj : j < m) (hm : m < 2 ^ 31) : sB (z, dk b n sh I J F) 1 (b + o) (nI j) v = some (z, dk b n sh (up2 I o j v) J F) := by
  have := dk_sI (z := z) (b := b) (I := I) (J := J) (F := F) (v := v) h (by omega) hj hm
  simp only [sI, sB, nar_z hv] at this ⊢
  exact this
theorem dk_sJ {m j : Nat} {v : Int64} (h : okA sh n o 2 m = true) (hj : j < m) (hm : m < 2 ^ 31) : sJ (z, dk b n sh I J F) 2 (b + o) (nI j) v = some (z, dk b n sh I (up2J J o j v) F) := by
  obtain ⟨ho, hs⟩ := okA_s h
  simp only [sJ, dk_gAJ ho hs, Option.bind_some, xJ, iX_n hj hm]
  rw [← dk_hU (I := I) (J := J) (I' := I) (J' := up2J J o j v) ho (fun _ _ => rfl) (fun o' h' => by funext q; simp [up2J, h']), hs]
  simp only [cel]
  rw [show up2J J o j v o = vp_updL (J o) j v by funext q; simp [up2J, vp_updL]]
  rfl
end LENS
