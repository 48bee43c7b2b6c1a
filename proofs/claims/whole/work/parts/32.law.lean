section GW
variable {p : Program} {l : Launch} {e : Env} {s : State} {m : MethodId} {below : List Frame} {meth : Method} {c : Code} {D : va_G} {tys : List (ClassId × FieldType)} {b L : Nat} {xs : Nat → Int32}
def J_Law_law_23 (N : Nat) (xs : Nat → Int32) (L : Nat) : Nat → Nat → Nat → Nat → Int32 → Hp → Option (Int32 × Hp)
  | 0, _, _, _, _, _ => none
  | n + 1, x1, x2, x3, x4, h =>
  if ((Int32.ofNat L) - (5 : Int32)) < x4 then
  (some ((1 : Int32), h))
  else
  ((iX x4 L).bind fun v6 =>
  if ((xs v6) &&& (15 : Int32)) = (0 : Int32) then
  ((iX (x4 + (1 : Int32)) L).bind fun v7 =>
  (iX (x4 + (2 : Int32)) L).bind fun v8 =>
  (iX (x4 + (3 : Int32)) L).bind fun v9 =>
  (iX (x4 + (4 : Int32)) L).bind fun v10 =>
  (isO h 6 x1).bind fun _ =>
  (J_Desk_step N x1 (xs v7) (xs v8) (xs v9) (xs v10) h).bind fun q11 =>
 (iX (x4 + (1 : Int32)) L).bind fun v12 =>
  (iX (x4 + (2 : Int32)) L).bind fun v13 =>
  (iX (x4 + (3 : Int32)) L).bind fun v14 =>
  (iX (x4 + (4 : Int32)) L).bind fun v15 =>
  (isO q11.2 7 x2).bind fun _ =>
  (J_Mod_step N x2 (xs v12) (xs v13) (xs v14) (xs v15) q11.2).bind fun q16 =>
 if q11.1 = q16.1 then
  ((J_Law_law_23 N xs L n) x1 x2 x3 (x4 + (5 : Int32)) q16.2)
  else
  (some ((0 : Int32), q16.2)))
  else if ((xs v6) &&& (15 : Int32)) = (1 : Int32) then
  ((iX (x4 + (1 : Int32)) L).bind fun v17 =>
  (iX (x4 + (2 : Int32)) L).bind fun v18 =>
  (isO h 6 x1).bind fun _ =>
  (J_Desk_input N x1 (xs v17) (xs v18) h).bind fun q19 =>
 (iX (x4 + (1 : Int32)) L).bind fun v20 =>
  (iX (x4 + (2 : Int32)) L).bind fun v21 =>
  (isO q19.2 7 x2).bind fun _ =>
  (J_Mod_input N x2 (xs v20) (xs v21) q19.2).bind fun q22 =>
 if q19.1 = q22.1 then
  ((J_Law_law_23 N xs L n) x1 x2 x3 (x4 + (5 : Int32)) q22.2)
  else
  (some ((0 : Int32), q22.2)))
  else if ((xs v6) &&& (15 : Int32)) = (2 : Int32) then
  ((iX (x4 + (1 : Int32)) L).bind fun v23 =>
  (iX (x4 + (2 : Int32)) L).bind fun v24 =>
  (isO h 6 x1).bind fun _ =>
  (J_Desk_output N x1 (xs v23) (xs v24) h).bind fun q25 =>
 (iX (x4 + (1 : Int32)) L).bind fun v26 =>
  (iX (x4 + (2 : Int32)) L).bind fun v27 =>
  (isO q25.2 7 x2).bind fun _ =>
  (J_Mod_output N x2 (xs v26) (xs v27) q25.2).bind fun q28 =>
 if q25.1 = q28.1 then
  ((J_Law_law_23 N xs L n) x1 x2 x3 (x4 + (5 : Int32)) q28.2)
  else
  (some ((0 : Int32), q28.2)))
  else if ((xs v6) &&& (15 : Int32)) = (3 : Int32) then
  ((iX (x4 + (1 : Int32)) L).bind fun v29 =>
  (isO h 6 x1).bind fun _ =>
  (J_Desk_drop N x1 (xs v29) h).bind fun q30 =>
 (iX (x4 + (1 : Int32)) L).bind fun v31 =>
  (isO q30.2 7 x2).bind fun _ =>
  (J_Mod_drop N x2 (xs v31) q30.2).bind fun q32 =>
 if q30.1 = q32.1 then
  ((J_Law_law_23 N xs L n) x1 x2 x3 (x4 + (5 : Int32)) q32.2)
  else
  (some ((0 : Int32), q32.2)))
  else if ((xs v6) &&& (15 : Int32)) = (4 : Int32) then
  ((iX (x4 + (1 : Int32)) L).bind fun v33 =>
  (iX (x4 + (2 : Int32)) L).bind fun v34 =>
  (isO h 6 x1).bind fun _ =>
  (J_Desk_source N x1 (xs v33) (xs v34) h).bind fun q35 =>
 (iX (x4 + (1 : Int32)) L).bind fun v36 =>
  (iX (x4 + (2 : Int32)) L).bind fun v37 =>
  (isO q35.2 7 x2).bind fun _ =>
  (J_Mod_source N x2 (xs v36) (xs v37) q35.2).bind fun q38 =>
 if q35.1 = q38.1 then
  ((J_Law_law_23 N xs L n) x1 x2 x3 (x4 + (5 : Int32)) q38.2)
  else
  (some ((0 : Int32), q38.2)))
  else if ((xs v6) &&& (15 : Int32)) = (5 : Int32) then
  ((iX (x4 + (1 : Int32)) L).bind fun v39 =>
  (isO h 6 x1).bind fun _ =>
  (J_Desk_spoil N x1 (xs v39) h).bind fun q40 =>
 (iX (x4 + (1 : Int32)) L).bind fun v41 =>
  (isO q40.2 7 x2).bind fun _ =>
  (J_Mod_spoil N x2 (xs v41) q40.2).bind fun q42 =>
 if q40.1 = q42.1 then
  ((J_Law_law_23 N xs L n) x1 x2 x3 (x4 + (5 : Int32)) q42.2)
  else
  (some ((0 : Int32), q42.2)))
  else if ((xs v6) &&& (15 : Int32)) = (6 : Int32) then
  ((iX (x4 + (1 : Int32)) L).bind fun v43 =>
  (iX (x4 + (2 : Int32)) L).bind fun v44 =>
  (J_Law_build N x1 (xs v43) (xs v44) x3 h).bind fun q45 =>
 (iX (x4 + (1 : Int32)) L).bind fun v46 =>
  (iX (x4 + (2 : Int32)) L).bind fun v47 =>
  (isO q45.2 7 x2).bind fun _ =>
  (J_Mod_build N x2 (xs v46) (xs v47) q45.2).bind fun q48 =>
 (isO q48.2 7 x2).bind fun _ =>
  (J_Mod_thrown N x2 q48.2).bind fun q49 =>
 if q49.1 = q45.1 then
  (if q45.1 = 0 then
  ((aJ q49.2 2 x3 (0 : Int32)).bind fun v50 =>
  if (lg_cmp v50 q48.1.toInt64) = 0 then
  ((J_Law_law_23 N xs L n) x1 x2 x3 (x4 + (5 : Int32)) q49.2)
  else
  (some ((0 : Int32), q49.2)))
  else
  ((J_Law_law_23 N xs L n) x1 x2 x3 (x4 + (5 : Int32)) q49.2))
  else
  (some ((0 : Int32), q49.2)))
  else if ((xs v6) &&& (15 : Int32)) = (7 : Int32) then
  ((iX (x4 + (1 : Int32)) L).bind fun v51 =>
  (isO h 6 x1).bind fun _ =>
  (J_Desk_count N x1 (xs v51) h).bind fun q52 =>
 (iX (x4 + (1 : Int32)) L).bind fun v53 =>
  (isO q52.2 7 x2).bind fun _ =>
  (J_Mod_count N x2 (xs v53) q52.2).bind fun q54 =>
 if q52.1 = q54.1 then
  ((J_Law_law_23 N xs L n) x1 x2 x3 (x4 + (5 : Int32)) q54.2)
  else
  (some ((0 : Int32), q54.2)))
  else if ((xs v6) &&& (15 : Int32)) = (8 : Int32) then
  ((iX (x4 + (1 : Int32)) L).bind fun v55 =>
  (iX (x4 + (2 : Int32)) L).bind fun v56 =>
  (J_Law_begun N x1 (xs v55) (xs v56) x3 h).bind fun q57 =>
 (iX (x4 + (1 : Int32)) L).bind fun v58 =>
  (iX (x4 + (2 : Int32)) L).bind fun v59 =>
  (isO q57.2 7 x2).bind fun _ =>
  (J_Mod_begun N x2 (xs v58) (xs v59) q57.2).bind fun q60 =>
 (isO q60.2 7 x2).bind fun _ =>
  (J_Mod_thrown N x2 q60.2).bind fun q61 =>
 if q61.1 = q57.1 then
  (if q57.1 = 0 then
  ((aJ q61.2 2 x3 (0 : Int32)).bind fun v62 =>
  if (lg_cmp v62 q60.1.toInt64) = 0 then
  ((J_Law_law_23 N xs L n) x1 x2 x3 (x4 + (5 : Int32)) q61.2)
  else
  (some ((0 : Int32), q61.2)))
  else
  ((J_Law_law_23 N xs L n) x1 x2 x3 (x4 + (5 : Int32)) q61.2))
  else
  (some ((0 : Int32), q61.2)))
  else if ((xs v6) &&& (15 : Int32)) = (9 : Int32) then
  ((iX (x4 + (1 : Int32)) L).bind fun v63 =>
  (J_Law_cycle N x1 (xs v63) x3 h).bind fun q64 =>
 (iX (x4 + (1 : Int32)) L).bind fun v65 =>
  (isO q64.2 7 x2).bind fun _ =>
  (J_Mod_cycle N x2 (xs v65) q64.2).bind fun q66 =>
 (isO q66.2 7 x2).bind fun _ =>
  (J_Mod_thrown N x2 q66.2).bind fun q67 =>
 if q67.1 = q64.1 then
  (if q64.1 = 0 then
  ((aJ q67.2 2 x3 (0 : Int32)).bind fun v68 =>
  if (lg_cmp v68 q66.1.toInt64) = 0 then
  ((J_Law_law_23 N xs L n) x1 x2 x3 (x4 + (5 : Int32)) q67.2)
  else
  (some ((0 : Int32), q67.2)))
  else
  ((J_Law_law_23 N xs L n) x1 x2 x3 (x4 + (5 : Int32)) q67.2))
  else
  (some ((0 : Int32), q67.2)))
  else if ((xs v6) &&& (15 : Int32)) = (10 : Int32) then
  ((iX (x4 + (1 : Int32)) L).bind fun v69 =>
  (J_Law_content N x1 (xs v69) x3 h).bind fun q70 =>
 (iX (x4 + (1 : Int32)) L).bind fun v71 =>
  (isO q70.2 7 x2).bind fun _ =>
  (J_Mod_content N x2 (xs v71) q70.2).bind fun q72 =>
 (isO q72.2 7 x2).bind fun _ =>
  (J_Mod_thrown N x2 q72.2).bind fun q73 =>
 if q73.1 = q70.1 then
  (if q70.1 = 0 then
  ((aJ q73.2 2 x3 (0 : Int32)).bind fun v74 =>
  if (lg_cmp v74 q72.1.toInt64) = 0 then
  ((J_Law_law_23 N xs L n) x1 x2 x3 (x4 + (5 : Int32)) q73.2)
  else
  (some ((0 : Int32), q73.2)))
  else
  ((J_Law_law_23 N xs L n) x1 x2 x3 (x4 + (5 : Int32)) q73.2))
  else
  (some ((0 : Int32), q73.2)))
  else if ((xs v6) &&& (15 : Int32)) = (11 : Int32) then
  ((iX (x4 + (1 : Int32)) L).bind fun v75 =>
  (isO h 6 x1).bind fun _ =>
  (J_Desk_reason N x1 (xs v75) h).bind fun q76 =>
 (iX (x4 + (1 : Int32)) L).bind fun v77 =>
  (isO q76.2 7 x2).bind fun _ =>
  (J_Mod_reason N x2 (xs v77) q76.2).bind fun q78 =>
 if q76.1 = q78.1 then
  ((J_Law_law_23 N xs L n) x1 x2 x3 (x4 + (5 : Int32)) q78.2)
  else
  (some ((0 : Int32), q78.2)))
  else ((J_Law_law_23 N xs L n) x1 x2 x3 (x4 + (5 : Int32)) h))
def J_Law_law (N : Nat) (xs : Nat → Int32) (L : Nat) (h : Hp) : Option (Int32 × Hp) :=
  (nO_ h 6 [.null, .null, .null, .null, .null, .null]).bind fun q1 =>
  (J_Desk_init N q1.1 q1.2).bind fun q2 =>
 (nO_ q2.2 7 [.int 0, .null, .null, .null, .null, .null, .null, .null, .null, .null, .null, .null, .null, .null, .null, .null, .null, .null, .null, .null, .null, .null, .null, .null, .null, .null, .null, .int 0, .int 0, .int 0, .int 0, .int 0, .null, .null, .null, .null, .null, .int 0, .null, .null]).bind fun q3 =>
  (J_Mod_init N q3.1 q3.2).bind fun q4 =>
 (nJ_ q4.2 2 (1 : Int32)).bind fun q5 =>
  J_Law_law_23 N xs L 600 q1.1 q3.1 q5.1 (0 : Int32) q5.2
set_option maxHeartbeats 8000000 in
set_option maxRecDepth 100000 in
theorem w_Law_law_23 (hfl : l.flags = flags0) (X : Cx p s m #[Value.ref b] meth c D vwCl tys cL_law 7 RL wsG) (hN : nwS s) (hth : thS (fun q : Nat => s.heap.size ≤ q) s) (hr : meth.sig.returnType = ret) (hX : va_X b L xs s s.heap) (hbl : b < s.heap.size) (hbA : ¬ (fun q : Nat => s.heap.size ≤ q) b) {hf : Hp} {N : Nat} : ∀ (n : Nat) (cells slots : Nat), cells + n ≤ 601024 → slots + 6 * n ≤ 7293034 → ∀ (x1 : Nat) (x2 : Nat) (x3 : Nat) (x4 : Int32) (h : Hp) (H : Heap) (locs : List Loc) (ls : Array Slot), J_Law_law_23 N xs L n x1 x2 x3 x4 h = some (1, hf) → In D vwCl tys (fun q : Nat => s.heap.size ≤ q) s h H locs → lv_has ls 7 [(0, .ref b), (1, .ref x1), (2, .ref x2), (3, .ref x3), (4, .int x4)] → W p l e room_1 s m #[Value.ref b] below meth c H locs cells slots (lw_Z below #[Value.ref b] s) (F0 m 23 ls []) := by
  have hx := X.1.1
  have hb := X.1.2.1
  have hml := X.1.2.2.1
  have ho := X.1.2.2.2.1
  have hts := X.1.2.2.2.2
  have hK := X.2.1
  have hlocks := X.2.2.1
  have hT := X.2.2.2
  intro n
  induction n with
  | zero =>
    intro cells slots hc hs x1 x2 x3 x4 h H locs ls hJ I hl
    exact nomatch (show (none : Option (Int32 × Hp)) = some (1, hf) from hJ)
  | succ n k23 =>
    intro cells slots hc hs x1 x2 x3 x4 h H locs ls hJ I hl
    rw [J_Law_law_23] at hJ
    refine lv_iload hx hb dL_law_23 (lv_at hl 4 rfl) ?_
    refine lv_aload_n hx hb dL_law_25 rfl (lv_at hl 0 rfl) ?_
    refine va_slen hx hb hX hbl hbA I.2.1 dL_law_26 ?_
    refine lv_iconst (v := 5) hx hb dL_law_27 (by decide) ?_
    refine lv_isub hx hb dL_law_28 ?_
    refine lv_icmp_gt (tgt := 626) hx hb dL_law_29 (by decide) (fun c9 => ?_) (fun c9 => ?_)
    · rw [if_pos c9] at hJ
      refine lv_iconst (v := 1) hx hb dL_law_626 (by decide) ?_
      refine va_forget (fun q hq => I.2.1.2.2 q hq) ?_
      refine W.widen (k := 601024) (n := 7293034) (by omega) (by omega) ?_
      exact lw_ret hx hb hr hlocks dL_law_627
    · rw [if_neg c9] at hJ
      refine lv_aload_n hx hb dL_law_32 rfl (lv_at hl 0 rfl) ?_
      refine lv_iload hx hb dL_law_33 (lv_at hl 4 rfl) ?_
      obtain ⟨v6, e9, hJ⟩ := rp_b hJ
      obtain ⟨g9, r9⟩ := iX_s e9
      refine va_sld hx hb hX hbl hbA I.2.1 g9 dL_law_35 ?_
      rw [← r9]
      refine lv_bipush (v := 15) hx hb dL_law_36 (by decide) ?_
      refine lv_iand hx hb dL_law_38 ?_
      by_cases c9 : ((xs v6) &&& (15 : Int32)) = (0 : Int32)
      · rw [if_pos c9] at hJ
        refine lv_tableIn (tgt := 100) (off := 61) hx hb dL_law_39 (by rw [c9]; decide) (by rw [c9]; decide) (by rw [c9]; decide) (by decide) ?_
        refine lv_aload_n hx hb dL_law_100 rfl (lv_at hl 1 rfl) ?_
        refine lv_aload_n hx hb dL_law_101 rfl (lv_at hl 0 rfl) ?_
        refine lv_iload hx hb dL_law_102 (lv_at hl 4 rfl) ?_
        refine lv_iconst (v := 1) hx hb dL_law_104 (by decide) ?_
        refine lv_iadd hx hb dL_law_105 ?_
        obtain ⟨v7, e9, hJ⟩ := rp_b hJ
        obtain ⟨g9, r9⟩ := iX_s e9
        refine va_sld hx hb hX hbl hbA I.2.1 g9 dL_law_106 ?_
        rw [← r9]
        refine lv_aload_n hx hb dL_law_107 rfl (lv_at hl 0 rfl) ?_
        refine lv_iload hx hb dL_law_108 (lv_at hl 4 rfl) ?_
        refine lv_iconst (v := 2) hx hb dL_law_110 (by decide) ?_
        refine lv_iadd hx hb dL_law_111 ?_
        obtain ⟨v8, e9, hJ⟩ := rp_b hJ
        obtain ⟨g9, r9⟩ := iX_s e9
        refine va_sld hx hb hX hbl hbA I.2.1 g9 dL_law_112 ?_
        rw [← r9]
        refine lv_aload_n hx hb dL_law_113 rfl (lv_at hl 0 rfl) ?_
        refine lv_iload hx hb dL_law_114 (lv_at hl 4 rfl) ?_
        refine lv_iconst (v := 3) hx hb dL_law_116 (by decide) ?_
        refine lv_iadd hx hb dL_law_117 ?_
        obtain ⟨v9, e9, hJ⟩ := rp_b hJ
        obtain ⟨g9, r9⟩ := iX_s e9
        refine va_sld hx hb hX hbl hbA I.2.1 g9 dL_law_118 ?_
        rw [← r9]
        refine lv_aload_n hx hb dL_law_119 rfl (lv_at hl 0 rfl) ?_
        refine lv_iload hx hb dL_law_120 (lv_at hl 4 rfl) ?_
        refine lv_iconst (v := 4) hx hb dL_law_122 (by decide) ?_
        refine lv_iadd hx hb dL_law_123 ?_
        obtain ⟨v10, e9, hJ⟩ := rp_b hJ
        obtain ⟨g9, r9⟩ := iX_s e9
        refine va_sld hx hb hX hbl hbA I.2.1 g9 dL_law_124 ?_
        rw [← r9]
        obtain ⟨u9, i9, hJ⟩ := rp_b hJ
        obtain ⟨f9, i9⟩ := isO_s i9
        obtain ⟨q11, e9, hJ⟩ := rp_b hJ
        refine rp_callV (As := [.int (xs v7), .int (xs v8), .int (xs v9), .int (xs v10)]) (rest := []) X hN I (c_Desk_step hT e9) (cwV 4 hts (gdV wm_179 wm_180 wm_181 wm_33 wm_182) rfl rfl rfl (by decide +kernel) ⟨Nat.le_of_ble_eq_true rfl, Nat.le_of_ble_eq_true rfl⟩) i9 rfl rfl hl.1 rfl (Nat.le_of_ble_eq_true rfl) dL_law_125 ⟨(show cells + 0 ≤ 601024 by omega), (show slots + 0 ≤ 7293034 by omega)⟩ (fun H locs I => ?_)
        refine W.cs (cells' := cells) (slots' := slots) rfl rfl ?_
        refine lv_aload_n hx hb dL_law_128 rfl (lv_at hl 2 rfl) ?_
        refine lv_aload_n hx hb dL_law_129 rfl (lv_at hl 0 rfl) ?_
        refine lv_iload hx hb dL_law_130 (lv_at hl 4 rfl) ?_
        refine lv_iconst (v := 1) hx hb dL_law_132 (by decide) ?_
        refine lv_iadd hx hb dL_law_133 ?_
        obtain ⟨v12, e9, hJ⟩ := rp_b hJ
        obtain ⟨g9, r9⟩ := iX_s e9
        refine va_sld hx hb hX hbl hbA I.2.1 g9 dL_law_134 ?_
        rw [← r9]
        refine lv_aload_n hx hb dL_law_135 rfl (lv_at hl 0 rfl) ?_
        refine lv_iload hx hb dL_law_136 (lv_at hl 4 rfl) ?_
        refine lv_iconst (v := 2) hx hb dL_law_138 (by decide) ?_
        refine lv_iadd hx hb dL_law_139 ?_
        obtain ⟨v13, e9, hJ⟩ := rp_b hJ
        obtain ⟨g9, r9⟩ := iX_s e9
        refine va_sld hx hb hX hbl hbA I.2.1 g9 dL_law_140 ?_
        rw [← r9]
        refine lv_aload_n hx hb dL_law_141 rfl (lv_at hl 0 rfl) ?_
        refine lv_iload hx hb dL_law_142 (lv_at hl 4 rfl) ?_
        refine lv_iconst (v := 3) hx hb dL_law_144 (by decide) ?_
        refine lv_iadd hx hb dL_law_145 ?_
        obtain ⟨v14, e9, hJ⟩ := rp_b hJ
        obtain ⟨g9, r9⟩ := iX_s e9
        refine va_sld hx hb hX hbl hbA I.2.1 g9 dL_law_146 ?_
        rw [← r9]
        refine lv_aload_n hx hb dL_law_147 rfl (lv_at hl 0 rfl) ?_
        refine lv_iload hx hb dL_law_148 (lv_at hl 4 rfl) ?_
        refine lv_iconst (v := 4) hx hb dL_law_150 (by decide) ?_
        refine lv_iadd hx hb dL_law_151 ?_
        obtain ⟨v15, e9, hJ⟩ := rp_b hJ
        obtain ⟨g9, r9⟩ := iX_s e9
        refine va_sld hx hb hX hbl hbA I.2.1 g9 dL_law_152 ?_
        rw [← r9]
        obtain ⟨u9, i9, hJ⟩ := rp_b hJ
        obtain ⟨f9, i9⟩ := isO_s i9
        obtain ⟨q16, e9, hJ⟩ := rp_b hJ
        refine rp_callV (As := [.int (xs v12), .int (xs v13), .int (xs v14), .int (xs v15)]) (rest := [.int q11.1]) X hN I (c_Mod_step hT e9) (cwV 4 hts (gdV wm_618 wm_619 wm_620 wm_40 wm_621) rfl rfl rfl (by decide +kernel) ⟨Nat.le_of_ble_eq_true rfl, Nat.le_of_ble_eq_true rfl⟩) i9 rfl rfl hl.1 rfl (Nat.le_of_ble_eq_true rfl) dL_law_153 ⟨(show cells + 0 ≤ 601024 by omega), (show slots + 0 ≤ 7293034 by omega)⟩ (fun H locs I => ?_)
        refine W.cs (cells' := cells) (slots' := slots) rfl rfl ?_
        refine lv_icmp_eq (tgt := 620) hx hb dL_law_156 (by decide) (fun c9 => ?_) (fun c9 => ?_)
        · rw [if_pos c9] at hJ
          refine lv_iinc (v := (x4 + (5 : Int32))) (lv' := [(4, .int (x4 + (5 : Int32))), (0, .ref b), (1, .ref x1), (2, .ref x2), (3, .ref x3)]) hx hb dL_law_620 hl (k := 4) rfl rfl (by decide) rfl (fun ls hl => ?_)
          refine lv_goto (tgt := 23) hx hb dL_law_623 (by decide) ?_
          exact k23 _ _ (by omega) (by omega) _ _ _ _ _ _ _ _ hJ I (lv_sub hl [1, 2, 3, 4, 0] rfl)
        · rw [if_neg c9] at hJ
          refine lv_iconst (v := 0) hx hb dL_law_159 (by decide) ?_
          exact absurd (congrArg Prod.fst (Option.some.inj hJ)) (show ¬ (0 : Int32) = 1 by decide)
      rw [if_neg c9] at hJ
      have n0 := c9
      by_cases c9 : ((xs v6) &&& (15 : Int32)) = (1 : Int32)
      · rw [if_pos c9] at hJ
        refine lv_tableIn (tgt := 161) (off := 122) hx hb dL_law_39 (by rw [c9]; decide) (by rw [c9]; decide) (by rw [c9]; decide) (by decide) ?_
        refine lv_aload_n hx hb dL_law_161 rfl (lv_at hl 1 rfl) ?_
        refine lv_aload_n hx hb dL_law_162 rfl (lv_at hl 0 rfl) ?_
        refine lv_iload hx hb dL_law_163 (lv_at hl 4 rfl) ?_
        refine lv_iconst (v := 1) hx hb dL_law_165 (by decide) ?_
        refine lv_iadd hx hb dL_law_166 ?_
        obtain ⟨v17, e9, hJ⟩ := rp_b hJ
        obtain ⟨g9, r9⟩ := iX_s e9
        refine va_sld hx hb hX hbl hbA I.2.1 g9 dL_law_167 ?_
        rw [← r9]
        refine lv_aload_n hx hb dL_law_168 rfl (lv_at hl 0 rfl) ?_
        refine lv_iload hx hb dL_law_169 (lv_at hl 4 rfl) ?_
        refine lv_iconst (v := 2) hx hb dL_law_171 (by decide) ?_
        refine lv_iadd hx hb dL_law_172 ?_
        obtain ⟨v18, e9, hJ⟩ := rp_b hJ
        obtain ⟨g9, r9⟩ := iX_s e9
        refine va_sld hx hb hX hbl hbA I.2.1 g9 dL_law_173 ?_
        rw [← r9]
        obtain ⟨u9, i9, hJ⟩ := rp_b hJ
        obtain ⟨f9, i9⟩ := isO_s i9
        obtain ⟨q19, e9, hJ⟩ := rp_b hJ
        refine rp_callV (As := [.int (xs v17), .int (xs v18)]) (rest := []) X hN I (c_Desk_input hT e9) (cwV 2 hts (gdV wm_190 wm_191 wm_192 wm_33 wm_193) rfl rfl rfl (by decide +kernel) ⟨Nat.le_of_ble_eq_true rfl, Nat.le_of_ble_eq_true rfl⟩) i9 rfl rfl hl.1 rfl (Nat.le_of_ble_eq_true rfl) dL_law_174 ⟨(show cells + 0 ≤ 601024 by omega), (show slots + 0 ≤ 7293034 by omega)⟩ (fun H locs I => ?_)
        refine W.cs (cells' := cells) (slots' := slots) rfl rfl ?_
        refine lv_aload_n hx hb dL_law_177 rfl (lv_at hl 2 rfl) ?_
        refine lv_aload_n hx hb dL_law_178 rfl (lv_at hl 0 rfl) ?_
        refine lv_iload hx hb dL_law_179 (lv_at hl 4 rfl) ?_
        refine lv_iconst (v := 1) hx hb dL_law_181 (by decide) ?_
        refine lv_iadd hx hb dL_law_182 ?_
        obtain ⟨v20, e9, hJ⟩ := rp_b hJ
        obtain ⟨g9, r9⟩ := iX_s e9
        refine va_sld hx hb hX hbl hbA I.2.1 g9 dL_law_183 ?_
        rw [← r9]
        refine lv_aload_n hx hb dL_law_184 rfl (lv_at hl 0 rfl) ?_
        refine lv_iload hx hb dL_law_185 (lv_at hl 4 rfl) ?_
        refine lv_iconst (v := 2) hx hb dL_law_187 (by decide) ?_
        refine lv_iadd hx hb dL_law_188 ?_
        obtain ⟨v21, e9, hJ⟩ := rp_b hJ
        obtain ⟨g9, r9⟩ := iX_s e9
        refine va_sld hx hb hX hbl hbA I.2.1 g9 dL_law_189 ?_
        rw [← r9]
        obtain ⟨u9, i9, hJ⟩ := rp_b hJ
        obtain ⟨f9, i9⟩ := isO_s i9
        obtain ⟨q22, e9, hJ⟩ := rp_b hJ
        refine rp_callV (As := [.int (xs v20), .int (xs v21)]) (rest := [.int q19.1]) X hN I (c_Mod_input hT e9) (cwV 2 hts (gdV wm_622 wm_623 wm_624 wm_40 wm_625) rfl rfl rfl (by decide +kernel) ⟨Nat.le_of_ble_eq_true rfl, Nat.le_of_ble_eq_true rfl⟩) i9 rfl rfl hl.1 rfl (Nat.le_of_ble_eq_true rfl) dL_law_190 ⟨(show cells + 0 ≤ 601024 by omega), (show slots + 0 ≤ 7293034 by omega)⟩ (fun H locs I => ?_)
        refine W.cs (cells' := cells) (slots' := slots) rfl rfl ?_
        refine lv_icmp_eq (tgt := 620) hx hb dL_law_193 (by decide) (fun c9 => ?_) (fun c9 => ?_)
        · rw [if_pos c9] at hJ
          refine lv_iinc (v := (x4 + (5 : Int32))) (lv' := [(4, .int (x4 + (5 : Int32))), (0, .ref b), (1, .ref x1), (2, .ref x2), (3, .ref x3)]) hx hb dL_law_620 hl (k := 4) rfl rfl (by decide) rfl (fun ls hl => ?_)
          refine lv_goto (tgt := 23) hx hb dL_law_623 (by decide) ?_
          exact k23 _ _ (by omega) (by omega) _ _ _ _ _ _ _ _ hJ I (lv_sub hl [1, 2, 3, 4, 0] rfl)
        · rw [if_neg c9] at hJ
          refine lv_iconst (v := 0) hx hb dL_law_196 (by decide) ?_
          exact absurd (congrArg Prod.fst (Option.some.inj hJ)) (show ¬ (0 : Int32) = 1 by decide)
      rw [if_neg c9] at hJ
      have n1 := c9
      by_cases c9 : ((xs v6) &&& (15 : Int32)) = (2 : Int32)
      · rw [if_pos c9] at hJ
        refine lv_tableIn (tgt := 198) (off := 159) hx hb dL_law_39 (by rw [c9]; decide) (by rw [c9]; decide) (by rw [c9]; decide) (by decide) ?_
        refine lv_aload_n hx hb dL_law_198 rfl (lv_at hl 1 rfl) ?_
        refine lv_aload_n hx hb dL_law_199 rfl (lv_at hl 0 rfl) ?_
        refine lv_iload hx hb dL_law_200 (lv_at hl 4 rfl) ?_
        refine lv_iconst (v := 1) hx hb dL_law_202 (by decide) ?_
        refine lv_iadd hx hb dL_law_203 ?_
        obtain ⟨v23, e9, hJ⟩ := rp_b hJ
        obtain ⟨g9, r9⟩ := iX_s e9
        refine va_sld hx hb hX hbl hbA I.2.1 g9 dL_law_204 ?_
        rw [← r9]
        refine lv_aload_n hx hb dL_law_205 rfl (lv_at hl 0 rfl) ?_
        refine lv_iload hx hb dL_law_206 (lv_at hl 4 rfl) ?_
        refine lv_iconst (v := 2) hx hb dL_law_208 (by decide) ?_
        refine lv_iadd hx hb dL_law_209 ?_
        obtain ⟨v24, e9, hJ⟩ := rp_b hJ
        obtain ⟨g9, r9⟩ := iX_s e9
        refine va_sld hx hb hX hbl hbA I.2.1 g9 dL_law_210 ?_
        rw [← r9]
        obtain ⟨u9, i9, hJ⟩ := rp_b hJ
        obtain ⟨f9, i9⟩ := isO_s i9
        obtain ⟨q25, e9, hJ⟩ := rp_b hJ
        refine rp_callV (As := [.int (xs v23), .int (xs v24)]) (rest := []) X hN I (c_Desk_output hT e9) (cwV 2 hts (gdV wm_204 wm_205 wm_206 wm_33 wm_207) rfl rfl rfl (by decide +kernel) ⟨Nat.le_of_ble_eq_true rfl, Nat.le_of_ble_eq_true rfl⟩) i9 rfl rfl hl.1 rfl (Nat.le_of_ble_eq_true rfl) dL_law_211 ⟨(show cells + 0 ≤ 601024 by omega), (show slots + 0 ≤ 7293034 by omega)⟩ (fun H locs I => ?_)
        refine W.cs (cells' := cells) (slots' := slots) rfl rfl ?_
        refine lv_aload_n hx hb dL_law_214 rfl (lv_at hl 2 rfl) ?_
        refine lv_aload_n hx hb dL_law_215 rfl (lv_at hl 0 rfl) ?_
        refine lv_iload hx hb dL_law_216 (lv_at hl 4 rfl) ?_
        refine lv_iconst (v := 1) hx hb dL_law_218 (by decide) ?_
        refine lv_iadd hx hb dL_law_219 ?_
        obtain ⟨v26, e9, hJ⟩ := rp_b hJ
        obtain ⟨g9, r9⟩ := iX_s e9
        refine va_sld hx hb hX hbl hbA I.2.1 g9 dL_law_220 ?_
        rw [← r9]
        refine lv_aload_n hx hb dL_law_221 rfl (lv_at hl 0 rfl) ?_
        refine lv_iload hx hb dL_law_222 (lv_at hl 4 rfl) ?_
        refine lv_iconst (v := 2) hx hb dL_law_224 (by decide) ?_
        refine lv_iadd hx hb dL_law_225 ?_
        obtain ⟨v27, e9, hJ⟩ := rp_b hJ
        obtain ⟨g9, r9⟩ := iX_s e9
        refine va_sld hx hb hX hbl hbA I.2.1 g9 dL_law_226 ?_
        rw [← r9]
        obtain ⟨u9, i9, hJ⟩ := rp_b hJ
        obtain ⟨f9, i9⟩ := isO_s i9
        obtain ⟨q28, e9, hJ⟩ := rp_b hJ
        refine rp_callV (As := [.int (xs v26), .int (xs v27)]) (rest := [.int q25.1]) X hN I (c_Mod_output hT e9) (cwV 2 hts (gdV wm_632 wm_633 wm_634 wm_40 wm_635) rfl rfl rfl (by decide +kernel) ⟨Nat.le_of_ble_eq_true rfl, Nat.le_of_ble_eq_true rfl⟩) i9 rfl rfl hl.1 rfl (Nat.le_of_ble_eq_true rfl) dL_law_227 ⟨(show cells + 0 ≤ 601024 by omega), (show slots + 0 ≤ 7293034 by omega)⟩ (fun H locs I => ?_)
        refine W.cs (cells' := cells) (slots' := slots) rfl rfl ?_
        refine lv_icmp_eq (tgt := 620) hx hb dL_law_230 (by decide) (fun c9 => ?_) (fun c9 => ?_)
        · rw [if_pos c9] at hJ
          refine lv_iinc (v := (x4 + (5 : Int32))) (lv' := [(4, .int (x4 + (5 : Int32))), (0, .ref b), (1, .ref x1), (2, .ref x2), (3, .ref x3)]) hx hb dL_law_620 hl (k := 4) rfl rfl (by decide) rfl (fun ls hl => ?_)
          refine lv_goto (tgt := 23) hx hb dL_law_623 (by decide) ?_
          exact k23 _ _ (by omega) (by omega) _ _ _ _ _ _ _ _ hJ I (lv_sub hl [1, 2, 3, 4, 0] rfl)
        · rw [if_neg c9] at hJ
          refine lv_iconst (v := 0) hx hb dL_law_233 (by decide) ?_
          exact absurd (congrArg Prod.fst (Option.some.inj hJ)) (show ¬ (0 : Int32) = 1 by decide)
      rw [if_neg c9] at hJ
      have n2 := c9
      by_cases c9 : ((xs v6) &&& (15 : Int32)) = (3 : Int32)
      · rw [if_pos c9] at hJ
        refine lv_tableIn (tgt := 235) (off := 196) hx hb dL_law_39 (by rw [c9]; decide) (by rw [c9]; decide) (by rw [c9]; decide) (by decide) ?_
        refine lv_aload_n hx hb dL_law_235 rfl (lv_at hl 1 rfl) ?_
        refine lv_aload_n hx hb dL_law_236 rfl (lv_at hl 0 rfl) ?_
        refine lv_iload hx hb dL_law_237 (lv_at hl 4 rfl) ?_
        refine lv_iconst (v := 1) hx hb dL_law_239 (by decide) ?_
        refine lv_iadd hx hb dL_law_240 ?_
        obtain ⟨v29, e9, hJ⟩ := rp_b hJ
        obtain ⟨g9, r9⟩ := iX_s e9
        refine va_sld hx hb hX hbl hbA I.2.1 g9 dL_law_241 ?_
        rw [← r9]
        obtain ⟨u9, i9, hJ⟩ := rp_b hJ
        obtain ⟨f9, i9⟩ := isO_s i9
        obtain ⟨q30, e9, hJ⟩ := rp_b hJ
        refine rp_callV (As := [.int (xs v29)]) (rest := []) X hN I (c_Desk_drop hT e9) (cwV 1 hts (gdV wm_223 wm_224 wm_225 wm_33 wm_226) rfl rfl rfl (by decide +kernel) ⟨Nat.le_of_ble_eq_true rfl, Nat.le_of_ble_eq_true rfl⟩) i9 rfl rfl hl.1 rfl (Nat.le_of_ble_eq_true rfl) dL_law_242 ⟨(show cells + 0 ≤ 601024 by omega), (show slots + 0 ≤ 7293034 by omega)⟩ (fun H locs I => ?_)
        refine W.cs (cells' := cells) (slots' := slots) rfl rfl ?_
        refine lv_aload_n hx hb dL_law_245 rfl (lv_at hl 2 rfl) ?_
        refine lv_aload_n hx hb dL_law_246 rfl (lv_at hl 0 rfl) ?_
        refine lv_iload hx hb dL_law_247 (lv_at hl 4 rfl) ?_
        refine lv_iconst (v := 1) hx hb dL_law_249 (by decide) ?_
        refine lv_iadd hx hb dL_law_250 ?_
        obtain ⟨v31, e9, hJ⟩ := rp_b hJ
        obtain ⟨g9, r9⟩ := iX_s e9
        refine va_sld hx hb hX hbl hbA I.2.1 g9 dL_law_251 ?_
        rw [← r9]
        obtain ⟨u9, i9, hJ⟩ := rp_b hJ
        obtain ⟨f9, i9⟩ := isO_s i9
        obtain ⟨q32, e9, hJ⟩ := rp_b hJ
        refine rp_callV (As := [.int (xs v31)]) (rest := [.int q30.1]) X hN I (c_Mod_drop hT e9) (cwV 1 hts (gdV wm_636 wm_637 wm_638 wm_40 wm_639) rfl rfl rfl (by decide +kernel) ⟨Nat.le_of_ble_eq_true rfl, Nat.le_of_ble_eq_true rfl⟩) i9 rfl rfl hl.1 rfl (Nat.le_of_ble_eq_true rfl) dL_law_252 ⟨(show cells + 0 ≤ 601024 by omega), (show slots + 0 ≤ 7293034 by omega)⟩ (fun H locs I => ?_)
        refine W.cs (cells' := cells) (slots' := slots) rfl rfl ?_
        refine lv_icmp_eq (tgt := 620) hx hb dL_law_255 (by decide) (fun c9 => ?_) (fun c9 => ?_)
        · rw [if_pos c9] at hJ
          refine lv_iinc (v := (x4 + (5 : Int32))) (lv' := [(4, .int (x4 + (5 : Int32))), (0, .ref b), (1, .ref x1), (2, .ref x2), (3, .ref x3)]) hx hb dL_law_620 hl (k := 4) rfl rfl (by decide) rfl (fun ls hl => ?_)
          refine lv_goto (tgt := 23) hx hb dL_law_623 (by decide) ?_
          exact k23 _ _ (by omega) (by omega) _ _ _ _ _ _ _ _ hJ I (lv_sub hl [1, 2, 3, 4, 0] rfl)
        · rw [if_neg c9] at hJ
          refine lv_iconst (v := 0) hx hb dL_law_258 (by decide) ?_
          exact absurd (congrArg Prod.fst (Option.some.inj hJ)) (show ¬ (0 : Int32) = 1 by decide)
      rw [if_neg c9] at hJ
      have n3 := c9
      by_cases c9 : ((xs v6) &&& (15 : Int32)) = (4 : Int32)
      · rw [if_pos c9] at hJ
        refine lv_tableIn (tgt := 260) (off := 221) hx hb dL_law_39 (by rw [c9]; decide) (by rw [c9]; decide) (by rw [c9]; decide) (by decide) ?_
        refine lv_aload_n hx hb dL_law_260 rfl (lv_at hl 1 rfl) ?_
        refine lv_aload_n hx hb dL_law_261 rfl (lv_at hl 0 rfl) ?_
        refine lv_iload hx hb dL_law_262 (lv_at hl 4 rfl) ?_
        refine lv_iconst (v := 1) hx hb dL_law_264 (by decide) ?_
        refine lv_iadd hx hb dL_law_265 ?_
        obtain ⟨v33, e9, hJ⟩ := rp_b hJ
        obtain ⟨g9, r9⟩ := iX_s e9
        refine va_sld hx hb hX hbl hbA I.2.1 g9 dL_law_266 ?_
        rw [← r9]
        refine lv_aload_n hx hb dL_law_267 rfl (lv_at hl 0 rfl) ?_
        refine lv_iload hx hb dL_law_268 (lv_at hl 4 rfl) ?_
        refine lv_iconst (v := 2) hx hb dL_law_270 (by decide) ?_
        refine lv_iadd hx hb dL_law_271 ?_
        obtain ⟨v34, e9, hJ⟩ := rp_b hJ
        obtain ⟨g9, r9⟩ := iX_s e9
        refine va_sld hx hb hX hbl hbA I.2.1 g9 dL_law_272 ?_
        rw [← r9]
        obtain ⟨u9, i9, hJ⟩ := rp_b hJ
        obtain ⟨f9, i9⟩ := isO_s i9
        obtain ⟨q35, e9, hJ⟩ := rp_b hJ
        refine rp_callV (As := [.int (xs v33), .int (xs v34)]) (rest := []) X hN I (c_Desk_source hT e9) (cwV 2 hts (gdV wm_232 wm_233 wm_234 wm_33 wm_235) rfl rfl rfl (by decide +kernel) ⟨Nat.le_of_ble_eq_true rfl, Nat.le_of_ble_eq_true rfl⟩) i9 rfl rfl hl.1 rfl (Nat.le_of_ble_eq_true rfl) dL_law_273 ⟨(show cells + 0 ≤ 601024 by omega), (show slots + 0 ≤ 7293034 by omega)⟩ (fun H locs I => ?_)
        refine W.cs (cells' := cells) (slots' := slots) rfl rfl ?_
        refine lv_aload_n hx hb dL_law_276 rfl (lv_at hl 2 rfl) ?_
        refine lv_aload_n hx hb dL_law_277 rfl (lv_at hl 0 rfl) ?_
        refine lv_iload hx hb dL_law_278 (lv_at hl 4 rfl) ?_
        refine lv_iconst (v := 1) hx hb dL_law_280 (by decide) ?_
        refine lv_iadd hx hb dL_law_281 ?_
        obtain ⟨v36, e9, hJ⟩ := rp_b hJ
        obtain ⟨g9, r9⟩ := iX_s e9
        refine va_sld hx hb hX hbl hbA I.2.1 g9 dL_law_282 ?_
        rw [← r9]
        refine lv_aload_n hx hb dL_law_283 rfl (lv_at hl 0 rfl) ?_
        refine lv_iload hx hb dL_law_284 (lv_at hl 4 rfl) ?_
        refine lv_iconst (v := 2) hx hb dL_law_286 (by decide) ?_
        refine lv_iadd hx hb dL_law_287 ?_
        obtain ⟨v37, e9, hJ⟩ := rp_b hJ
        obtain ⟨g9, r9⟩ := iX_s e9
        refine va_sld hx hb hX hbl hbA I.2.1 g9 dL_law_288 ?_
        rw [← r9]
        obtain ⟨u9, i9, hJ⟩ := rp_b hJ
        obtain ⟨f9, i9⟩ := isO_s i9
        obtain ⟨q38, e9, hJ⟩ := rp_b hJ
        refine rp_callV (As := [.int (xs v36), .int (xs v37)]) (rest := [.int q35.1]) X hN I (c_Mod_source hT e9) (cwV 2 hts (gdV wm_640 wm_641 wm_642 wm_40 wm_643) rfl rfl rfl (by decide +kernel) ⟨Nat.le_of_ble_eq_true rfl, Nat.le_of_ble_eq_true rfl⟩) i9 rfl rfl hl.1 rfl (Nat.le_of_ble_eq_true rfl) dL_law_289 ⟨(show cells + 0 ≤ 601024 by omega), (show slots + 0 ≤ 7293034 by omega)⟩ (fun H locs I => ?_)
        refine W.cs (cells' := cells) (slots' := slots) rfl rfl ?_
        refine lv_icmp_eq (tgt := 620) hx hb dL_law_292 (by decide) (fun c9 => ?_) (fun c9 => ?_)
        · rw [if_pos c9] at hJ
          refine lv_iinc (v := (x4 + (5 : Int32))) (lv' := [(4, .int (x4 + (5 : Int32))), (0, .ref b), (1, .ref x1), (2, .ref x2), (3, .ref x3)]) hx hb dL_law_620 hl (k := 4) rfl rfl (by decide) rfl (fun ls hl => ?_)
          refine lv_goto (tgt := 23) hx hb dL_law_623 (by decide) ?_
          exact k23 _ _ (by omega) (by omega) _ _ _ _ _ _ _ _ hJ I (lv_sub hl [1, 2, 3, 4, 0] rfl)
        · rw [if_neg c9] at hJ
          refine lv_iconst (v := 0) hx hb dL_law_295 (by decide) ?_
          exact absurd (congrArg Prod.fst (Option.some.inj hJ)) (show ¬ (0 : Int32) = 1 by decide)
      rw [if_neg c9] at hJ
      have n4 := c9
      by_cases c9 : ((xs v6) &&& (15 : Int32)) = (5 : Int32)
      · rw [if_pos c9] at hJ
        refine lv_tableIn (tgt := 297) (off := 258) hx hb dL_law_39 (by rw [c9]; decide) (by rw [c9]; decide) (by rw [c9]; decide) (by decide) ?_
        refine lv_aload_n hx hb dL_law_297 rfl (lv_at hl 1 rfl) ?_
        refine lv_aload_n hx hb dL_law_298 rfl (lv_at hl 0 rfl) ?_
        refine lv_iload hx hb dL_law_299 (lv_at hl 4 rfl) ?_
        refine lv_iconst (v := 1) hx hb dL_law_301 (by decide) ?_
        refine lv_iadd hx hb dL_law_302 ?_
        obtain ⟨v39, e9, hJ⟩ := rp_b hJ
        obtain ⟨g9, r9⟩ := iX_s e9
        refine va_sld hx hb hX hbl hbA I.2.1 g9 dL_law_303 ?_
        rw [← r9]
        obtain ⟨u9, i9, hJ⟩ := rp_b hJ
        obtain ⟨f9, i9⟩ := isO_s i9
        obtain ⟨q40, e9, hJ⟩ := rp_b hJ
        refine rp_callV (As := [.int (xs v39)]) (rest := []) X hN I (c_Desk_spoil hT e9) (cwV 1 hts (gdV wm_240 wm_241 wm_242 wm_33 wm_243) rfl rfl rfl (by decide +kernel) ⟨Nat.le_of_ble_eq_true rfl, Nat.le_of_ble_eq_true rfl⟩) i9 rfl rfl hl.1 rfl (Nat.le_of_ble_eq_true rfl) dL_law_304 ⟨(show cells + 0 ≤ 601024 by omega), (show slots + 0 ≤ 7293034 by omega)⟩ (fun H locs I => ?_)
        refine W.cs (cells' := cells) (slots' := slots) rfl rfl ?_
        refine lv_aload_n hx hb dL_law_307 rfl (lv_at hl 2 rfl) ?_
        refine lv_aload_n hx hb dL_law_308 rfl (lv_at hl 0 rfl) ?_
        refine lv_iload hx hb dL_law_309 (lv_at hl 4 rfl) ?_
        refine lv_iconst (v := 1) hx hb dL_law_311 (by decide) ?_
        refine lv_iadd hx hb dL_law_312 ?_
        obtain ⟨v41, e9, hJ⟩ := rp_b hJ
        obtain ⟨g9, r9⟩ := iX_s e9
        refine va_sld hx hb hX hbl hbA I.2.1 g9 dL_law_313 ?_
        rw [← r9]
        obtain ⟨u9, i9, hJ⟩ := rp_b hJ
        obtain ⟨f9, i9⟩ := isO_s i9
        obtain ⟨q42, e9, hJ⟩ := rp_b hJ
        refine rp_callV (As := [.int (xs v41)]) (rest := [.int q40.1]) X hN I (c_Mod_spoil hT e9) (cwV 1 hts (gdV wm_644 wm_645 wm_646 wm_40 wm_647) rfl rfl rfl (by decide +kernel) ⟨Nat.le_of_ble_eq_true rfl, Nat.le_of_ble_eq_true rfl⟩) i9 rfl rfl hl.1 rfl (Nat.le_of_ble_eq_true rfl) dL_law_314 ⟨(show cells + 0 ≤ 601024 by omega), (show slots + 0 ≤ 7293034 by omega)⟩ (fun H locs I => ?_)
        refine W.cs (cells' := cells) (slots' := slots) rfl rfl ?_
        refine lv_icmp_eq (tgt := 620) hx hb dL_law_317 (by decide) (fun c9 => ?_) (fun c9 => ?_)
        · rw [if_pos c9] at hJ
          refine lv_iinc (v := (x4 + (5 : Int32))) (lv' := [(4, .int (x4 + (5 : Int32))), (0, .ref b), (1, .ref x1), (2, .ref x2), (3, .ref x3)]) hx hb dL_law_620 hl (k := 4) rfl rfl (by decide) rfl (fun ls hl => ?_)
          refine lv_goto (tgt := 23) hx hb dL_law_623 (by decide) ?_
          exact k23 _ _ (by omega) (by omega) _ _ _ _ _ _ _ _ hJ I (lv_sub hl [1, 2, 3, 4, 0] rfl)
        · rw [if_neg c9] at hJ
          refine lv_iconst (v := 0) hx hb dL_law_320 (by decide) ?_
          exact absurd (congrArg Prod.fst (Option.some.inj hJ)) (show ¬ (0 : Int32) = 1 by decide)
      rw [if_neg c9] at hJ
      have n5 := c9
      by_cases c9 : ((xs v6) &&& (15 : Int32)) = (6 : Int32)
      · rw [if_pos c9] at hJ
        refine lv_tableIn (tgt := 322) (off := 283) hx hb dL_law_39 (by rw [c9]; decide) (by rw [c9]; decide) (by rw [c9]; decide) (by decide) ?_
        refine lv_aload_n hx hb dL_law_322 rfl (lv_at hl 1 rfl) ?_
        refine lv_aload_n hx hb dL_law_323 rfl (lv_at hl 0 rfl) ?_
        refine lv_iload hx hb dL_law_324 (lv_at hl 4 rfl) ?_
        refine lv_iconst (v := 1) hx hb dL_law_326 (by decide) ?_
        refine lv_iadd hx hb dL_law_327 ?_
        obtain ⟨v43, e9, hJ⟩ := rp_b hJ
        obtain ⟨g9, r9⟩ := iX_s e9
        refine va_sld hx hb hX hbl hbA I.2.1 g9 dL_law_328 ?_
        rw [← r9]
        refine lv_aload_n hx hb dL_law_329 rfl (lv_at hl 0 rfl) ?_
        refine lv_iload hx hb dL_law_330 (lv_at hl 4 rfl) ?_
        refine lv_iconst (v := 2) hx hb dL_law_332 (by decide) ?_
        refine lv_iadd hx hb dL_law_333 ?_
        obtain ⟨v44, e9, hJ⟩ := rp_b hJ
        obtain ⟨g9, r9⟩ := iX_s e9
        refine va_sld hx hb hX hbl hbA I.2.1 g9 dL_law_334 ?_
        rw [← r9]
        refine lv_aload_n hx hb dL_law_335 rfl (lv_at hl 3 rfl) ?_
        obtain ⟨q45, e9, hJ⟩ := rp_b hJ
        refine rp_callSW (As := [.ref x1, .int (xs v43), .int (xs v44), .ref x3]) (rest := []) X hN hth I (c_Law_build hT hfl e9) (gdC wm_286) List.mem_cons_self wm_285 wm_32 wm_284 (show yL_build.cls ≠ "java/lang/invoke/MethodHandle" ∧ yL_build.cls ≠ "java/lang/invoke/VarHandle" ∧ (parseMethodDescriptor yL_build.desc).map (fun d => d.parameters.length) = some 4 by decide +kernel) (Nat.le_of_ble_eq_true rfl) (Nat.le_of_ble_eq_true rfl) hl.1 rfl (Nat.le_of_ble_eq_true rfl) dL_law_336 ⟨(show cells + 1 ≤ 601024 by omega), (show slots + 6 ≤ 7293034 by omega)⟩ (fun H locs I => ?_)
        refine W.cs (cells' := cells + 1) (slots' := slots + 6) rfl rfl ?_
        refine lv_istore (lv' := [(5, .int q45.1), (0, .ref b), (1, .ref x1), (2, .ref x2), (3, .ref x3), (4, .int x4)]) hx hb dL_law_339 hl (by decide) rfl (fun ls hl => ?_)
        refine lv_aload_n hx hb dL_law_341 rfl (lv_at hl 3 rfl) ?_
        refine lv_aload_n hx hb dL_law_342 rfl (lv_at hl 1 rfl) ?_
        refine lv_iload hx hb dL_law_343 (lv_at hl 5 rfl) ?_
        refine lv_iconst (v := 1) hx hb dL_law_345 (by decide) ?_
        refine lv_iadd hx hb dL_law_346 ?_
        obtain ⟨v46, e9, hJ⟩ := rp_b hJ
        obtain ⟨g9, r9⟩ := iX_s e9
        refine va_sld hx hb hX hbl hbA I.2.1 g9 dL_law_347 ?_
        rw [← r9]
        refine lv_aload_n hx hb dL_law_348 rfl (lv_at hl 1 rfl) ?_
        refine lv_iload hx hb dL_law_349 (lv_at hl 5 rfl) ?_
        refine lv_iconst (v := 2) hx hb dL_law_351 (by decide) ?_
        refine lv_iadd hx hb dL_law_352 ?_
        obtain ⟨v47, e9, hJ⟩ := rp_b hJ
        obtain ⟨g9, r9⟩ := iX_s e9
        refine va_sld hx hb hX hbl hbA I.2.1 g9 dL_law_353 ?_
        rw [← r9]
        obtain ⟨u9, i9, hJ⟩ := rp_b hJ
        obtain ⟨f9, i9⟩ := isO_s i9
        obtain ⟨q48, e9, hJ⟩ := rp_b hJ
        refine rp_callV (As := [.int (xs v46), .int (xs v47)]) (rest := []) X hN I (c_Mod_build hT e9) (cwV 2 hts (gdV wm_658 wm_659 wm_660 wm_40 wm_661) rfl rfl rfl (by decide +kernel) ⟨Nat.le_of_ble_eq_true rfl, Nat.le_of_ble_eq_true rfl⟩) i9 rfl rfl hl.1 rfl (Nat.le_of_ble_eq_true rfl) dL_law_354 ⟨(show cells + 1 + 0 ≤ 601024 by omega), (show slots + 6 + 0 ≤ 7293034 by omega)⟩ (fun H locs I => ?_)
        refine W.cs (cells' := cells + 1) (slots' := slots + 6) rfl rfl ?_
        refine lv_istore (lv' := [(6, .int q48.1), (5, .int q45.1), (0, .ref b), (1, .ref x1), (2, .ref x2), (3, .ref x3), (4, .int x4)]) hx hb dL_law_357 hl (by decide) rfl (fun ls hl => ?_)
        refine lv_aload_n hx hb dL_law_359 rfl (lv_at hl 4 rfl) ?_
        obtain ⟨u9, i9, hJ⟩ := rp_b hJ
        obtain ⟨f9, i9⟩ := isO_s i9
        obtain ⟨q49, e9, hJ⟩ := rp_b hJ
        refine rp_callV (As := []) (rest := []) X hN I (c_Mod_thrown hT e9) (cwV 0 hts (gdV wm_614 wm_615 wm_616 wm_40 wm_617) rfl rfl rfl (by decide +kernel) ⟨Nat.le_of_ble_eq_true rfl, Nat.le_of_ble_eq_true rfl⟩) i9 rfl rfl hl.1 rfl (Nat.le_of_ble_eq_true rfl) dL_law_360 ⟨(show cells + 1 + 0 ≤ 601024 by omega), (show slots + 6 + 0 ≤ 7293034 by omega)⟩ (fun H locs I => ?_)
        refine W.cs (cells' := cells + 1) (slots' := slots + 6) rfl rfl ?_
        refine lv_iload hx hb dL_law_363 (lv_at hl 1 rfl) ?_
        refine lv_icmp_eq (tgt := 370) hx hb dL_law_365 (by decide) (fun c9 => ?_) (fun c9 => ?_)
        · rw [if_pos c9] at hJ
          refine lv_iload hx hb dL_law_370 (lv_at hl 1 rfl) ?_
          refine lv_if_ne (tgt := 387) hx hb dL_law_372 (by decide) (fun c9 => ?_) (fun c9 => ?_)
          · rw [if_neg c9] at hJ
            refine lv_goto (tgt := 620) hx hb dL_law_387 (by decide) ?_
            refine lv_iinc (v := (x4 + (5 : Int32))) (lv' := [(4, .int (x4 + (5 : Int32))), (6, .int q48.1), (5, .int q45.1), (0, .ref b), (1, .ref x1), (2, .ref x2), (3, .ref x3)]) hx hb dL_law_620 hl (k := 6) rfl rfl (by decide) rfl (fun ls hl => ?_)
            refine lv_goto (tgt := 23) hx hb dL_law_623 (by decide) ?_
            exact k23 _ _ (by omega) (by omega) _ _ _ _ _ _ _ _ hJ I (lv_sub hl [3, 4, 5, 6, 0] rfl)
          · rw [if_pos c9] at hJ
            refine lv_aload_n hx hb dL_law_375 rfl (lv_at hl 5 rfl) ?_
            refine lv_iconst (v := 0) hx hb dL_law_376 (by decide) ?_
            obtain ⟨v50, e9, hJ⟩ := rp_b hJ
            refine rp_lald X I e9 rfl dL_law_377 ?_
            refine lv_iload hx hb dL_law_378 (lv_at hl 0 rfl) ?_
            refine lv_i2l hx hb dL_law_380 rfl ?_
            refine W.lcmp hx hb dL_law_381 ?_
            refine lv_if_eq (tgt := 387) hx hb dL_law_382 (by decide) (fun c9 => ?_) (fun c9 => ?_)
            · rw [if_pos c9] at hJ
              refine lv_goto (tgt := 620) hx hb dL_law_387 (by decide) ?_
              refine lv_iinc (v := (x4 + (5 : Int32))) (lv' := [(4, .int (x4 + (5 : Int32))), (6, .int q48.1), (5, .int q45.1), (0, .ref b), (1, .ref x1), (2, .ref x2), (3, .ref x3)]) hx hb dL_law_620 hl (k := 6) rfl rfl (by decide) rfl (fun ls hl => ?_)
              refine lv_goto (tgt := 23) hx hb dL_law_623 (by decide) ?_
              exact k23 _ _ (by omega) (by omega) _ _ _ _ _ _ _ _ hJ I (lv_sub hl [3, 4, 5, 6, 0] rfl)
            · rw [if_neg c9] at hJ
              refine lv_iconst (v := 0) hx hb dL_law_385 (by decide) ?_
              exact absurd (congrArg Prod.fst (Option.some.inj hJ)) (show ¬ (0 : Int32) = 1 by decide)
        · rw [if_neg c9] at hJ
          refine lv_iconst (v := 0) hx hb dL_law_368 (by decide) ?_
          exact absurd (congrArg Prod.fst (Option.some.inj hJ)) (show ¬ (0 : Int32) = 1 by decide)
      rw [if_neg c9] at hJ
      have n6 := c9
      by_cases c9 : ((xs v6) &&& (15 : Int32)) = (7 : Int32)
      · rw [if_pos c9] at hJ
        refine lv_tableIn (tgt := 390) (off := 351) hx hb dL_law_39 (by rw [c9]; decide) (by rw [c9]; decide) (by rw [c9]; decide) (by decide) ?_
        refine lv_aload_n hx hb dL_law_390 rfl (lv_at hl 1 rfl) ?_
        refine lv_aload_n hx hb dL_law_391 rfl (lv_at hl 0 rfl) ?_
        refine lv_iload hx hb dL_law_392 (lv_at hl 4 rfl) ?_
        refine lv_iconst (v := 1) hx hb dL_law_394 (by decide) ?_
        refine lv_iadd hx hb dL_law_395 ?_
        obtain ⟨v51, e9, hJ⟩ := rp_b hJ
        obtain ⟨g9, r9⟩ := iX_s e9
        refine va_sld hx hb hX hbl hbA I.2.1 g9 dL_law_396 ?_
        rw [← r9]
        obtain ⟨u9, i9, hJ⟩ := rp_b hJ
        obtain ⟨f9, i9⟩ := isO_s i9
        obtain ⟨q52, e9, hJ⟩ := rp_b hJ
        refine rp_callV (As := [.int (xs v51)]) (rest := []) X hN I (c_Desk_count hT e9) (cwV 1 hts (gdV wm_248 wm_249 wm_250 wm_33 wm_251) rfl rfl rfl (by decide +kernel) ⟨Nat.le_of_ble_eq_true rfl, Nat.le_of_ble_eq_true rfl⟩) i9 rfl rfl hl.1 rfl (Nat.le_of_ble_eq_true rfl) dL_law_397 ⟨(show cells + 0 ≤ 601024 by omega), (show slots + 0 ≤ 7293034 by omega)⟩ (fun H locs I => ?_)
        refine W.cs (cells' := cells) (slots' := slots) rfl rfl ?_
        refine lv_aload_n hx hb dL_law_400 rfl (lv_at hl 2 rfl) ?_
        refine lv_aload_n hx hb dL_law_401 rfl (lv_at hl 0 rfl) ?_
        refine lv_iload hx hb dL_law_402 (lv_at hl 4 rfl) ?_
        refine lv_iconst (v := 1) hx hb dL_law_404 (by decide) ?_
        refine lv_iadd hx hb dL_law_405 ?_
        obtain ⟨v53, e9, hJ⟩ := rp_b hJ
        obtain ⟨g9, r9⟩ := iX_s e9
        refine va_sld hx hb hX hbl hbA I.2.1 g9 dL_law_406 ?_
        rw [← r9]
        obtain ⟨u9, i9, hJ⟩ := rp_b hJ
        obtain ⟨f9, i9⟩ := isO_s i9
        obtain ⟨q54, e9, hJ⟩ := rp_b hJ
        refine rp_callV (As := [.int (xs v53)]) (rest := [.int q52.1]) X hN I (c_Mod_count hT e9) (cwV 1 hts (gdV wm_702 wm_703 wm_704 wm_40 wm_705) rfl rfl rfl (by decide +kernel) ⟨Nat.le_of_ble_eq_true rfl, Nat.le_of_ble_eq_true rfl⟩) i9 rfl rfl hl.1 rfl (Nat.le_of_ble_eq_true rfl) dL_law_407 ⟨(show cells + 0 ≤ 601024 by omega), (show slots + 0 ≤ 7293034 by omega)⟩ (fun H locs I => ?_)
        refine W.cs (cells' := cells) (slots' := slots) rfl rfl ?_
        refine lv_icmp_eq (tgt := 620) hx hb dL_law_410 (by decide) (fun c9 => ?_) (fun c9 => ?_)
        · rw [if_pos c9] at hJ
          refine lv_iinc (v := (x4 + (5 : Int32))) (lv' := [(4, .int (x4 + (5 : Int32))), (0, .ref b), (1, .ref x1), (2, .ref x2), (3, .ref x3)]) hx hb dL_law_620 hl (k := 4) rfl rfl (by decide) rfl (fun ls hl => ?_)
          refine lv_goto (tgt := 23) hx hb dL_law_623 (by decide) ?_
          exact k23 _ _ (by omega) (by omega) _ _ _ _ _ _ _ _ hJ I (lv_sub hl [1, 2, 3, 4, 0] rfl)
        · rw [if_neg c9] at hJ
          refine lv_iconst (v := 0) hx hb dL_law_413 (by decide) ?_
          exact absurd (congrArg Prod.fst (Option.some.inj hJ)) (show ¬ (0 : Int32) = 1 by decide)
      rw [if_neg c9] at hJ
      have n7 := c9
      by_cases c9 : ((xs v6) &&& (15 : Int32)) = (8 : Int32)
      · rw [if_pos c9] at hJ
        refine lv_tableIn (tgt := 415) (off := 376) hx hb dL_law_39 (by rw [c9]; decide) (by rw [c9]; decide) (by rw [c9]; decide) (by decide) ?_
        refine lv_aload_n hx hb dL_law_415 rfl (lv_at hl 1 rfl) ?_
        refine lv_aload_n hx hb dL_law_416 rfl (lv_at hl 0 rfl) ?_
        refine lv_iload hx hb dL_law_417 (lv_at hl 4 rfl) ?_
        refine lv_iconst (v := 1) hx hb dL_law_419 (by decide) ?_
        refine lv_iadd hx hb dL_law_420 ?_
        obtain ⟨v55, e9, hJ⟩ := rp_b hJ
        obtain ⟨g9, r9⟩ := iX_s e9
        refine va_sld hx hb hX hbl hbA I.2.1 g9 dL_law_421 ?_
        rw [← r9]
        refine lv_aload_n hx hb dL_law_422 rfl (lv_at hl 0 rfl) ?_
        refine lv_iload hx hb dL_law_423 (lv_at hl 4 rfl) ?_
        refine lv_iconst (v := 2) hx hb dL_law_425 (by decide) ?_
        refine lv_iadd hx hb dL_law_426 ?_
        obtain ⟨v56, e9, hJ⟩ := rp_b hJ
        obtain ⟨g9, r9⟩ := iX_s e9
        refine va_sld hx hb hX hbl hbA I.2.1 g9 dL_law_427 ?_
        rw [← r9]
        refine lv_aload_n hx hb dL_law_428 rfl (lv_at hl 3 rfl) ?_
        obtain ⟨q57, e9, hJ⟩ := rp_b hJ
        refine rp_callSW (As := [.ref x1, .int (xs v55), .int (xs v56), .ref x3]) (rest := []) X hN hth I (c_Law_begun hT hfl e9) (gdC wm_487) List.mem_cons_self wm_486 wm_32 wm_485 (show yL_begun.cls ≠ "java/lang/invoke/MethodHandle" ∧ yL_begun.cls ≠ "java/lang/invoke/VarHandle" ∧ (parseMethodDescriptor yL_begun.desc).map (fun d => d.parameters.length) = some 4 by decide +kernel) (Nat.le_of_ble_eq_true rfl) (Nat.le_of_ble_eq_true rfl) hl.1 rfl (Nat.le_of_ble_eq_true rfl) dL_law_429 ⟨(show cells + 1 ≤ 601024 by omega), (show slots + 6 ≤ 7293034 by omega)⟩ (fun H locs I => ?_)
        refine W.cs (cells' := cells + 1) (slots' := slots + 6) rfl rfl ?_
        refine lv_istore (lv' := [(5, .int q57.1), (0, .ref b), (1, .ref x1), (2, .ref x2), (3, .ref x3), (4, .int x4)]) hx hb dL_law_432 hl (by decide) rfl (fun ls hl => ?_)
        refine lv_aload_n hx hb dL_law_434 rfl (lv_at hl 3 rfl) ?_
        refine lv_aload_n hx hb dL_law_435 rfl (lv_at hl 1 rfl) ?_
        refine lv_iload hx hb dL_law_436 (lv_at hl 5 rfl) ?_
        refine lv_iconst (v := 1) hx hb dL_law_438 (by decide) ?_
        refine lv_iadd hx hb dL_law_439 ?_
        obtain ⟨v58, e9, hJ⟩ := rp_b hJ
        obtain ⟨g9, r9⟩ := iX_s e9
        refine va_sld hx hb hX hbl hbA I.2.1 g9 dL_law_440 ?_
        rw [← r9]
        refine lv_aload_n hx hb dL_law_441 rfl (lv_at hl 1 rfl) ?_
        refine lv_iload hx hb dL_law_442 (lv_at hl 5 rfl) ?_
        refine lv_iconst (v := 2) hx hb dL_law_444 (by decide) ?_
        refine lv_iadd hx hb dL_law_445 ?_
        obtain ⟨v59, e9, hJ⟩ := rp_b hJ
        obtain ⟨g9, r9⟩ := iX_s e9
        refine va_sld hx hb hX hbl hbA I.2.1 g9 dL_law_446 ?_
        rw [← r9]
        obtain ⟨u9, i9, hJ⟩ := rp_b hJ
        obtain ⟨f9, i9⟩ := isO_s i9
        obtain ⟨q60, e9, hJ⟩ := rp_b hJ
        refine rp_callV (As := [.int (xs v58), .int (xs v59)]) (rest := []) X hN I (c_Mod_begun hT e9) (cwV 2 hts (gdV wm_706 wm_707 wm_708 wm_40 wm_709) rfl rfl rfl (by decide +kernel) ⟨Nat.le_of_ble_eq_true rfl, Nat.le_of_ble_eq_true rfl⟩) i9 rfl rfl hl.1 rfl (Nat.le_of_ble_eq_true rfl) dL_law_447 ⟨(show cells + 1 + 0 ≤ 601024 by omega), (show slots + 6 + 0 ≤ 7293034 by omega)⟩ (fun H locs I => ?_)
        refine W.cs (cells' := cells + 1) (slots' := slots + 6) rfl rfl ?_
        refine lv_istore (lv' := [(6, .int q60.1), (5, .int q57.1), (0, .ref b), (1, .ref x1), (2, .ref x2), (3, .ref x3), (4, .int x4)]) hx hb dL_law_450 hl (by decide) rfl (fun ls hl => ?_)
        refine lv_aload_n hx hb dL_law_452 rfl (lv_at hl 4 rfl) ?_
        obtain ⟨u9, i9, hJ⟩ := rp_b hJ
        obtain ⟨f9, i9⟩ := isO_s i9
        obtain ⟨q61, e9, hJ⟩ := rp_b hJ
        refine rp_callV (As := []) (rest := []) X hN I (c_Mod_thrown hT e9) (cwV 0 hts (gdV wm_614 wm_615 wm_616 wm_40 wm_617) rfl rfl rfl (by decide +kernel) ⟨Nat.le_of_ble_eq_true rfl, Nat.le_of_ble_eq_true rfl⟩) i9 rfl rfl hl.1 rfl (Nat.le_of_ble_eq_true rfl) dL_law_453 ⟨(show cells + 1 + 0 ≤ 601024 by omega), (show slots + 6 + 0 ≤ 7293034 by omega)⟩ (fun H locs I => ?_)
        refine W.cs (cells' := cells + 1) (slots' := slots + 6) rfl rfl ?_
        refine lv_iload hx hb dL_law_456 (lv_at hl 1 rfl) ?_
        refine lv_icmp_eq (tgt := 463) hx hb dL_law_458 (by decide) (fun c9 => ?_) (fun c9 => ?_)
        · rw [if_pos c9] at hJ
          refine lv_iload hx hb dL_law_463 (lv_at hl 1 rfl) ?_
          refine lv_if_ne (tgt := 480) hx hb dL_law_465 (by decide) (fun c9 => ?_) (fun c9 => ?_)
          · rw [if_neg c9] at hJ
            refine lv_goto (tgt := 620) hx hb dL_law_480 (by decide) ?_
            refine lv_iinc (v := (x4 + (5 : Int32))) (lv' := [(4, .int (x4 + (5 : Int32))), (6, .int q60.1), (5, .int q57.1), (0, .ref b), (1, .ref x1), (2, .ref x2), (3, .ref x3)]) hx hb dL_law_620 hl (k := 6) rfl rfl (by decide) rfl (fun ls hl => ?_)
            refine lv_goto (tgt := 23) hx hb dL_law_623 (by decide) ?_
            exact k23 _ _ (by omega) (by omega) _ _ _ _ _ _ _ _ hJ I (lv_sub hl [3, 4, 5, 6, 0] rfl)
          · rw [if_pos c9] at hJ
            refine lv_aload_n hx hb dL_law_468 rfl (lv_at hl 5 rfl) ?_
            refine lv_iconst (v := 0) hx hb dL_law_469 (by decide) ?_
            obtain ⟨v62, e9, hJ⟩ := rp_b hJ
            refine rp_lald X I e9 rfl dL_law_470 ?_
            refine lv_iload hx hb dL_law_471 (lv_at hl 0 rfl) ?_
            refine lv_i2l hx hb dL_law_473 rfl ?_
            refine W.lcmp hx hb dL_law_474 ?_
            refine lv_if_eq (tgt := 480) hx hb dL_law_475 (by decide) (fun c9 => ?_) (fun c9 => ?_)
            · rw [if_pos c9] at hJ
              refine lv_goto (tgt := 620) hx hb dL_law_480 (by decide) ?_
              refine lv_iinc (v := (x4 + (5 : Int32))) (lv' := [(4, .int (x4 + (5 : Int32))), (6, .int q60.1), (5, .int q57.1), (0, .ref b), (1, .ref x1), (2, .ref x2), (3, .ref x3)]) hx hb dL_law_620 hl (k := 6) rfl rfl (by decide) rfl (fun ls hl => ?_)
              refine lv_goto (tgt := 23) hx hb dL_law_623 (by decide) ?_
              exact k23 _ _ (by omega) (by omega) _ _ _ _ _ _ _ _ hJ I (lv_sub hl [3, 4, 5, 6, 0] rfl)
            · rw [if_neg c9] at hJ
              refine lv_iconst (v := 0) hx hb dL_law_478 (by decide) ?_
              exact absurd (congrArg Prod.fst (Option.some.inj hJ)) (show ¬ (0 : Int32) = 1 by decide)
        · rw [if_neg c9] at hJ
          refine lv_iconst (v := 0) hx hb dL_law_461 (by decide) ?_
          exact absurd (congrArg Prod.fst (Option.some.inj hJ)) (show ¬ (0 : Int32) = 1 by decide)
      rw [if_neg c9] at hJ
      have n8 := c9
      by_cases c9 : ((xs v6) &&& (15 : Int32)) = (9 : Int32)
      · rw [if_pos c9] at hJ
        refine lv_tableIn (tgt := 483) (off := 444) hx hb dL_law_39 (by rw [c9]; decide) (by rw [c9]; decide) (by rw [c9]; decide) (by decide) ?_
        refine lv_aload_n hx hb dL_law_483 rfl (lv_at hl 1 rfl) ?_
        refine lv_aload_n hx hb dL_law_484 rfl (lv_at hl 0 rfl) ?_
        refine lv_iload hx hb dL_law_485 (lv_at hl 4 rfl) ?_
        refine lv_iconst (v := 1) hx hb dL_law_487 (by decide) ?_
        refine lv_iadd hx hb dL_law_488 ?_
        obtain ⟨v63, e9, hJ⟩ := rp_b hJ
        obtain ⟨g9, r9⟩ := iX_s e9
        refine va_sld hx hb hX hbl hbA I.2.1 g9 dL_law_489 ?_
        rw [← r9]
        refine lv_aload_n hx hb dL_law_490 rfl (lv_at hl 3 rfl) ?_
        obtain ⟨q64, e9, hJ⟩ := rp_b hJ
        refine rp_callSW (As := [.ref x1, .int (xs v63), .ref x3]) (rest := []) X hN hth I (c_Law_cycle hT hfl e9) (gdC wm_513) List.mem_cons_self wm_512 wm_32 wm_511 (show yL_cycle.cls ≠ "java/lang/invoke/MethodHandle" ∧ yL_cycle.cls ≠ "java/lang/invoke/VarHandle" ∧ (parseMethodDescriptor yL_cycle.desc).map (fun d => d.parameters.length) = some 3 by decide +kernel) (Nat.le_of_ble_eq_true rfl) (Nat.le_of_ble_eq_true rfl) hl.1 rfl (Nat.le_of_ble_eq_true rfl) dL_law_491 ⟨(show cells + 1 ≤ 601024 by omega), (show slots + 6 ≤ 7293034 by omega)⟩ (fun H locs I => ?_)
        refine W.cs (cells' := cells + 1) (slots' := slots + 6) rfl rfl ?_
        refine lv_istore (lv' := [(5, .int q64.1), (0, .ref b), (1, .ref x1), (2, .ref x2), (3, .ref x3), (4, .int x4)]) hx hb dL_law_494 hl (by decide) rfl (fun ls hl => ?_)
        refine lv_aload_n hx hb dL_law_496 rfl (lv_at hl 3 rfl) ?_
        refine lv_aload_n hx hb dL_law_497 rfl (lv_at hl 1 rfl) ?_
        refine lv_iload hx hb dL_law_498 (lv_at hl 5 rfl) ?_
        refine lv_iconst (v := 1) hx hb dL_law_500 (by decide) ?_
        refine lv_iadd hx hb dL_law_501 ?_
        obtain ⟨v65, e9, hJ⟩ := rp_b hJ
        obtain ⟨g9, r9⟩ := iX_s e9
        refine va_sld hx hb hX hbl hbA I.2.1 g9 dL_law_502 ?_
        rw [← r9]
        obtain ⟨u9, i9, hJ⟩ := rp_b hJ
        obtain ⟨f9, i9⟩ := isO_s i9
        obtain ⟨q66, e9, hJ⟩ := rp_b hJ
        refine rp_callV (As := [.int (xs v65)]) (rest := []) X hN I (c_Mod_cycle hT e9) (cwV 1 hts (gdV wm_710 wm_711 wm_712 wm_40 wm_713) rfl rfl rfl (by decide +kernel) ⟨Nat.le_of_ble_eq_true rfl, Nat.le_of_ble_eq_true rfl⟩) i9 rfl rfl hl.1 rfl (Nat.le_of_ble_eq_true rfl) dL_law_503 ⟨(show cells + 1 + 0 ≤ 601024 by omega), (show slots + 6 + 0 ≤ 7293034 by omega)⟩ (fun H locs I => ?_)
        refine W.cs (cells' := cells + 1) (slots' := slots + 6) rfl rfl ?_
        refine lv_istore (lv' := [(6, .int q66.1), (5, .int q64.1), (0, .ref b), (1, .ref x1), (2, .ref x2), (3, .ref x3), (4, .int x4)]) hx hb dL_law_506 hl (by decide) rfl (fun ls hl => ?_)
        refine lv_aload_n hx hb dL_law_508 rfl (lv_at hl 4 rfl) ?_
        obtain ⟨u9, i9, hJ⟩ := rp_b hJ
        obtain ⟨f9, i9⟩ := isO_s i9
        obtain ⟨q67, e9, hJ⟩ := rp_b hJ
        refine rp_callV (As := []) (rest := []) X hN I (c_Mod_thrown hT e9) (cwV 0 hts (gdV wm_614 wm_615 wm_616 wm_40 wm_617) rfl rfl rfl (by decide +kernel) ⟨Nat.le_of_ble_eq_true rfl, Nat.le_of_ble_eq_true rfl⟩) i9 rfl rfl hl.1 rfl (Nat.le_of_ble_eq_true rfl) dL_law_509 ⟨(show cells + 1 + 0 ≤ 601024 by omega), (show slots + 6 + 0 ≤ 7293034 by omega)⟩ (fun H locs I => ?_)
        refine W.cs (cells' := cells + 1) (slots' := slots + 6) rfl rfl ?_
        refine lv_iload hx hb dL_law_512 (lv_at hl 1 rfl) ?_
        refine lv_icmp_eq (tgt := 519) hx hb dL_law_514 (by decide) (fun c9 => ?_) (fun c9 => ?_)
        · rw [if_pos c9] at hJ
          refine lv_iload hx hb dL_law_519 (lv_at hl 1 rfl) ?_
          refine lv_if_ne (tgt := 536) hx hb dL_law_521 (by decide) (fun c9 => ?_) (fun c9 => ?_)
          · rw [if_neg c9] at hJ
            refine lv_goto (tgt := 620) hx hb dL_law_536 (by decide) ?_
            refine lv_iinc (v := (x4 + (5 : Int32))) (lv' := [(4, .int (x4 + (5 : Int32))), (6, .int q66.1), (5, .int q64.1), (0, .ref b), (1, .ref x1), (2, .ref x2), (3, .ref x3)]) hx hb dL_law_620 hl (k := 6) rfl rfl (by decide) rfl (fun ls hl => ?_)
            refine lv_goto (tgt := 23) hx hb dL_law_623 (by decide) ?_
            exact k23 _ _ (by omega) (by omega) _ _ _ _ _ _ _ _ hJ I (lv_sub hl [3, 4, 5, 6, 0] rfl)
          · rw [if_pos c9] at hJ
            refine lv_aload_n hx hb dL_law_524 rfl (lv_at hl 5 rfl) ?_
            refine lv_iconst (v := 0) hx hb dL_law_525 (by decide) ?_
            obtain ⟨v68, e9, hJ⟩ := rp_b hJ
            refine rp_lald X I e9 rfl dL_law_526 ?_
            refine lv_iload hx hb dL_law_527 (lv_at hl 0 rfl) ?_
            refine lv_i2l hx hb dL_law_529 rfl ?_
            refine W.lcmp hx hb dL_law_530 ?_
            refine lv_if_eq (tgt := 536) hx hb dL_law_531 (by decide) (fun c9 => ?_) (fun c9 => ?_)
            · rw [if_pos c9] at hJ
              refine lv_goto (tgt := 620) hx hb dL_law_536 (by decide) ?_
              refine lv_iinc (v := (x4 + (5 : Int32))) (lv' := [(4, .int (x4 + (5 : Int32))), (6, .int q66.1), (5, .int q64.1), (0, .ref b), (1, .ref x1), (2, .ref x2), (3, .ref x3)]) hx hb dL_law_620 hl (k := 6) rfl rfl (by decide) rfl (fun ls hl => ?_)
              refine lv_goto (tgt := 23) hx hb dL_law_623 (by decide) ?_
              exact k23 _ _ (by omega) (by omega) _ _ _ _ _ _ _ _ hJ I (lv_sub hl [3, 4, 5, 6, 0] rfl)
            · rw [if_neg c9] at hJ
              refine lv_iconst (v := 0) hx hb dL_law_534 (by decide) ?_
              exact absurd (congrArg Prod.fst (Option.some.inj hJ)) (show ¬ (0 : Int32) = 1 by decide)
        · rw [if_neg c9] at hJ
          refine lv_iconst (v := 0) hx hb dL_law_517 (by decide) ?_
          exact absurd (congrArg Prod.fst (Option.some.inj hJ)) (show ¬ (0 : Int32) = 1 by decide)
      rw [if_neg c9] at hJ
      have n9 := c9
      by_cases c9 : ((xs v6) &&& (15 : Int32)) = (10 : Int32)
      · rw [if_pos c9] at hJ
        refine lv_tableIn (tgt := 539) (off := 500) hx hb dL_law_39 (by rw [c9]; decide) (by rw [c9]; decide) (by rw [c9]; decide) (by decide) ?_
        refine lv_aload_n hx hb dL_law_539 rfl (lv_at hl 1 rfl) ?_
        refine lv_aload_n hx hb dL_law_540 rfl (lv_at hl 0 rfl) ?_
        refine lv_iload hx hb dL_law_541 (lv_at hl 4 rfl) ?_
        refine lv_iconst (v := 1) hx hb dL_law_543 (by decide) ?_
        refine lv_iadd hx hb dL_law_544 ?_
        obtain ⟨v69, e9, hJ⟩ := rp_b hJ
        obtain ⟨g9, r9⟩ := iX_s e9
        refine va_sld hx hb hX hbl hbA I.2.1 g9 dL_law_545 ?_
        rw [← r9]
        refine lv_aload_n hx hb dL_law_546 rfl (lv_at hl 3 rfl) ?_
        obtain ⟨q70, e9, hJ⟩ := rp_b hJ
        refine rp_callSW (As := [.ref x1, .int (xs v69), .ref x3]) (rest := []) X hN hth I (c_Law_content hT hfl e9) (gdC wm_520) List.mem_cons_self wm_519 wm_32 wm_518 (show yL_content.cls ≠ "java/lang/invoke/MethodHandle" ∧ yL_content.cls ≠ "java/lang/invoke/VarHandle" ∧ (parseMethodDescriptor yL_content.desc).map (fun d => d.parameters.length) = some 3 by decide +kernel) (Nat.le_of_ble_eq_true rfl) (Nat.le_of_ble_eq_true rfl) hl.1 rfl (Nat.le_of_ble_eq_true rfl) dL_law_547 ⟨(show cells + 1 ≤ 601024 by omega), (show slots + 6 ≤ 7293034 by omega)⟩ (fun H locs I => ?_)
        refine W.cs (cells' := cells + 1) (slots' := slots + 6) rfl rfl ?_
        refine lv_istore (lv' := [(5, .int q70.1), (0, .ref b), (1, .ref x1), (2, .ref x2), (3, .ref x3), (4, .int x4)]) hx hb dL_law_550 hl (by decide) rfl (fun ls hl => ?_)
        refine lv_aload_n hx hb dL_law_552 rfl (lv_at hl 3 rfl) ?_
        refine lv_aload_n hx hb dL_law_553 rfl (lv_at hl 1 rfl) ?_
        refine lv_iload hx hb dL_law_554 (lv_at hl 5 rfl) ?_
        refine lv_iconst (v := 1) hx hb dL_law_556 (by decide) ?_
        refine lv_iadd hx hb dL_law_557 ?_
        obtain ⟨v71, e9, hJ⟩ := rp_b hJ
        obtain ⟨g9, r9⟩ := iX_s e9
        refine va_sld hx hb hX hbl hbA I.2.1 g9 dL_law_558 ?_
        rw [← r9]
        obtain ⟨u9, i9, hJ⟩ := rp_b hJ
        obtain ⟨f9, i9⟩ := isO_s i9
        obtain ⟨q72, e9, hJ⟩ := rp_b hJ
        refine rp_callV (As := [.int (xs v71)]) (rest := []) X hN I (c_Mod_content hT e9) (cwV 1 hts (gdV wm_714 wm_715 wm_716 wm_40 wm_717) rfl rfl rfl (by decide +kernel) ⟨Nat.le_of_ble_eq_true rfl, Nat.le_of_ble_eq_true rfl⟩) i9 rfl rfl hl.1 rfl (Nat.le_of_ble_eq_true rfl) dL_law_559 ⟨(show cells + 1 + 0 ≤ 601024 by omega), (show slots + 6 + 0 ≤ 7293034 by omega)⟩ (fun H locs I => ?_)
        refine W.cs (cells' := cells + 1) (slots' := slots + 6) rfl rfl ?_
        refine lv_istore (lv' := [(6, .int q72.1), (5, .int q70.1), (0, .ref b), (1, .ref x1), (2, .ref x2), (3, .ref x3), (4, .int x4)]) hx hb dL_law_562 hl (by decide) rfl (fun ls hl => ?_)
        refine lv_aload_n hx hb dL_law_564 rfl (lv_at hl 4 rfl) ?_
        obtain ⟨u9, i9, hJ⟩ := rp_b hJ
        obtain ⟨f9, i9⟩ := isO_s i9
        obtain ⟨q73, e9, hJ⟩ := rp_b hJ
        refine rp_callV (As := []) (rest := []) X hN I (c_Mod_thrown hT e9) (cwV 0 hts (gdV wm_614 wm_615 wm_616 wm_40 wm_617) rfl rfl rfl (by decide +kernel) ⟨Nat.le_of_ble_eq_true rfl, Nat.le_of_ble_eq_true rfl⟩) i9 rfl rfl hl.1 rfl (Nat.le_of_ble_eq_true rfl) dL_law_565 ⟨(show cells + 1 + 0 ≤ 601024 by omega), (show slots + 6 + 0 ≤ 7293034 by omega)⟩ (fun H locs I => ?_)
        refine W.cs (cells' := cells + 1) (slots' := slots + 6) rfl rfl ?_
        refine lv_iload hx hb dL_law_568 (lv_at hl 1 rfl) ?_
        refine lv_icmp_eq (tgt := 575) hx hb dL_law_570 (by decide) (fun c9 => ?_) (fun c9 => ?_)
        · rw [if_pos c9] at hJ
          refine lv_iload hx hb dL_law_575 (lv_at hl 1 rfl) ?_
          refine lv_if_ne (tgt := 592) hx hb dL_law_577 (by decide) (fun c9 => ?_) (fun c9 => ?_)
          · rw [if_neg c9] at hJ
            refine lv_goto (tgt := 620) hx hb dL_law_592 (by decide) ?_
            refine lv_iinc (v := (x4 + (5 : Int32))) (lv' := [(4, .int (x4 + (5 : Int32))), (6, .int q72.1), (5, .int q70.1), (0, .ref b), (1, .ref x1), (2, .ref x2), (3, .ref x3)]) hx hb dL_law_620 hl (k := 6) rfl rfl (by decide) rfl (fun ls hl => ?_)
            refine lv_goto (tgt := 23) hx hb dL_law_623 (by decide) ?_
            exact k23 _ _ (by omega) (by omega) _ _ _ _ _ _ _ _ hJ I (lv_sub hl [3, 4, 5, 6, 0] rfl)
          · rw [if_pos c9] at hJ
            refine lv_aload_n hx hb dL_law_580 rfl (lv_at hl 5 rfl) ?_
            refine lv_iconst (v := 0) hx hb dL_law_581 (by decide) ?_
            obtain ⟨v74, e9, hJ⟩ := rp_b hJ
            refine rp_lald X I e9 rfl dL_law_582 ?_
            refine lv_iload hx hb dL_law_583 (lv_at hl 0 rfl) ?_
            refine lv_i2l hx hb dL_law_585 rfl ?_
            refine W.lcmp hx hb dL_law_586 ?_
            refine lv_if_eq (tgt := 592) hx hb dL_law_587 (by decide) (fun c9 => ?_) (fun c9 => ?_)
            · rw [if_pos c9] at hJ
              refine lv_goto (tgt := 620) hx hb dL_law_592 (by decide) ?_
              refine lv_iinc (v := (x4 + (5 : Int32))) (lv' := [(4, .int (x4 + (5 : Int32))), (6, .int q72.1), (5, .int q70.1), (0, .ref b), (1, .ref x1), (2, .ref x2), (3, .ref x3)]) hx hb dL_law_620 hl (k := 6) rfl rfl (by decide) rfl (fun ls hl => ?_)
              refine lv_goto (tgt := 23) hx hb dL_law_623 (by decide) ?_
              exact k23 _ _ (by omega) (by omega) _ _ _ _ _ _ _ _ hJ I (lv_sub hl [3, 4, 5, 6, 0] rfl)
            · rw [if_neg c9] at hJ
              refine lv_iconst (v := 0) hx hb dL_law_590 (by decide) ?_
              exact absurd (congrArg Prod.fst (Option.some.inj hJ)) (show ¬ (0 : Int32) = 1 by decide)
        · rw [if_neg c9] at hJ
          refine lv_iconst (v := 0) hx hb dL_law_573 (by decide) ?_
          exact absurd (congrArg Prod.fst (Option.some.inj hJ)) (show ¬ (0 : Int32) = 1 by decide)
      rw [if_neg c9] at hJ
      have n10 := c9
      by_cases c9 : ((xs v6) &&& (15 : Int32)) = (11 : Int32)
      · rw [if_pos c9] at hJ
        refine lv_tableIn (tgt := 595) (off := 556) hx hb dL_law_39 (by rw [c9]; decide) (by rw [c9]; decide) (by rw [c9]; decide) (by decide) ?_
        refine lv_aload_n hx hb dL_law_595 rfl (lv_at hl 1 rfl) ?_
        refine lv_aload_n hx hb dL_law_596 rfl (lv_at hl 0 rfl) ?_
        refine lv_iload hx hb dL_law_597 (lv_at hl 4 rfl) ?_
        refine lv_iconst (v := 1) hx hb dL_law_599 (by decide) ?_
        refine lv_iadd hx hb dL_law_600 ?_
        obtain ⟨v75, e9, hJ⟩ := rp_b hJ
        obtain ⟨g9, r9⟩ := iX_s e9
        refine va_sld hx hb hX hbl hbA I.2.1 g9 dL_law_601 ?_
        rw [← r9]
        obtain ⟨u9, i9, hJ⟩ := rp_b hJ
        obtain ⟨f9, i9⟩ := isO_s i9
        obtain ⟨q76, e9, hJ⟩ := rp_b hJ
        refine rp_callV (As := [.int (xs v75)]) (rest := []) X hN I (c_Desk_reason hT e9) (cwV 1 hts (gdV wm_259 wm_260 wm_261 wm_33 wm_262) rfl rfl rfl (by decide +kernel) ⟨Nat.le_of_ble_eq_true rfl, Nat.le_of_ble_eq_true rfl⟩) i9 rfl rfl hl.1 rfl (Nat.le_of_ble_eq_true rfl) dL_law_602 ⟨(show cells + 0 ≤ 601024 by omega), (show slots + 0 ≤ 7293034 by omega)⟩ (fun H locs I => ?_)
        refine W.cs (cells' := cells) (slots' := slots) rfl rfl ?_
        refine lv_aload_n hx hb dL_law_605 rfl (lv_at hl 2 rfl) ?_
        refine lv_aload_n hx hb dL_law_606 rfl (lv_at hl 0 rfl) ?_
        refine lv_iload hx hb dL_law_607 (lv_at hl 4 rfl) ?_
        refine lv_iconst (v := 1) hx hb dL_law_609 (by decide) ?_
        refine lv_iadd hx hb dL_law_610 ?_
        obtain ⟨v77, e9, hJ⟩ := rp_b hJ
        obtain ⟨g9, r9⟩ := iX_s e9
        refine va_sld hx hb hX hbl hbA I.2.1 g9 dL_law_611 ?_
        rw [← r9]
        obtain ⟨u9, i9, hJ⟩ := rp_b hJ
        obtain ⟨f9, i9⟩ := isO_s i9
        obtain ⟨q78, e9, hJ⟩ := rp_b hJ
        refine rp_callV (As := [.int (xs v77)]) (rest := [.int q76.1]) X hN I (c_Mod_reason hT e9) (cwV 1 hts (gdV wm_648 wm_649 wm_650 wm_40 wm_651) rfl rfl rfl (by decide +kernel) ⟨Nat.le_of_ble_eq_true rfl, Nat.le_of_ble_eq_true rfl⟩) i9 rfl rfl hl.1 rfl (Nat.le_of_ble_eq_true rfl) dL_law_612 ⟨(show cells + 0 ≤ 601024 by omega), (show slots + 0 ≤ 7293034 by omega)⟩ (fun H locs I => ?_)
        refine W.cs (cells' := cells) (slots' := slots) rfl rfl ?_
        refine lv_icmp_eq (tgt := 620) hx hb dL_law_615 (by decide) (fun c9 => ?_) (fun c9 => ?_)
        · rw [if_pos c9] at hJ
          refine lv_iinc (v := (x4 + (5 : Int32))) (lv' := [(4, .int (x4 + (5 : Int32))), (0, .ref b), (1, .ref x1), (2, .ref x2), (3, .ref x3)]) hx hb dL_law_620 hl (k := 4) rfl rfl (by decide) rfl (fun ls hl => ?_)
          refine lv_goto (tgt := 23) hx hb dL_law_623 (by decide) ?_
          exact k23 _ _ (by omega) (by omega) _ _ _ _ _ _ _ _ hJ I (lv_sub hl [1, 2, 3, 4, 0] rfl)
        · rw [if_neg c9] at hJ
          refine lv_iconst (v := 0) hx hb dL_law_618 (by decide) ?_
          exact absurd (congrArg Prod.fst (Option.some.inj hJ)) (show ¬ (0 : Int32) = 1 by decide)
      rw [if_neg c9] at hJ
      have n11 := c9
      refine lv_tableOut (tgt := 620) hx hb dL_law_39 (rp_swOut 12 (by decide) (fun k hk => match k, hk with | 0, _ => n0  | 1, _ => n1  | 2, _ => n2  | 3, _ => n3  | 4, _ => n4  | 5, _ => n5  | 6, _ => n6  | 7, _ => n7  | 8, _ => n8  | 9, _ => n9  | 10, _ => n10  | 11, _ => n11 | k + 12, h => absurd h (by omega))) (by decide) ?_
      refine lv_iinc (v := (x4 + (5 : Int32))) (lv' := [(4, .int (x4 + (5 : Int32))), (0, .ref b), (1, .ref x1), (2, .ref x2), (3, .ref x3)]) hx hb dL_law_620 hl (k := 4) rfl rfl (by decide) rfl (fun ls hl => ?_)
      refine lv_goto (tgt := 23) hx hb dL_law_623 (by decide) ?_
      exact k23 _ _ (by omega) (by omega) _ _ _ _ _ _ _ _ hJ I (lv_sub hl [1, 2, 3, 4, 0] rfl)
end GW
