def stepSh (o : Nat) : Nat → Shp
  | 0 => .inr (5, [0, 0, 0, 0, o + 3, 0, o + 4, 0, 0, 0, 0, 0, 0, o + 5])
  | 1 => .inl (0, 6)
  | 2 => .inl (0, 3)
  | _ => .inl (0, 6)
def dSh (o : Nat) : Shp := bif Nat.blt o 6 then (bif Nat.beq o 0 then .inr (6, [3, 7, 168, 172, 176, 178]) else (bif Nat.beq o 1 then .inr (1, [4, 5, 6]) else (bif Nat.beq o 2 then .inl (0, 64) else (bif Nat.beq o 3 then .inl (1, 64) else (bif Nat.beq o 4 then .inl (0, 64) else (bif Nat.beq o 5 then .inl (3, 40) else (.inl (0, 0)))))))) else bif Nat.blt o 166 then stepSh o ((o - 6) % 4) else (bif Nat.beq o 166 then .inr (2, [169, 170, 0, 171, 1]) else (bif Nat.beq o 167 then .inl (2, 40) else (bif Nat.beq o 168 then .inl (0, 40) else (bif Nat.beq o 169 then .inl (0, 40) else (bif Nat.beq o 170 then .inr (0, [173, 174, 175, 1, 1]) else (bif Nat.beq o 171 then .inl (1, 8) else (bif Nat.beq o 172 then .inl (0, 40) else (bif Nat.beq o 173 then .inl (0, 40) else (bif Nat.beq o 174 then .inr (3, [0, 0, 0, 0, 177]) else (bif Nat.beq o 175 then .inl (0, 200) else (bif Nat.beq o 176 then .inr (4, [179, 0, 180]) else (bif Nat.beq o 177 then .inl (0, 40) else (bif Nat.beq o 178 then .inl (2, 41) else (.inl (0, 0)))))))))))))))
def mSh (o : Nat) : Shp := bif Nat.beq o 0 then .inr (7, [0, 3, 4, 5, 6, 7, 8, 9, 10, 11, 12, 13, 14, 15, 16, 17, 18, 19, 20, 21, 22, 23, 24, 25, 26, 27, 28, 0, 0, 0, 0, 0, 29, 30, 31, 32, 33, 0, 34, 35]) else (bif Nat.beq o 1 then .inl (1, 64) else (bif Nat.beq o 2 then .inl (0, 64) else (bif Nat.beq o 3 then .inl (0, 64) else (bif Nat.beq o 4 then .inl (1, 40) else (bif Nat.beq o 5 then .inl (0, 40) else (bif Nat.beq o 6 then .inl (0, 40) else (bif Nat.beq o 7 then .inl (0, 40) else (bif Nat.beq o 8 then .inl (0, 40) else (bif Nat.beq o 9 then .inl (0, 40) else (bif Nat.beq o 10 then .inl (0, 240) else (bif Nat.beq o 11 then .inl (0, 120) else (bif Nat.beq o 12 then .inl (1, 40) else (bif Nat.beq o 13 then .inl (0, 40) else (bif Nat.beq o 14 then .inl (0, 40) else (bif Nat.beq o 15 then .inl (0, 40) else (bif Nat.beq o 16 then .inl (0, 40) else (bif Nat.beq o 17 then .inl (0, 240) else (bif Nat.beq o 18 then .inl (0, 120) else (bif Nat.beq o 19 then .inl (0, 240) else (bif Nat.beq o 20 then .inl (1, 40) else (bif Nat.beq o 21 then .inl (0, 40) else (bif Nat.beq o 22 then .inl (0, 40) else (bif Nat.beq o 23 then .inl (0, 40) else (bif Nat.beq o 24 then .inl (0, 40) else (bif Nat.beq o 25 then .inl (0, 40) else (bif Nat.beq o 26 then .inl (1, 8) else (bif Nat.beq o 27 then .inl (0, 40) else (bif Nat.beq o 28 then .inl (0, 40) else (bif Nat.beq o 29 then .inl (0, 40) else (bif Nat.beq o 30 then .inl (0, 40) else (bif Nat.beq o 31 then .inl (0, 40) else (bif Nat.beq o 32 then .inl (0, 40) else (bif Nat.beq o 33 then .inl (0, 40) else (.inl (0, 0)))))))))))))))))))))))))))))))))))
theorem dSh_st {s j : Nat} (hs : s < 40) (hj : j < 4) : dSh (6 + 4 * s + j) = stepSh (6 + 4 * s + j) j := by
  have h1 : Nat.blt (6 + 4 * s + j) 6 = false := by
    cases h : Nat.blt (6 + 4 * s + j) 6 with
    | false => rfl
    | true =>
      have := Nat.le_of_ble_eq_true h
      omega
  have h2 : Nat.blt (6 + 4 * s + j) 166 = true := by simp [Nat.blt]; omega
  simp only [dSh, h1, h2, cond_false, cond_true]
  rw [show (6 + 4 * s + j - 6) % 4 = j by omega]
abbrev dH (b : Nat) (I : Nat → Nat → Int32) (J : Nat → Nat → Int64) (F : Nat → Option HE) : Nat → Option HE := dk b 179 dSh I J F
abbrev mH (b : Nat) (I : Nat → Nat → Int32) (F : Nat → Option HE) : Nat → Option HE := dk b 34 mSh I (fun _ _ => 0) F
section LN
variable {z b j s : Nat} {I : Nat → Nat → Int32} {J : Nat → Nat → Int64} {F : Nat → Option HE} {v : Int32} {w : Int64}
theorem DO_0 : isO (z, dH b I J F) 6 b = some () := dk_isO (o := 0) rfl
theorem DR_0_0 : fR (z, dH b I J F) 6 b 0 = some (b + 1) := dk_fR (o := 0) (r := 1) rfl
theorem DR_0_1 : fR (z, dH b I J F) 6 b 1 = some (b + 5) := dk_fR (o := 0) (r := 5) rfl
theorem DR_0_2 : fR (z, dH b I J F) 6 b 2 = some (b + 166) := dk_fR (o := 0) (r := 166) rfl
theorem DR_0_3 : fR (z, dH b I J F) 6 b 3 = some (b + 170) := dk_fR (o := 0) (r := 170) rfl
theorem DR_0_4 : fR (z, dH b I J F) 6 b 4 = some (b + 174) := dk_fR (o := 0) (r := 174) rfl
theorem DR_0_5 : fR (z, dH b I J F) 6 b 5 = some (b + 176) := dk_fR (o := 0) (r := 176) rfl
theorem DO_1 : isO (z, dH b I J F) 1 (b + 1) = some () := dk_isO (o := 1) rfl
theorem DR_1_0 : fR (z, dH b I J F) 1 (b + 1) 0 = some (b + 2) := dk_fR (o := 1) (r := 2) rfl
theorem DR_1_1 : fR (z, dH b I J F) 1 (b + 1) 1 = some (b + 3) := dk_fR (o := 1) (r := 3) rfl
theorem DR_1_2 : fR (z, dH b I J F) 1 (b + 1) 2 = some (b + 4) := dk_fR (o := 1) (r := 4) rfl
theorem DA_2 (hj : j < 64) : aI (z, dH b I J F) 0 (b + 2) (nI j) = some (I 2 j) := dk_aI (o := 2) (m := 64) rfl (by decide) hj (by decide)
theorem DB_2 (hj : j < 64) : sI (z, dH b I J F) 0 (b + 2) (nI j) v = some (z, dH b (up2 I 2 j v) J F) := dk_sI (o := 2) (m := 64) rfl (by decide) hj (by decide)
theorem DA_3 (hj : j < 64) : aI (z, dH b I J F) 1 (b + 3) (nI j) = some (I 3 j) := dk_aI (o := 3) (m := 64) rfl (by decide) hj (by decide)
theorem DB_3 (hv : v = 0 ∨ v = 1) (hj : j < 64) : sB (z, dH b I J F) 1 (b + 3) (nI j) v = some (z, dH b (up2 I 3 j v) J F) := dk_sB (o := 3) (m := 64) hv rfl hj (by decide)
theorem DA_4 (hj : j < 64) : aI (z, dH b I J F) 0 (b + 4) (nI j) = some (I 4 j) := dk_aI (o := 4) (m := 64) rfl (by decide) hj (by decide)
theorem DB_4 (hj : j < 64) : sI (z, dH b I J F) 0 (b + 4) (nI j) v = some (z, dH b (up2 I 4 j v) J F) := dk_sI (o := 4) (m := 64) rfl (by decide) hj (by decide)
theorem DA_5 (hj : j < 40) : aR (z, dH b I J F) 3 (b + 5) (nI j) = some (b + (6 + 4 * j)) := dk_aR (o := 5) (m := 40) rfl hj (by decide)
theorem DO_166 : isO (z, dH b I J F) 2 (b + 166) = some () := dk_isO (o := 166) rfl
theorem DR_166_0 : fR (z, dH b I J F) 2 (b + 166) 0 = some (b + 167) := dk_fR (o := 166) (r := 167) rfl
theorem DR_166_1 : fR (z, dH b I J F) 2 (b + 166) 1 = some (b + 168) := dk_fR (o := 166) (r := 168) rfl
theorem DG_166_2 : fI (z, dH b I J F) 2 (b + 166) 2 = some (I 166 2) := dk_fI (o := 166) rfl
theorem DS_166_2 : sF (z, dH b I J F) 2 (b + 166) 2 (.int v) = some (z, dH b (up2 I 166 2 v) J F) := dk_sF (o := 166) rfl
theorem DR_166_3 : fR (z, dH b I J F) 2 (b + 166) 3 = some (b + 169) := dk_fR (o := 166) (r := 169) rfl
theorem DG_166_4 : fJ (z, dH b I J F) 2 (b + 166) 4 = some (J 166 4) := dk_fJ (o := 166) rfl
theorem DS_166_4 : sF (z, dH b I J F) 2 (b + 166) 4 (.long w) = some (z, dH b I (up2J J 166 4 w) F) := dk_sFJ (o := 166) rfl
theorem DA_167 (hj : j < 40) : aJ (z, dH b I J F) 2 (b + 167) (nI j) = some (J 167 j) := dk_aJ (o := 167) (m := 40) rfl hj (by decide)
theorem DB_167 (hj : j < 40) : sJ (z, dH b I J F) 2 (b + 167) (nI j) w = some (z, dH b I (up2J J 167 j w) F) := dk_sJ (o := 167) (m := 40) rfl hj (by decide)
theorem DA_168 (hj : j < 40) : aI (z, dH b I J F) 0 (b + 168) (nI j) = some (I 168 j) := dk_aI (o := 168) (m := 40) rfl (by decide) hj (by decide)
theorem DB_168 (hj : j < 40) : sI (z, dH b I J F) 0 (b + 168) (nI j) v = some (z, dH b (up2 I 168 j v) J F) := dk_sI (o := 168) (m := 40) rfl (by decide) hj (by decide)
theorem DA_169 (hj : j < 40) : aI (z, dH b I J F) 0 (b + 169) (nI j) = some (I 169 j) := dk_aI (o := 169) (m := 40) rfl (by decide) hj (by decide)
theorem DB_169 (hj : j < 40) : sI (z, dH b I J F) 0 (b + 169) (nI j) v = some (z, dH b (up2 I 169 j v) J F) := dk_sI (o := 169) (m := 40) rfl (by decide) hj (by decide)
theorem DO_170 : isO (z, dH b I J F) 0 (b + 170) = some () := dk_isO (o := 170) rfl
theorem DR_170_0 : fR (z, dH b I J F) 0 (b + 170) 0 = some (b + 171) := dk_fR (o := 170) (r := 171) rfl
theorem DR_170_1 : fR (z, dH b I J F) 0 (b + 170) 1 = some (b + 172) := dk_fR (o := 170) (r := 172) rfl
theorem DR_170_2 : fR (z, dH b I J F) 0 (b + 170) 2 = some (b + 173) := dk_fR (o := 170) (r := 173) rfl
theorem DG_170_3 : fJ (z, dH b I J F) 0 (b + 170) 3 = some (J 170 3) := dk_fJ (o := 170) rfl
theorem DS_170_3 : sF (z, dH b I J F) 0 (b + 170) 3 (.long w) = some (z, dH b I (up2J J 170 3 w) F) := dk_sFJ (o := 170) rfl
theorem DG_170_4 : fJ (z, dH b I J F) 0 (b + 170) 4 = some (J 170 4) := dk_fJ (o := 170) rfl
theorem DS_170_4 : sF (z, dH b I J F) 0 (b + 170) 4 (.long w) = some (z, dH b I (up2J J 170 4 w) F) := dk_sFJ (o := 170) rfl
theorem DA_171 (hj : j < 8) : aI (z, dH b I J F) 1 (b + 171) (nI j) = some (I 171 j) := dk_aI (o := 171) (m := 8) rfl (by decide) hj (by decide)
theorem DB_171 (hv : v = 0 ∨ v = 1) (hj : j < 8) : sB (z, dH b I J F) 1 (b + 171) (nI j) v = some (z, dH b (up2 I 171 j v) J F) := dk_sB (o := 171) (m := 8) hv rfl hj (by decide)
theorem DA_172 (hj : j < 40) : aI (z, dH b I J F) 0 (b + 172) (nI j) = some (I 172 j) := dk_aI (o := 172) (m := 40) rfl (by decide) hj (by decide)
theorem DB_172 (hj : j < 40) : sI (z, dH b I J F) 0 (b + 172) (nI j) v = some (z, dH b (up2 I 172 j v) J F) := dk_sI (o := 172) (m := 40) rfl (by decide) hj (by decide)
theorem DA_173 (hj : j < 40) : aI (z, dH b I J F) 0 (b + 173) (nI j) = some (I 173 j) := dk_aI (o := 173) (m := 40) rfl (by decide) hj (by decide)
theorem DB_173 (hj : j < 40) : sI (z, dH b I J F) 0 (b + 173) (nI j) v = some (z, dH b (up2 I 173 j v) J F) := dk_sI (o := 173) (m := 40) rfl (by decide) hj (by decide)
theorem DO_174 : isO (z, dH b I J F) 3 (b + 174) = some () := dk_isO (o := 174) rfl
theorem DG_174_0 : fI (z, dH b I J F) 3 (b + 174) 0 = some (I 174 0) := dk_fI (o := 174) rfl
theorem DS_174_0 : sF (z, dH b I J F) 3 (b + 174) 0 (.int v) = some (z, dH b (up2 I 174 0 v) J F) := dk_sF (o := 174) rfl
theorem DG_174_1 : fI (z, dH b I J F) 3 (b + 174) 1 = some (I 174 1) := dk_fI (o := 174) rfl
theorem DS_174_1 : sF (z, dH b I J F) 3 (b + 174) 1 (.int v) = some (z, dH b (up2 I 174 1 v) J F) := dk_sF (o := 174) rfl
theorem DG_174_2 : fI (z, dH b I J F) 3 (b + 174) 2 = some (I 174 2) := dk_fI (o := 174) rfl
theorem DS_174_2 : sF (z, dH b I J F) 3 (b + 174) 2 (.int v) = some (z, dH b (up2 I 174 2 v) J F) := dk_sF (o := 174) rfl
theorem DG_174_3 : fI (z, dH b I J F) 3 (b + 174) 3 = some (I 174 3) := dk_fI (o := 174) rfl
theorem DS_174_3 : sF (z, dH b I J F) 3 (b + 174) 3 (.int v) = some (z, dH b (up2 I 174 3 v) J F) := dk_sF (o := 174) rfl
theorem DR_174_4 : fR (z, dH b I J F) 3 (b + 174) 4 = some (b + 175) := dk_fR (o := 174) (r := 175) rfl
theorem DA_175 (hj : j < 200) : aI (z, dH b I J F) 0 (b + 175) (nI j) = some (I 175 j) := dk_aI (o := 175) (m := 200) rfl (by decide) hj (by decide)
theorem DB_175 (hj : j < 200) : sI (z, dH b I J F) 0 (b + 175) (nI j) v = some (z, dH b (up2 I 175 j v) J F) := dk_sI (o := 175) (m := 200) rfl (by decide) hj (by decide)
theorem DO_176 : isO (z, dH b I J F) 4 (b + 176) = some () := dk_isO (o := 176) rfl
theorem DR_176_0 : fR (z, dH b I J F) 4 (b + 176) 0 = some (b + 177) := dk_fR (o := 176) (r := 177) rfl
theorem DG_176_1 : fI (z, dH b I J F) 4 (b + 176) 1 = some (I 176 1) := dk_fI (o := 176) rfl
theorem DS_176_1 : sF (z, dH b I J F) 4 (b + 176) 1 (.int v) = some (z, dH b (up2 I 176 1 v) J F) := dk_sF (o := 176) rfl
theorem DR_176_2 : fR (z, dH b I J F) 4 (b + 176) 2 = some (b + 178) := dk_fR (o := 176) (r := 178) rfl
theorem DA_177 (hj : j < 40) : aI (z, dH b I J F) 0 (b + 177) (nI j) = some (I 177 j) := dk_aI (o := 177) (m := 40) rfl (by decide) hj (by decide)
theorem DB_177 (hj : j < 40) : sI (z, dH b I J F) 0 (b + 177) (nI j) v = some (z, dH b (up2 I 177 j v) J F) := dk_sI (o := 177) (m := 40) rfl (by decide) hj (by decide)
theorem DA_178 (hj : j < 41) : aJ (z, dH b I J F) 2 (b + 178) (nI j) = some (J 178 j) := dk_aJ (o := 178) (m := 41) rfl hj (by decide)
theorem DB_178 (hj : j < 41) : sJ (z, dH b I J F) 2 (b + 178) (nI j) w = some (z, dH b I (up2J J 178 j w) F) := dk_sJ (o := 178) (m := 41) rfl hj (by decide)
theorem okF_st {k f : Nat} (hs : s < 40) (h : (match stepSh (6 + 4 * s) 0 with | .inl _ => false | .inr (c', fk) => Nat.beq c' 5 && match fk[k]? with | none => false | some g => Nat.beq g f) = true) : okF dSh 179 (6 + 4 * s) 5 k f = true := by
  have h1 : Nat.blt (6 + 4 * s) 179 = true := by simp [Nat.blt]; omega
  have h2 := dSh_st (j := 0) hs (by decide)
  rw [Nat.add_zero] at h2
  simp only [okF, h1, Bool.true_and, h2]
  exact h
theorem okO_st (hs : s < 40) : okO dSh 179 (6 + 4 * s) 5 = true := by
  have h1 : Nat.blt (6 + 4 * s) 179 = true := by simp [Nat.blt]; omega
  have h2 := dSh_st (j := 0) hs (by decide)
  rw [Nat.add_zero] at h2
  simp only [okO, h1, Bool.true_and, h2]
  rfl
theorem okA_st {j m : Nat} (hs : s < 40) (hj : j < 4) (h : stepSh (6 + 4 * s + j) j = .inl (0, m)) : okA dSh 179 (6 + 4 * s + j) 0 m = true := by
  have h1 : Nat.blt (6 + 4 * s + j) 179 = true := by simp [Nat.blt]; omega
  simp only [okA, h1, Bool.true_and, dSh_st hs hj, h, Nat.beq_refl, Bool.and_self]
theorem DO_st (hs : s < 40) : isO (z, dH b I J F) 5 (b + (6 + 4 * s)) = some () := dk_isO (okO_st hs)
theorem DG_st_0 (hs : s < 40) : fI (z, dH b I J F) 5 (b + (6 + 4 * s)) 0 = some (I (6 + 4 * s) 0) := dk_fI (okF_st hs rfl)
theorem DS_st_0 (hv : v = 0 ∨ v = 1) (hs : s < 40) : sZ (z, dH b I J F) 5 (b + (6 + 4 * s)) 0 v = some (z, dH b (up2 I (6 + 4 * s) 0 v) J F) := dk_sZ hv (okF_st hs rfl)
theorem DG_st_1 (hs : s < 40) : fI (z, dH b I J F) 5 (b + (6 + 4 * s)) 1 = some (I (6 + 4 * s) 1) := dk_fI (okF_st hs rfl)
theorem DS_st_1 (hs : s < 40) : sF (z, dH b I J F) 5 (b + (6 + 4 * s)) 1 (.int v) = some (z, dH b (up2 I (6 + 4 * s) 1 v) J F) := dk_sF (okF_st hs rfl)
theorem DG_st_2 (hs : s < 40) : fI (z, dH b I J F) 5 (b + (6 + 4 * s)) 2 = some (I (6 + 4 * s) 2) := dk_fI (okF_st hs rfl)
theorem DS_st_2 (hs : s < 40) : sF (z, dH b I J F) 5 (b + (6 + 4 * s)) 2 (.int v) = some (z, dH b (up2 I (6 + 4 * s) 2 v) J F) := dk_sF (okF_st hs rfl)
theorem DG_st_3 (hs : s < 40) : fI (z, dH b I J F) 5 (b + (6 + 4 * s)) 3 = some (I (6 + 4 * s) 3) := dk_fI (okF_st hs rfl)
theorem DS_st_3 (hs : s < 40) : sF (z, dH b I J F) 5 (b + (6 + 4 * s)) 3 (.int v) = some (z, dH b (up2 I (6 + 4 * s) 3 v) J F) := dk_sF (okF_st hs rfl)
theorem DR_st_4 (hs : s < 40) : fR (z, dH b I J F) 5 (b + (6 + 4 * s)) 4 = some (b + (6 + 4 * s + 1)) := dk_fR (okF_st hs (by simp [stepSh]))
theorem DG_st_5 (hs : s < 40) : fI (z, dH b I J F) 5 (b + (6 + 4 * s)) 5 = some (I (6 + 4 * s) 5) := dk_fI (okF_st hs rfl)
theorem DS_st_5 (hs : s < 40) : sF (z, dH b I J F) 5 (b + (6 + 4 * s)) 5 (.int v) = some (z, dH b (up2 I (6 + 4 * s) 5 v) J F) := dk_sF (okF_st hs rfl)
theorem DR_st_6 (hs : s < 40) : fR (z, dH b I J F) 5 (b + (6 + 4 * s)) 6 = some (b + (6 + 4 * s + 2)) := dk_fR (okF_st hs (by simp [stepSh]))
theorem DG_st_7 (hs : s < 40) : fI (z, dH b I J F) 5 (b + (6 + 4 * s)) 7 = some (I (6 + 4 * s) 7) := dk_fI (okF_st hs rfl)
theorem DS_st_7 (hs : s < 40) : sF (z, dH b I J F) 5 (b + (6 + 4 * s)) 7 (.int v) = some (z, dH b (up2 I (6 + 4 * s) 7 v) J F) := dk_sF (okF_st hs rfl)
theorem DG_st_8 (hs : s < 40) : fI (z, dH b I J F) 5 (b + (6 + 4 * s)) 8 = some (I (6 + 4 * s) 8) := dk_fI (okF_st hs rfl)
theorem DS_st_8 (hv : v = 0 ∨ v = 1) (hs : s < 40) : sZ (z, dH b I J F) 5 (b + (6 + 4 * s)) 8 v = some (z, dH b (up2 I (6 + 4 * s) 8 v) J F) := dk_sZ hv (okF_st hs rfl)
theorem DG_st_9 (hs : s < 40) : fI (z, dH b I J F) 5 (b + (6 + 4 * s)) 9 = some (I (6 + 4 * s) 9) := dk_fI (okF_st hs rfl)
theorem DS_st_9 (hs : s < 40) : sF (z, dH b I J F) 5 (b + (6 + 4 * s)) 9 (.int v) = some (z, dH b (up2 I (6 + 4 * s) 9 v) J F) := dk_sF (okF_st hs rfl)
theorem DG_st_10 (hs : s < 40) : fI (z, dH b I J F) 5 (b + (6 + 4 * s)) 10 = some (I (6 + 4 * s) 10) := dk_fI (okF_st hs rfl)
theorem DS_st_10 (hs : s < 40) : sF (z, dH b I J F) 5 (b + (6 + 4 * s)) 10 (.int v) = some (z, dH b (up2 I (6 + 4 * s) 10 v) J F) := dk_sF (okF_st hs rfl)
theorem DG_st_11 (hs : s < 40) : fI (z, dH b I J F) 5 (b + (6 + 4 * s)) 11 = some (I (6 + 4 * s) 11) := dk_fI (okF_st hs rfl)
theorem DS_st_11 (hs : s < 40) : sF (z, dH b I J F) 5 (b + (6 + 4 * s)) 11 (.int v) = some (z, dH b (up2 I (6 + 4 * s) 11 v) J F) := dk_sF (okF_st hs rfl)
theorem DG_st_12 (hs : s < 40) : fI (z, dH b I J F) 5 (b + (6 + 4 * s)) 12 = some (I (6 + 4 * s) 12) := dk_fI (okF_st hs rfl)
theorem DS_st_12 (hs : s < 40) : sF (z, dH b I J F) 5 (b + (6 + 4 * s)) 12 (.int v) = some (z, dH b (up2 I (6 + 4 * s) 12 v) J F) := dk_sF (okF_st hs rfl)
theorem DR_st_13 (hs : s < 40) : fR (z, dH b I J F) 5 (b + (6 + 4 * s)) 13 = some (b + (6 + 4 * s + 3)) := dk_fR (okF_st hs (by simp [stepSh]))
theorem DA_st_1 (hs : s < 40) (hj : j < 6) : aI (z, dH b I J F) 0 (b + (6 + 4 * s + 1)) (nI j) = some (I (6 + 4 * s + 1) j) := dk_aI (okA_st hs (by decide) rfl) (by decide) hj (by decide)
theorem DB_st_1 (hs : s < 40) (hj : j < 6) : sI (z, dH b I J F) 0 (b + (6 + 4 * s + 1)) (nI j) v = some (z, dH b (up2 I (6 + 4 * s + 1) j v) J F) := dk_sI (okA_st hs (by decide) rfl) (by decide) hj (by decide)
theorem DA_st_2 (hs : s < 40) (hj : j < 3) : aI (z, dH b I J F) 0 (b + (6 + 4 * s + 2)) (nI j) = some (I (6 + 4 * s + 2) j) := dk_aI (okA_st hs (by decide) rfl) (by decide) hj (by decide)
theorem DB_st_2 (hs : s < 40) (hj : j < 3) : sI (z, dH b I J F) 0 (b + (6 + 4 * s + 2)) (nI j) v = some (z, dH b (up2 I (6 + 4 * s + 2) j v) J F) := dk_sI (okA_st hs (by decide) rfl) (by decide) hj (by decide)
theorem DA_st_3 (hs : s < 40) (hj : j < 6) : aI (z, dH b I J F) 0 (b + (6 + 4 * s + 3)) (nI j) = some (I (6 + 4 * s + 3) j) := dk_aI (okA_st hs (by decide) rfl) (by decide) hj (by decide)
theorem DB_st_3 (hs : s < 40) (hj : j < 6) : sI (z, dH b I J F) 0 (b + (6 + 4 * s + 3)) (nI j) v = some (z, dH b (up2 I (6 + 4 * s + 3) j v) J F) := dk_sI (okA_st hs (by decide) rfl) (by decide) hj (by decide)
theorem MO_0 : isO (z, mH b I F) 7 b = some () := dk_isO (o := 0) rfl
theorem MG_0_0 : fI (z, mH b I F) 7 b 0 = some (I 0 0) := dk_fI (o := 0) rfl
theorem MS_0_0 : sF (z, mH b I F) 7 b 0 (.int v) = some (z, mH b (up2 I 0 0 v) F) := dk_sF (o := 0) rfl
theorem MR_0_1 : fR (z, mH b I F) 7 b 1 = some (b + 1) := dk_fR (o := 0) (r := 1) rfl
theorem MR_0_2 : fR (z, mH b I F) 7 b 2 = some (b + 2) := dk_fR (o := 0) (r := 2) rfl
theorem MR_0_3 : fR (z, mH b I F) 7 b 3 = some (b + 3) := dk_fR (o := 0) (r := 3) rfl
theorem MR_0_4 : fR (z, mH b I F) 7 b 4 = some (b + 4) := dk_fR (o := 0) (r := 4) rfl
theorem MR_0_5 : fR (z, mH b I F) 7 b 5 = some (b + 5) := dk_fR (o := 0) (r := 5) rfl
theorem MR_0_6 : fR (z, mH b I F) 7 b 6 = some (b + 6) := dk_fR (o := 0) (r := 6) rfl
theorem MR_0_7 : fR (z, mH b I F) 7 b 7 = some (b + 7) := dk_fR (o := 0) (r := 7) rfl
theorem MR_0_8 : fR (z, mH b I F) 7 b 8 = some (b + 8) := dk_fR (o := 0) (r := 8) rfl
theorem MR_0_9 : fR (z, mH b I F) 7 b 9 = some (b + 9) := dk_fR (o := 0) (r := 9) rfl
theorem MR_0_10 : fR (z, mH b I F) 7 b 10 = some (b + 10) := dk_fR (o := 0) (r := 10) rfl
theorem MR_0_11 : fR (z, mH b I F) 7 b 11 = some (b + 11) := dk_fR (o := 0) (r := 11) rfl
theorem MR_0_12 : fR (z, mH b I F) 7 b 12 = some (b + 12) := dk_fR (o := 0) (r := 12) rfl
theorem MR_0_13 : fR (z, mH b I F) 7 b 13 = some (b + 13) := dk_fR (o := 0) (r := 13) rfl
theorem MR_0_14 : fR (z, mH b I F) 7 b 14 = some (b + 14) := dk_fR (o := 0) (r := 14) rfl
theorem MR_0_15 : fR (z, mH b I F) 7 b 15 = some (b + 15) := dk_fR (o := 0) (r := 15) rfl
theorem MR_0_16 : fR (z, mH b I F) 7 b 16 = some (b + 16) := dk_fR (o := 0) (r := 16) rfl
theorem MR_0_17 : fR (z, mH b I F) 7 b 17 = some (b + 17) := dk_fR (o := 0) (r := 17) rfl
theorem MR_0_18 : fR (z, mH b I F) 7 b 18 = some (b + 18) := dk_fR (o := 0) (r := 18) rfl
theorem MR_0_19 : fR (z, mH b I F) 7 b 19 = some (b + 19) := dk_fR (o := 0) (r := 19) rfl
theorem MR_0_20 : fR (z, mH b I F) 7 b 20 = some (b + 20) := dk_fR (o := 0) (r := 20) rfl
theorem MR_0_21 : fR (z, mH b I F) 7 b 21 = some (b + 21) := dk_fR (o := 0) (r := 21) rfl
theorem MR_0_22 : fR (z, mH b I F) 7 b 22 = some (b + 22) := dk_fR (o := 0) (r := 22) rfl
theorem MR_0_23 : fR (z, mH b I F) 7 b 23 = some (b + 23) := dk_fR (o := 0) (r := 23) rfl
theorem MR_0_24 : fR (z, mH b I F) 7 b 24 = some (b + 24) := dk_fR (o := 0) (r := 24) rfl
theorem MR_0_25 : fR (z, mH b I F) 7 b 25 = some (b + 25) := dk_fR (o := 0) (r := 25) rfl
theorem MR_0_26 : fR (z, mH b I F) 7 b 26 = some (b + 26) := dk_fR (o := 0) (r := 26) rfl
theorem MG_0_27 : fI (z, mH b I F) 7 b 27 = some (I 0 27) := dk_fI (o := 0) rfl
theorem MS_0_27 : sF (z, mH b I F) 7 b 27 (.int v) = some (z, mH b (up2 I 0 27 v) F) := dk_sF (o := 0) rfl
theorem MG_0_28 : fI (z, mH b I F) 7 b 28 = some (I 0 28) := dk_fI (o := 0) rfl
theorem MS_0_28 : sF (z, mH b I F) 7 b 28 (.int v) = some (z, mH b (up2 I 0 28 v) F) := dk_sF (o := 0) rfl
theorem MG_0_29 : fI (z, mH b I F) 7 b 29 = some (I 0 29) := dk_fI (o := 0) rfl
theorem MS_0_29 : sF (z, mH b I F) 7 b 29 (.int v) = some (z, mH b (up2 I 0 29 v) F) := dk_sF (o := 0) rfl
theorem MG_0_30 : fI (z, mH b I F) 7 b 30 = some (I 0 30) := dk_fI (o := 0) rfl
theorem MS_0_30 : sF (z, mH b I F) 7 b 30 (.int v) = some (z, mH b (up2 I 0 30 v) F) := dk_sF (o := 0) rfl
theorem MG_0_31 : fI (z, mH b I F) 7 b 31 = some (I 0 31) := dk_fI (o := 0) rfl
theorem MS_0_31 : sF (z, mH b I F) 7 b 31 (.int v) = some (z, mH b (up2 I 0 31 v) F) := dk_sF (o := 0) rfl
theorem MR_0_32 : fR (z, mH b I F) 7 b 32 = some (b + 27) := dk_fR (o := 0) (r := 27) rfl
theorem MR_0_33 : fR (z, mH b I F) 7 b 33 = some (b + 28) := dk_fR (o := 0) (r := 28) rfl
theorem MR_0_34 : fR (z, mH b I F) 7 b 34 = some (b + 29) := dk_fR (o := 0) (r := 29) rfl
theorem MR_0_35 : fR (z, mH b I F) 7 b 35 = some (b + 30) := dk_fR (o := 0) (r := 30) rfl
theorem MR_0_36 : fR (z, mH b I F) 7 b 36 = some (b + 31) := dk_fR (o := 0) (r := 31) rfl
theorem MG_0_37 : fI (z, mH b I F) 7 b 37 = some (I 0 37) := dk_fI (o := 0) rfl
theorem MS_0_37 : sF (z, mH b I F) 7 b 37 (.int v) = some (z, mH b (up2 I 0 37 v) F) := dk_sF (o := 0) rfl
theorem MR_0_38 : fR (z, mH b I F) 7 b 38 = some (b + 32) := dk_fR (o := 0) (r := 32) rfl
theorem MR_0_39 : fR (z, mH b I F) 7 b 39 = some (b + 33) := dk_fR (o := 0) (r := 33) rfl
theorem MA_1 (hj : j < 64) : aI (z, mH b I F) 1 (b + 1) (nI j) = some (I 1 j) := dk_aI (o := 1) (m := 64) rfl (by decide) hj (by decide)
theorem MB_1 (hv : v = 0 ∨ v = 1) (hj : j < 64) : sB (z, mH b I F) 1 (b + 1) (nI j) v = some (z, mH b (up2 I 1 j v) F) := dk_sB (o := 1) (m := 64) hv rfl hj (by decide)
theorem MA_2 (hj : j < 64) : aI (z, mH b I F) 0 (b + 2) (nI j) = some (I 2 j) := dk_aI (o := 2) (m := 64) rfl (by decide) hj (by decide)
theorem MB_2 (hj : j < 64) : sI (z, mH b I F) 0 (b + 2) (nI j) v = some (z, mH b (up2 I 2 j v) F) := dk_sI (o := 2) (m := 64) rfl (by decide) hj (by decide)
theorem MA_3 (hj : j < 64) : aI (z, mH b I F) 0 (b + 3) (nI j) = some (I 3 j) := dk_aI (o := 3) (m := 64) rfl (by decide) hj (by decide)
theorem MB_3 (hj : j < 64) : sI (z, mH b I F) 0 (b + 3) (nI j) v = some (z, mH b (up2 I 3 j v) F) := dk_sI (o := 3) (m := 64) rfl (by decide) hj (by decide)
theorem MA_4 (hj : j < 40) : aI (z, mH b I F) 1 (b + 4) (nI j) = some (I 4 j) := dk_aI (o := 4) (m := 40) rfl (by decide) hj (by decide)
theorem MB_4 (hv : v = 0 ∨ v = 1) (hj : j < 40) : sB (z, mH b I F) 1 (b + 4) (nI j) v = some (z, mH b (up2 I 4 j v) F) := dk_sB (o := 4) (m := 40) hv rfl hj (by decide)
theorem MA_5 (hj : j < 40) : aI (z, mH b I F) 0 (b + 5) (nI j) = some (I 5 j) := dk_aI (o := 5) (m := 40) rfl (by decide) hj (by decide)
theorem MB_5 (hj : j < 40) : sI (z, mH b I F) 0 (b + 5) (nI j) v = some (z, mH b (up2 I 5 j v) F) := dk_sI (o := 5) (m := 40) rfl (by decide) hj (by decide)
theorem MA_6 (hj : j < 40) : aI (z, mH b I F) 0 (b + 6) (nI j) = some (I 6 j) := dk_aI (o := 6) (m := 40) rfl (by decide) hj (by decide)
theorem MB_6 (hj : j < 40) : sI (z, mH b I F) 0 (b + 6) (nI j) v = some (z, mH b (up2 I 6 j v) F) := dk_sI (o := 6) (m := 40) rfl (by decide) hj (by decide)
theorem MA_7 (hj : j < 40) : aI (z, mH b I F) 0 (b + 7) (nI j) = some (I 7 j) := dk_aI (o := 7) (m := 40) rfl (by decide) hj (by decide)
theorem MB_7 (hj : j < 40) : sI (z, mH b I F) 0 (b + 7) (nI j) v = some (z, mH b (up2 I 7 j v) F) := dk_sI (o := 7) (m := 40) rfl (by decide) hj (by decide)
theorem MA_8 (hj : j < 40) : aI (z, mH b I F) 0 (b + 8) (nI j) = some (I 8 j) := dk_aI (o := 8) (m := 40) rfl (by decide) hj (by decide)
theorem MB_8 (hj : j < 40) : sI (z, mH b I F) 0 (b + 8) (nI j) v = some (z, mH b (up2 I 8 j v) F) := dk_sI (o := 8) (m := 40) rfl (by decide) hj (by decide)
theorem MA_9 (hj : j < 40) : aI (z, mH b I F) 0 (b + 9) (nI j) = some (I 9 j) := dk_aI (o := 9) (m := 40) rfl (by decide) hj (by decide)
theorem MB_9 (hj : j < 40) : sI (z, mH b I F) 0 (b + 9) (nI j) v = some (z, mH b (up2 I 9 j v) F) := dk_sI (o := 9) (m := 40) rfl (by decide) hj (by decide)
theorem MA_10 (hj : j < 240) : aI (z, mH b I F) 0 (b + 10) (nI j) = some (I 10 j) := dk_aI (o := 10) (m := 240) rfl (by decide) hj (by decide)
theorem MB_10 (hj : j < 240) : sI (z, mH b I F) 0 (b + 10) (nI j) v = some (z, mH b (up2 I 10 j v) F) := dk_sI (o := 10) (m := 240) rfl (by decide) hj (by decide)
theorem MA_11 (hj : j < 120) : aI (z, mH b I F) 0 (b + 11) (nI j) = some (I 11 j) := dk_aI (o := 11) (m := 120) rfl (by decide) hj (by decide)
theorem MB_11 (hj : j < 120) : sI (z, mH b I F) 0 (b + 11) (nI j) v = some (z, mH b (up2 I 11 j v) F) := dk_sI (o := 11) (m := 120) rfl (by decide) hj (by decide)
theorem MA_12 (hj : j < 40) : aI (z, mH b I F) 1 (b + 12) (nI j) = some (I 12 j) := dk_aI (o := 12) (m := 40) rfl (by decide) hj (by decide)
theorem MB_12 (hv : v = 0 ∨ v = 1) (hj : j < 40) : sB (z, mH b I F) 1 (b + 12) (nI j) v = some (z, mH b (up2 I 12 j v) F) := dk_sB (o := 12) (m := 40) hv rfl hj (by decide)
theorem MA_13 (hj : j < 40) : aI (z, mH b I F) 0 (b + 13) (nI j) = some (I 13 j) := dk_aI (o := 13) (m := 40) rfl (by decide) hj (by decide)
theorem MB_13 (hj : j < 40) : sI (z, mH b I F) 0 (b + 13) (nI j) v = some (z, mH b (up2 I 13 j v) F) := dk_sI (o := 13) (m := 40) rfl (by decide) hj (by decide)
theorem MA_14 (hj : j < 40) : aI (z, mH b I F) 0 (b + 14) (nI j) = some (I 14 j) := dk_aI (o := 14) (m := 40) rfl (by decide) hj (by decide)
theorem MB_14 (hj : j < 40) : sI (z, mH b I F) 0 (b + 14) (nI j) v = some (z, mH b (up2 I 14 j v) F) := dk_sI (o := 14) (m := 40) rfl (by decide) hj (by decide)
theorem MA_15 (hj : j < 40) : aI (z, mH b I F) 0 (b + 15) (nI j) = some (I 15 j) := dk_aI (o := 15) (m := 40) rfl (by decide) hj (by decide)
theorem MB_15 (hj : j < 40) : sI (z, mH b I F) 0 (b + 15) (nI j) v = some (z, mH b (up2 I 15 j v) F) := dk_sI (o := 15) (m := 40) rfl (by decide) hj (by decide)
theorem MA_16 (hj : j < 40) : aI (z, mH b I F) 0 (b + 16) (nI j) = some (I 16 j) := dk_aI (o := 16) (m := 40) rfl (by decide) hj (by decide)
theorem MB_16 (hj : j < 40) : sI (z, mH b I F) 0 (b + 16) (nI j) v = some (z, mH b (up2 I 16 j v) F) := dk_sI (o := 16) (m := 40) rfl (by decide) hj (by decide)
theorem MA_17 (hj : j < 240) : aI (z, mH b I F) 0 (b + 17) (nI j) = some (I 17 j) := dk_aI (o := 17) (m := 240) rfl (by decide) hj (by decide)
theorem MB_17 (hj : j < 240) : sI (z, mH b I F) 0 (b + 17) (nI j) v = some (z, mH b (up2 I 17 j v) F) := dk_sI (o := 17) (m := 240) rfl (by decide) hj (by decide)
theorem MA_18 (hj : j < 120) : aI (z, mH b I F) 0 (b + 18) (nI j) = some (I 18 j) := dk_aI (o := 18) (m := 120) rfl (by decide) hj (by decide)
theorem MB_18 (hj : j < 120) : sI (z, mH b I F) 0 (b + 18) (nI j) v = some (z, mH b (up2 I 18 j v) F) := dk_sI (o := 18) (m := 120) rfl (by decide) hj (by decide)
theorem MA_19 (hj : j < 240) : aI (z, mH b I F) 0 (b + 19) (nI j) = some (I 19 j) := dk_aI (o := 19) (m := 240) rfl (by decide) hj (by decide)
theorem MB_19 (hj : j < 240) : sI (z, mH b I F) 0 (b + 19) (nI j) v = some (z, mH b (up2 I 19 j v) F) := dk_sI (o := 19) (m := 240) rfl (by decide) hj (by decide)
theorem MA_20 (hj : j < 40) : aI (z, mH b I F) 1 (b + 20) (nI j) = some (I 20 j) := dk_aI (o := 20) (m := 40) rfl (by decide) hj (by decide)
theorem MB_20 (hv : v = 0 ∨ v = 1) (hj : j < 40) : sB (z, mH b I F) 1 (b + 20) (nI j) v = some (z, mH b (up2 I 20 j v) F) := dk_sB (o := 20) (m := 40) hv rfl hj (by decide)
theorem MA_21 (hj : j < 40) : aI (z, mH b I F) 0 (b + 21) (nI j) = some (I 21 j) := dk_aI (o := 21) (m := 40) rfl (by decide) hj (by decide)
theorem MB_21 (hj : j < 40) : sI (z, mH b I F) 0 (b + 21) (nI j) v = some (z, mH b (up2 I 21 j v) F) := dk_sI (o := 21) (m := 40) rfl (by decide) hj (by decide)
theorem MA_22 (hj : j < 40) : aI (z, mH b I F) 0 (b + 22) (nI j) = some (I 22 j) := dk_aI (o := 22) (m := 40) rfl (by decide) hj (by decide)
theorem MB_22 (hj : j < 40) : sI (z, mH b I F) 0 (b + 22) (nI j) v = some (z, mH b (up2 I 22 j v) F) := dk_sI (o := 22) (m := 40) rfl (by decide) hj (by decide)
theorem MA_23 (hj : j < 40) : aI (z, mH b I F) 0 (b + 23) (nI j) = some (I 23 j) := dk_aI (o := 23) (m := 40) rfl (by decide) hj (by decide)
theorem MB_23 (hj : j < 40) : sI (z, mH b I F) 0 (b + 23) (nI j) v = some (z, mH b (up2 I 23 j v) F) := dk_sI (o := 23) (m := 40) rfl (by decide) hj (by decide)
theorem MA_24 (hj : j < 40) : aI (z, mH b I F) 0 (b + 24) (nI j) = some (I 24 j) := dk_aI (o := 24) (m := 40) rfl (by decide) hj (by decide)
theorem MB_24 (hj : j < 40) : sI (z, mH b I F) 0 (b + 24) (nI j) v = some (z, mH b (up2 I 24 j v) F) := dk_sI (o := 24) (m := 40) rfl (by decide) hj (by decide)
theorem MA_25 (hj : j < 40) : aI (z, mH b I F) 0 (b + 25) (nI j) = some (I 25 j) := dk_aI (o := 25) (m := 40) rfl (by decide) hj (by decide)
theorem MB_25 (hj : j < 40) : sI (z, mH b I F) 0 (b + 25) (nI j) v = some (z, mH b (up2 I 25 j v) F) := dk_sI (o := 25) (m := 40) rfl (by decide) hj (by decide)
theorem MA_26 (hj : j < 8) : aI (z, mH b I F) 1 (b + 26) (nI j) = some (I 26 j) := dk_aI (o := 26) (m := 8) rfl (by decide) hj (by decide)
theorem MB_26 (hv : v = 0 ∨ v = 1) (hj : j < 8) : sB (z, mH b I F) 1 (b + 26) (nI j) v = some (z, mH b (up2 I 26 j v) F) := dk_sB (o := 26) (m := 8) hv rfl hj (by decide)
theorem MA_27 (hj : j < 40) : aI (z, mH b I F) 0 (b + 27) (nI j) = some (I 27 j) := dk_aI (o := 27) (m := 40) rfl (by decide) hj (by decide)
theorem MB_27 (hj : j < 40) : sI (z, mH b I F) 0 (b + 27) (nI j) v = some (z, mH b (up2 I 27 j v) F) := dk_sI (o := 27) (m := 40) rfl (by decide) hj (by decide)
theorem MA_28 (hj : j < 40) : aI (z, mH b I F) 0 (b + 28) (nI j) = some (I 28 j) := dk_aI (o := 28) (m := 40) rfl (by decide) hj (by decide)
theorem MB_28 (hj : j < 40) : sI (z, mH b I F) 0 (b + 28) (nI j) v = some (z, mH b (up2 I 28 j v) F) := dk_sI (o := 28) (m := 40) rfl (by decide) hj (by decide)
theorem MA_29 (hj : j < 40) : aI (z, mH b I F) 0 (b + 29) (nI j) = some (I 29 j) := dk_aI (o := 29) (m := 40) rfl (by decide) hj (by decide)
theorem MB_29 (hj : j < 40) : sI (z, mH b I F) 0 (b + 29) (nI j) v = some (z, mH b (up2 I 29 j v) F) := dk_sI (o := 29) (m := 40) rfl (by decide) hj (by decide)
theorem MA_30 (hj : j < 40) : aI (z, mH b I F) 0 (b + 30) (nI j) = some (I 30 j) := dk_aI (o := 30) (m := 40) rfl (by decide) hj (by decide)
theorem MB_30 (hj : j < 40) : sI (z, mH b I F) 0 (b + 30) (nI j) v = some (z, mH b (up2 I 30 j v) F) := dk_sI (o := 30) (m := 40) rfl (by decide) hj (by decide)
theorem MA_31 (hj : j < 40) : aI (z, mH b I F) 0 (b + 31) (nI j) = some (I 31 j) := dk_aI (o := 31) (m := 40) rfl (by decide) hj (by decide)
theorem MB_31 (hj : j < 40) : sI (z, mH b I F) 0 (b + 31) (nI j) v = some (z, mH b (up2 I 31 j v) F) := dk_sI (o := 31) (m := 40) rfl (by decide) hj (by decide)
theorem MA_32 (hj : j < 40) : aI (z, mH b I F) 0 (b + 32) (nI j) = some (I 32 j) := dk_aI (o := 32) (m := 40) rfl (by decide) hj (by decide)
theorem MB_32 (hj : j < 40) : sI (z, mH b I F) 0 (b + 32) (nI j) v = some (z, mH b (up2 I 32 j v) F) := dk_sI (o := 32) (m := 40) rfl (by decide) hj (by decide)
theorem MA_33 (hj : j < 40) : aI (z, mH b I F) 0 (b + 33) (nI j) = some (I 33 j) := dk_aI (o := 33) (m := 40) rfl (by decide) hj (by decide)
theorem MB_33 (hj : j < 40) : sI (z, mH b I F) 0 (b + 33) (nI j) v = some (z, mH b (up2 I 33 j v) F) := dk_sI (o := 33) (m := 40) rfl (by decide) hj (by decide)
end LN
