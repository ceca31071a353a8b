/-! pure: the faults 6, 8 to 11, and what may stand in a constant -/
theorem zcmp_gt {a b : Nat} (ha : a < 2 ^ 62) (hb : b < 2 ^ 62) : 0 < lg_cmp (Int64.ofNat a) (Int64.ofNat b) ↔ b < a := by
  have ea : (Int64.ofNat a).toInt = (a : Int) := lg_ofNat_toInt (by omega)
  have eb : (Int64.ofNat b).toInt = (b : Int) := lg_ofNat_toInt (by omega)
  unfold lg_cmp
  by_cases h1 : Int64.ofNat a > Int64.ofNat b
  · rw [if_pos h1]
    have : (Int64.ofNat b).toInt < (Int64.ofNat a).toInt := Int64.lt_iff_toInt_lt.mp h1
    rw [ea, eb] at this
    exact ⟨fun _ => by omega, fun _ => by decide⟩
  · rw [if_neg h1]
    have h1' : ¬ (Int64.ofNat b).toInt < (Int64.ofNat a).toInt := fun q => h1 (Int64.lt_iff_toInt_lt.mpr q)
    rw [ea, eb] at h1'
    refine ⟨fun q => ?_, fun q => by omega⟩
    split at q
    · exact absurd q (by decide)
    · exact absurd q (by decide)
theorem mAttr {N k j : Nat} {w : zU} (hk : k < 6) (hj : j < 40) : zf_MMC_attribute_0 N (nI k) (nI j) w = some (w.2.2.1 5 (40 * k + j), w) := by
  unfold zf_MMC_attribute_0
  rw [z40, zck_pos (zin_of (by omega) (by omega))]
  show some (w.2.2.1 5 _, w) = _
  rw [nI_clamp (by omega)]
theorem cTypeOf0 {N c j : Nat} {u : zU} (hc : gi u 1 = nI c) (hc4 : c ≤ 40) (hj : j < c) : zf_CCShelf_typeOf_8 N (nI j) u = some (u.2.2.1 4 j, u) := by
  unfold zf_CCShelf_typeOf_8 zf_CCShelf_typeOf_8_b26 zf_CCShelf_typeOf_8_b27
  rw [zbd_eq (cHas0 hc), if_pos (show 0 ≤ nI j ∧ nI j < nI c from ⟨nI_pos' (by omega), nI_lt hj (by omega)⟩), if_neg (show ¬ (1 : Int32) = 0 from by decide), if_neg (show ¬ (40 : Int32) ≤ nI j from nI_ge (b := 40) (by omega) (by omega)), zck_pos (zin_of (by omega) (by omega))]
  show some (u.2.2.1 4 _, u) = _
  rw [nI_clamp (by omega)]
theorem cTypeOf1 {N c j : Nat} {u : zU} (hc : gi u 2 = nI c) (hc4 : c ≤ 40) (hj : j < c) : zf_CCShelf_typeOf_11 N (nI j) u = some (u.2.2.1 6 j, u) := by
  unfold zf_CCShelf_typeOf_11 zf_CCShelf_typeOf_11_b26 zf_CCShelf_typeOf_11_b27
  rw [zbd_eq (cHas1 hc), if_pos (show 0 ≤ nI j ∧ nI j < nI c from ⟨nI_pos' (by omega), nI_lt hj (by omega)⟩), if_neg (show ¬ (1 : Int32) = 0 from by decide), if_neg (show ¬ (40 : Int32) ≤ nI j from nI_ge (b := 40) (by omega) (by omega)), zck_pos (zin_of (by omega) (by omega))]
  show some (u.2.2.1 6 _, u) = _
  rw [nI_clamp (by omega)]
theorem cTypeOf3 {N c j : Nat} {u : zU} (hc : gi u 4 = nI c) (hc4 : c ≤ 40) (hj : j < c) : zf_CCShelf_typeOf_17 N (nI j) u = some (u.2.2.1 10 j, u) := by
  unfold zf_CCShelf_typeOf_17 zf_CCShelf_typeOf_17_b26 zf_CCShelf_typeOf_17_b27
  rw [zbd_eq (cHas3 hc), if_pos (show 0 ≤ nI j ∧ nI j < nI c from ⟨nI_pos' (by omega), nI_lt hj (by omega)⟩), if_neg (show ¬ (1 : Int32) = 0 from by decide), if_neg (show ¬ (40 : Int32) ≤ nI j from nI_ge (b := 40) (by omega) (by omega)), zck_pos (zin_of (by omega) (by omega))]
  show some (u.2.2.1 10 _, u) = _
  rw [nI_clamp (by omega)]
theorem cTypeOf4 {N c j : Nat} {u : zU} (hc : gi u 5 = nI c) (hc4 : c ≤ 40) (hj : j < c) : zf_CCShelf_typeOf_20 N (nI j) u = some (u.2.2.1 12 j, u) := by
  unfold zf_CCShelf_typeOf_20 zf_CCShelf_typeOf_20_b26 zf_CCShelf_typeOf_20_b27
  rw [zbd_eq (cHas4 hc), if_pos (show 0 ≤ nI j ∧ nI j < nI c from ⟨nI_pos' (by omega), nI_lt hj (by omega)⟩), if_neg (show ¬ (1 : Int32) = 0 from by decide), if_neg (show ¬ (40 : Int32) ≤ nI j from nI_ge (b := 40) (by omega) (by omega)), zck_pos (zin_of (by omega) (by omega))]
  show some (u.2.2.1 12 _, u) = _
  rw [nI_clamp (by omega)]
theorem cMark0 {N c j : Nat} {u : zU} (hc : gi u 1 = nI c) (hc4 : c ≤ 40) (hj : j < c) : zf_CCShelf_isMarked_8 N (nI j) u = some (if u.2.2.1 5 j = 0 then 0 else 1, u) := by
  have e : ga u 5 (nI j) = u.2.2.1 5 j := by show u.2.2.1 5 _ = _; rw [nI_clamp (by omega)]
  unfold zf_CCShelf_isMarked_8 zf_CCShelf_isMarked_8_b30 zf_CCShelf_isMarked_8_b31
  rw [zbd_eq (cHas0 hc), if_pos (show 0 ≤ nI j ∧ nI j < nI c from ⟨nI_pos' (by omega), nI_lt hj (by omega)⟩), if_neg (show ¬ (1 : Int32) = 0 from by decide), if_neg (show ¬ (40 : Int32) ≤ nI j from nI_ge (b := 40) (by omega) (by omega)), zck_pos (zin_of (by omega) (by omega)), e]
  by_cases h : u.2.2.1 5 j = 0
  · rw [if_pos h, if_pos h]; rfl
  · rw [if_neg h, if_neg h]; rfl
theorem cMark3 {N c j : Nat} {u : zU} (hc : gi u 4 = nI c) (hc4 : c ≤ 40) (hj : j < c) : zf_CCShelf_isMarked_17 N (nI j) u = some (if u.2.2.1 11 j = 0 then 0 else 1, u) := by
  have e : ga u 11 (nI j) = u.2.2.1 11 j := by show u.2.2.1 11 _ = _; rw [nI_clamp (by omega)]
  unfold zf_CCShelf_isMarked_17 zf_CCShelf_isMarked_17_b30 zf_CCShelf_isMarked_17_b31
  rw [zbd_eq (cHas3 hc), if_pos (show 0 ≤ nI j ∧ nI j < nI c from ⟨nI_pos' (by omega), nI_lt hj (by omega)⟩), if_neg (show ¬ (1 : Int32) = 0 from by decide), if_neg (show ¬ (40 : Int32) ≤ nI j from nI_ge (b := 40) (by omega) (by omega)), zck_pos (zin_of (by omega) (by omega)), e]
  by_cases h : u.2.2.1 11 j = 0
  · rw [if_pos h, if_pos h]; rfl
  · rw [if_neg h, if_neg h]; rfl
theorem zHs_j {c : Nat} {x : Int32} (h : zHs c x) (hc : c ≤ 60) : ∃ j, j < c ∧ x = nI j := by
  obtain ⟨j, hj, e⟩ := nI_of (Int32.not_lt.mpr h.1)
  subst e
  exact ⟨j, (nI_ltI hj (by omega)).mp h.2, rfl⟩
theorem mShift : ∀ j, j < 31 → 4 ≤ j → (8 : Int32) < (1 <<< (nI j &&& 31)) := by decide +kernel
theorem mBytes8 : ∀ k, k < 23 → t_X_MOVED_BYTES.getD k 0 ≤ 8 := by decide +kernel
theorem mBytes {N : Nat} {w : zU} {k : Nat} (h1 : 40 ≤ k) (h2 : k ≤ 62) : zf_MMC_bytesOf N (nI k) w = some (t_X_MOVED_BYTES.getD (k - 40) 0, w) := by
  have c : k = 40 ∨ k = 41 ∨ k = 42 ∨ k = 43 ∨ k = 44 ∨ k = 45 ∨ k = 46 ∨ k = 47 ∨ k = 48 ∨ k = 49 ∨ k = 50 ∨ k = 51 ∨ k = 52 ∨ k = 53 ∨ k = 54 ∨ k = 55 ∨ k = 56 ∨ k = 57 ∨ k = 58 ∨ k = 59 ∨ k = 60 ∨ k = 61 ∨ k = 62 := by omega
  rcases c with rfl | rfl | rfl | rfl | rfl | rfl | rfl | rfl | rfl | rfl | rfl | rfl | rfl | rfl | rfl | rfl | rfl | rfl | rfl | rfl | rfl | rfl | rfl <;> rfl
theorem cMem {N c : Nat} {u : zU} (hc : gi u 3 = nI c) (hc4 : c ≤ 40) : zf_CCThings_hasMemory_1 N u = some (if c = 0 then 0 else 1, u) := by
  unfold zf_CCThings_hasMemory_1
  rw [zbd_eq (cHas2 hc)]
  by_cases h : c = 0
  · rw [if_neg (fun q => by have := (nI_ltI (a := 0) (by omega) (by omega)).mp q.2; omega), if_pos h]; rfl
  · rw [if_pos ⟨Int32.le_refl 0, (show (0 : Int32) < nI c from nI_lt (a := 0) (by omega) (by omega))⟩, if_neg h]; rfl
/-- the answer k of the class, and the reference's state behind it -/
def zAn (N : Nat) (v0 : zU) (s : zS) (tk : Int32) (wn : Nat) (p : Nat → Int32) (C : Option (Int32 × zU)) (R : Option (Unit × zU)) (u : zU) : Prop := ∃ k : Int32, C = some (k, u) ∧ 0 ≤ k ∧ ∃ w', R = some ((), w') ∧ RM v0 (aStop k s) tk wn p w'
theorem aStop_0 {s : zS} (h : s.2.2 = 0) : aStop 0 s = s := by
  obtain ⟨c, f, e⟩ := s
  simp only at h
  subst h; rfl
section MF
variable {N ty b c lb rw' lc wn : Nat} {n : Nat → Nat} {H M : Nat → Nat} {u w v0 : zU} {s : zS} {tk : Int32} {p : Nat → Int32} {i x y : Int32}
theorem zAn_0 {C : Option (Int32 × zU)} {R : Option (Unit × zU)} (hs : s.2.2 = 0) (hw : RM v0 s tk wn p w) (h1 : C = some (0, u)) (h2 : R = some ((), w)) : zAn N v0 s tk wn p C R u := ⟨0, h1, by decide, w, h2, by rw [aStop_0 hs]; exact hw⟩
theorem zMisfit (hN : 1000 ≤ N) (hT : RT ty n u w) (hs : s.2.2 = 0) (hw : RM v0 s tk wn p w) (hTh : zTh ty n b lb rw' M w i x y) : zAn N v0 s tk wn p (zf_CCCode_misfit_26 N i x y u) (zf_MMC_require_0 N i x y w) u := by
  have sh := hT.2.2.2.1
  have vs := hT.2.2.2.2.1
  have ms := hT.2.2.2.2.2.1
  have f1 := hT.2.2.2.2.2.2.1
  obtain ⟨T1, T2, T3, T4, T5, T6, T7, T8, T9, T10⟩ := hTh
  have n0 := (sh 0 (by omega)).1
  have n1 := (sh 1 (by omega)).1
  have n2 := (sh 2 (by omega)).1
  have n3 := (sh 3 (by omega)).1
  have n4 := (sh 4 (by omega)).1
  have stop : ∀ (k : Int32) (F : zU → Option (Unit × zU)), (∀ z, F z = some ((), z)) → ∃ w', zbd (zf_MMC_stop_0 N k w) (fun _ z => F z) = some ((), w') ∧ RM v0 (aStop k s) tk wn p w' := by
    intro k F hF
    obtain ⟨w', e, r⟩ := mStop (N := N) k hw
    exact ⟨w', by rw [zbd_eq e]; exact hF w', r⟩
  by_cases i17 : i = 17
  · subst i17
    obtain ⟨j, hj, rfl⟩ := zHs_j (T5 rfl).2 (by omega)
    have hc : zf_CCCode_misfit_26 N 17 x (nI j) u = zbd (zf_CCShelf_typeOf_11 N (nI j) u) (fun r2 u3 => if r2 = 112 then some (0, u3) else some (6, u3)) := rfl
    have hm : zf_MMC_require_0 N 17 x (nI j) w = zbd (zf_MMC_attribute_0 N 1 (nI j) w) (fun r2 u3 => if r2 = 112 then some ((), u3) else zbd (zf_MMC_stop_0 N 6 u3) (fun _ z => some ((), z))) := rfl
    have ea : zf_MMC_attribute_0 N 1 (nI j) w = some (w.2.2.1 5 (40 * 1 + j), w) := mAttr (k := 1) (by omega) (by omega)
    rw [hc, hm, zbd_eq (cTypeOf1 (sh 1 (by omega)).2.1 n1 hj), zbd_eq ea, show u.2.2.1 6 j = w.2.2.1 5 (40 * 1 + j) from (vs 1 (by omega) (by omega) (by omega) j hj).1]
    by_cases h : w.2.2.1 5 (40 * 1 + j) = 112
    · rw [if_pos h, if_pos h]; exact zAn_0 hs hw rfl rfl
    · rw [if_neg h, if_neg h]
      obtain ⟨w', e, r⟩ := stop 6 (fun z => some ((), z)) (fun _ => rfl)
      exact ⟨6, rfl, by decide, w', e, r⟩
  by_cases i36 : i = 36
  · subst i36
    obtain ⟨j, hj, rfl⟩ := zHs_j (T7 (Or.inr rfl)) (by omega)
    have hc : zf_CCCode_misfit_26 N 36 (nI j) y u = zbd (zf_CCShelf_isMarked_17 N (nI j) u) (fun r7 u8 => if r7 = 0 then some (8, u8) else some (0, u8)) := rfl
    have hm : zf_MMC_require_0 N 36 (nI j) y w = zck (zin (120 + nI j) 240) (if (ga w 6 (120 + nI j)) = 0 then zbd (zf_MMC_stop_0 N 8 w) (fun _ z => some ((), z)) else some ((), w)) := rfl
    have e0 : (120 : Int32) + nI j = nI (120 + j) := nI_add 120 j
    have eg : ga w 6 (nI (120 + j)) = w.2.2.1 6 (120 + j) := by show w.2.2.1 6 _ = _; rw [nI_clamp (by omega)]
    rw [hc, hm, zbd_eq (cMark3 (sh 3 (by omega)).2.1 n3 hj), e0, zck_pos (zin_of (by omega) (by omega)), eg, ms j hj]
    by_cases h : w.2.2.1 6 (120 + j) = 0
    · rw [if_pos h, if_pos rfl, if_pos h]
      obtain ⟨w', e, r⟩ := stop 8 (fun z => some ((), z)) (fun _ => rfl)
      exact ⟨8, rfl, by decide, w', e, r⟩
    · rw [if_neg h, if_neg (show ¬ (1 : Int32) = 0 from by decide), if_neg h]; exact zAn_0 hs hw rfl rfl
  by_cases i210 : i = 210
  · subst i210
    obtain ⟨j, hj, rfl⟩ := zHs_j (T4 (Or.inr rfl)) (by omega)
    have hc : zf_CCCode_misfit_26 N 210 (nI j) y u = zbd (zf_CCShelf_isMarked_8 N (nI j) u) (fun r7 u8 => if r7 = 0 then some (11, u8) else some (0, u8)) := rfl
    have hm : zf_MMC_require_0 N 210 (nI j) y w = zck (zin (nI j) 40) (if (ga w 7 (nI j)) = 0 then zbd (zf_MMC_stop_0 N 11 w) (fun _ z => some ((), z)) else some ((), w)) := rfl
    have eg : ga w 7 (nI j) = w.2.2.1 7 j := by show w.2.2.1 7 _ = _; rw [nI_clamp (by omega)]
    rw [hc, hm, zbd_eq (cMark0 (sh 0 (by omega)).2.1 n0 hj), zck_pos (zin_of (by omega) (by omega)), eg, f1 j hj]
    by_cases h : w.2.2.1 7 j = 0
    · rw [if_pos h, if_pos rfl, if_pos h]
      obtain ⟨w', e, r⟩ := stop 11 (fun z => some ((), z)) (fun _ => rfl)
      exact ⟨11, rfl, by decide, w', e, r⟩
    · rw [if_neg h, if_neg (show ¬ (1 : Int32) = 0 from by decide), if_neg h]; exact zAn_0 hs hw rfl rfl
  by_cases i268 : i = 268
  · subst i268
    obtain ⟨j, hj, rfl⟩ := zHs_j (T9 rfl).1 (by omega)
    obtain ⟨l, hl, rfl⟩ := zHs_j (T9 rfl).2 (by omega)
    have hc : zf_CCCode_misfit_26 N 268 (nI j) (nI l) u = zbd (zf_CCShelf_typeOf_20 N (nI j) u) (fun r22 u23 => zbd (zf_CCShelf_typeOf_11 N (nI l) u23) (fun r25 u26 => if r22 = r25 then some (0, u26) else some (6, u26))) := rfl
    have hm : zf_MMC_require_0 N 268 (nI j) (nI l) w = zbd (zf_MMC_attribute_0 N 4 (nI j) w) (fun r2 u3 => zbd (zf_MMC_attribute_0 N 1 (nI l) u3) (fun r5 u6 => if r2 = r5 then some ((), u6) else zbd (zf_MMC_stop_0 N 6 u6) (fun _ z => some ((), z)))) := rfl
    have ea : zf_MMC_attribute_0 N 4 (nI j) w = some (w.2.2.1 5 (40 * 4 + j), w) := mAttr (k := 4) (by omega) (by omega)
    have eb : zf_MMC_attribute_0 N 1 (nI l) w = some (w.2.2.1 5 (40 * 1 + l), w) := mAttr (k := 1) (by omega) (by omega)
    rw [hc, hm, zbd_eq (cTypeOf4 (sh 4 (by omega)).2.1 n4 hj), zbd_eq ea, zbd_eq (cTypeOf1 (sh 1 (by omega)).2.1 n1 hl), zbd_eq eb, show u.2.2.1 6 l = w.2.2.1 5 (40 * 1 + l) from (vs 1 (by omega) (by omega) (by omega) l hl).1, show u.2.2.1 12 j = w.2.2.1 5 (40 * 4 + j) from (vs 4 (by omega) (by omega) (by omega) j hj).1]
    by_cases h : w.2.2.1 5 (40 * 4 + j) = w.2.2.1 5 (40 * 1 + l)
    · rw [if_pos h, if_pos h]; exact zAn_0 hs hw rfl rfl
    · rw [if_neg h, if_neg h]
      obtain ⟨w', e, r⟩ := stop 6 (fun z => some ((), z)) (fun _ => rfl)
      exact ⟨6, rfl, by decide, w', e, r⟩
  by_cases i270 : i = 270
  · subst i270
    obtain ⟨j, hj, rfl⟩ := zHs_j (T10 rfl).1 (by omega)
    obtain ⟨l, hl, rfl⟩ := zHs_j (T10 rfl).2 (by omega)
    have hc : zf_CCCode_misfit_26 N 270 (nI j) (nI l) u = zbd (zf_CCShelf_typeOf_11 N (nI j) u) (fun r22 u23 => zbd (zf_CCShelf_typeOf_11 N (nI l) u23) (fun r25 u26 => if r22 = r25 then some (0, u26) else some (6, u26))) := rfl
    have hm : zf_MMC_require_0 N 270 (nI j) (nI l) w = zbd (zf_MMC_attribute_0 N 1 (nI j) w) (fun r2 u3 => zbd (zf_MMC_attribute_0 N 1 (nI l) u3) (fun r5 u6 => if r2 = r5 then some ((), u6) else zbd (zf_MMC_stop_0 N 6 u6) (fun _ z => some ((), z)))) := rfl
    have ea : zf_MMC_attribute_0 N 1 (nI j) w = some (w.2.2.1 5 (40 * 1 + j), w) := mAttr (k := 1) (by omega) (by omega)
    have eb : zf_MMC_attribute_0 N 1 (nI l) w = some (w.2.2.1 5 (40 * 1 + l), w) := mAttr (k := 1) (by omega) (by omega)
    rw [hc, hm, zbd_eq (cTypeOf1 (sh 1 (by omega)).2.1 n1 hj), zbd_eq ea, zbd_eq (cTypeOf1 (sh 1 (by omega)).2.1 n1 hl), zbd_eq eb, show u.2.2.1 6 l = w.2.2.1 5 (40 * 1 + l) from (vs 1 (by omega) (by omega) (by omega) l hl).1, show u.2.2.1 6 j = w.2.2.1 5 (40 * 1 + j) from (vs 1 (by omega) (by omega) (by omega) j hj).1]
    by_cases h : w.2.2.1 5 (40 * 1 + j) = w.2.2.1 5 (40 * 1 + l)
    · rw [if_pos h, if_pos h]; exact zAn_0 hs hw rfl rfl
    · rw [if_neg h, if_neg h]
      obtain ⟨w', e, r⟩ := stop 6 (fun z => some ((), z)) (fun _ => rfl)
      exact ⟨6, rfl, by decide, w', e, r⟩
  have e2 : ga w 4 2 = nI (n 2) := (sh 2 (by omega)).2.2
  have hmem : ∀ (C : Option (Int32 × zU)) (R : Option (Unit × zU)), C = zbd (zf_CCThings_hasMemory_1 N u) (fun r1 u2 => if r1 = 0 then some (9, u2) else some (0, u2)) → R = zck (zin 2 6) (if (ga w 4 2) = 0 then zbd (zf_MMC_stop_0 N 9 w) (fun _ z => some ((), z)) else some ((), w)) → zAn N v0 s tk wn p C R u := by
    intro C R hC hR
    rw [hC, hR, zbd_eq (cMem (sh 2 (by omega)).2.1 n2), zck_pos (by decide), e2]
    by_cases h : n 2 = 0
    · rw [if_pos h, if_pos rfl, if_pos (show nI (n 2) = 0 from by rw [h]; rfl)]
      obtain ⟨w', e, r⟩ := stop 9 (fun z => some ((), z)) (fun _ => rfl)
      exact ⟨9, rfl, by decide, w', e, r⟩
    · rw [if_neg h, if_neg (show ¬ (1 : Int32) = 0 from by decide), if_neg (nI_ne0 (by omega) (by omega))]; exact zAn_0 hs hw rfl rfl
  by_cases i63 : i = 63
  · subst i63; exact hmem _ _ rfl rfl
  by_cases i64 : i = 64
  · subst i64; exact hmem _ _ rfl rfl
  by_cases i264 : i = 264
  · subst i264; exact hmem _ _ rfl rfl
  by_cases i266 : i = 266
  · subst i266; exact hmem _ _ rfl rfl
  by_cases i267 : i = 267
  · subst i267; exact hmem _ _ rfl rfl
  have hd270 : ∀ z, zf_MMC_require_0_b198 N i x y z = some ((), z) := fun z => by unfold zf_MMC_require_0_b198; rw [if_neg i270]; rfl
  have hd268 : ∀ z, zf_MMC_require_0_b170 N i x y z = some ((), z) := fun z => by unfold zf_MMC_require_0_b170; rw [if_neg i268]; exact hd270 z
  have hd210 : ∀ z, zf_MMC_require_0_b148 N i x y z = some ((), z) := fun z => by unfold zf_MMC_require_0_b148; rw [if_neg i210]; exact hd268 z
  have hr0 : zf_MMC_require_0 N i x y w = zf_MMC_require_0_b47 N i x y w := by
    unfold zf_MMC_require_0
    rw [if_neg i17]
    unfold zf_MMC_require_0_b23
    rw [if_neg i36]
  by_cases h40 : 40 ≤ i ∧ i ≤ 62
  · obtain ⟨h4, h6⟩ := h40
    obtain ⟨k, hk, rfl⟩ := nI_of (Int32.not_lt.mpr (Int32.le_trans (by decide : (0 : Int32) ≤ 40) h4))
    have k4 : 40 ≤ k := (nI_leI (a := 40) (by omega) hk).mp h4
    have k6 : k ≤ 62 := (nI_leI (b := 62) hk (by omega)).mp h6
    have hm : zf_MMC_require_0 N (nI k) x y w = zck (zin 2 6) (if (ga w 4 2) = 0 then zbd (zf_MMC_stop_0 N 9 w) (fun _ z => zf_MMC_require_0_b107 N (nI k) x y z) else zf_MMC_require_0_b107 N (nI k) x y w) := by
      rw [hr0]
      unfold zf_MMC_require_0_b47 zf_MMC_require_0_b80 zf_MMC_require_0_b85
      rw [if_neg (show ¬ nI k < 40 from nI_nlt (b := 40) (by omega) (by omega)), if_pos (show nI k ≤ 64 from nI_le (b := 64) (by omega) (by omega)), if_neg (show ¬ (1 : Int32) = 0 from by decide)]
    have hc : zf_CCCode_misfit_26 N (nI k) x y u = zbd (zf_CCCode_accessFault_26 N (nI k) x u) (fun r3 u4 => some (r3, u4)) := by
      unfold zf_CCCode_misfit_26
      rw [if_neg (show ¬ nI k < 40 from nI_nlt (b := 40) (by omega) (by omega)), if_neg (show ¬ (62 : Int32) < nI k from nI_nlt (a := 62) (by omega) (by omega))]
    have e40 : nI k - 40 = nI (k - 40) := nI_sub (b := 40) k4
    -- whether the power fits
    obtain ⟨fit, hfit1, hfit2⟩ : ∃ fit : Bool, zf_CCCode_accessFault_26_b39 N x (t_X_MOVED_BYTES.getD (k - 40) 0) u = some (if fit then 0 else 10, u) ∧ ∀ z, zf_MMC_require_0_b107 N (nI k) x y z = if fit then some ((), z) else zbd (zf_MMC_stop_0 N 10 z) (fun _ z => some ((), z)) := by
      have hb : ∀ z, zf_MMC_require_0_b107 N (nI k) x y z = if 0 < (lg_cmp ((Int32.toInt64 x) &&& 4294967295) 3) then zf_MMC_require_0_b142 N (nI k) x y z else if (1 <<< (x &&& 31)) ≤ t_X_MOVED_BYTES.getD (k - 40) 0 then zf_MMC_require_0_b148 N (nI k) x y z else zf_MMC_require_0_b142 N (nI k) x y z := by
        intro z
        unfold zf_MMC_require_0_b107
        rw [if_neg (show ¬ nI k < 40 from nI_nlt (b := 40) (by omega) (by omega)), if_neg (show ¬ (62 : Int32) < nI k from nI_nlt (a := 62) (by omega) (by omega)), zbd_eq (mBytes k4 k6)]
      have h142 : ∀ z, zf_MMC_require_0_b142 N (nI k) x y z = zbd (zf_MMC_stop_0 N 10 z) (fun _ z => some ((), z)) := by
        intro z
        unfold zf_MMC_require_0_b142
        congr 1
        funext _ z'
        exact hd210 z'
      have b8 := mBytes8 (k - 40) (by omega)
      unfold zf_CCCode_accessFault_26_b39 zf_CCCode_accessFault_26_b63
      by_cases x0 : x < 0
      · rw [if_pos x0]
        refine ⟨false, rfl, fun z => ?_⟩
        have hx := zlow_neg x0
        have hx2 := x.toBitVec.isLt
        rw [hb z, zand32, if_pos (show 0 < lg_cmp (Int64.ofNat x.toBitVec.toNat) 3 from (zcmp_gt (a := x.toBitVec.toNat) (b := 3) (by omega) (by omega)).mpr (by omega)), h142]; rfl
      · rw [if_neg x0]
        obtain ⟨j, hj, rfl⟩ := nI_of x0
        by_cases j3 : j ≤ 3
        · rw [if_neg (show ¬ (31 : Int32) ≤ nI j from nI_ge (b := 31) (by omega) (by omega))]
          have hbz : ∀ z, zf_MMC_require_0_b107 N (nI k) (nI j) y z = if (1 <<< (nI j &&& 31)) ≤ t_X_MOVED_BYTES.getD (k - 40) 0 then zf_MMC_require_0_b148 N (nI k) (nI j) y z else zf_MMC_require_0_b142 N (nI k) (nI j) y z := by
            intro z
            rw [hb z, zlow_nI hj, if_neg (fun q => by have := (zcmp_gt (b := 3) (by omega) (by omega)).mp q; omega)]
          by_cases hs : (1 <<< (nI j &&& 31)) ≤ t_X_MOVED_BYTES.getD (k - 40) 0
          · rw [if_neg (Int32.not_lt.mpr hs)]
            exact ⟨true, rfl, fun z => by rw [hbz z, if_pos hs, hd210]; rfl⟩
          · rw [if_pos (Int32.not_le.mp hs)]
            exact ⟨false, rfl, fun z => by rw [hbz z, if_neg hs, h142]; rfl⟩
        · have hbz : ∀ z, zf_MMC_require_0_b107 N (nI k) (nI j) y z = zf_MMC_require_0_b142 N (nI k) (nI j) y z := by
            intro z
            rw [hb z, zlow_nI hj, if_pos (show 0 < lg_cmp (Int64.ofNat j) 3 from (zcmp_gt (a := j) (b := 3) (by omega) (by omega)).mpr (by omega))]
          by_cases j31 : j < 31
          · have hsh := mShift j j31 (by omega)
            rw [if_neg (show ¬ (31 : Int32) ≤ nI j from nI_ge (b := 31) (by omega) (by omega)), if_pos (Int32.lt_of_le_of_lt b8 hsh)]
            exact ⟨false, rfl, fun z => by rw [hbz z, h142]; rfl⟩
          · rw [if_pos (show (31 : Int32) ≤ nI j from nI_le (a := 31) (by omega) (by omega))]
            exact ⟨false, rfl, fun z => by rw [hbz z, h142]; rfl⟩
    have hacc : zf_CCCode_accessFault_26 N (nI k) x u = some (if n 2 = 0 then 9 else if fit then 0 else 10, u) := by
      have et : (t_X_MOVED_BYTES.getD (nI (k - 40)).toNatClampNeg 0) = t_X_MOVED_BYTES.getD (k - 40) 0 := by rw [nI_clamp (by omega)]
      unfold zf_CCCode_accessFault_26
      rw [zbd_eq (cMem (sh 2 (by omega)).2.1 n2), e40, if_neg (nI_pos (by omega)), if_neg (show ¬ (23 : Int32) ≤ nI (k - 40) from nI_ge (b := 23) (by omega) (by omega)), zck_pos (zin_of (by omega) (by omega)), et, hfit1]
      by_cases h : n 2 = 0
      · rw [if_pos h, if_pos rfl, if_pos h]
      · rw [if_neg h, if_neg (show ¬ (1 : Int32) = 0 from by decide), if_neg h]
    rw [hc, hm, hacc, zck_pos (by decide), e2]
    by_cases h : n 2 = 0
    · rw [if_pos h, if_pos (show nI (n 2) = 0 from by rw [h]; rfl)]
      obtain ⟨w', e, r⟩ := mStop (N := N) 9 hw
      rw [zbd_eq e, hfit2]
      have hne : (aStop 9 s).2.2 ≠ 0 := by unfold aStop; rw [if_pos hs]; exact (by decide : (9 : Int32) ≠ 0)
      cases fit
      · obtain ⟨w2, e2, r2⟩ := mStop (N := N) 10 r
        rw [aStop_ne hne] at r2
        exact ⟨9, rfl, by decide, w2, by show zbd (zf_MMC_stop_0 N 10 w') (fun _ z => some ((), z)) = _; rw [zbd_eq e2], r2⟩
      · exact ⟨9, rfl, by decide, w', rfl, r⟩
    · rw [if_neg h, if_neg (nI_ne0 (by omega) (by omega)), hfit2]
      cases fit
      · obtain ⟨w', e, r⟩ := stop 10 (fun z => some ((), z)) (fun _ => rfl)
        exact ⟨10, rfl, by decide, w', e, r⟩
      · exact zAn_0 hs hw rfl rfl
  · have hc : zf_CCCode_misfit_26 N i x y u = some (0, u) := by
      have h19 : zf_CCCode_misfit_26_b19 N i x y u = some (0, u) := by
        unfold zf_CCCode_misfit_26_b19
        rw [if_neg i17, if_neg i36, if_neg i63, if_neg i64, if_neg i210, if_neg i264, if_neg i266, if_neg i267, if_neg i268, if_neg i270]
      unfold zf_CCCode_misfit_26
      by_cases a : i < 40
      · rw [if_pos a]; exact h19
      · rw [if_neg a]
        by_cases b : 62 < i
        · rw [if_pos b]; exact h19
        · exact absurd ⟨Int32.not_lt.mp a, Int32.not_lt.mp b⟩ h40
    have hm : zf_MMC_require_0 N i x y w = some ((), w) := by
      have h107 : zf_MMC_require_0_b107 N i x y w = some ((), w) := by
        unfold zf_MMC_require_0_b107
        by_cases a : i < 40
        · rw [if_pos a]; exact hd210 w
        · rw [if_neg a]
          by_cases b : 62 < i
          · rw [if_pos b]; exact hd210 w
          · exact absurd ⟨Int32.not_lt.mp a, Int32.not_lt.mp b⟩ h40
      have h59 : zf_MMC_require_0_b59 N i x y w = some ((), w) := by
        unfold zf_MMC_require_0_b59 zf_MMC_require_0_b85
        rw [if_neg i264, if_neg i266, if_neg i267, if_pos rfl]; exact h107
      rw [hr0]
      unfold zf_MMC_require_0_b47
      by_cases a : i < 40
      · rw [if_pos a]; exact h59
      · rw [if_neg a]
        by_cases b : i ≤ 64
        · exfalso
          have h0 : ¬ i < 0 := fun q => a (Int32.lt_trans q (by decide))
          obtain ⟨k, hk, rfl⟩ := nI_of h0
          have k4 : ¬ k < 40 := fun q => a (nI_lt (b := 40) q (by omega))
          have k6 : k ≤ 64 := (nI_leI (b := 64) hk (by omega)).mp b
          have c : k ≤ 62 ∨ k = 63 ∨ k = 64 := by omega
          rcases c with c | rfl | rfl
          · exact h40 ⟨nI_le (a := 40) (by omega) (by omega), nI_le (b := 62) c (by omega)⟩
          · exact i63 rfl
          · exact i64 rfl
        · rw [if_neg b]; exact h59
    exact zAn_0 hs hw hc hm
end MF
