/-! pure: is what an instruction names there? on both sides -/
abbrev zTh (ty : Nat) (n : Nat → Nat) (b lb rw' : Nat) (M : Nat → Nat) (w : zU) (i x y : Int32) : Prop :=
  ((i = 2 ∨ i = 3 ∨ i = 4) → x < nI ty) ∧ ((i = 12 ∨ i = 13 ∨ i = 14) → zHs (b + 1) x) ∧ (i = 14 → ∀ q, q < lb → zHs (b + 1) (w.2.2.1 9 q)) ∧ ((i = 16 ∨ i = 210) → zHs (n 0) x) ∧ (i = 17 → (zHs ty x ∧ zHs (n 1) y)) ∧ ((i = 32 ∨ i = 33 ∨ i = 34) → x.toBitVec.toNat < zSum M rw') ∧ ((i = 35 ∨ i = 36) → zHs (n 3) x) ∧ ((i = 37 ∨ i = 38 ∨ i = 271 ∨ i = 272 ∨ i = 273) → zHs (n 1) x) ∧ (i = 268 → (zHs (n 4) x ∧ zHs (n 1) y)) ∧ (i = 270 → (zHs (n 1) x ∧ zHs (n 1) y))
theorem zMissing {N ty b c lb rw' lc : Nat} {n : Nat → Nat} {H : Nat → Nat} {M : Nat → Nat} {u w : zU} (hN : 1000 ≤ N) (hT : RT ty n u w) (hB : RB ty b c H u w) (hL : RL lb rw' lc M u w) (i x y : Int32) : ∃ ok : Bool, zf_CCCode_namesWhatIsMissing_26 N i x y u = some (if ok then 0 else 1, u) ∧ zf_MMC_isThere_0 N i x y w = some (if ok then 1 else 0, w) ∧ (ok = true → zTh ty n b lb rw' M w i x y) := by
  have t2 := hT.1.2.1
  have t3 := hT.1.2.2
  have t1 := hT.1.1
  have sh := hT.2.2.2.1
  have b2 := hB.1.2.1
  have b3 := hB.1.2.2.1
  have b4 := hB.1.2.2.2
  obtain ⟨l1, l2, l3, l4⟩ := hL.1
  have c0 : ∀ x, zf_CCShelf_has_8 N x u = some (if zHs (n 0) x then 1 else 0, u) := fun x => cHas0 (sh 0 (by omega)).2.1
  have m0 : ∀ x, zf_MMC_has_0 N 0 x w = some (if zHs (n 0) x then 1 else 0, w) := fun x => mHas (k := 0) (by omega) (sh 0 (by omega)).1 (sh 0 (by omega)).2.2
  have c1 : ∀ x, zf_CCShelf_has_11 N x u = some (if zHs (n 1) x then 1 else 0, u) := fun x => cHas1 (sh 1 (by omega)).2.1
  have m1 : ∀ x, zf_MMC_has_0 N 1 x w = some (if zHs (n 1) x then 1 else 0, w) := fun x => mHas (k := 1) (by omega) (sh 1 (by omega)).1 (sh 1 (by omega)).2.2
  have c3 : ∀ x, zf_CCShelf_has_17 N x u = some (if zHs (n 3) x then 1 else 0, u) := fun x => cHas3 (sh 3 (by omega)).2.1
  have m3 : ∀ x, zf_MMC_has_0 N 3 x w = some (if zHs (n 3) x then 1 else 0, w) := fun x => mHas (k := 3) (by omega) (sh 3 (by omega)).1 (sh 3 (by omega)).2.2
  have c4 : ∀ x, zf_CCShelf_has_20 N x u = some (if zHs (n 4) x then 1 else 0, u) := fun x => cHas4 (sh 4 (by omega)).2.1
  have m4 : ∀ x, zf_MMC_has_0 N 4 x w = some (if zHs (n 4) x then 1 else 0, w) := fun x => mHas (k := 4) (by omega) (sh 4 (by omega)).1 (sh 4 (by omega)).2.2
  have c5 : ∀ x, zf_CCShelf_has_23 N x u = some (if zHs (n 5) x then 1 else 0, u) := fun x => cHas5 (sh 5 (by omega)).2.1
  have m5 : ∀ x, zf_MMC_has_0 N 5 x w = some (if zHs (n 5) x then 1 else 0, w) := fun x => mHas (k := 5) (by omega) (sh 5 (by omega)).1 (sh 5 (by omega)).2.2
  have cT : ∀ x, zf_CCThings_hasType_1 N x u = some (if zHs ty x then 1 else 0, u) := fun x => cHasType t2
  have gF : ∃ ok : Bool, zf_CCCode_namesWhatIsMissing_26_b266 N x u = some (if ok then 0 else 1, u) ∧ zf_MMC_isThere_0_b278 N x w = some (if ok then 1 else 0, w) ∧ (ok = true → zHs (n 0) x) := by
    by_cases h : zHs (n 0) x
    · refine ⟨true, ?_, ?_, fun _ => h⟩
      · unfold zf_CCCode_namesWhatIsMissing_26_b266; rw [zbd_eq (c0 x), if_pos h, if_neg (by decide)]; rfl
      · unfold zf_MMC_isThere_0_b278; rw [zbd_eq (m0 x), if_pos h]; rfl
    · refine ⟨false, ?_, ?_, fun q => absurd q (by decide)⟩
      · unfold zf_CCCode_namesWhatIsMissing_26_b266; rw [zbd_eq (c0 x), if_neg h, if_pos rfl]; rfl
      · unfold zf_MMC_isThere_0_b278; rw [zbd_eq (m0 x), if_neg h]; rfl
  have gG : ∃ ok : Bool, zf_CCCode_namesWhatIsMissing_26_b334 N x u = some (if ok then 0 else 1, u) ∧ zf_MMC_isThere_0_b327 N x w = some (if ok then 1 else 0, w) ∧ (ok = true → zHs (n 3) x) := by
    by_cases h : zHs (n 3) x
    · refine ⟨true, ?_, ?_, fun _ => h⟩
      · unfold zf_CCCode_namesWhatIsMissing_26_b334; rw [zbd_eq (c3 x), if_pos h, if_neg (by decide)]; rfl
      · unfold zf_MMC_isThere_0_b327; rw [zbd_eq (m3 x), if_pos h]; rfl
    · refine ⟨false, ?_, ?_, fun q => absurd q (by decide)⟩
      · unfold zf_CCCode_namesWhatIsMissing_26_b334; rw [zbd_eq (c3 x), if_neg h, if_pos rfl]; rfl
      · unfold zf_MMC_isThere_0_b327; rw [zbd_eq (m3 x), if_neg h]; rfl
  have gTb : ∃ ok : Bool, zf_CCCode_namesWhatIsMissing_26_b354 N x u = some (if ok then 0 else 1, u) ∧ zf_MMC_isThere_0_b334 N x w = some (if ok then 1 else 0, w) ∧ (ok = true → zHs (n 1) x) := by
    by_cases h : zHs (n 1) x
    · refine ⟨true, ?_, ?_, fun _ => h⟩
      · unfold zf_CCCode_namesWhatIsMissing_26_b354; rw [zbd_eq (c1 x), if_pos h, if_neg (by decide)]; rfl
      · unfold zf_MMC_isThere_0_b334; rw [zbd_eq (m1 x), if_pos h]; rfl
    · refine ⟨false, ?_, ?_, fun q => absurd q (by decide)⟩
      · unfold zf_CCCode_namesWhatIsMissing_26_b354; rw [zbd_eq (c1 x), if_neg h, if_pos rfl]; rfl
      · unfold zf_MMC_isThere_0_b334; rw [zbd_eq (m1 x), if_neg h]; rfl
  have gD : ∃ ok : Bool, zf_CCCode_namesWhatIsMissing_26_b374 N x u = some (if ok then 0 else 1, u) ∧ zf_MMC_isThere_0_b341 N x w = some (if ok then 1 else 0, w) ∧ (ok = true → zHs (n 5) x) := by
    by_cases h : zHs (n 5) x
    · refine ⟨true, ?_, ?_, fun _ => h⟩
      · unfold zf_CCCode_namesWhatIsMissing_26_b374; rw [zbd_eq (c5 x), if_pos h, if_neg (by decide)]; rfl
      · unfold zf_MMC_isThere_0_b341; rw [zbd_eq (m5 x), if_pos h]; rfl
    · refine ⟨false, ?_, ?_, fun q => absurd q (by decide)⟩
      · unfold zf_CCCode_namesWhatIsMissing_26_b374; rw [zbd_eq (c5 x), if_neg h, if_pos rfl]; rfl
      · unfold zf_MMC_isThere_0_b341; rw [zbd_eq (m5 x), if_neg h]; rfl
  have gT : ∃ ok : Bool, zf_CCCode_namesWhatIsMissing_26_b204 N x u = some (if ok then 0 else 1, u) ∧ zf_MMC_isThere_0_b204 N x w = some (if ok then 1 else 0, w) ∧ (ok = true → x < nI ty) := by
    unfold zf_CCCode_namesWhatIsMissing_26_b204 zf_MMC_isThere_0_b204
    rw [t3]
    by_cases h1 : x < 0
    · have h2 : ¬ nI ty ≤ x := fun q => Int32.not_le.mpr h1 (Int32.le_trans (nI_pos' (by omega)) q)
      rw [if_pos h1, if_neg h2]
      exact ⟨true, rfl, rfl, fun _ => Int32.not_le.mp h2⟩
    · rw [if_neg h1, zbd_eq (cT x)]
      by_cases h2 : nI ty ≤ x
      · rw [if_neg (show ¬ zHs ty x from fun q => Int32.not_le.mpr q.2 h2), if_pos rfl, if_pos h2]
        exact ⟨false, rfl, rfl, fun q => absurd q (by decide)⟩
      · rw [if_pos (show zHs ty x from ⟨Int32.not_lt.mp h1, Int32.not_le.mp h2⟩), if_neg (show ¬ (1 : Int32) = 0 from by decide), if_neg h2]
        exact ⟨true, rfl, rfl, fun _ => Int32.not_le.mp h2⟩
  have gL : ∃ ok : Bool, zf_CCCode_namesWhatIsMissing_26_b225 N x u = some (if ok then 0 else 1, u) ∧ zf_MMC_isThere_0_b218 N x w = some (if ok then 1 else 0, w) ∧ (ok = true → zHs (b + 1) x) := by
    unfold zf_CCCode_namesWhatIsMissing_26_b225 zf_MMC_isThere_0_b218
    rw [zbd_eq (cHasBlock b3), zbd_eq (mIsLabel b2 b4)]
    by_cases h : zHs (b + 1) x
    · rw [if_pos h, if_neg (show ¬ (1 : Int32) = 0 from by decide)]
      exact ⟨true, rfl, rfl, fun _ => h⟩
    · rw [if_neg h, if_pos rfl]
      exact ⟨false, rfl, rfl, fun q => absurd q (by decide)⟩
  have gLoc : ∃ ok : Bool, zf_CCCode_namesWhatIsMissing_26_b317 N x u = some (if ok then 0 else 1, u) ∧ zf_MMC_isThere_0_b312 N x w = some (if ok then 1 else 0, w) ∧ (ok = true → x.toBitVec.toNat < zSum M rw') := by
    have hx := x.toBitVec.isLt
    obtain ⟨R, R', q1, q2, q3⟩ := zLocal (N := N) (m := x.toBitVec.toNat) hL hx rw' 0 N (by omega) (by have := hL.2.2.2.1.1; have := hL.2.2.1.1; omega) (Nat.zero_le _)
    have q1' : zf_MMC_localType_0 N x w = some (R, w) := by unfold zf_MMC_localType_0; rw [zand32]; exact q1
    have bd := zSum_bd (M := M) (rw' := rw') (fun i hi => (hL.2.2.2.2.1 i hi).2.2.2.1) rw' (Nat.le_refl _)
    have hr := hL.2.2.2.1.1
    have hl := hL.2.2.1.1
    have hw : zf_CCC_withoutSign N x u = some (Int64.ofNat x.toBitVec.toNat, u) := by unfold zf_CCC_withoutSign; rw [zand32]
    unfold zf_CCCode_namesWhatIsMissing_26_b317 zf_CCLocals_has_27 zf_MMC_isThere_0_b312
    rw [zbd_eq q1', zbd_eq (k := fun r1 u2 => if 0 ≤ lg_cmp r1 (gj u2 0) then zf_CCLocals_has_27_b17 N 0 u2 else zf_CCLocals_has_27_b17 N 1 u2) hw, hL.2.2.2.2.2]
    rcases q3 with ⟨a1, a2, a3⟩ | ⟨a1, a2, a3⟩
    · rw [if_neg (fun q => by have := (zcmp (by omega) (by omega)).mp q; omega), if_neg (zV_ne a3)]
      exact ⟨true, rfl, rfl, fun _ => a1⟩
    · rw [if_pos ((zcmp (by omega) (by omega)).mpr a1), if_pos a2]
      exact ⟨false, rfl, rfl, fun q => absurd q (by decide)⟩
  by_cases i2 : i = 2
  · subst i2
    obtain ⟨ok, a1, a2, a3⟩ := gT
    exact ⟨ok, (show zf_CCCode_namesWhatIsMissing_26 N 2 x y u = zf_CCCode_namesWhatIsMissing_26_b204 N x u from rfl).trans a1, (show zf_MMC_isThere_0 N 2 x y w = zf_MMC_isThere_0_b204 N x w from rfl).trans a2, fun o => ⟨fun _ => a3 o, fun h => absurd h (by decide), fun h => absurd h (by decide), fun h => absurd h (by decide), fun h => absurd h (by decide), fun h => absurd h (by decide), fun h => absurd h (by decide), fun h => absurd h (by decide), fun h => absurd h (by decide), fun h => absurd h (by decide)⟩⟩
  by_cases i3 : i = 3
  · subst i3
    obtain ⟨ok, a1, a2, a3⟩ := gT
    exact ⟨ok, (show zf_CCCode_namesWhatIsMissing_26 N 3 x y u = zf_CCCode_namesWhatIsMissing_26_b204 N x u from rfl).trans a1, (show zf_MMC_isThere_0 N 3 x y w = zf_MMC_isThere_0_b204 N x w from rfl).trans a2, fun o => ⟨fun _ => a3 o, fun h => absurd h (by decide), fun h => absurd h (by decide), fun h => absurd h (by decide), fun h => absurd h (by decide), fun h => absurd h (by decide), fun h => absurd h (by decide), fun h => absurd h (by decide), fun h => absurd h (by decide), fun h => absurd h (by decide)⟩⟩
  by_cases i4 : i = 4
  · subst i4
    obtain ⟨ok, a1, a2, a3⟩ := gT
    exact ⟨ok, (show zf_CCCode_namesWhatIsMissing_26 N 4 x y u = zf_CCCode_namesWhatIsMissing_26_b204 N x u from rfl).trans a1, (show zf_MMC_isThere_0 N 4 x y w = zf_MMC_isThere_0_b204 N x w from rfl).trans a2, fun o => ⟨fun _ => a3 o, fun h => absurd h (by decide), fun h => absurd h (by decide), fun h => absurd h (by decide), fun h => absurd h (by decide), fun h => absurd h (by decide), fun h => absurd h (by decide), fun h => absurd h (by decide), fun h => absurd h (by decide), fun h => absurd h (by decide)⟩⟩
  by_cases i12 : i = 12
  · subst i12
    obtain ⟨ok, a1, a2, a3⟩ := gL
    exact ⟨ok, (show zf_CCCode_namesWhatIsMissing_26 N 12 x y u = zf_CCCode_namesWhatIsMissing_26_b225 N x u from rfl).trans a1, (show zf_MMC_isThere_0 N 12 x y w = zf_MMC_isThere_0_b218 N x w from rfl).trans a2, fun o => ⟨fun h => absurd h (by decide), fun _ => a3 o, fun h => absurd h (by decide), fun h => absurd h (by decide), fun h => absurd h (by decide), fun h => absurd h (by decide), fun h => absurd h (by decide), fun h => absurd h (by decide), fun h => absurd h (by decide), fun h => absurd h (by decide)⟩⟩
  by_cases i13 : i = 13
  · subst i13
    obtain ⟨ok, a1, a2, a3⟩ := gL
    exact ⟨ok, (show zf_CCCode_namesWhatIsMissing_26 N 13 x y u = zf_CCCode_namesWhatIsMissing_26_b225 N x u from rfl).trans a1, (show zf_MMC_isThere_0 N 13 x y w = zf_MMC_isThere_0_b218 N x w from rfl).trans a2, fun o => ⟨fun h => absurd h (by decide), fun _ => a3 o, fun h => absurd h (by decide), fun h => absurd h (by decide), fun h => absurd h (by decide), fun h => absurd h (by decide), fun h => absurd h (by decide), fun h => absurd h (by decide), fun h => absurd h (by decide), fun h => absurd h (by decide)⟩⟩
  by_cases i14 : i = 14
  · subst i14
    obtain ⟨ok, p1, p2, p3⟩ := zLabs (N := N) b2 b3 b4 l1 l2 l3 l4 lb 0 N (by omega) (by omega)
    have e1 : zf_CCCode_isLabelMissing_26 N u = some (if ok then 0 else 1, u) := p1
    have e2 : zf_MMC_isThere_0_b234 N N 1 0 w = some (if ok then 1 else 0, w) := p2
    have d2 : ∀ (j i m : Nat), i + j = lb → j < m → zf_MMC_isThere_0_b234 N m 0 (nI i) w = some (0, w) := by
      intro j
      induction j with
      | zero =>
        intro i m e1 e2
        obtain ⟨q, rfl⟩ : ∃ q, m = q + 1 := ⟨m - 1, by omega⟩
        rw [zf_MMC_isThere_0_b234, l3, if_pos (nI_le (by omega) (by omega))]; rfl
      | succ j ih =>
        intro i m e1 e2
        obtain ⟨q, rfl⟩ : ∃ q, m = q + 1 := ⟨m - 1, by omega⟩
        rw [zf_MMC_isThere_0_b234, l3, if_neg (nI_ge (by omega) (by omega)), if_pos rfl]
        unfold zf_MMC_isThere_0_b266 zf_MMC_isThere_0_b267
        rw [nI_1]
        exact ih (i + 1) q (by omega) (by omega)
    have d3 : zf_MMC_isThere_0_b234 N N 0 0 w = some (0, w) := d2 lb 0 N (by omega) (by omega)
    have hc : zf_CCCode_namesWhatIsMissing_26 N 14 x y u = zbd (zf_CCStack_hasBlock_31 N x u) (fun r7 u8 => if r7 = 0 then zf_CCCode_namesWhatIsMissing_26_b260 N u8 else zbd (zf_CCCode_isLabelMissing_26 N u8) (fun r11 u12 => if r11 = 0 then zf_CCCode_namesWhatIsMissing_26_b265 N 0 u12 else zf_CCCode_namesWhatIsMissing_26_b260 N u12)) := rfl
    have hm : zf_MMC_isThere_0 N 14 x y w = zbd (zf_MMC_isLabel_0 N x w) (fun r7 u8 => zf_MMC_isThere_0_b234 N N r7 0 u8) := rfl
    rw [hc, hm, zbd_eq (cHasBlock b3), zbd_eq (mIsLabel b2 b4)]
    by_cases h : zHs (b + 1) x
    · rw [if_pos h, if_neg (show ¬ (1 : Int32) = 0 from by decide), zbd_eq e1, e2]
      refine ⟨ok, ?_, rfl, fun o => ⟨fun h => absurd h (by decide), fun _ => h, fun _ => fun q hq => p3 o q (Nat.zero_le _) hq, fun h => absurd h (by decide), fun h => absurd h (by decide), fun h => absurd h (by decide), fun h => absurd h (by decide), fun h => absurd h (by decide), fun h => absurd h (by decide), fun h => absurd h (by decide)⟩⟩
      cases ok <;> rfl
    · rw [if_neg h, if_pos rfl, d3]
      exact ⟨false, rfl, rfl, fun q => absurd q (by decide)⟩
  by_cases i16 : i = 16
  · subst i16
    obtain ⟨ok, a1, a2, a3⟩ := gF
    exact ⟨ok, (show zf_CCCode_namesWhatIsMissing_26 N 16 x y u = zf_CCCode_namesWhatIsMissing_26_b266 N x u from rfl).trans a1, (show zf_MMC_isThere_0 N 16 x y w = zf_MMC_isThere_0_b278 N x w from rfl).trans a2, fun o => ⟨fun h => absurd h (by decide), fun h => absurd h (by decide), fun h => absurd h (by decide), fun _ => a3 o, fun h => absurd h (by decide), fun h => absurd h (by decide), fun h => absurd h (by decide), fun h => absurd h (by decide), fun h => absurd h (by decide), fun h => absurd h (by decide)⟩⟩
  by_cases i17 : i = 17
  · subst i17
    have hc : zf_CCCode_namesWhatIsMissing_26 N 17 x y u = zbd (zf_CCThings_hasType_1 N x u) (fun r17 u18 => if r17 = 0 then zf_CCCode_namesWhatIsMissing_26_b311 N u18 else zbd (zf_CCShelf_has_11 N y u18) (fun r21 u22 => if r21 = 0 then zf_CCCode_namesWhatIsMissing_26_b311 N u22 else zf_CCCode_namesWhatIsMissing_26_b316 N 0 u22)) := rfl
    have hm : zf_MMC_isThere_0 N 17 x y w = (if x < 0 then zf_MMC_isThere_0_b310 N w else if (gi w 0) ≤ x then zf_MMC_isThere_0_b310 N w else zbd (zf_MMC_has_0 N 1 y w) (fun r14 u15 => if r14 = 0 then zf_MMC_isThere_0_b310 N u15 else zf_MMC_isThere_0_b311 N 1 u15)) := rfl
    rw [hc, hm, zbd_eq (cT x), t3]
    by_cases h1 : x < 0
    · rw [if_pos h1, if_neg (show ¬ zHs ty x from fun q => Int32.not_le.mpr h1 q.1), if_pos rfl]
      exact ⟨false, rfl, rfl, fun q => absurd q (by decide)⟩
    · rw [if_neg h1]
      by_cases h2 : nI ty ≤ x
      · rw [if_pos h2, if_neg (show ¬ zHs ty x from fun q => Int32.not_le.mpr q.2 h2), if_pos rfl]
        exact ⟨false, rfl, rfl, fun q => absurd q (by decide)⟩
      · have h3 : zHs ty x := ⟨Int32.not_lt.mp h1, Int32.not_le.mp h2⟩
        rw [if_neg h2, if_pos h3, if_neg (show ¬ (1 : Int32) = 0 from by decide), zbd_eq (c1 y), zbd_eq (m1 y)]
        by_cases h : zHs (n 1) y
        · rw [if_pos h, if_neg (show ¬ (1 : Int32) = 0 from by decide), if_neg (show ¬ (1 : Int32) = 0 from by decide)]
          exact ⟨true, rfl, rfl, fun o => ⟨fun h => absurd h (by decide), fun h => absurd h (by decide), fun h => absurd h (by decide), fun h => absurd h (by decide), fun _ => ⟨h3, h⟩, fun h => absurd h (by decide), fun h => absurd h (by decide), fun h => absurd h (by decide), fun h => absurd h (by decide), fun h => absurd h (by decide)⟩⟩
        · rw [if_neg h, if_pos rfl, if_pos rfl]
          exact ⟨false, rfl, rfl, fun q => absurd q (by decide)⟩
  by_cases i32 : i = 32
  · subst i32
    obtain ⟨ok, a1, a2, a3⟩ := gLoc
    exact ⟨ok, (show zf_CCCode_namesWhatIsMissing_26 N 32 x y u = zf_CCCode_namesWhatIsMissing_26_b317 N x u from rfl).trans a1, (show zf_MMC_isThere_0 N 32 x y w = zf_MMC_isThere_0_b312 N x w from rfl).trans a2, fun o => ⟨fun h => absurd h (by decide), fun h => absurd h (by decide), fun h => absurd h (by decide), fun h => absurd h (by decide), fun h => absurd h (by decide), fun _ => a3 o, fun h => absurd h (by decide), fun h => absurd h (by decide), fun h => absurd h (by decide), fun h => absurd h (by decide)⟩⟩
  by_cases i33 : i = 33
  · subst i33
    obtain ⟨ok, a1, a2, a3⟩ := gLoc
    exact ⟨ok, (show zf_CCCode_namesWhatIsMissing_26 N 33 x y u = zf_CCCode_namesWhatIsMissing_26_b317 N x u from rfl).trans a1, (show zf_MMC_isThere_0 N 33 x y w = zf_MMC_isThere_0_b312 N x w from rfl).trans a2, fun o => ⟨fun h => absurd h (by decide), fun h => absurd h (by decide), fun h => absurd h (by decide), fun h => absurd h (by decide), fun h => absurd h (by decide), fun _ => a3 o, fun h => absurd h (by decide), fun h => absurd h (by decide), fun h => absurd h (by decide), fun h => absurd h (by decide)⟩⟩
  by_cases i34 : i = 34
  · subst i34
    obtain ⟨ok, a1, a2, a3⟩ := gLoc
    exact ⟨ok, (show zf_CCCode_namesWhatIsMissing_26 N 34 x y u = zf_CCCode_namesWhatIsMissing_26_b317 N x u from rfl).trans a1, (show zf_MMC_isThere_0 N 34 x y w = zf_MMC_isThere_0_b312 N x w from rfl).trans a2, fun o => ⟨fun h => absurd h (by decide), fun h => absurd h (by decide), fun h => absurd h (by decide), fun h => absurd h (by decide), fun h => absurd h (by decide), fun _ => a3 o, fun h => absurd h (by decide), fun h => absurd h (by decide), fun h => absurd h (by decide), fun h => absurd h (by decide)⟩⟩
  by_cases i35 : i = 35
  · subst i35
    obtain ⟨ok, a1, a2, a3⟩ := gG
    exact ⟨ok, (show zf_CCCode_namesWhatIsMissing_26 N 35 x y u = zf_CCCode_namesWhatIsMissing_26_b334 N x u from rfl).trans a1, (show zf_MMC_isThere_0 N 35 x y w = zf_MMC_isThere_0_b327 N x w from rfl).trans a2, fun o => ⟨fun h => absurd h (by decide), fun h => absurd h (by decide), fun h => absurd h (by decide), fun h => absurd h (by decide), fun h => absurd h (by decide), fun h => absurd h (by decide), fun _ => a3 o, fun h => absurd h (by decide), fun h => absurd h (by decide), fun h => absurd h (by decide)⟩⟩
  by_cases i36 : i = 36
  · subst i36
    obtain ⟨ok, a1, a2, a3⟩ := gG
    exact ⟨ok, (show zf_CCCode_namesWhatIsMissing_26 N 36 x y u = zf_CCCode_namesWhatIsMissing_26_b334 N x u from rfl).trans a1, (show zf_MMC_isThere_0 N 36 x y w = zf_MMC_isThere_0_b327 N x w from rfl).trans a2, fun o => ⟨fun h => absurd h (by decide), fun h => absurd h (by decide), fun h => absurd h (by decide), fun h => absurd h (by decide), fun h => absurd h (by decide), fun h => absurd h (by decide), fun _ => a3 o, fun h => absurd h (by decide), fun h => absurd h (by decide), fun h => absurd h (by decide)⟩⟩
  by_cases i37 : i = 37
  · subst i37
    obtain ⟨ok, a1, a2, a3⟩ := gTb
    exact ⟨ok, (show zf_CCCode_namesWhatIsMissing_26 N 37 x y u = zf_CCCode_namesWhatIsMissing_26_b354 N x u from rfl).trans a1, (show zf_MMC_isThere_0 N 37 x y w = zf_MMC_isThere_0_b334 N x w from rfl).trans a2, fun o => ⟨fun h => absurd h (by decide), fun h => absurd h (by decide), fun h => absurd h (by decide), fun h => absurd h (by decide), fun h => absurd h (by decide), fun h => absurd h (by decide), fun h => absurd h (by decide), fun _ => a3 o, fun h => absurd h (by decide), fun h => absurd h (by decide)⟩⟩
  by_cases i38 : i = 38
  · subst i38
    obtain ⟨ok, a1, a2, a3⟩ := gTb
    exact ⟨ok, (show zf_CCCode_namesWhatIsMissing_26 N 38 x y u = zf_CCCode_namesWhatIsMissing_26_b354 N x u from rfl).trans a1, (show zf_MMC_isThere_0 N 38 x y w = zf_MMC_isThere_0_b334 N x w from rfl).trans a2, fun o => ⟨fun h => absurd h (by decide), fun h => absurd h (by decide), fun h => absurd h (by decide), fun h => absurd h (by decide), fun h => absurd h (by decide), fun h => absurd h (by decide), fun h => absurd h (by decide), fun _ => a3 o, fun h => absurd h (by decide), fun h => absurd h (by decide)⟩⟩
  by_cases i210 : i = 210
  · subst i210
    obtain ⟨ok, a1, a2, a3⟩ := gF
    exact ⟨ok, (show zf_CCCode_namesWhatIsMissing_26 N 210 x y u = zf_CCCode_namesWhatIsMissing_26_b266 N x u from rfl).trans a1, (show zf_MMC_isThere_0 N 210 x y w = zf_MMC_isThere_0_b278 N x w from rfl).trans a2, fun o => ⟨fun h => absurd h (by decide), fun h => absurd h (by decide), fun h => absurd h (by decide), fun _ => a3 o, fun h => absurd h (by decide), fun h => absurd h (by decide), fun h => absurd h (by decide), fun h => absurd h (by decide), fun h => absurd h (by decide), fun h => absurd h (by decide)⟩⟩
  by_cases i264 : i = 264
  · subst i264
    obtain ⟨ok, a1, a2, a3⟩ := gD
    exact ⟨ok, (show zf_CCCode_namesWhatIsMissing_26 N 264 x y u = zf_CCCode_namesWhatIsMissing_26_b374 N x u from rfl).trans a1, (show zf_MMC_isThere_0 N 264 x y w = zf_MMC_isThere_0_b341 N x w from rfl).trans a2, fun o => ⟨fun h => absurd h (by decide), fun h => absurd h (by decide), fun h => absurd h (by decide), fun h => absurd h (by decide), fun h => absurd h (by decide), fun h => absurd h (by decide), fun h => absurd h (by decide), fun h => absurd h (by decide), fun h => absurd h (by decide), fun h => absurd h (by decide)⟩⟩
  by_cases i265 : i = 265
  · subst i265
    obtain ⟨ok, a1, a2, a3⟩ := gD
    exact ⟨ok, (show zf_CCCode_namesWhatIsMissing_26 N 265 x y u = zf_CCCode_namesWhatIsMissing_26_b374 N x u from rfl).trans a1, (show zf_MMC_isThere_0 N 265 x y w = zf_MMC_isThere_0_b341 N x w from rfl).trans a2, fun o => ⟨fun h => absurd h (by decide), fun h => absurd h (by decide), fun h => absurd h (by decide), fun h => absurd h (by decide), fun h => absurd h (by decide), fun h => absurd h (by decide), fun h => absurd h (by decide), fun h => absurd h (by decide), fun h => absurd h (by decide), fun h => absurd h (by decide)⟩⟩
  by_cases i268 : i = 268
  · subst i268
    have hc : zf_CCCode_namesWhatIsMissing_26 N 268 x y u = zbd (zf_CCShelf_has_20 N x u) (fun r36 u37 => if r36 = 0 then zf_CCCode_namesWhatIsMissing_26_b422 N u37 else zbd (zf_CCShelf_has_11 N y u37) (fun r40 u41 => if r40 = 0 then zf_CCCode_namesWhatIsMissing_26_b422 N u41 else zf_CCCode_namesWhatIsMissing_26_b427 N 0 u41)) := rfl
    have hm : zf_MMC_isThere_0 N 268 x y w = zbd (zf_MMC_has_0 N 4 x w) (fun r29 u30 => if r29 = 0 then zf_MMC_isThere_0_b370 N u30 else zbd (zf_MMC_has_0 N 1 y u30) (fun r33 u34 => if r33 = 0 then zf_MMC_isThere_0_b370 N u34 else zf_MMC_isThere_0_b371 N 1 u34)) := rfl
    rw [hc, hm, zbd_eq (c4 x), zbd_eq (m4 x)]
    by_cases h3 : zHs (n 4) x
    · rw [if_pos h3, if_neg (show ¬ (1 : Int32) = 0 from by decide), if_neg (show ¬ (1 : Int32) = 0 from by decide), zbd_eq (c1 y), zbd_eq (m1 y)]
      by_cases h : zHs (n 1) y
      · rw [if_pos h, if_neg (show ¬ (1 : Int32) = 0 from by decide), if_neg (show ¬ (1 : Int32) = 0 from by decide)]
        exact ⟨true, rfl, rfl, fun o => ⟨fun h => absurd h (by decide), fun h => absurd h (by decide), fun h => absurd h (by decide), fun h => absurd h (by decide), fun h => absurd h (by decide), fun h => absurd h (by decide), fun h => absurd h (by decide), fun h => absurd h (by decide), fun _ => ⟨h3, h⟩, fun h => absurd h (by decide)⟩⟩
      · rw [if_neg h, if_pos rfl, if_pos rfl]
        exact ⟨false, rfl, rfl, fun q => absurd q (by decide)⟩
    · rw [if_neg h3, if_pos rfl, if_pos rfl]
      exact ⟨false, rfl, rfl, fun q => absurd q (by decide)⟩
  by_cases i270 : i = 270
  · subst i270
    have hc : zf_CCCode_namesWhatIsMissing_26 N 270 x y u = zbd (zf_CCShelf_has_11 N x u) (fun r36 u37 => if r36 = 0 then zf_CCCode_namesWhatIsMissing_26_b476 N u37 else zbd (zf_CCShelf_has_11 N y u37) (fun r40 u41 => if r40 = 0 then zf_CCCode_namesWhatIsMissing_26_b476 N u41 else zf_CCCode_namesWhatIsMissing_26_b481 N 0 u41)) := rfl
    have hm : zf_MMC_isThere_0 N 270 x y w = zbd (zf_MMC_has_0 N 1 x w) (fun r29 u30 => if r29 = 0 then zf_MMC_isThere_0_b401 N u30 else zbd (zf_MMC_has_0 N 1 y u30) (fun r33 u34 => if r33 = 0 then zf_MMC_isThere_0_b401 N u34 else zf_MMC_isThere_0_b402 N 1 u34)) := rfl
    rw [hc, hm, zbd_eq (c1 x), zbd_eq (m1 x)]
    by_cases h3 : zHs (n 1) x
    · rw [if_pos h3, if_neg (show ¬ (1 : Int32) = 0 from by decide), if_neg (show ¬ (1 : Int32) = 0 from by decide), zbd_eq (c1 y), zbd_eq (m1 y)]
      by_cases h : zHs (n 1) y
      · rw [if_pos h, if_neg (show ¬ (1 : Int32) = 0 from by decide), if_neg (show ¬ (1 : Int32) = 0 from by decide)]
        exact ⟨true, rfl, rfl, fun o => ⟨fun h => absurd h (by decide), fun h => absurd h (by decide), fun h => absurd h (by decide), fun h => absurd h (by decide), fun h => absurd h (by decide), fun h => absurd h (by decide), fun h => absurd h (by decide), fun h => absurd h (by decide), fun h => absurd h (by decide), fun _ => ⟨h3, h⟩⟩⟩
      · rw [if_neg h, if_pos rfl, if_pos rfl]
        exact ⟨false, rfl, rfl, fun q => absurd q (by decide)⟩
    · rw [if_neg h3, if_pos rfl, if_pos rfl]
      exact ⟨false, rfl, rfl, fun q => absurd q (by decide)⟩
  by_cases i269 : i = 269
  · subst i269
    have hc : zf_CCCode_namesWhatIsMissing_26 N 269 x y u = zbd (zf_CCShelf_has_20 N x u) (fun r45 u46 => if r45 = 0 then zf_CCCode_namesWhatIsMissing_26_b447 N 1 u46 else zf_CCCode_namesWhatIsMissing_26_b447 N 0 u46) := rfl
    have hm : zf_MMC_isThere_0 N 269 x y w = zbd (zf_MMC_has_0 N 4 x w) (fun r38 u39 => zck (zbz r38) (some (r38, u39))) := rfl
    rw [hc, hm, zbd_eq (c4 x), zbd_eq (m4 x)]
    by_cases h : zHs (n 4) x
    · rw [if_pos h, if_neg (show ¬ (1 : Int32) = 0 from by decide)]
      exact ⟨true, rfl, rfl, fun o => ⟨fun h => absurd h (by decide), fun h => absurd h (by decide), fun h => absurd h (by decide), fun h => absurd h (by decide), fun h => absurd h (by decide), fun h => absurd h (by decide), fun h => absurd h (by decide), fun h => absurd h (by decide), fun h => absurd h (by decide), fun h => absurd h (by decide)⟩⟩
    · rw [if_neg h, if_pos rfl]
      exact ⟨false, rfl, rfl, fun q => absurd q (by decide)⟩
  by_cases i271 : i = 271
  · subst i271
    obtain ⟨ok, a1, a2, a3⟩ := gTb
    exact ⟨ok, (show zf_CCCode_namesWhatIsMissing_26 N 271 x y u = zf_CCCode_namesWhatIsMissing_26_b354 N x u from rfl).trans a1, (show zf_MMC_isThere_0 N 271 x y w = zf_MMC_isThere_0_b334 N x w from rfl).trans a2, fun o => ⟨fun h => absurd h (by decide), fun h => absurd h (by decide), fun h => absurd h (by decide), fun h => absurd h (by decide), fun h => absurd h (by decide), fun h => absurd h (by decide), fun h => absurd h (by decide), fun _ => a3 o, fun h => absurd h (by decide), fun h => absurd h (by decide)⟩⟩
  by_cases i272 : i = 272
  · subst i272
    obtain ⟨ok, a1, a2, a3⟩ := gTb
    exact ⟨ok, (show zf_CCCode_namesWhatIsMissing_26 N 272 x y u = zf_CCCode_namesWhatIsMissing_26_b354 N x u from rfl).trans a1, (show zf_MMC_isThere_0 N 272 x y w = zf_MMC_isThere_0_b334 N x w from rfl).trans a2, fun o => ⟨fun h => absurd h (by decide), fun h => absurd h (by decide), fun h => absurd h (by decide), fun h => absurd h (by decide), fun h => absurd h (by decide), fun h => absurd h (by decide), fun h => absurd h (by decide), fun _ => a3 o, fun h => absurd h (by decide), fun h => absurd h (by decide)⟩⟩
  by_cases i273 : i = 273
  · subst i273
    obtain ⟨ok, a1, a2, a3⟩ := gTb
    exact ⟨ok, (show zf_CCCode_namesWhatIsMissing_26 N 273 x y u = zf_CCCode_namesWhatIsMissing_26_b354 N x u from rfl).trans a1, (show zf_MMC_isThere_0 N 273 x y w = zf_MMC_isThere_0_b334 N x w from rfl).trans a2, fun o => ⟨fun h => absurd h (by decide), fun h => absurd h (by decide), fun h => absurd h (by decide), fun h => absurd h (by decide), fun h => absurd h (by decide), fun h => absurd h (by decide), fun h => absurd h (by decide), fun _ => a3 o, fun h => absurd h (by decide), fun h => absurd h (by decide)⟩⟩
  refine ⟨true, ?_, ?_, fun _ => ⟨fun h => by rcases h with h | h | h <;> contradiction, fun h => by rcases h with h | h | h <;> contradiction, fun h => absurd h i14, fun h => by rcases h with h | h <;> contradiction, fun h => absurd h i17, fun h => by rcases h with h | h | h <;> contradiction, fun h => by rcases h with h | h <;> contradiction, fun h => by rcases h with h | h | h | h | h <;> contradiction, fun h => absurd h i268, fun h => absurd h i270⟩⟩
  · unfold zf_CCCode_namesWhatIsMissing_26
    rw [if_neg i2, if_neg i3, if_neg i4, if_neg i12, if_neg i13, if_neg i14, if_neg i16, if_neg i17, if_neg i32, if_neg i33, if_neg i34, if_neg i35, if_neg i36, if_neg i37, if_neg i38, if_neg i210, if_neg i264, if_neg i265, if_neg i268, if_neg i269, if_neg i270, if_neg i271, if_neg i272, if_neg i273]; rfl
  · unfold zf_MMC_isThere_0
    rw [if_neg i2, if_neg i3, if_neg i4, if_neg i12, if_neg i13, if_neg i14, if_neg i16, if_neg i17, if_neg i32, if_neg i33, if_neg i34, if_neg i35, if_neg i36, if_neg i37, if_neg i38, if_neg i210, if_neg i264, if_neg i265, if_neg i268, if_neg i269, if_neg i270, if_neg i271, if_neg i272, if_neg i273]; rfl
