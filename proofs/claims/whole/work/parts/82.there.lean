/-! pure: what an instruction names, is it there? -/
abbrev zHs (c : Nat) (x : Int32) : Prop := 0 ≤ x ∧ x < nI c
theorem cHas1 {N c : Nat} {x : Int32} {u : zU} (hc : gi u 2 = nI c) : zf_CCShelf_has_11 N x u = some (if zHs c x then 1 else 0, u) := by
  unfold zf_CCShelf_has_11 zf_CCShelf_has_11_b16 zf_CCShelf_has_11_b17
  rw [hc]
  by_cases h1 : x < 0
  · rw [if_pos h1, if_neg (fun q => Int32.not_le.mpr h1 q.1)]; rfl
  · rw [if_neg h1]
    by_cases h2 : nI c ≤ x
    · rw [if_pos h2, if_neg (fun q => Int32.not_le.mpr q.2 h2)]; rfl
    · rw [if_neg h2, if_pos ⟨Int32.not_lt.mp h1, Int32.not_le.mp h2⟩]; rfl
theorem cHas2 {N c : Nat} {x : Int32} {u : zU} (hc : gi u 3 = nI c) : zf_CCShelf_has_14 N x u = some (if zHs c x then 1 else 0, u) := by
  unfold zf_CCShelf_has_14 zf_CCShelf_has_14_b16 zf_CCShelf_has_14_b17
  rw [hc]
  by_cases h1 : x < 0
  · rw [if_pos h1, if_neg (fun q => Int32.not_le.mpr h1 q.1)]; rfl
  · rw [if_neg h1]
    by_cases h2 : nI c ≤ x
    · rw [if_pos h2, if_neg (fun q => Int32.not_le.mpr q.2 h2)]; rfl
    · rw [if_neg h2, if_pos ⟨Int32.not_lt.mp h1, Int32.not_le.mp h2⟩]; rfl
theorem cHas3 {N c : Nat} {x : Int32} {u : zU} (hc : gi u 4 = nI c) : zf_CCShelf_has_17 N x u = some (if zHs c x then 1 else 0, u) := by
  unfold zf_CCShelf_has_17 zf_CCShelf_has_17_b16 zf_CCShelf_has_17_b17
  rw [hc]
  by_cases h1 : x < 0
  · rw [if_pos h1, if_neg (fun q => Int32.not_le.mpr h1 q.1)]; rfl
  · rw [if_neg h1]
    by_cases h2 : nI c ≤ x
    · rw [if_pos h2, if_neg (fun q => Int32.not_le.mpr q.2 h2)]; rfl
    · rw [if_neg h2, if_pos ⟨Int32.not_lt.mp h1, Int32.not_le.mp h2⟩]; rfl
theorem cHas4 {N c : Nat} {x : Int32} {u : zU} (hc : gi u 5 = nI c) : zf_CCShelf_has_20 N x u = some (if zHs c x then 1 else 0, u) := by
  unfold zf_CCShelf_has_20 zf_CCShelf_has_20_b16 zf_CCShelf_has_20_b17
  rw [hc]
  by_cases h1 : x < 0
  · rw [if_pos h1, if_neg (fun q => Int32.not_le.mpr h1 q.1)]; rfl
  · rw [if_neg h1]
    by_cases h2 : nI c ≤ x
    · rw [if_pos h2, if_neg (fun q => Int32.not_le.mpr q.2 h2)]; rfl
    · rw [if_neg h2, if_pos ⟨Int32.not_lt.mp h1, Int32.not_le.mp h2⟩]; rfl
theorem cHas5 {N c : Nat} {x : Int32} {u : zU} (hc : gi u 6 = nI c) : zf_CCShelf_has_23 N x u = some (if zHs c x then 1 else 0, u) := by
  unfold zf_CCShelf_has_23 zf_CCShelf_has_23_b16 zf_CCShelf_has_23_b17
  rw [hc]
  by_cases h1 : x < 0
  · rw [if_pos h1, if_neg (fun q => Int32.not_le.mpr h1 q.1)]; rfl
  · rw [if_neg h1]
    by_cases h2 : nI c ≤ x
    · rw [if_pos h2, if_neg (fun q => Int32.not_le.mpr q.2 h2)]; rfl
    · rw [if_neg h2, if_pos ⟨Int32.not_lt.mp h1, Int32.not_le.mp h2⟩]; rfl
theorem mHas {N k c : Nat} {x : Int32} {v : zU} (hk : k < 6) (hc4 : c ≤ 40) (hc : v.2.2.1 4 k = nI c) : zf_MMC_has_0 N (nI k) x v = some (if zHs c x then 1 else 0, v) := by
  unfold zf_MMC_has_0 zf_MMC_has_0_b22
  have e : ga v 4 (nI k) = nI c := by show v.2.2.1 4 _ = _; rw [nI_clamp (by omega)]; exact hc
  rw [zck_pos (zin_of hk (by omega)), e]
  by_cases h : zHs c x
  · rw [if_neg (fun q => (zhas (by omega)).mp q h), if_pos h]; rfl
  · rw [if_pos ((zhas (by omega)).mpr h), if_neg h]; rfl
theorem mIsLabel {N b : Nat} {x : Int32} {v : zU} (hb : b < 60) (h10 : gi v 10 = nI (b + 1)) : zf_MMC_isLabel_0 N x v = some (if zHs (b + 1) x then 1 else 0, v) := by
  unfold zf_MMC_isLabel_0 zf_MMC_isLabel_0_b20
  rw [h10]
  by_cases h : zHs (b + 1) x
  · rw [if_neg (fun q => (zhas (by omega)).mp q h), if_pos h]; rfl
  · rw [if_pos ((zhas (by omega)).mpr h), if_neg h]; rfl
theorem cHasBlock {N b : Nat} {x : Int32} {u : zU} (h15 : gi u 15 = nI (b + 1)) : zf_CCStack_hasBlock_31 N x u = some (if zHs (b + 1) x then 1 else 0, u) := by
  unfold zf_CCStack_hasBlock_31 zf_CCStack_hasBlock_31_b16 zf_CCStack_hasBlock_31_b17
  rw [h15]
  by_cases h1 : x < 0
  · rw [if_pos h1, if_neg (fun q => Int32.not_le.mpr h1 q.1)]; rfl
  · rw [if_neg h1]
    by_cases h2 : nI (b + 1) ≤ x
    · rw [if_pos h2, if_neg (fun q => Int32.not_le.mpr q.2 h2)]; rfl
    · rw [if_neg h2, if_pos ⟨Int32.not_lt.mp h1, Int32.not_le.mp h2⟩]; rfl
/-- the labels of a row: all there? -/
theorem zLabs {N b lb : Nat} {u v : zU} (hb : b < 60) (h15 : gi u 15 = nI (b + 1)) (h10 : gi v 10 = nI (b + 1)) (hl : lb ≤ 20) (h7 : gi u 7 = nI lb) (h8 : gi v 8 = nI lb) (h17 : ∀ i, i < lb → u.2.2.1 17 i = v.2.2.1 9 i) : ∀ (j i n : Nat), i + j = lb → j < n → ∃ ok : Bool, zf_CCCode_isLabelMissing_26_b2 N n (nI i) u = some (if ok then 0 else 1, u) ∧ zf_MMC_isThere_0_b234 N n 1 (nI i) v = some (if ok then 1 else 0, v) ∧ (ok = true → ∀ q, i ≤ q → q < lb → zHs (b + 1) (v.2.2.1 9 q)) := by
  have dead : ∀ (j i n : Nat), i + j = lb → j < n → zf_MMC_isThere_0_b234 N n 0 (nI i) v = some (0, v) := by
    intro j
    induction j with
    | zero =>
      intro i n e1 e2
      obtain ⟨m, rfl⟩ : ∃ m, n = m + 1 := ⟨n - 1, by omega⟩
      rw [zf_MMC_isThere_0_b234, h8, if_pos (nI_le (by omega) (by omega))]; rfl
    | succ j ih =>
      intro i n e1 e2
      obtain ⟨m, rfl⟩ : ∃ m, n = m + 1 := ⟨n - 1, by omega⟩
      rw [zf_MMC_isThere_0_b234, h8, if_neg (nI_ge (by omega) (by omega)), if_pos rfl]
      unfold zf_MMC_isThere_0_b266 zf_MMC_isThere_0_b267
      rw [nI_1]
      exact ih (i + 1) m (by omega) (by omega)
  intro j
  induction j with
  | zero =>
    intro i n e1 e2
    obtain ⟨m, rfl⟩ : ∃ m, n = m + 1 := ⟨n - 1, by omega⟩
    refine ⟨true, ?_, ?_, fun _ q a1 a2 => absurd a2 (by omega)⟩
    · rw [zf_CCCode_isLabelMissing_26_b2, h7, if_pos (nI_le (by omega) (by omega))]; rfl
    · rw [zf_MMC_isThere_0_b234, h8, if_pos (nI_le (by omega) (by omega))]; rfl
  | succ j ih =>
    intro i n e1 e2
    obtain ⟨m, rfl⟩ : ∃ m, n = m + 1 := ⟨n - 1, by omega⟩
    have a17 : ga u 17 (nI i) = v.2.2.1 9 i := by rw [← h17 i (by omega)]; show u.2.2.1 17 _ = _; rw [nI_clamp (by omega)]
    have a9 : ga v 9 (nI i) = v.2.2.1 9 i := by show v.2.2.1 9 _ = _; rw [nI_clamp (by omega)]
    obtain ⟨ok, c1, c2, c3⟩ := ih (i + 1) m (by omega) (by omega)
    rw [zf_CCCode_isLabelMissing_26_b2, h7, if_neg (nI_ge (by omega) (by omega)), if_neg (show ¬ (20 : Int32) ≤ nI i from nI_ge (b := 20) (by omega) (by omega)), zck_pos (zin_of (by omega) (by omega)), a17, zbd_eq (cHasBlock h15), zf_MMC_isThere_0_b234, h8, if_neg (nI_ge (by omega) (by omega)), if_neg (show ¬ (1 : Int32) = 0 from by decide), zck_pos (zin_of (by omega) (by omega)), a9, zbd_eq (mIsLabel hb h10)]
    unfold zf_MMC_isThere_0_b266 zf_MMC_isThere_0_b267
    rw [nI_1]
    by_cases h : zHs (b + 1) (v.2.2.1 9 i)
    · rw [if_pos h, if_neg (show ¬ (1 : Int32) = 0 from by decide), if_neg (show ¬ (1 : Int32) = 0 from by decide)]
      refine ⟨ok, c1, c2, fun o q a1 a2 => ?_⟩
      by_cases e : q = i
      · subst e; exact h
      · exact c3 o q (by omega) a2
    · rw [if_neg h, if_pos rfl, if_pos rfl]
      exact ⟨false, rfl, dead j (i + 1) m (by omega) (by omega), fun q => absurd q (by decide)⟩
theorem zSum_le {M : Nat → Nat} {i : Nat} : ∀ j, zSum M i ≤ zSum M (i + j) := by
  intro j
  induction j with
  | zero => exact Nat.le_refl _
  | succ j ih => show zSum M i ≤ zSum M (i + j) + M (i + j); omega
theorem zSum_bd {M : Nat → Nat} {rw' : Nat} (h : ∀ i, i < rw' → M i < 2 ^ 32) : ∀ i, i ≤ rw' → zSum M i ≤ i * 2 ^ 32 := by
  intro i
  induction i with
  | zero => intro _; exact Nat.le_refl _
  | succ i ih =>
    intro hi
    have := ih (by omega)
    have := h i (by omega)
    show zSum M i + M i ≤ _
    omega
theorem ofN_sub {a b : Nat} (h : b ≤ a) : Int64.ofNat a - Int64.ofNat b = Int64.ofNat (a - b) := by
  have e : Int64.ofNat a = Int64.ofNat (a - b) + Int64.ofNat b := by rw [ofN_add]; congr 1; omega
  rw [e, Int64.add_sub_cancel]
/-- the type of a local, on both sides -/
theorem zLocal {N lb rw' lc : Nat} {M : Nat → Nat} {u v : zU} {m : Nat} (hL : RL lb rw' lc M u v) (hm : m < 2 ^ 32) : ∀ (j i n : Nat), i + j = rw' → j < n → zSum M i ≤ m → ∃ R R' : Int32, zf_MMC_localType_0_b10 N n (Int64.ofNat (m - zSum M i)) (nI i) v = some (R, v) ∧ zf_CCLocals_typeOf_27_b8 N n (Int64.ofNat m) (nI i) u = some (R', u) ∧ ((m < zSum M rw' ∧ R = R' ∧ zV R) ∨ (zSum M rw' ≤ m ∧ R = -1 ∧ R' = 0)) := by
  obtain ⟨l1, l5, ⟨k1, k2, k3⟩, ⟨r1, r2, r3⟩, l8, l9⟩ := hL
  have bd := zSum_bd (M := M) (rw' := rw') (fun i hi => (l8 i hi).2.2.2.1)
  intro j
  induction j with
  | zero =>
    intro i n e1 e2 h
    obtain ⟨q, rfl⟩ : ∃ q, n = q + 1 := ⟨n - 1, by omega⟩
    have e : i = rw' := by omega
    subst e
    refine ⟨-1, 0, ?_, ?_, Or.inr ⟨h, rfl, rfl⟩⟩
    · rw [zf_MMC_localType_0_b10, r3, if_pos (Int32.le_refl _)]
    · rw [zf_CCLocals_typeOf_27_b8, r2, if_pos (Int32.le_refl _)]; rfl
  | succ j ih =>
    intro i n e1 e2 h
    obtain ⟨q, rfl⟩ : ∃ q, n = q + 1 := ⟨n - 1, by omega⟩
    obtain ⟨d1, d2, d3, d4, d5⟩ := l8 i (by omega)
    have g1 : gb v 0 (nI i) = Int64.ofNat (M i) := by show v.2.2.2 0 _ = _; rw [nI_clamp (by omega)]; exact d3
    have g2 : gb u 0 (nI i) = Int64.ofNat (zSum M (i + 1)) := by show u.2.2.2 0 _ = _; rw [nI_clamp (by omega)]; exact d5
    have g3 : ga v 8 (nI i) = v.2.2.1 8 i := by show v.2.2.1 8 _ = _; rw [nI_clamp (by omega)]
    have g4 : ga u 16 (nI i) = v.2.2.1 8 i := by rw [← d1]; show u.2.2.1 16 _ = _; rw [nI_clamp (by omega)]
    have es : zSum M (i + 1) = zSum M i + M i := rfl
    have b1 := bd (i + 1) (by omega)
    rw [zf_MMC_localType_0_b10, zf_CCLocals_typeOf_27_b8, r3, r2, if_neg (nI_ge (by omega) (by omega)), if_neg (nI_ge (by omega) (by omega)), if_neg (show ¬ (52 : Int32) ≤ nI i from nI_ge (b := 52) (by omega) (by omega)), if_neg (show ¬ (52 : Int32) ≤ nI i from nI_ge (b := 52) (by omega) (by omega)), zck_pos (zin_of (by omega) (by omega)), zck_pos (zin_of (by omega) (by omega)), zck_pos (zin_of (by omega) (by omega)), zck_pos (zin_of (by omega) (by omega)), g1, g2, g3, g4, nI_1]
    by_cases c : m < zSum M (i + 1)
    · rw [if_neg (fun x => by have := (zcmp (by omega) (by omega)).mp x; omega), if_neg (fun x => by have := (zcmp (by omega) (by omega)).mp x; omega), zck_pos (zin_of (by omega) (by omega))]
      refine ⟨_, _, rfl, rfl, Or.inl ⟨?_, rfl, d2⟩⟩
      have := zSum_le (M := M) (i := i + 1) j
      rw [show i + 1 + j = rw' from by omega] at this
      omega
    · rw [if_pos ((zcmp (by omega) (by omega)).mpr (by omega)), if_pos ((zcmp (by omega) (by omega)).mpr (by omega)), ofN_sub (by omega), show m - zSum M i - M i = m - zSum M (i + 1) from by omega]
      exact ih (i + 1) q (by omega) (by omega) (by omega)
