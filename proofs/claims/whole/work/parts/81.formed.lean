/-! pure: instructions, what is there -/
abbrev zIns (i : Int32) : Prop := (0 ≤ i ∧ i ≤ 5) ∨ (11 ≤ i ∧ i ≤ 17) ∨ (26 ≤ i ∧ i ≤ 28) ∨ (32 ≤ i ∧ i ≤ 38) ∨ (40 ≤ i ∧ i ≤ 196) ∨ (208 ≤ i ∧ i ≤ 210) ∨ (256 ≤ i ∧ i ≤ 273)
abbrev zBlk (x : Int32) : Prop := 0 ≤ x ∨ x = -64 ∨ zV (x + 128)
theorem cIns_0 {N n : Nat} {x : Int32} {u : zU} : zf_CCC_isInstruction_b2 N (n + 1) x 0 u = if 0 ≤ x ∧ x ≤ 5 then some (1, u) else zf_CCC_isInstruction_b2 N n x 2 u := by
  have e1 : t_X_INSTRUCTIONS.getD (0 : Int32).toNatClampNeg 0 = 0 := by decide +kernel
  have e2 : t_X_INSTRUCTIONS.getD ((0 : Int32) + 1).toNatClampNeg 0 = 5 := by decide +kernel
  have e3 : (0 : Int32) + 2 = 2 := by decide
  rw [zf_CCC_isInstruction_b2, if_neg (by decide), zck_pos (by decide), zck_pos (by decide), e1, e2]
  unfold zf_CCC_isInstruction_b34
  rw [e3]
  by_cases h1 : x < 0
  · rw [if_pos h1, if_neg (show ¬ (0 ≤ x ∧ x ≤ 5) from fun q => Int32.not_le.mpr h1 q.1)]
  · rw [if_neg h1]
    by_cases h2 : 5 < x
    · rw [if_pos h2, if_neg (show ¬ (0 ≤ x ∧ x ≤ 5) from fun q => Int32.not_le.mpr h2 q.2)]
    · rw [if_neg h2, if_pos (show 0 ≤ x ∧ x ≤ 5 from ⟨Int32.not_lt.mp h1, Int32.not_lt.mp h2⟩)]
theorem cIns_1 {N n : Nat} {x : Int32} {u : zU} : zf_CCC_isInstruction_b2 N (n + 1) x 2 u = if 11 ≤ x ∧ x ≤ 17 then some (1, u) else zf_CCC_isInstruction_b2 N n x 4 u := by
  have e1 : t_X_INSTRUCTIONS.getD (2 : Int32).toNatClampNeg 0 = 11 := by decide +kernel
  have e2 : t_X_INSTRUCTIONS.getD ((2 : Int32) + 1).toNatClampNeg 0 = 17 := by decide +kernel
  have e3 : (2 : Int32) + 2 = 4 := by decide
  rw [zf_CCC_isInstruction_b2, if_neg (by decide), zck_pos (by decide), zck_pos (by decide), e1, e2]
  unfold zf_CCC_isInstruction_b34
  rw [e3]
  by_cases h1 : x < 11
  · rw [if_pos h1, if_neg (show ¬ (11 ≤ x ∧ x ≤ 17) from fun q => Int32.not_le.mpr h1 q.1)]
  · rw [if_neg h1]
    by_cases h2 : 17 < x
    · rw [if_pos h2, if_neg (show ¬ (11 ≤ x ∧ x ≤ 17) from fun q => Int32.not_le.mpr h2 q.2)]
    · rw [if_neg h2, if_pos (show 11 ≤ x ∧ x ≤ 17 from ⟨Int32.not_lt.mp h1, Int32.not_lt.mp h2⟩)]
theorem cIns_2 {N n : Nat} {x : Int32} {u : zU} : zf_CCC_isInstruction_b2 N (n + 1) x 4 u = if 26 ≤ x ∧ x ≤ 28 then some (1, u) else zf_CCC_isInstruction_b2 N n x 6 u := by
  have e1 : t_X_INSTRUCTIONS.getD (4 : Int32).toNatClampNeg 0 = 26 := by decide +kernel
  have e2 : t_X_INSTRUCTIONS.getD ((4 : Int32) + 1).toNatClampNeg 0 = 28 := by decide +kernel
  have e3 : (4 : Int32) + 2 = 6 := by decide
  rw [zf_CCC_isInstruction_b2, if_neg (by decide), zck_pos (by decide), zck_pos (by decide), e1, e2]
  unfold zf_CCC_isInstruction_b34
  rw [e3]
  by_cases h1 : x < 26
  · rw [if_pos h1, if_neg (show ¬ (26 ≤ x ∧ x ≤ 28) from fun q => Int32.not_le.mpr h1 q.1)]
  · rw [if_neg h1]
    by_cases h2 : 28 < x
    · rw [if_pos h2, if_neg (show ¬ (26 ≤ x ∧ x ≤ 28) from fun q => Int32.not_le.mpr h2 q.2)]
    · rw [if_neg h2, if_pos (show 26 ≤ x ∧ x ≤ 28 from ⟨Int32.not_lt.mp h1, Int32.not_lt.mp h2⟩)]
theorem cIns_3 {N n : Nat} {x : Int32} {u : zU} : zf_CCC_isInstruction_b2 N (n + 1) x 6 u = if 32 ≤ x ∧ x ≤ 38 then some (1, u) else zf_CCC_isInstruction_b2 N n x 8 u := by
  have e1 : t_X_INSTRUCTIONS.getD (6 : Int32).toNatClampNeg 0 = 32 := by decide +kernel
  have e2 : t_X_INSTRUCTIONS.getD ((6 : Int32) + 1).toNatClampNeg 0 = 38 := by decide +kernel
  have e3 : (6 : Int32) + 2 = 8 := by decide
  rw [zf_CCC_isInstruction_b2, if_neg (by decide), zck_pos (by decide), zck_pos (by decide), e1, e2]
  unfold zf_CCC_isInstruction_b34
  rw [e3]
  by_cases h1 : x < 32
  · rw [if_pos h1, if_neg (show ¬ (32 ≤ x ∧ x ≤ 38) from fun q => Int32.not_le.mpr h1 q.1)]
  · rw [if_neg h1]
    by_cases h2 : 38 < x
    · rw [if_pos h2, if_neg (show ¬ (32 ≤ x ∧ x ≤ 38) from fun q => Int32.not_le.mpr h2 q.2)]
    · rw [if_neg h2, if_pos (show 32 ≤ x ∧ x ≤ 38 from ⟨Int32.not_lt.mp h1, Int32.not_lt.mp h2⟩)]
theorem cIns_4 {N n : Nat} {x : Int32} {u : zU} : zf_CCC_isInstruction_b2 N (n + 1) x 8 u = if 40 ≤ x ∧ x ≤ 196 then some (1, u) else zf_CCC_isInstruction_b2 N n x 10 u := by
  have e1 : t_X_INSTRUCTIONS.getD (8 : Int32).toNatClampNeg 0 = 40 := by decide +kernel
  have e2 : t_X_INSTRUCTIONS.getD ((8 : Int32) + 1).toNatClampNeg 0 = 196 := by decide +kernel
  have e3 : (8 : Int32) + 2 = 10 := by decide
  rw [zf_CCC_isInstruction_b2, if_neg (by decide), zck_pos (by decide), zck_pos (by decide), e1, e2]
  unfold zf_CCC_isInstruction_b34
  rw [e3]
  by_cases h1 : x < 40
  · rw [if_pos h1, if_neg (show ¬ (40 ≤ x ∧ x ≤ 196) from fun q => Int32.not_le.mpr h1 q.1)]
  · rw [if_neg h1]
    by_cases h2 : 196 < x
    · rw [if_pos h2, if_neg (show ¬ (40 ≤ x ∧ x ≤ 196) from fun q => Int32.not_le.mpr h2 q.2)]
    · rw [if_neg h2, if_pos (show 40 ≤ x ∧ x ≤ 196 from ⟨Int32.not_lt.mp h1, Int32.not_lt.mp h2⟩)]
theorem cIns_5 {N n : Nat} {x : Int32} {u : zU} : zf_CCC_isInstruction_b2 N (n + 1) x 10 u = if 208 ≤ x ∧ x ≤ 210 then some (1, u) else zf_CCC_isInstruction_b2 N n x 12 u := by
  have e1 : t_X_INSTRUCTIONS.getD (10 : Int32).toNatClampNeg 0 = 208 := by decide +kernel
  have e2 : t_X_INSTRUCTIONS.getD ((10 : Int32) + 1).toNatClampNeg 0 = 210 := by decide +kernel
  have e3 : (10 : Int32) + 2 = 12 := by decide
  rw [zf_CCC_isInstruction_b2, if_neg (by decide), zck_pos (by decide), zck_pos (by decide), e1, e2]
  unfold zf_CCC_isInstruction_b34
  rw [e3]
  by_cases h1 : x < 208
  · rw [if_pos h1, if_neg (show ¬ (208 ≤ x ∧ x ≤ 210) from fun q => Int32.not_le.mpr h1 q.1)]
  · rw [if_neg h1]
    by_cases h2 : 210 < x
    · rw [if_pos h2, if_neg (show ¬ (208 ≤ x ∧ x ≤ 210) from fun q => Int32.not_le.mpr h2 q.2)]
    · rw [if_neg h2, if_pos (show 208 ≤ x ∧ x ≤ 210 from ⟨Int32.not_lt.mp h1, Int32.not_lt.mp h2⟩)]
theorem cIns_6 {N n : Nat} {x : Int32} {u : zU} : zf_CCC_isInstruction_b2 N (n + 1) x 12 u = if 256 ≤ x ∧ x ≤ 273 then some (1, u) else zf_CCC_isInstruction_b2 N n x 14 u := by
  have e1 : t_X_INSTRUCTIONS.getD (12 : Int32).toNatClampNeg 0 = 256 := by decide +kernel
  have e2 : t_X_INSTRUCTIONS.getD ((12 : Int32) + 1).toNatClampNeg 0 = 273 := by decide +kernel
  have e3 : (12 : Int32) + 2 = 14 := by decide
  rw [zf_CCC_isInstruction_b2, if_neg (by decide), zck_pos (by decide), zck_pos (by decide), e1, e2]
  unfold zf_CCC_isInstruction_b34
  rw [e3]
  by_cases h1 : x < 256
  · rw [if_pos h1, if_neg (show ¬ (256 ≤ x ∧ x ≤ 273) from fun q => Int32.not_le.mpr h1 q.1)]
  · rw [if_neg h1]
    by_cases h2 : 273 < x
    · rw [if_pos h2, if_neg (show ¬ (256 ≤ x ∧ x ≤ 273) from fun q => Int32.not_le.mpr h2 q.2)]
    · rw [if_neg h2, if_pos (show 256 ≤ x ∧ x ≤ 273 from ⟨Int32.not_lt.mp h1, Int32.not_lt.mp h2⟩)]
theorem cIns {N : Nat} {x : Int32} {u : zU} (hN : 1000 ≤ N) : zf_CCC_isInstruction N x u = some (if zIns x then 1 else 0, u) := by
  obtain ⟨n, rfl⟩ : ∃ n, N = n + 1 + 1 + 1 + 1 + 1 + 1 + 1 + 1 := ⟨N - 8, by omega⟩
  unfold zf_CCC_isInstruction
  rw [cIns_0, cIns_1, cIns_2, cIns_3, cIns_4, cIns_5, cIns_6, zf_CCC_isInstruction_b2, if_pos (show (14 : Int32) ≤ 14 + 1 from by decide)]
  by_cases h0 : 0 ≤ x ∧ x ≤ 5
  · rw [if_pos h0, if_pos (show zIns x from Or.inl h0)]
  rw [if_neg h0]
  by_cases h1 : 11 ≤ x ∧ x ≤ 17
  · rw [if_pos h1, if_pos (show zIns x from Or.inr (Or.inl h1))]
  rw [if_neg h1]
  by_cases h2 : 26 ≤ x ∧ x ≤ 28
  · rw [if_pos h2, if_pos (show zIns x from Or.inr (Or.inr (Or.inl h2)))]
  rw [if_neg h2]
  by_cases h3 : 32 ≤ x ∧ x ≤ 38
  · rw [if_pos h3, if_pos (show zIns x from Or.inr (Or.inr (Or.inr (Or.inl h3))))]
  rw [if_neg h3]
  by_cases h4 : 40 ≤ x ∧ x ≤ 196
  · rw [if_pos h4, if_pos (show zIns x from Or.inr (Or.inr (Or.inr (Or.inr (Or.inl h4)))))]
  rw [if_neg h4]
  by_cases h5 : 208 ≤ x ∧ x ≤ 210
  · rw [if_pos h5, if_pos (show zIns x from Or.inr (Or.inr (Or.inr (Or.inr (Or.inr (Or.inl h5))))))]
  rw [if_neg h5]
  by_cases h6 : 256 ≤ x ∧ x ≤ 273
  · rw [if_pos h6, if_pos (show zIns x from Or.inr (Or.inr (Or.inr (Or.inr (Or.inr (Or.inr (h6)))))))]
  rw [if_neg h6]
  rw [if_neg (show ¬ zIns x from fun q => by rcases q with q | q | q | q | q | q | q; exact h0 q; exact h1 q; exact h2 q; exact h3 q; exact h4 q; exact h5 q; exact h6 q)]
theorem mIns {N : Nat} {x : Int32} {u : zU} : zf_MMC_isInstruction N x u = some (if zIns x then 1 else 0, u) := by
  unfold zf_MMC_isInstruction zf_MMC_isInstruction_b10 zf_MMC_isInstruction_b22 zf_MMC_isInstruction_b34 zf_MMC_isInstruction_b46 zf_MMC_isInstruction_b59 zf_MMC_isInstruction_b73 zf_MMC_isInstruction_b87 zf_MMC_isInstruction_b91 zf_MMC_isInstruction_b92
  have key : ∀ (a b : Int32) (A B : Option (Int32 × zU)), (if x < a then B else if x ≤ b then A else B) = if a ≤ x ∧ x ≤ b then A else B := by
    intro a b A B
    by_cases h1 : x < a
    · rw [if_pos h1, if_neg (fun q => Int32.not_le.mpr h1 q.1)]
    · rw [if_neg h1]
      by_cases h2 : x ≤ b
      · rw [if_pos h2, if_pos ⟨Int32.not_lt.mp h1, h2⟩]
      · rw [if_neg h2, if_neg (fun q => h2 q.2)]
  have key2 : ∀ (A B : Option (Int32 × zU)), (if x < 256 then B else if 273 < x then B else A) = if 256 ≤ x ∧ x ≤ 273 then A else B := by
    intro A B
    by_cases h1 : x < 256
    · rw [if_pos h1, if_neg (fun q => Int32.not_le.mpr h1 q.1)]
    · rw [if_neg h1]
      by_cases h2 : 273 < x
      · rw [if_pos h2, if_neg (fun q => Int32.not_le.mpr h2 q.2)]
      · rw [if_neg h2, if_pos ⟨Int32.not_lt.mp h1, Int32.not_lt.mp h2⟩]
  have key3 : ∀ (A B : Option (Int32 × zU)), (if x < 0 then B else if x < 6 then A else B) = if 0 ≤ x ∧ x ≤ 5 then A else B := by
    intro A B
    by_cases h1 : x < 0
    · rw [if_pos h1, if_neg (fun q => Int32.not_le.mpr h1 q.1)]
    · rw [if_neg h1]
      obtain ⟨j, hj, rfl⟩ := nI_of h1
      by_cases h2 : nI j < 6
      · have : j < 6 := (nI_ltI (b := 6) hj (by omega)).mp h2
        rw [if_pos h2, if_pos ⟨Int32.not_lt.mp h1, (show nI j ≤ 5 from nI_le (b := 5) (by omega) (by omega))⟩]
      · rw [if_neg h2, if_neg (fun q => h2 (by
          have : j ≤ 5 := (nI_leI (b := 5) hj (by omega)).mp q.2
          exact nI_lt (b := 6) (by omega) (by omega)))]
  rw [key2, key, key, key, key, key, key3]
  by_cases h0 : 0 ≤ x ∧ x ≤ 5
  · rw [if_pos h0, if_pos (show zIns x from Or.inl h0)]; rfl
  rw [if_neg h0]
  by_cases h1 : 11 ≤ x ∧ x ≤ 17
  · rw [if_pos h1, if_pos (show zIns x from Or.inr (Or.inl h1))]; rfl
  rw [if_neg h1]
  by_cases h2 : 26 ≤ x ∧ x ≤ 28
  · rw [if_pos h2, if_pos (show zIns x from Or.inr (Or.inr (Or.inl h2)))]; rfl
  rw [if_neg h2]
  by_cases h3 : 32 ≤ x ∧ x ≤ 38
  · rw [if_pos h3, if_pos (show zIns x from Or.inr (Or.inr (Or.inr (Or.inl h3))))]; rfl
  rw [if_neg h3]
  by_cases h4 : 40 ≤ x ∧ x ≤ 196
  · rw [if_pos h4, if_pos (show zIns x from Or.inr (Or.inr (Or.inr (Or.inr (Or.inl h4)))))]; rfl
  rw [if_neg h4]
  by_cases h5 : 208 ≤ x ∧ x ≤ 210
  · rw [if_pos h5, if_pos (show zIns x from Or.inr (Or.inr (Or.inr (Or.inr (Or.inr (Or.inl h5))))))]; rfl
  rw [if_neg h5]
  by_cases h6 : 256 ≤ x ∧ x ≤ 273
  · rw [if_pos h6, if_pos (show zIns x from Or.inr (Or.inr (Or.inr (Or.inr (Or.inr (Or.inr (h6)))))))]; rfl
  rw [if_neg h6]
  rw [if_neg (show ¬ zIns x from fun q => by rcases q with q | q | q | q | q | q | q; exact h0 q; exact h1 q; exact h2 q; exact h3 q; exact h4 q; exact h5 q; exact h6 q)]; rfl
theorem cBlk {N : Nat} {x : Int32} {u : zU} : zf_CCC_isBlockType N x u = some (if zBlk x then 1 else 0, u) := by
  unfold zf_CCC_isBlockType zf_CCC_isBlockType_b21 zf_CCC_isBlockType_b26
  by_cases h1 : 0 ≤ x
  · rw [if_pos h1, if_pos (show zBlk x from Or.inl h1)]; rfl
  rw [if_neg h1]
  by_cases h2 : x = -64
  · rw [if_pos h2, if_pos (show zBlk x from Or.inr (Or.inl h2))]; rfl
  rw [if_neg h2, zbd_eq cIsV]
  by_cases h3 : zV (x + 128)
  · rw [if_pos h3, if_neg (by decide), if_pos (show zBlk x from Or.inr (Or.inr h3))]; rfl
  · rw [if_neg h3, if_pos rfl, if_neg (show ¬ zBlk x from fun q => by rcases q with q | q | q; exact h1 q; exact h2 q; exact h3 q)]; rfl
theorem mBlk {N : Nat} {x : Int32} {u : zU} : zf_MMC_isBlockType N x u = some (if zBlk x then 1 else 0, u) := by
  unfold zf_MMC_isBlockType zf_MMC_isBlockType_b21 zf_MMC_isBlockType_b26
  by_cases h1 : 0 ≤ x
  · rw [if_pos h1, if_pos (show zBlk x from Or.inl h1)]; rfl
  rw [if_neg h1]
  by_cases h2 : x = -64
  · rw [if_pos h2, if_pos (show zBlk x from Or.inr (Or.inl h2))]; rfl
  rw [if_neg h2, zbd_eq mIsV]
  by_cases h3 : zV (x + 128)
  · rw [if_pos h3, if_neg (by decide), if_pos (show zBlk x from Or.inr (Or.inr h3))]; rfl
  · rw [if_neg h3, if_pos rfl, if_neg (show ¬ zBlk x from fun q => by rcases q with q | q | q; exact h1 q; exact h2 q; exact h3 q)]; rfl
/-- an instruction that is one, with a first number that fits it -/
abbrev zFm (i x : Int32) : Prop := zIns i ∧ ((i = 2 ∨ i = 3 ∨ i = 4) → zBlk x) ∧ (i = 28 → zV x) ∧ (i = 208 → zR x)
theorem zFormed {N : Nat} {i x : Int32} {u v : zU} (hN : 1000 ≤ N) : zf_CCCode_isMalformed_26 N i x u = some (if zFm i x then 0 else 1, u) ∧ zf_MMC_isFormed N i x v = some (if zFm i x then 1 else 0, v) := by
  have b52 : zf_CCCode_isMalformed_26_b52 N x u = some (if zBlk x then 0 else 1, u) := by
    unfold zf_CCCode_isMalformed_26_b52 zf_CCCode_isMalformed_26_b64
    rw [zbd_eq cBlk]
    by_cases h : zBlk x
    · rw [if_pos h, if_neg (by decide), if_pos h]; rfl
    · rw [if_neg h, if_pos rfl, if_neg h]; rfl
  have key : ∀ (P : Prop) [Decidable P], (zFm i x ↔ P) → (zf_CCCode_isMalformed_26 N i x u = some (if P then 0 else 1, u) ∧ zf_MMC_isFormed N i x v = some (if P then 1 else 0, v)) → (zf_CCCode_isMalformed_26 N i x u = some (if zFm i x then 0 else 1, u) ∧ zf_MMC_isFormed N i x v = some (if zFm i x then 1 else 0, v)) := by
    intro P _ hP h
    by_cases p : P
    · rw [if_pos p, if_pos p] at h; rw [if_pos (hP.mpr p), if_pos (hP.mpr p)]; exact h
    · rw [if_neg p, if_neg p] at h; rw [if_neg (fun q => p (hP.mp q)), if_neg (fun q => p (hP.mp q))]; exact h
  have r234 : ∀ (hi : i = 2 ∨ i = 3 ∨ i = 4), zf_MMC_isFormed N i x v = some (if zBlk x then 1 else 0, v) := by
    intro hi
    unfold zf_MMC_isFormed
    have h1 : zIns i := by rcases hi with rfl | rfl | rfl <;> decide
    rw [zbd_eq mIns, if_pos h1, if_neg (by decide), if_neg (show ¬ i ≤ 1 by rcases hi with rfl | rfl | rfl <;> decide), if_neg (show ¬ 5 ≤ i by rcases hi with rfl | rfl | rfl <;> decide), zbd_eq mBlk]
    by_cases h : zBlk x
    · rw [if_pos h]; rfl
    · rw [if_neg h]; rfl
  by_cases i2 : i = 2
  · refine key (zBlk x) ⟨fun q => q.2.1 (Or.inl i2), fun q => ⟨by rw [i2]; decide, fun _ => q, fun h => by rw [i2] at h; exact absurd h (by decide), fun h => by rw [i2] at h; exact absurd h (by decide)⟩⟩ ⟨?_, r234 (Or.inl i2)⟩
    unfold zf_CCCode_isMalformed_26; rw [if_pos i2]; exact b52
  by_cases i3 : i = 3
  · refine key (zBlk x) ⟨fun q => q.2.1 (Or.inr (Or.inl i3)), fun q => ⟨by rw [i3]; decide, fun _ => q, fun h => by rw [i3] at h; exact absurd h (by decide), fun h => by rw [i3] at h; exact absurd h (by decide)⟩⟩ ⟨?_, r234 (Or.inr (Or.inl i3))⟩
    unfold zf_CCCode_isMalformed_26; rw [if_neg i2, if_pos i3]; exact b52
  by_cases i4 : i = 4
  · refine key (zBlk x) ⟨fun q => q.2.1 (Or.inr (Or.inr i4)), fun q => ⟨by rw [i4]; decide, fun _ => q, fun h => by rw [i4] at h; exact absurd h (by decide), fun h => by rw [i4] at h; exact absurd h (by decide)⟩⟩ ⟨?_, r234 (Or.inr (Or.inr i4))⟩
    unfold zf_CCCode_isMalformed_26; rw [if_neg i2, if_neg i3, if_pos i4]; exact b52
  have n234 : ¬ (i = 2 ∨ i = 3 ∨ i = 4) := fun q => by rcases q with q | q | q; exact i2 q; exact i3 q; exact i4 q
  have rest : zIns i → (if i ≤ 1 then zf_MMC_isFormed_b24 N i x v else if 5 ≤ i then zf_MMC_isFormed_b24 N i x v else zbd (zf_MMC_isBlockType N x v) (fun r7 u8 => zck (zbz r7) (some (r7, u8)))) = zf_MMC_isFormed_b24 N i x v := by
    intro hi
    by_cases a1 : i ≤ 1
    · rw [if_pos a1]
    · rw [if_neg a1]
      by_cases a5 : 5 ≤ i
      · rw [if_pos a5]
      · exfalso
        have h0 : ¬ i < 0 := fun q => a1 (Int32.le_of_lt (Int32.lt_trans q (by decide)))
        obtain ⟨j, hj, rfl⟩ := nI_of h0
        have b1 : ¬ j ≤ 1 := fun q => a1 (nI_le (b := 1) q (by omega))
        have b5 : ¬ 5 ≤ j := fun q => a5 (nI_le (a := 5) q (by omega))
        have c : j = 2 ∨ j = 3 ∨ j = 4 := by omega
        rcases c with rfl | rfl | rfl
        · exact i2 rfl
        · exact i3 rfl
        · exact i4 rfl
  by_cases i28 : i = 28
  · refine key (zV x) ⟨fun q => q.2.2.1 i28, fun q => ⟨by rw [i28]; decide, fun h => absurd h n234, fun _ => q, fun h => by rw [i28] at h; exact absurd h (by decide)⟩⟩ ⟨?_, ?_⟩
    · unfold zf_CCCode_isMalformed_26 zf_CCCode_isMalformed_26_b77; rw [if_neg i2, if_neg i3, if_neg i4, if_pos i28, zbd_eq cIsV]
      by_cases h : zV x
      · rw [if_pos h, if_neg (by decide), if_pos h]; rfl
      · rw [if_neg h, if_pos rfl, if_neg h]; rfl
    · have h1 : zIns i := by rw [i28]; decide
      unfold zf_MMC_isFormed
      rw [zbd_eq mIns, if_pos h1, if_neg (by decide), rest h1]
      unfold zf_MMC_isFormed_b24 zf_MMC_isFormed_b56
      rw [if_pos i28, zbd_eq mIsV]
      by_cases h : zV x
      · rw [if_pos h]; rfl
      · rw [if_neg h]; rfl
  by_cases i208 : i = 208
  · refine key (zR x) ⟨fun q => q.2.2.2 i208, fun q => ⟨by rw [i208]; decide, fun h => absurd h n234, fun h => absurd h i28, fun _ => q⟩⟩ ⟨?_, ?_⟩
    · unfold zf_CCCode_isMalformed_26 zf_CCCode_isMalformed_26_b90; rw [if_neg i2, if_neg i3, if_neg i4, if_neg i28, if_pos i208, zbd_eq cIsR]
      by_cases h : zR x
      · rw [if_pos h, if_neg (by decide), if_pos h]; rfl
      · rw [if_neg h, if_pos rfl, if_neg h]; rfl
    · have h1 : zIns i := by rw [i208]; decide
      unfold zf_MMC_isFormed
      rw [zbd_eq mIns, if_pos h1, if_neg (by decide), rest h1]
      unfold zf_MMC_isFormed_b24 zf_MMC_isFormed_b51 zf_MMC_isFormed_b56
      rw [if_neg i28, if_pos i208, zbd_eq mIsR]
      by_cases h : zR x
      · rw [if_pos h, if_neg (by decide)]; rfl
      · rw [if_neg h, if_pos rfl]; rfl
  refine key (zIns i) ⟨fun q => q.1, fun q => ⟨q, fun h => absurd h n234, fun h => absurd h i28, fun h => absurd h i208⟩⟩ ⟨?_, ?_⟩
  · unfold zf_CCCode_isMalformed_26 zf_CCCode_isMalformed_26_b103; rw [if_neg i2, if_neg i3, if_neg i4, if_neg i28, if_neg i208, zbd_eq (cIns hN)]
    by_cases h : zIns i
    · rw [if_pos h, if_neg (by decide), if_pos h]; rfl
    · rw [if_neg h, if_pos rfl, if_neg h]; rfl
  · unfold zf_MMC_isFormed
    rw [zbd_eq mIns]
    by_cases h1 : zIns i
    · rw [if_pos h1, if_neg (by decide), rest h1]
      unfold zf_MMC_isFormed_b24 zf_MMC_isFormed_b51 zf_MMC_isFormed_b56
      rw [if_neg i28, if_neg i208]; rfl
    · rw [if_neg h1, if_pos rfl]
