/-! pure: value types, on both sides -/
section VL
variable {N : Nat} {x : Int32} {u : zU}
theorem cIsR : zf_CCC_isReferenceType N x u = some (if zR x then 1 else 0, u) := by
  unfold zf_CCC_isReferenceType zf_CCC_isReferenceType_b12 zf_CCC_isReferenceType_b17
  by_cases h1 : x = 112
  · rw [if_pos h1, if_pos (Or.inl h1)]; rfl
  · rw [if_neg h1]
    by_cases h2 : x = 111
    · rw [if_pos h2, if_pos (Or.inr h2)]; rfl
    · rw [if_neg h2, if_neg (fun q => q.elim h1 h2)]; rfl
theorem mIsR : zf_MMC_isReference N x u = some (if zR x then 1 else 0, u) := by
  unfold zf_MMC_isReference zf_MMC_isReference_b12 zf_MMC_isReference_b17
  by_cases h1 : x = 112
  · rw [if_pos h1, if_pos (Or.inl h1)]; rfl
  · rw [if_neg h1]
    by_cases h2 : x = 111
    · rw [if_pos h2, if_pos (Or.inr h2)]; rfl
    · rw [if_neg h2, if_neg (fun q => q.elim h1 h2)]; rfl
theorem cIsV : zf_CCC_isValueType N x u = some (if zV x then 1 else 0, u) := by
  unfold zf_CCC_isValueType zf_CCC_isValueType_b31 zf_CCC_isValueType_b36
  by_cases h1 : x = 127
  · rw [if_pos h1, if_pos (Or.inl h1)]; rfl
  rw [if_neg h1]
  by_cases h2 : x = 126
  · rw [if_pos h2, if_pos (Or.inr (Or.inl h2))]; rfl
  rw [if_neg h2]
  by_cases h3 : x = 125
  · rw [if_pos h3, if_pos (Or.inr (Or.inr (Or.inl h3)))]; rfl
  rw [if_neg h3]
  by_cases h4 : x = 124
  · rw [if_pos h4, if_pos (Or.inr (Or.inr (Or.inr (Or.inl h4))))]; rfl
  rw [if_neg h4, zbd_eq cIsR]
  by_cases h5 : zR x
  · rw [if_pos h5, if_neg (by decide), if_pos (zR_V h5)]; rfl
  · rw [if_neg h5, if_pos rfl, if_neg (fun q => by rcases q with q | q | q | q | q; exact h1 q; exact h2 q; exact h3 q; exact h4 q; exact h5 q)]; rfl
theorem zV_mid (h1 : ¬ x < 124) (h2 : x ≤ 127) : zV x := by
  have h0 : ¬ x < 0 := fun q => h1 (Int32.lt_trans q (by decide))
  obtain ⟨j, hj, rfl⟩ := nI_of h0
  have a : ¬ j < 124 := fun q => h1 ((show nI _ < 124 from nI_lt (b := 124) q (by omega)))
  have b : j ≤ 127 := (nI_leI (b := 127) hj (by omega)).mp h2
  have c : j = 124 ∨ j = 125 ∨ j = 126 ∨ j = 127 := by omega
  rcases c with rfl | rfl | rfl | rfl <;> decide
theorem mIsV : zf_MMC_isValue N x u = some (if zV x then 1 else 0, u) := by
  unfold zf_MMC_isValue zf_MMC_isValue_b12 zf_MMC_isValue_b19 zf_MMC_isValue_b24
  by_cases h1 : x < 124
  · rw [if_pos h1, zbd_eq mIsR]
    by_cases h5 : zR x
    · rw [if_pos h5, if_neg (by decide), if_pos (zR_V h5)]; rfl
    · rw [if_neg h5, if_pos rfl, if_neg (fun q => by rcases q with rfl | rfl | rfl | rfl | q; exact absurd h1 (by decide); exact absurd h1 (by decide); exact absurd h1 (by decide); exact absurd h1 (by decide); exact h5 q)]; rfl
  · rw [if_neg h1]
    by_cases h2 : x ≤ 127
    · rw [if_pos h2, if_pos (zV_mid h1 h2)]; rfl
    · rw [if_neg h2, zbd_eq mIsR]
      by_cases h5 : zR x
      · rw [if_pos h5, if_neg (by decide), if_pos (zR_V h5)]; rfl
      · rw [if_neg h5, if_pos rfl, if_neg (fun q => by rcases q with rfl | rfl | rfl | rfl | q; exact h2 (by decide); exact h2 (by decide); exact h2 (by decide); exact h2 (by decide); exact h5 q)]; rfl
end VL
