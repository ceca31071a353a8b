/-! pure: the types of a block, in the reference -/
/-- B: the block types, from the outermost (0) to the innermost (b); the outermost's is the body's type, or 128 less than the constant's -/
def HB (v0 : zU) (b : Nat) (B : Nat → Int32) : Prop := b < 60 ∧ (∀ q, 1 ≤ q → q ≤ b → v0.2.2.1 12 q = B q) ∧ (∀ q, q ≤ b → B q < 40) ∧ ((gi v0 2 ≠ 0 ∧ gi v0 4 = B 0 ∧ ¬ B 0 < 0) ∨ (gi v0 2 = 0 ∧ gi v0 5 = B 0 + 128 ∧ B 0 < 0 ∧ B 0 ≠ -64))
section MB
variable {N : Nat} {v0 : zU} {b : Nat} {B : Nat → Int32} {s : zS} {tk : Int32} {wn : Nat} {p : Nat → Int32} {v : zU} {q : Nat}
theorem RM_i {k : Nat} (hk : k ≠ 11 ∧ k ≠ 12 ∧ k ≠ 13 ∧ k ≠ 18) (hv : RM v0 s tk wn p v) : gi v k = gi v0 k := by
  obtain ⟨g, w, tg, rfl, hg, hw⟩ := hv
  unfold gi mkM va_up
  simp only
  rw [if_neg hk.2.2.2, if_neg hk.2.1, if_neg hk.1, if_neg hk.2.2.1]
theorem RM_a {k : Nat} (hk : k ≠ 15 ∧ k ≠ 16 ∧ k ≠ 17) (hv : RM v0 s tk wn p v) : v.2.2.1 k = v0.2.2.1 k := by
  obtain ⟨g, w, tg, rfl, hg, hw⟩ := hv
  unfold mkM va_up
  simp only
  rw [if_neg hk.2.2, if_neg hk.2.1, if_neg hk.1]
theorem mCountR (hB : HB v0 b B) (hs : zSz (v0.2.2.1 1)) (hq : q ≤ b) (hv : RM v0 s tk wn p v) : zf_MMC_countOf_0 N (nI q) 1 v = some (nI (zNn true (v0.2.2.1 1) (B q)), v) := by
  obtain ⟨hb, h12, h40, h0⟩ := hB
  have i2 := RM_i (k := 2) (by decide) hv
  have i4 := RM_i (k := 4) (by decide) hv
  have a1 := RM_a (k := 1) (by decide) hv
  have a12 := RM_a (k := 12) (by decide) hv
  unfold zf_MMC_countOf_0 zf_MMC_countOf_0_b32 zf_MMC_countOf_0_b80 zf_MMC_countOf_0_b81
  by_cases q0 : q = 0
  · subst q0
    rw [if_pos nI_0, if_neg (by decide), i2, i4]
    rcases h0 with ⟨g1, g2, g3⟩ | ⟨g1, g2, g3, g4⟩
    · rw [if_neg g1, g2]
      obtain ⟨t, ht, e⟩ := nI_of g3
      have h4 : t < 40 := (nI_ltI ht (by decide)).mp (by rw [← e]; exact h40 0 (Nat.zero_le _))
      rw [e, zck_pos (zin_of h4 (by omega))]
      obtain ⟨n, hn, hne⟩ := hs t h4
      have e1 : ga v 1 (nI t) = nI n := by rw [← hne]; show v.2.2.1 1 _ = _; rw [a1, nI_clamp ht]
      have e2 : zNn true (v0.2.2.1 1) (nI t) = n := by unfold zNn; rw [if_neg (nI_pos ht), nI_clamp ht, hne, nI_clamp (by omega)]
      rw [e1, e2]
    · rw [if_pos g1]
      have e2 : zNn true (v0.2.2.1 1) (B 0) = 1 := by unfold zNn; rw [if_pos g3, if_pos ⟨rfl, g4⟩]
      rw [e2]; rfl
  · have q1 : 1 ≤ q := by omega
    have e0 : ga v 12 (nI q) = B q := by rw [← h12 q q1 hq]; show v.2.2.1 12 _ = _; rw [a12, nI_clamp (by omega)]
    rw [if_neg (nI_ne0 q1 (by omega)), zck_pos (zin_of (by omega) (by omega)), e0]
    by_cases hn : B q < 0
    · rw [if_pos hn, if_neg (by decide)]
      by_cases h64 : B q = -64
      · have e2 : zNn true (v0.2.2.1 1) (B q) = 0 := by unfold zNn; rw [if_pos hn, if_neg (fun a => a.2 h64)]
        rw [if_pos h64, e2]; rfl
      · have e2 : zNn true (v0.2.2.1 1) (B q) = 1 := by unfold zNn; rw [if_pos hn, if_pos ⟨rfl, h64⟩]
        rw [if_neg h64, e2]; rfl
    · rw [if_neg hn, if_neg (by decide)]
      obtain ⟨t, ht, e⟩ := nI_of hn
      have h4 : t < 40 := (nI_ltI ht (by decide)).mp (by rw [← e]; exact h40 q hq)
      rw [e, zck_pos (zin_of h4 (by omega))]
      obtain ⟨n, hn, hne⟩ := hs t h4
      have e1 : ga v 1 (nI t) = nI n := by rw [← hne]; show v.2.2.1 1 _ = _; rw [a1, nI_clamp ht]
      have e2 : zNn true (v0.2.2.1 1) (nI t) = n := by unfold zNn; rw [if_neg (nI_pos ht), nI_clamp ht, hne, nI_clamp (by omega)]
      rw [e1, e2]
theorem mCountP (hB : HB v0 b B) (hs : zSz (v0.2.2.1 0)) (q1 : 1 ≤ q) (hq : q ≤ b) (hv : RM v0 s tk wn p v) : zf_MMC_countOf_0 N (nI q) 0 v = some (nI (zNn false (v0.2.2.1 0) (B q)), v) := by
  obtain ⟨hb, h12, h40, h0⟩ := hB
  have a1 := RM_a (k := 0) (by decide) hv
  have a12 := RM_a (k := 12) (by decide) hv
  unfold zf_MMC_countOf_0 zf_MMC_countOf_0_b80 zf_MMC_countOf_0_b81
  have e0 : ga v 12 (nI q) = B q := by rw [← h12 q q1 hq]; show v.2.2.1 12 _ = _; rw [a12, nI_clamp (by omega)]
  rw [if_neg (nI_ne0 q1 (by omega)), zck_pos (zin_of (by omega) (by omega)), e0]
  by_cases hn : B q < 0
  · rw [if_pos hn, if_pos rfl]
    have e2 : zNn false (v0.2.2.1 0) (B q) = 0 := by unfold zNn; rw [if_pos hn, if_neg (fun a => Bool.false_ne_true a.1)]
    rw [e2]; rfl
  · rw [if_neg hn, if_pos rfl]
    obtain ⟨t, ht, e⟩ := nI_of hn
    have h4 : t < 40 := (nI_ltI ht (by decide)).mp (by rw [← e]; exact h40 q hq)
    rw [e, zck_pos (zin_of h4 (by omega))]
    obtain ⟨n, hn, hne⟩ := hs t h4
    have e1 : ga v 0 (nI t) = nI n := by rw [← hne]; show v.2.2.1 0 _ = _; rw [a1, nI_clamp ht]
    have e2 : zNn false (v0.2.2.1 0) (nI t) = n := by unfold zNn; rw [if_neg (nI_pos ht), nI_clamp ht, hne, nI_clamp (by omega)]
    rw [e1, e2]
theorem mPartR {i : Nat} (hB : HB v0 b B) (hq : q ≤ b) (hi : i < 12) (hv : RM v0 s tk wn p v) : zf_MMC_partOf_0 N (nI q) 1 (nI i) v = some (zPp (v0.2.2.1 3) (B q) i, v) := by
  obtain ⟨hb, h12, h40, h0⟩ := hB
  have i2 := RM_i (k := 2) (by decide) hv
  have i4 := RM_i (k := 4) (by decide) hv
  have i5 := RM_i (k := 5) (by decide) hv
  have a1 := RM_a (k := 3) (by decide) hv
  have a12 := RM_a (k := 12) (by decide) hv
  unfold zf_MMC_partOf_0 zf_MMC_partOf_0_b32 zf_MMC_partOf_0_b86 zPp
  by_cases q0 : q = 0
  · subst q0
    rw [if_pos nI_0, i2, i4, i5]
    rcases h0 with ⟨g1, g2, g3⟩ | ⟨g1, g2, g3, g4⟩
    · rw [if_neg g1, g2, if_neg g3]
      obtain ⟨t, ht, e⟩ := nI_of g3
      have h4 : t < 40 := (nI_ltI ht (by decide)).mp (by rw [← e]; exact h40 0 (Nat.zero_le _))
      rw [e, zmul12', zck_pos (zin_of (by omega) (by omega)), nI_clamp ht]
      show some (v.2.2.1 3 _, v) = _
      rw [a1, nI_clamp (by omega)]
    · rw [if_pos g1, if_pos g3, g2]
  · have q1 : 1 ≤ q := by omega
    have e0 : ga v 12 (nI q) = B q := by rw [← h12 q q1 hq]; show v.2.2.1 12 _ = _; rw [a12, nI_clamp (by omega)]
    rw [if_neg (nI_ne0 q1 (by omega)), zck_pos (zin_of (by omega) (by omega)), e0]
    by_cases hn : B q < 0
    · rw [if_pos hn, if_pos hn]
    · rw [if_neg hn, if_neg hn, if_neg (by decide)]
      obtain ⟨t, ht, e⟩ := nI_of hn
      have h4 : t < 40 := (nI_ltI ht (by decide)).mp (by rw [← e]; exact h40 q hq)
      rw [e, zmul12', zck_pos (zin_of (by omega) (by omega)), nI_clamp ht]
      show some (v.2.2.1 3 _, v) = _
      rw [a1, nI_clamp (by omega)]
theorem mPartP {i : Nat} (hB : HB v0 b B) (q1 : 1 ≤ q) (hq : q ≤ b) (hi : i < 12) (hv : RM v0 s tk wn p v) : zf_MMC_partOf_0 N (nI q) 0 (nI i) v = some (zPp (v0.2.2.1 2) (B q) i, v) := by
  obtain ⟨hb, h12, h40, h0⟩ := hB
  have a1 := RM_a (k := 2) (by decide) hv
  have a12 := RM_a (k := 12) (by decide) hv
  unfold zf_MMC_partOf_0 zf_MMC_partOf_0_b86 zPp
  have e0 : ga v 12 (nI q) = B q := by rw [← h12 q q1 hq]; show v.2.2.1 12 _ = _; rw [a12, nI_clamp (by omega)]
  rw [if_neg (nI_ne0 q1 (by omega)), zck_pos (zin_of (by omega) (by omega)), e0]
  by_cases hn : B q < 0
  · rw [if_pos hn, if_pos hn]
  · rw [if_neg hn, if_neg hn, if_pos rfl]
    obtain ⟨t, ht, e⟩ := nI_of hn
    have h4 : t < 40 := (nI_ltI ht (by decide)).mp (by rw [← e]; exact h40 q hq)
    rw [e, zmul12', zck_pos (zin_of (by omega) (by omega)), nI_clamp ht]
    show some (v.2.2.1 2 _, v) = _
    rw [a1, nI_clamp (by omega)]
end MB
