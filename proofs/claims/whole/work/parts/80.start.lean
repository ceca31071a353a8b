/-! pure: the beginning and the end of the reference's step -/
def setA (w : zU) (k : Nat) (f : Nat → Int32) : zU := (w.1, w.2.1, va_up w.2.2.1 k f, w.2.2.2)
theorem setA_sa (w : zU) (k : Nat) (f : Nat → Int32) (i x : Int32) : sa (setA w k f) k i x = setA w k (upd f i.toNatClampNeg x) := by
  unfold sa setA
  simp only
  rw [va_up2, va_up_self]
theorem setA_self (w : zU) (k : Nat) : setA w k (w.2.2.1 k) = w := by
  unfold setA
  rw [va_upI]
def zMix (f g : Nat → Int32) (i : Nat) : Nat → Int32 := fun j => if j < i then f j else g j
theorem zMix_0 (f g : Nat → Int32) : zMix f g 0 = g := by funext j; unfold zMix; rw [if_neg (by omega)]
theorem zMix_s (f g : Nat → Int32) (i : Nat) : upd (zMix f g i) i (f i) = zMix f g (i + 1) := by
  funext j
  unfold upd zMix
  by_cases e : j = i
  · subst e; rw [if_pos rfl, if_pos (by omega)]
  · rw [if_neg e]
    by_cases h : j < i
    · rw [if_pos h, if_pos (by omega)]
    · rw [if_neg h, if_neg (by omega)]
theorem zMix_lt (f g : Nat → Int32) {i c : Nat} (h : i < c) : zMix f g c i = f i := if_pos h
theorem mCopyIn {N c : Nat} {x1 x2 x3 : Int32} {w : zU} (h9 : gi w 9 = nI c) (hc : c ≤ 200) : ∀ (j i n : Nat), i + j = c → j < n → zf_MMC_step_0_b26 N n x1 x2 x3 (nI i) (setA w 15 (zMix (w.2.2.1 10) (w.2.2.1 15) i)) = zf_MMC_step_0_b26 N 1 x1 x2 x3 (nI c) (setA w 15 (zMix (w.2.2.1 10) (w.2.2.1 15) c)) := by
  intro j
  induction j with
  | zero =>
    intro i n h1 h2
    obtain ⟨m, rfl⟩ : ∃ m, n = m + 1 := ⟨n - 1, by omega⟩
    have e : i = c := by omega
    subst e
    have g9 : gi (setA w 15 (zMix (w.2.2.1 10) (w.2.2.1 15) i)) 9 = nI i := h9
    rw [zf_MMC_step_0_b26, zf_MMC_step_0_b26, g9, if_pos (Int32.le_refl _), if_pos (Int32.le_refl _)]
  | succ j ih =>
    intro i n h1 h2
    obtain ⟨m, rfl⟩ : ∃ m, n = m + 1 := ⟨n - 1, by omega⟩
    have g9 : gi (setA w 15 (zMix (w.2.2.1 10) (w.2.2.1 15) i)) 9 = nI c := h9
    have e10 : ga (setA w 15 (zMix (w.2.2.1 10) (w.2.2.1 15) i)) 10 (nI i) = w.2.2.1 10 i := by show w.2.2.1 10 _ = _; rw [nI_clamp (by omega)]
    rw [zf_MMC_step_0_b26, g9, if_neg (nI_ge (by omega) (by omega)), zck_pos (zin_of (by omega) (by omega)), zck_pos (zin_of (by omega) (by omega)), e10, setA_sa, nI_clamp (by omega), zMix_s, nI_1]
    exact ih (i + 1) m (by omega) (by omega)
theorem mCopyOut {N c : Nat} {w : zU} (h13 : gi w 13 = nI c) (hc : c ≤ 200) : ∀ (j i n : Nat), i + j = c → j < n → zf_MMC_step_0_b134 N n (nI i) (setA w 10 (zMix (w.2.2.1 15) (w.2.2.1 10) i)) = zf_MMC_step_0_b134 N 1 (nI c) (setA w 10 (zMix (w.2.2.1 15) (w.2.2.1 10) c)) := by
  intro j
  induction j with
  | zero =>
    intro i n h1 h2
    obtain ⟨m, rfl⟩ : ∃ m, n = m + 1 := ⟨n - 1, by omega⟩
    have e : i = c := by omega
    subst e
    have g9 : gi (setA w 10 (zMix (w.2.2.1 15) (w.2.2.1 10) i)) 13 = nI i := h13
    rw [zf_MMC_step_0_b134, zf_MMC_step_0_b134, g9, if_pos (Int32.le_refl _), if_pos (Int32.le_refl _)]
  | succ j ih =>
    intro i n h1 h2
    obtain ⟨m, rfl⟩ : ∃ m, n = m + 1 := ⟨n - 1, by omega⟩
    have g9 : gi (setA w 10 (zMix (w.2.2.1 15) (w.2.2.1 10) i)) 13 = nI c := h13
    have e10 : ga (setA w 10 (zMix (w.2.2.1 15) (w.2.2.1 10) i)) 15 (nI i) = w.2.2.1 15 i := by show w.2.2.1 15 _ = _; rw [nI_clamp (by omega)]
    rw [zf_MMC_step_0_b134, g9, if_neg (nI_ge (by omega) (by omega)), zck_pos (zin_of (by omega) (by omega)), zck_pos (zin_of (by omega) (by omega)), e10, setA_sa, nI_clamp (by omega), zMix_s, nI_1]
    exact ih (i + 1) m (by omega) (by omega)
/-- the base of a step: the four flags off -/
def zB0 (v : zU) : zU := si (si (si (si v 14 0) 15 0) 16 0) 17 0
theorem nI_all (x : Int32) : nI x.toBitVec.toNat = x := by
  apply Int32.toBitVec.inj
  show BitVec.ofNat 32 x.toBitVec.toNat = x.toBitVec
  apply BitVec.eq_of_toNat_eq
  rw [BitVec.toNat_ofNat]
  exact Nat.mod_eq_of_lt x.toBitVec.isLt
theorem mBase (v : zU) (l : Int32) (g : Nat → Int32) : zB0 (setA (si (si v 11 0) 13 l) 15 g) = mkM (zB0 v) l g 0 (gi v 12) (gi v 18) (v.2.2.1 16) (v.2.2.1 17) := by
  unfold zB0 setA si mkM
  simp only
  refine Prod.ext ?_ (Prod.ext rfl (Prod.ext ?_ rfl))
  · funext k
    by_cases h11 : k = 11
    · subst h11; rfl
    by_cases h12 : k = 12
    · subst h12; rfl
    by_cases h13 : k = 13
    · subst h13; rfl
    by_cases h14 : k = 14
    · subst h14; rfl
    by_cases h15 : k = 15
    · subst h15; rfl
    by_cases h16 : k = 16
    · subst h16; rfl
    by_cases h17 : k = 17
    · subst h17; rfl
    by_cases h18 : k = 18
    · subst h18; rfl
    simp only [va_up, if_neg h11, if_neg h12, if_neg h13, if_neg h14, if_neg h15, if_neg h16, if_neg h17, if_neg h18]
  · funext k
    by_cases h15 : k = 15
    · subst h15; rfl
    by_cases h16 : k = 16
    · subst h16; rfl
    by_cases h17 : k = 17
    · subst h17; rfl
    simp only [va_up, if_neg h15, if_neg h16, if_neg h17]
theorem mStart {N c : Nat} {x1 x2 x3 : Int32} {v : zU} {f : Nat → Int32} (hN : 1000 ≤ N) (h1 : gi v 1 = 1) (h9 : gi v 9 = nI c) (hc : c ≤ 200) (hf : ∀ i, i < c → f i = v.2.2.1 10 i) : ∃ v1 tk wn p, RM (zB0 v) (c, f, 0) tk wn p v1 ∧ zf_MMC_step_0 N x1 x2 x3 v = zbd (zf_MMC_examine_0 N x1 x2 x3 v1) (fun r2 u3 => if (gi u3 11) = 0 then zbd (zf_MMC_perform_0 N x1 x2 x3 u3) (fun r6 u7 => zf_MMC_step_0_b96 N u7) else zf_MMC_step_0_b96 N u3) := by
  refine ⟨mkM (zB0 v) (nI c) (zMix (v.2.2.1 10) (v.2.2.1 15) c) 0 (gi v 12) (gi v 18) (v.2.2.1 16) (v.2.2.1 17), gi v 12, (gi v 18).toBitVec.toNat, v.2.2.1 16, ⟨zMix (v.2.2.1 10) (v.2.2.1 15) c, v.2.2.1 16, v.2.2.1 17, ?_, ?_, fun i _ => rfl⟩, ?_⟩
  · rw [nI_all]
  · intro i hi
    rw [zMix_lt _ _ hi]; exact (hf i hi).symm
  · have hw : zf_MMC_step_0_b26 N N x1 x2 x3 0 (si (si v 11 0) 13 (gi v 9)) = zf_MMC_step_0_b26 N 1 x1 x2 x3 (nI c) (setA (si (si v 11 0) 13 (nI c)) 15 (zMix (v.2.2.1 10) (v.2.2.1 15) c)) := by
      rw [h9]
      have h := mCopyIn (N := N) (x1 := x1) (x2 := x2) (x3 := x3) (w := si (si v 11 0) 13 (nI c)) h9 hc c 0 N (by omega) (by omega)
      rw [zMix_0, setA_self] at h
      exact h
    unfold zf_MMC_step_0
    rw [if_pos h1, hw, zf_MMC_step_0_b26]
    have g9 : gi (setA (si (si v 11 0) 13 (nI c)) 15 (zMix (v.2.2.1 10) (v.2.2.1 15) c)) 9 = nI c := h9
    rw [g9, if_pos (Int32.le_refl _), ← mBase v (nI c)]
    rfl
/-- the end of a step with a fault -/
theorem mEndF {N : Nat} {v : zU} {e : Int32} (h : gi v 11 = e) (h0 : 0 ≤ e) (hne : e ≠ 0) : zf_MMC_step_0_b96 N v = some (e, si v 1 0) := by
  unfold zf_MMC_step_0_b96
  rw [h, if_neg (fun q => hne ((zle0 h0).mp q))]
/-- the end of a step without a fault: what comes before the flags -/
def zE0 (v : zU) (c : Nat) : zU := setA (si (si (si v 3 1) 8 0) 9 (nI c)) 10 (zMix (v.2.2.1 15) (v.2.2.1 10) c)
theorem mEnd0 {N c : Nat} {v : zU} (hN : 1000 ≤ N) (h11 : gi v 11 = 0) (h13 : gi v 13 = nI c) (hc : c ≤ 200) : zf_MMC_step_0_b96 N v = (if gi v 14 = 0 then zf_MMC_step_0_b186 N ((gi v 10) - 1) (zE0 v c) else zck (zin ((gi v 10) - 1) 62) (zf_MMC_step_0_b186 N ((gi v 10) - 1) (sa (zE0 v c) 14 ((gi v 10) - 1) 1))) := by
  unfold zf_MMC_step_0_b96
  rw [h11, if_pos (by decide), h13]
  have h := mCopyOut (N := N) (w := si (si (si v 3 1) 8 0) 9 (nI c)) h13 hc c 0 N (by omega) (by omega)
  rw [zMix_0, setA_self] at h
  have h' : zf_MMC_step_0_b134 N N 0 (si (si (si v 3 1) 8 0) 9 (nI c)) = zf_MMC_step_0_b134 N 1 (nI c) (zE0 v c) := h
  have g13 : gi (zE0 v c) 13 = nI c := h13
  have g14 : gi (zE0 v c) 14 = gi v 14 := rfl
  have g10 : gi (zE0 v c) 10 = gi v 10 := rfl
  rw [h', zf_MMC_step_0_b134, g13, if_pos (Int32.le_refl _), g14, g10, nar1]
