/-! pure: the reference's rows of wanted types -/
section MW
variable {N : Nat} {v0 : zU} {b h : Nat} {lv : Bool} {s : zS} {tk : Int32} {wn : Nat} {p : Nat → Int32} {v : zU}
theorem mWantNothing (p' : Nat → Int32) (hv : RM v0 s tk wn p v) : ∃ v', zf_MMC_wantNothing_0 N v = some ((), v') ∧ RM v0 s tk 0 p' v' := by
  obtain ⟨g, w, tg, rfl, hg, hw⟩ := hv
  unfold zf_MMC_wantNothing_0
  refine ⟨_, rfl, g, w, tg, mkM_18 .., hg, fun i hi => absurd hi (by omega)⟩
theorem mWantOne (t : Int32) (ht : p wn = t) (hw9 : wn < 64) (hv : RM v0 s tk wn p v) : ∃ v', zf_MMC_wantOne_0 N t v = some ((), v') ∧ RM v0 s tk (wn + 1) p v' := by
  obtain ⟨g, w, tg, rfl, hg, hw⟩ := hv
  have g18 : gi (mkM v0 (nI s.1) g s.2.2 tk (nI wn) w tg) 18 = nI wn := rfl
  unfold zf_MMC_wantOne_0
  rw [g18, zck_pos (zin_of hw9 (by omega)), mkM_a16, mkM_18, nI_1, nI_clamp (by omega)]
  refine ⟨_, rfl, g, upd w wn t, tg, rfl, hg, fun i hi => ?_⟩
  unfold upd
  split
  · rename_i q; rw [q, ht]
  · exact hw i (by omega)
theorem mTakeWanted_l (X : CxM v0 b h lv) (hp : ∀ i, i < wn → p i ≠ -1) (hw9 : wn ≤ 64) : ∀ (i n : Nat) (s : zS) (tk : Int32) (v : zU), i ≤ wn → i < n → zOk h s → RM v0 s tk wn p v → ∃ v' tk', zf_MMC_takeWanted_0_b7 N n (nI i - 1) v = some ((), v') ∧ RM v0 (aTakes h lv (zDown p i) s) tk' wn p v' := by
  intro i
  induction i with
  | zero =>
    intro n s tk v h1 h2 H hv
    obtain ⟨m, rfl⟩ : ∃ m, n = m + 1 := ⟨n - 1, by omega⟩
    rw [zf_MMC_takeWanted_0_b7, if_pos zm1lt]
    exact ⟨v, tk, rfl, hv⟩
  | succ i ih =>
    intro n s tk v h1 h2 H hv
    obtain ⟨m, rfl⟩ : ∃ m, n = m + 1 := ⟨n - 1, by omega⟩
    have hw : ga v 16 (nI i) = p i := by
      obtain ⟨g, w, tg, rfl, hg, hw⟩ := hv
      show w _ = _
      rw [nI_clamp (by omega)]; exact hw i (by omega)
    obtain ⟨v1, tk1, e1, r1, -⟩ := mTake (N := N) (p i) X H hv
    have ht : aTk h lv (p i) s = aTake h lv (p i) s := by unfold aTk; rw [if_neg (hp i (by omega))]
    rw [ht] at r1
    rw [zf_MMC_takeWanted_0_b7, nI_pred, if_neg (nI_pos (by omega)), zck_pos (zin_of (by omega) (by omega)), hw, zbd_eq e1, znm1]
    exact ih m _ _ _ (by omega) (by omega) (zOk_take H) r1
theorem mTakeWanted (hN : 1000 ≤ N) (X : CxM v0 b h lv) (hp : ∀ i, i < wn → p i ≠ -1) (hw9 : wn ≤ 64) (H : zOk h s) (hv : RM v0 s tk wn p v) : ∃ v' tk', zf_MMC_takeWanted_0 N v = some ((), v') ∧ RM v0 (aTakes h lv (zDown p wn) s) tk' wn p v' := by
  have hw : gi v 18 = nI wn := by
    obtain ⟨g, w, tg, rfl, hg, hw⟩ := hv
    rfl
  unfold zf_MMC_takeWanted_0
  rw [hw]
  exact mTakeWanted_l X hp hw9 wn N s tk v (Nat.le_refl _) (by omega) H hv
theorem mGiveWanted_l (hw9 : wn ≤ 64) : ∀ (j i n : Nat) (s : zS) (v : zU), i + j = wn → j < n → zOk h s → RM v0 s tk wn p v → ∃ v', zf_MMC_giveWanted_0_b2 N n (nI i) v = some ((), v') ∧ RM v0 (aGives (zUp p i j) s) tk wn p v' := by
  intro j
  induction j with
  | zero =>
    intro i n s v h1 h2 H hv
    obtain ⟨m, rfl⟩ : ∃ m, n = m + 1 := ⟨n - 1, by omega⟩
    have hw : gi v 18 = nI wn := by
      obtain ⟨g, w, tg, rfl, hg, hw⟩ := hv
      rfl
    rw [zf_MMC_giveWanted_0_b2, hw, if_pos (nI_le (by omega) (by omega))]
    exact ⟨v, rfl, hv⟩
  | succ j ih =>
    intro i n s v h1 h2 H hv
    obtain ⟨m, rfl⟩ : ∃ m, n = m + 1 := ⟨n - 1, by omega⟩
    have hw : gi v 18 = nI wn ∧ ga v 16 (nI i) = p i := by
      obtain ⟨g, w, tg, rfl, hg, hw⟩ := hv
      refine ⟨rfl, ?_⟩
      show w _ = _
      rw [nI_clamp (by omega)]; exact hw i (by omega)
    obtain ⟨v1, e1, r1⟩ := mGive (N := N) (p i) H hv
    rw [zf_MMC_giveWanted_0_b2, hw.1, if_neg (nI_ge (by omega) (by omega)), zck_pos (zin_of (by omega) (by omega)), hw.2, zbd_eq e1, nI_1]
    exact ih (i + 1) m _ _ (by omega) (by omega) (zOk_give H) r1
theorem mGiveWanted (hN : 1000 ≤ N) (hw9 : wn ≤ 64) (H : zOk h s) (hv : RM v0 s tk wn p v) : ∃ v', zf_MMC_giveWanted_0 N v = some ((), v') ∧ RM v0 (aGives (zUp p 0 wn) s) tk wn p v' := by
  unfold zf_MMC_giveWanted_0
  exact mGiveWanted_l hw9 wn 0 N s v (by omega) (by omega) H hv
end MW
theorem mWantPartsP_l {N : Nat} {v0 : zU} {s : zS} {tk : Int32} {t : Nat} (ht : t < 40) : ∀ (j i n : Nat) (v : zU), i + j ≤ 12 → j < n → RM v0 s tk i (zPp (v0.2.2.1 2) (nI t)) v → ∃ v', zf_MMC_wantParts_0_b23 N n (nI t) 0 (nI (i + j)) (nI i) v = some ((), v') ∧ RM v0 s tk (i + j) (zPp (v0.2.2.1 2) (nI t)) v' := by
  intro j
  induction j with
  | zero =>
    intro i n v h1 h2 hv
    obtain ⟨m, rfl⟩ : ∃ m, n = m + 1 := ⟨n - 1, by omega⟩
    rw [zf_MMC_wantParts_0_b23, if_pos (nI_le (by omega) (by omega))]
    exact ⟨v, rfl, hv⟩
  | succ j ih =>
    intro i n v h1 h2 hv
    obtain ⟨m, rfl⟩ : ∃ m, n = m + 1 := ⟨n - 1, by omega⟩
    have hw : ga v 2 (nI (12 * t + i)) = zPp (v0.2.2.1 2) (nI t) i := by
      obtain ⟨g, w, tg, rfl, hg, hw⟩ := hv
      unfold zPp
      rw [if_neg (nI_pos (by omega)), nI_clamp (by omega)]
      show v0.2.2.1 2 _ = _
      rw [nI_clamp (by omega)]
    obtain ⟨v1, e1, r1⟩ := mWantOne (N := N) _ rfl (by omega) hv
    rw [zf_MMC_wantParts_0_b23, if_neg (nI_ge (by omega) (by omega)), if_pos rfl, zmul12', zck_pos (zin_of (by omega) (by omega)), hw]
    unfold zf_MMC_wantParts_0_b61
    rw [zbd_eq e1, nI_1, show i + (j + 1) = (i + 1) + j from by omega]
    exact ih (i + 1) m _ (by omega) (by omega) r1
theorem mWantPartsP {N : Nat} {v0 : zU} {s : zS} {tk : Int32} {p : Nat → Int32} {v : zU} {t : Nat} (hN : 1000 ≤ N) (hs : zSz (v0.2.2.1 0)) (ht : t < 40) (hv : RM v0 s tk 0 p v) : ∃ v', zf_MMC_wantParts_0 N (nI t) 0 v = some ((), v') ∧ RM v0 s tk (zNn false (v0.2.2.1 0) (nI t)) (zPp (v0.2.2.1 2) (nI t)) v' := by
  obtain ⟨n, hn, hne⟩ := hs t ht
  have hz : zNn false (v0.2.2.1 0) (nI t) = n := by
    unfold zNn
    rw [if_neg (nI_pos (by omega)), nI_clamp (by omega), hne, nI_clamp (by omega)]
  have hw : ga v 0 (nI t) = nI n := by
    obtain ⟨g, w, tg, rfl, hg, hw⟩ := hv
    rw [← hne]
    show v0.2.2.1 0 _ = _
    rw [nI_clamp (by omega)]
  have hv0 : RM v0 s tk 0 (zPp (v0.2.2.1 2) (nI t)) v := by
    obtain ⟨g, w, tg, rfl, hg, hw⟩ := hv
    exact ⟨g, w, tg, rfl, hg, fun i hi => absurd hi (by omega)⟩
  unfold zf_MMC_wantParts_0
  rw [if_pos rfl, zck_pos (zin_of ht (by omega)), hw, hz]
  unfold zf_MMC_wantParts_0_b19
  have h9 := mWantPartsP_l (N := N) ht n 0 N v (by omega) (by omega) hv0
  rw [Nat.zero_add] at h9
  exact h9
theorem mWantPartsR_l {N : Nat} {v0 : zU} {s : zS} {tk : Int32} {t : Nat} (ht : t < 40) : ∀ (j i n : Nat) (v : zU), i + j ≤ 12 → j < n → RM v0 s tk i (zPp (v0.2.2.1 3) (nI t)) v → ∃ v', zf_MMC_wantParts_0_b23 N n (nI t) 1 (nI (i + j)) (nI i) v = some ((), v') ∧ RM v0 s tk (i + j) (zPp (v0.2.2.1 3) (nI t)) v' := by
  intro j
  induction j with
  | zero =>
    intro i n v h1 h2 hv
    obtain ⟨m, rfl⟩ : ∃ m, n = m + 1 := ⟨n - 1, by omega⟩
    rw [zf_MMC_wantParts_0_b23, if_pos (nI_le (by omega) (by omega))]
    exact ⟨v, rfl, hv⟩
  | succ j ih =>
    intro i n v h1 h2 hv
    obtain ⟨m, rfl⟩ : ∃ m, n = m + 1 := ⟨n - 1, by omega⟩
    have hw : ga v 3 (nI (12 * t + i)) = zPp (v0.2.2.1 3) (nI t) i := by
      obtain ⟨g, w, tg, rfl, hg, hw⟩ := hv
      unfold zPp
      rw [if_neg (nI_pos (by omega)), nI_clamp (by omega)]
      show v0.2.2.1 3 _ = _
      rw [nI_clamp (by omega)]
    obtain ⟨v1, e1, r1⟩ := mWantOne (N := N) _ rfl (by omega) hv
    rw [zf_MMC_wantParts_0_b23, if_neg (nI_ge (by omega) (by omega)), if_neg (by decide), zmul12', zck_pos (zin_of (by omega) (by omega)), hw]
    unfold zf_MMC_wantParts_0_b61
    rw [zbd_eq e1, nI_1, show i + (j + 1) = (i + 1) + j from by omega]
    exact ih (i + 1) m _ (by omega) (by omega) r1
theorem mWantPartsR {N : Nat} {v0 : zU} {s : zS} {tk : Int32} {p : Nat → Int32} {v : zU} {t : Nat} (hN : 1000 ≤ N) (hs : zSz (v0.2.2.1 1)) (ht : t < 40) (hv : RM v0 s tk 0 p v) : ∃ v', zf_MMC_wantParts_0 N (nI t) 1 v = some ((), v') ∧ RM v0 s tk (zNn true (v0.2.2.1 1) (nI t)) (zPp (v0.2.2.1 3) (nI t)) v' := by
  obtain ⟨n, hn, hne⟩ := hs t ht
  have hz : zNn true (v0.2.2.1 1) (nI t) = n := by
    unfold zNn
    rw [if_neg (nI_pos (by omega)), nI_clamp (by omega), hne, nI_clamp (by omega)]
  have hw : ga v 1 (nI t) = nI n := by
    obtain ⟨g, w, tg, rfl, hg, hw⟩ := hv
    rw [← hne]
    show v0.2.2.1 1 _ = _
    rw [nI_clamp (by omega)]
  have hv0 : RM v0 s tk 0 (zPp (v0.2.2.1 3) (nI t)) v := by
    obtain ⟨g, w, tg, rfl, hg, hw⟩ := hv
    exact ⟨g, w, tg, rfl, hg, fun i hi => absurd hi (by omega)⟩
  unfold zf_MMC_wantParts_0
  rw [if_neg (by decide), zck_pos (zin_of ht (by omega)), hw, hz]
  unfold zf_MMC_wantParts_0_b19
  have h9 := mWantPartsR_l (N := N) ht n 0 N v (by omega) (by omega) hv0
  rw [Nat.zero_add] at h9
  exact h9
