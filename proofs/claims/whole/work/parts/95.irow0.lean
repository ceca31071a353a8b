/-! pure: 14; the takes and gives once more, with what a row of labels collects -/
def RCk (u0 : zU) (s : zS) (k : Nat → Int32) (u : zU) : Prop := u = mkC u0 (nI s.1) s.2.1 s.2.2 k
def RMk (v0 : zU) (s : zS) (tk : Int32) (wn : Nat) (p tg : Nat → Int32) (v : zU) : Prop := ∃ (g w : Nat → Int32), v = mkM v0 (nI s.1) g s.2.2 tk (nI wn) w tg ∧ (∀ i, i < s.1 → g i = s.2.1 i) ∧ ∀ i, i < wn → w i = p i
theorem cAnyk {N : Nat} {u0 : zU} {b h : Nat} {lv : Bool} {s : zS} {u : zU} {k : Nat → Int32} (X : CxC u0 b h lv) (H : zOk h s) (hu : RCk u0 s k u) : ∃ u', zf_CCStack_takeAny_31 N u = some ((aAny h lv s).1, u') ∧ RCk u0 (aAny h lv s).2 k u' := by
  unfold RCk at hu; subst hu
  obtain ⟨c, f, e⟩ := s
  obtain ⟨hb, hb6, hh, hl, hh2⟩ := X
  obtain ⟨h1, h2, h3⟩ := H
  simp only at h1 h2 h3
  have g15 : gi (mkC u0 (nI c) f e k) 15 = nI (b + 1) := hb
  have g16 : gi (mkC u0 (nI c) f e k) 16 = e := rfl
  have g14 : gi (mkC u0 (nI c) f e k) 14 = nI c := rfl
  have b1 : nI (b + 1) - 1 = nI b := nI_pred b
  have hbz : (nI b).toNatClampNeg = b := nI_clamp (by omega)
  unfold zf_CCStack_takeAny_31 aAny
  rw [g15, g16, b1]
  simp only
  by_cases he : e = 0
  · subst he
    rw [if_pos rfl, if_pos rfl, if_neg (nI_pos (by omega)), if_pos ((show nI _ < 60 from nI_lt (b := 60) hb6 (by omega))), zck_pos (zin_of hb6 (by omega)), g14]
    have g20 : ga (mkC u0 (nI c) f 0 k) 20 (nI b) = nI h := by rw [← hh]; show u0.2.2.1 20 _ = _; rw [hbz]
    have g22 : ga (mkC u0 (nI c) f 0 k) 22 (nI b) = (if lv then 1 else 0) := by rw [← hl]; show u0.2.2.1 22 _ = _; rw [hbz]
    rw [g20]
    by_cases hc : h < c
    · obtain ⟨d, rfl⟩ : ∃ d, c = d + 1 := ⟨c - 1, by omega⟩
      rw [if_pos hc, nI_pred, if_neg (nI_nlt (by omega) (by omega)), if_neg (nI_pos (by omega)), if_neg ((show ¬ (200 : Int32) ≤ nI _ from nI_ge (a := d) (b := 200) (by omega) (by omega))), zck_pos (zin_of (by omega) (by omega)), mkC_14]
      have g18 : ga (mkC u0 (nI d) f 0 k) 18 (nI d) = f d := by show f _ = _; rw [nI_clamp (by omega)]
      rw [g18]
      exact ⟨_, rfl, rfl⟩
    · rw [if_neg hc]
      have hch : c = h := by omega
      subst hch
      have : nI c - 1 < nI c := by
        rcases Nat.eq_zero_or_pos c with rfl | hp
        · decide
        · obtain ⟨d, rfl⟩ : ∃ d, c = d + 1 := ⟨c - 1, by omega⟩
          rw [nI_pred]; exact nI_lt (by omega) (by omega)
      rw [if_pos this]
      unfold zf_CCStack_takeAny_31_b68
      rw [zck_pos (zin_of hb6 (by omega)), g22]
      cases lv
      · show ∃ u', zf_CCStack_takeAny_31_b82 N (mkC u0 (nI c) f 0 k) = some (0, u') ∧ RCk u0 (c, f, 0) k u'
        exact ⟨_, rfl, rfl⟩
      · show ∃ u', zf_CCStack_takeAny_31_b82 N (si (mkC u0 (nI c) f 0 k) 16 1) = some (0, u') ∧ RCk u0 (c, f, 1) k u'
        unfold zf_CCStack_takeAny_31_b82
        rw [mkC_16]
        exact ⟨_, rfl, rfl⟩
  · rw [if_neg he, if_neg he]
    exact ⟨_, rfl, rfl⟩
theorem cFailk {N : Nat} {u0 : zU} {s : zS} {u : zU} {k : Nat → Int32} (t : Int32) (hu : RCk u0 s k u) : ∃ u', zf_CCStack_fail_31 N t u = some ((), u') ∧ RCk u0 (aStop t s) k u' := by
  unfold RCk at hu; subst hu
  obtain ⟨c, f, e⟩ := s
  unfold zf_CCStack_fail_31 zf_CCStack_fail_31_b12 aStop
  have g16 : gi (mkC u0 (nI c) f e k) 16 = e := rfl
  simp only
  rw [g16]
  by_cases he : e = 0
  · rw [if_pos he, if_pos he, mkC_16]; exact ⟨_, rfl, rfl⟩
  · rw [if_neg he, if_neg he]; exact ⟨_, rfl, rfl⟩
theorem cTakek {N : Nat} {u0 : zU} {b h : Nat} {lv : Bool} {s : zS} {u : zU} {k : Nat → Int32} (t : Int32) (X : CxC u0 b h lv) (H : zOk h s) (hu : RCk u0 s k u) : ∃ u', zf_CCStack_take_31 N t u = some ((aTake h lv t s).1, u') ∧ RCk u0 (aTake h lv t s).2 k u' := by
  obtain ⟨u1, e1, r1⟩ := cAnyk (N := N) X H hu
  unfold zf_CCStack_take_31 zf_CCStack_take_31_b19 aTake
  rw [zbd_eq e1]
  by_cases h1 : (aAny h lv s).1 = 0
  · rw [if_pos h1, if_pos h1]; exact ⟨_, rfl, r1⟩
  · rw [if_neg h1, if_neg h1]
    by_cases h2 : (aAny h lv s).1 = t
    · rw [if_pos h2, if_pos h2]; exact ⟨_, rfl, r1⟩
    · rw [if_neg h2, if_neg h2]
      obtain ⟨u2, e2, r2⟩ := cFailk (N := N) 1 r1
      rw [zbd_eq e2]
      exact ⟨_, rfl, r2⟩
theorem cGivek {N : Nat} {u0 : zU} {h : Nat} {s : zS} {u : zU} {k : Nat → Int32} (t : Int32) (H : zOk h s) (hu : RCk u0 s k u) : ∃ u', zf_CCStack_give_31 N t u = some ((), u') ∧ RCk u0 (aGive t s) k u' := by
  unfold RCk at hu; subst hu
  obtain ⟨c, f, e⟩ := s
  obtain ⟨h1, h2, h3⟩ := H
  simp only at h1 h2 h3
  have g16 : gi (mkC u0 (nI c) f e k) 16 = e := rfl
  have g14 : gi (mkC u0 (nI c) f e k) 14 = nI c := rfl
  unfold zf_CCStack_give_31 zf_CCStack_give_31_b27 aGive
  simp only
  rw [g16, g14]
  by_cases he : e = 0
  · subst he
    rw [if_pos rfl, if_pos rfl, if_neg (nI_pos (by omega))]
    by_cases hc : c < 200
    · rw [if_pos hc, if_pos ((show nI _ < 200 from nI_lt (b := 200) hc (by omega))), zck_pos (zin_of (by omega) (by omega)), mkC_18, mkC_14, nI_1, nI_clamp (by omega)]
      exact ⟨_, rfl, rfl⟩
    · rw [if_neg hc, if_neg ((show ¬ nI _ < 200 from nI_nlt (b := 200) (by omega) (by omega))), mkC_16]
      exact ⟨_, rfl, rfl⟩
  · rw [if_neg he, if_neg he]; exact ⟨_, rfl, rfl⟩
theorem mStopk {N : Nat} {v0 : zU} {s : zS} {tk : Int32} {wn : Nat} {p : Nat → Int32} {v : zU} {tg : Nat → Int32} (t : Int32) (hv : RMk v0 s tk wn p tg v) : ∃ v', zf_MMC_stop_0 N t v = some ((), v') ∧ RMk v0 (aStop t s) tk wn p tg v' := by
  obtain ⟨g, w, rfl, hg, hw⟩ := hv
  obtain ⟨c, f, e⟩ := s
  unfold zf_MMC_stop_0 zf_MMC_stop_0_b16 aStop
  have g11 : gi (mkM v0 (nI c) g e tk (nI wn) w tg) 11 = e := rfl
  simp only
  rw [g11]
  by_cases he : e = 0
  · rw [if_pos he, if_pos he, mkM_11]; exact ⟨_, rfl, g, w, rfl, hg, hw⟩
  · rw [if_neg he, if_neg he, mkM_11]; exact ⟨_, rfl, g, w, rfl, hg, hw⟩
theorem mTakek {N : Nat} {v0 : zU} {b h : Nat} {lv : Bool} {s : zS} {tk : Int32} {wn : Nat} {p : Nat → Int32} {v : zU} {tg : Nat → Int32} (t : Int32) (X : CxM v0 b h lv) (H : zOk h s) (hv : RMk v0 s tk wn p tg v) : ∃ v' tk', zf_MMC_take_0 N t v = some ((), v') ∧ RMk v0 (aTk h lv t s).2 tk' wn p tg v' ∧ (s.2.2 = 0 → tk' = (aTk h lv t s).1) := by
  obtain ⟨g, w, rfl, hg, hw⟩ := hv
  obtain ⟨c, f, e⟩ := s
  obtain ⟨hb, hb6, hh, hl, hh2⟩ := X
  obtain ⟨h1, h2, h3⟩ := H
  simp only at h1 h2 h3 hg
  have g10 : gi (mkM v0 (nI c) g e tk (nI wn) w tg) 10 = nI (b + 1) := hb
  have g11 : gi (mkM v0 (nI c) g e tk (nI wn) w tg) 11 = e := rfl
  have g13 : gi (mkM v0 (nI c) g e tk (nI wn) w tg) 13 = nI c := rfl
  have b1 : nI (b + 1) - 1 = nI b := nI_pred b
  have hbz : (nI b).toNatClampNeg = b := nI_clamp (by omega)
  unfold zf_MMC_take_0 zf_MMC_take_0_b96 zf_MMC_take_0_b47
  rw [g10, g11, g13, b1]
  by_cases he : e = 0
  · subst he
    rw [if_pos (by decide), zck_pos (zin_of (by omega) (by omega)), zck_pos (zin_of (by omega) (by omega)), mkM_12]
    have a13 : ga (mkM v0 (nI c) g 0 0 (nI wn) w tg) 13 (nI b) = nI h := by rw [← hh]; show v0.2.2.1 13 _ = _; rw [hbz]
    have a14 : ga (mkM v0 (nI c) g 0 0 (nI wn) w tg) 14 (nI b) = (if lv then 0 else 1) := by rw [← hl]; show v0.2.2.1 14 _ = _; rw [hbz]
    rw [a13, a14]
    by_cases hc : h < c
    · obtain ⟨d, rfl⟩ : ∃ d, c = d + 1 := ⟨c - 1, by omega⟩
      have hAny : aAny h lv (d + 1, f, 0) = (f d, (d, f, 0)) := by
        show (if (0 : Int32) = 0 then (if h < d + 1 then (f d, (d, f, (0 : Int32))) else _) else _) = _; rw [if_pos rfl, if_pos hc]
      rw [if_neg (fun q => by rw [nI_eq (by omega) (by omega)] at q; omega), nI_pred, zck_pos (zin_of (by omega) (by omega)), mkM_13, mkM_12]
      have a15 : ga (mkM v0 (nI d) g 0 0 (nI wn) w tg) 15 (nI d) = f d := by
        rw [← hg d (by omega)]; show g _ = _; rw [nI_clamp (by omega)]
      rw [a15]
      have key : RMk v0 (d, f, 0) (f d) wn p tg (mkM v0 (nI d) g 0 (f d) (nI wn) w tg) := ⟨g, w, rfl, fun i hi => hg i (by simp only at hi; omega), hw⟩
      unfold aTk
      by_cases ht : t = -1
      · rw [if_pos ht, if_pos ht, hAny]; exact ⟨_, _, rfl, key, fun _ => rfl⟩
      · rw [if_neg ht, if_neg ht]
        unfold aTake
        rw [hAny]
        simp only
        by_cases h4 : f d = 0
        · rw [if_pos h4, if_pos h4]; exact ⟨_, _, rfl, key, fun _ => rfl⟩
        · rw [if_neg h4, if_neg h4]
          by_cases h5 : f d = t
          · rw [if_pos h5, if_pos h5]; exact ⟨_, _, rfl, key, fun _ => rfl⟩
          · rw [if_neg h5, if_neg h5]
            obtain ⟨v2, e2, r2⟩ := mStopk (N := N) 1 key
            rw [zbd_eq e2]
            exact ⟨_, _, rfl, r2, fun _ => rfl⟩
    · have hch : c = h := by omega
      subst hch
      rw [if_pos rfl]
      have key : RMk v0 (c, f, 0) 0 wn p tg (mkM v0 (nI c) g 0 0 (nI wn) w tg) := ⟨g, w, rfl, hg, hw⟩
      cases lv
      · have hAny : aAny c false (c, f, 0) = (0, (c, f, 0)) := by
          show (if (0 : Int32) = 0 then (if c < c then _ else (0, (c, f, (0 : Int32)))) else _) = _; rw [if_pos rfl, if_neg (Nat.lt_irrefl c)]
        refine ⟨_, 0, rfl, ?_, ?_⟩
        · unfold aTk aTake; rw [hAny]; simp only [if_true]; split <;> exact key
        · unfold aTk aTake; rw [hAny]; simp only [if_true]; split <;> exact fun _ => rfl
      · have hAny : aAny c true (c, f, 0) = (0, (c, f, 1)) := by
          show (if (0 : Int32) = 0 then (if c < c then _ else (0, (c, f, (1 : Int32)))) else _) = _; rw [if_pos rfl, if_neg (Nat.lt_irrefl c)]
        rw [if_pos rfl]
        obtain ⟨v2, e2, r2⟩ := mStopk (N := N) 1 key
        rw [zbd_eq e2]
        refine ⟨_, 0, rfl, ?_, ?_⟩
        · unfold aTk aTake; rw [hAny]; simp only [if_true]; split <;> exact r2
        · unfold aTk aTake; rw [hAny]; simp only [if_true]; split <;> exact fun _ => rfl
  · rw [if_neg (fun q => he ((zle0 h3).mp q))]
    refine ⟨_, tk, rfl, ?_, fun q => absurd q he⟩
    have : (aTk h lv t (c, f, e)).2 = (c, f, e) := by
      unfold aTk
      split
      · rw [aAny_ne he]
      · rw [aTake_ne he]
    rw [this]
    exact ⟨g, w, rfl, hg, hw⟩
theorem mGivek {N : Nat} {v0 : zU} {h : Nat} {s : zS} {tk : Int32} {wn : Nat} {p : Nat → Int32} {v : zU} {tg : Nat → Int32} (t : Int32) (H : zOk h s) (hv : RMk v0 s tk wn p tg v) : ∃ v', zf_MMC_give_0 N t v = some ((), v') ∧ RMk v0 (aGive t s) tk wn p tg v' := by
  obtain ⟨g, w, rfl, hg, hw⟩ := hv
  obtain ⟨c, f, e⟩ := s
  obtain ⟨h1, h2, h3⟩ := H
  simp only at h1 h2 h3 hg
  have g11 : ∀ l g e tk wn w tg, gi (mkM v0 l g e tk wn w tg) 11 = e := fun _ _ _ _ _ _ _ => rfl
  have g13 : ∀ l g e tk wn w tg, gi (mkM v0 l g e tk wn w tg) 13 = l := fun _ _ _ _ _ _ _ => rfl
  unfold zf_MMC_give_0
  rw [g13]
  by_cases hc : c < 200
  · rw [if_neg (fun q => by have q : nI c = nI 200 := q; rw [nI_eq (by omega) (by omega)] at q; omega)]
    unfold zf_MMC_give_0_b16 aGive
    simp only
    rw [g11, g13]
    by_cases he : e = 0
    · subst he
      rw [if_pos (by decide), if_pos rfl, if_pos hc, zck_pos (zin_of (by omega) (by omega)), mkM_a15, mkM_13, nI_1, nI_clamp (by omega)]
      refine ⟨_, rfl, upd g c t, w, rfl, ?_, hw⟩
      intro i hi
      simp only at hi ⊢
      unfold upd
      split
      · rfl
      · exact hg i (by omega)
    · rw [if_neg (fun q => he ((zle0 h3).mp q)), if_neg he]
      exact ⟨_, rfl, g, w, rfl, hg, hw⟩
  · have hc2 : c = 200 := by omega
    subst hc2
    rw [if_pos (show nI (200, f, e).1 = 200 from rfl)]
    obtain ⟨v2, e2, r2⟩ := mStopk (N := N) 15 (show RMk v0 (200, f, e) tk wn p tg _ from ⟨g, w, rfl, hg, hw⟩)
    rw [zbd_eq e2]
    obtain ⟨g', w', rfl, hg', hw'⟩ := r2
    unfold zf_MMC_give_0_b16
    rw [g11]
    have hs : aGive t (200, f, e) = aStop 15 (200, f, e) := by
      unfold aGive aStop
      simp only
      split <;> rfl
    rw [hs]
    have hne : ¬ (aStop 15 (200, f, e)).2.2 ≤ 0 := by
      unfold aStop
      simp only
      split
      · exact (by decide : ¬ (15 : Int32) ≤ 0)
      · rename_i q; exact fun q2 => q ((zle0 h3).mp q2)
    rw [if_neg hne]
    exact ⟨_, rfl, g', w', rfl, hg', hw'⟩
