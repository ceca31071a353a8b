/-! pure: the class's operations are the abstract ones -/
theorem cFail {N : Nat} {u0 : zU} {s : zS} {u : zU} (t : Int32) (hu : RC u0 s u) : ∃ u', zf_CCStack_fail_31 N t u = some ((), u') ∧ RC u0 (aStop t s) u' := by
  obtain ⟨k, rfl⟩ := hu
  obtain ⟨c, f, e⟩ := s
  unfold zf_CCStack_fail_31 zf_CCStack_fail_31_b12 aStop
  have g16 : gi (mkC u0 (nI c) f e k) 16 = e := rfl
  simp only
  rw [g16]
  by_cases he : e = 0
  · rw [if_pos he, if_pos he, mkC_16]; exact ⟨_, rfl, k, rfl⟩
  · rw [if_neg he, if_neg he]; exact ⟨_, rfl, k, rfl⟩
theorem cTake {N : Nat} {u0 : zU} {b h : Nat} {lv : Bool} {s : zS} {u : zU} (t : Int32) (X : CxC u0 b h lv) (H : zOk h s) (hu : RC u0 s u) : ∃ u', zf_CCStack_take_31 N t u = some ((aTake h lv t s).1, u') ∧ RC u0 (aTake h lv t s).2 u' := by
  obtain ⟨u1, e1, r1⟩ := cAny (N := N) X H hu
  unfold zf_CCStack_take_31 zf_CCStack_take_31_b19 aTake
  rw [zbd_eq e1]
  by_cases h1 : (aAny h lv s).1 = 0
  · rw [if_pos h1, if_pos h1]; exact ⟨_, rfl, r1⟩
  · rw [if_neg h1, if_neg h1]
    by_cases h2 : (aAny h lv s).1 = t
    · rw [if_pos h2, if_pos h2]; exact ⟨_, rfl, r1⟩
    · rw [if_neg h2, if_neg h2]
      obtain ⟨u2, e2, r2⟩ := cFail (N := N) 1 r1
      rw [zbd_eq e2]
      exact ⟨_, rfl, r2⟩
theorem cGive {N : Nat} {u0 : zU} {h : Nat} {s : zS} {u : zU} (t : Int32) (H : zOk h s) (hu : RC u0 s u) : ∃ u', zf_CCStack_give_31 N t u = some ((), u') ∧ RC u0 (aGive t s) u' := by
  obtain ⟨k, rfl⟩ := hu
  obtain ⟨c, f, e⟩ := s
  obtain ⟨h1, h2, h3⟩ := H
  simp only at h1 h2 h3
  have g16 : gi (mkC u0 (nI c) f e k) 16 = e := rfl
  have g14 : gi (mkC u0 (nI c) f e k) 14 = nI c := rfl
  unfold zf_CCStack_give_31 zf_CCStack_give_31_b27 aGive
  simp only
  rw [g16, g14]
  by_cases he : e = 0
  · subst he
    rw [if_pos rfl, if_pos rfl, if_neg (nI_pos (by omega))]
    by_cases hc : c < 200
    · rw [if_pos hc, if_pos ((show nI _ < 200 from nI_lt (b := 200) hc (by omega))), zck_pos (zin_of (by omega) (by omega)), mkC_18, mkC_14, nI_1, nI_clamp (by omega)]
      exact ⟨_, rfl, k, rfl⟩
    · rw [if_neg hc, if_neg ((show ¬ nI _ < 200 from nI_nlt (b := 200) (by omega) (by omega))), mkC_16]
      exact ⟨_, rfl, k, rfl⟩
  · rw [if_neg he, if_neg he]; exact ⟨_, rfl, k, rfl⟩
/-! the reference: its state with another row -/
def mkM (v0 : zU) (l : Int32) (g : Nat → Int32) (e tk : Int32) (wn : Int32) (w tg : Nat → Int32) : zU := (va_up (va_up (va_up (va_up v0.1 13 l) 11 e) 12 tk) 18 wn, v0.2.1, va_up (va_up (va_up v0.2.2.1 15 g) 16 w) 17 tg, v0.2.2.2)
section MK
variable (v0 : zU) (l l' : Int32) (g : Nat → Int32) (e e' tk tk' wn wn' : Int32) (w tg : Nat → Int32) (i x : Int32)
theorem mkM_13 : si (mkM v0 l g e tk wn w tg) 13 l' = mkM v0 l' g e tk wn w tg := by
  unfold si mkM
  simp only
  rw [va_upc _ _ _ (by decide : (18 : Nat) ≠ 13), va_upc _ _ _ (by decide : (12 : Nat) ≠ 13), va_upc _ _ _ (by decide : (11 : Nat) ≠ 13), va_up2]
theorem mkM_11 : si (mkM v0 l g e tk wn w tg) 11 e' = mkM v0 l g e' tk wn w tg := by
  unfold si mkM
  simp only
  rw [va_upc _ _ _ (by decide : (18 : Nat) ≠ 11), va_upc _ _ _ (by decide : (12 : Nat) ≠ 11), va_up2]
theorem mkM_12 : si (mkM v0 l g e tk wn w tg) 12 tk' = mkM v0 l g e tk' wn w tg := by
  unfold si mkM
  simp only
  rw [va_upc _ _ _ (by decide : (18 : Nat) ≠ 12), va_up2]
theorem mkM_18 : si (mkM v0 l g e tk wn w tg) 18 wn' = mkM v0 l g e tk wn' w tg := by
  unfold si mkM
  simp only
  rw [va_up2]
theorem mkM_a15 : sa (mkM v0 l g e tk wn w tg) 15 i x = mkM v0 l (upd g i.toNatClampNeg x) e tk wn w tg := by
  unfold sa mkM
  simp only
  rw [va_upc _ _ _ (by decide : (17 : Nat) ≠ 15), va_upc _ _ _ (by decide : (16 : Nat) ≠ 15), va_up2]; rfl
theorem mkM_a16 : sa (mkM v0 l g e tk wn w tg) 16 i x = mkM v0 l g e tk wn (upd w i.toNatClampNeg x) tg := by
  unfold sa mkM
  simp only
  rw [va_upc _ _ _ (by decide : (17 : Nat) ≠ 16), va_up2]; rfl
theorem mkM_a17 : sa (mkM v0 l g e tk wn w tg) 17 i x = mkM v0 l g e tk wn w (upd tg i.toNatClampNeg x) := by
  unfold sa mkM
  simp only
  rw [va_up2]; rfl
end MK
/-- the reference has the abstract row, took tk last, wants the list W -/
def RM (v0 : zU) (s : zS) (tk : Int32) (wn : Nat) (p : Nat → Int32) (v : zU) : Prop := ∃ (g w tg : Nat → Int32), v = mkM v0 (nI s.1) g s.2.2 tk (nI wn) w tg ∧ (∀ i, i < s.1 → g i = s.2.1 i) ∧ ∀ i, i < wn → w i = p i
def CxM (v0 : zU) (b h : Nat) (lv : Bool) : Prop := gi v0 10 = nI (b + 1) ∧ b < 60 ∧ v0.2.2.1 13 b = nI h ∧ v0.2.2.1 14 b = (if lv then 0 else 1) ∧ h ≤ 200
theorem mStop {N : Nat} {v0 : zU} {s : zS} {tk : Int32} {wn : Nat} {p : Nat → Int32} {v : zU} (t : Int32) (hv : RM v0 s tk wn p v) : ∃ v', zf_MMC_stop_0 N t v = some ((), v') ∧ RM v0 (aStop t s) tk wn p v' := by
  obtain ⟨g, w, tg, rfl, hg, hw⟩ := hv
  obtain ⟨c, f, e⟩ := s
  unfold zf_MMC_stop_0 zf_MMC_stop_0_b16 aStop
  have g11 : gi (mkM v0 (nI c) g e tk (nI wn) w tg) 11 = e := rfl
  simp only
  rw [g11]
  by_cases he : e = 0
  · rw [if_pos he, if_pos he, mkM_11]; exact ⟨_, rfl, g, w, tg, rfl, hg, hw⟩
  · rw [if_neg he, if_neg he, mkM_11]; exact ⟨_, rfl, g, w, tg, rfl, hg, hw⟩
theorem zle0 {e : Int32} (h : 0 ≤ e) : e ≤ 0 ↔ e = 0 := by
  rw [Int32.le_iff_toInt_le] at h ⊢
  rw [← Int32.toInt_inj]
  have : (0 : Int32).toInt = 0 := by decide
  rw [this] at h ⊢
  omega
/-- what the reference takes: with -1 anything, else this type -/
def aTk (h : Nat) (lv : Bool) (t : Int32) (s : zS) : Int32 × zS := if t = -1 then aAny h lv s else aTake h lv t s
theorem mTake {N : Nat} {v0 : zU} {b h : Nat} {lv : Bool} {s : zS} {tk : Int32} {wn : Nat} {p : Nat → Int32} {v : zU} (t : Int32) (X : CxM v0 b h lv) (H : zOk h s) (hv : RM v0 s tk wn p v) : ∃ v' tk', zf_MMC_take_0 N t v = some ((), v') ∧ RM v0 (aTk h lv t s).2 tk' wn p v' ∧ (s.2.2 = 0 → tk' = (aTk h lv t s).1) := by
  obtain ⟨g, w, tg, rfl, hg, hw⟩ := hv
  obtain ⟨c, f, e⟩ := s
  obtain ⟨hb, hb6, hh, hl, hh2⟩ := X
  obtain ⟨h1, h2, h3⟩ := H
  simp only at h1 h2 h3 hg
  have g10 : gi (mkM v0 (nI c) g e tk (nI wn) w tg) 10 = nI (b + 1) := hb
  have g11 : gi (mkM v0 (nI c) g e tk (nI wn) w tg) 11 = e := rfl
  have g13 : gi (mkM v0 (nI c) g e tk (nI wn) w tg) 13 = nI c := rfl
  have b1 : nI (b + 1) - 1 = nI b := nI_pred b
  have hbz : (nI b).toNatClampNeg = b := nI_clamp (by omega)
  unfold zf_MMC_take_0 zf_MMC_take_0_b96 zf_MMC_take_0_b47
  rw [g10, g11, g13, b1]
  by_cases he : e = 0
  · subst he
    rw [if_pos (by decide), zck_pos (zin_of (by omega) (by omega)), zck_pos (zin_of (by omega) (by omega)), mkM_12]
    have a13 : ga (mkM v0 (nI c) g 0 0 (nI wn) w tg) 13 (nI b) = nI h := by rw [← hh]; show v0.2.2.1 13 _ = _; rw [hbz]
    have a14 : ga (mkM v0 (nI c) g 0 0 (nI wn) w tg) 14 (nI b) = (if lv then 0 else 1) := by rw [← hl]; show v0.2.2.1 14 _ = _; rw [hbz]
    rw [a13, a14]
    by_cases hc : h < c
    · obtain ⟨d, rfl⟩ : ∃ d, c = d + 1 := ⟨c - 1, by omega⟩
      have hAny : aAny h lv (d + 1, f, 0) = (f d, (d, f, 0)) := by
        show (if (0 : Int32) = 0 then (if h < d + 1 then (f d, (d, f, (0 : Int32))) else _) else _) = _; rw [if_pos rfl, if_pos hc]
      rw [if_neg (fun q => by rw [nI_eq (by omega) (by omega)] at q; omega), nI_pred, zck_pos (zin_of (by omega) (by omega)), mkM_13, mkM_12]
      have a15 : ga (mkM v0 (nI d) g 0 0 (nI wn) w tg) 15 (nI d) = f d := by
        rw [← hg d (by omega)]; show g _ = _; rw [nI_clamp (by omega)]
      rw [a15]
      have key : RM v0 (d, f, 0) (f d) wn p (mkM v0 (nI d) g 0 (f d) (nI wn) w tg) := ⟨g, w, tg, rfl, fun i hi => hg i (by simp only at hi; omega), hw⟩
      unfold aTk
      by_cases ht : t = -1
      · rw [if_pos ht, if_pos ht, hAny]; exact ⟨_, _, rfl, key, fun _ => rfl⟩
      · rw [if_neg ht, if_neg ht]
        unfold aTake
        rw [hAny]
        simp only
        by_cases h4 : f d = 0
        · rw [if_pos h4, if_pos h4]; exact ⟨_, _, rfl, key, fun _ => rfl⟩
        · rw [if_neg h4, if_neg h4]
          by_cases h5 : f d = t
          · rw [if_pos h5, if_pos h5]; exact ⟨_, _, rfl, key, fun _ => rfl⟩
          · rw [if_neg h5, if_neg h5]
            obtain ⟨v2, e2, r2⟩ := mStop (N := N) 1 key
            rw [zbd_eq e2]
            exact ⟨_, _, rfl, r2, fun _ => rfl⟩
    · have hch : c = h := by omega
      subst hch
      rw [if_pos rfl]
      have key : RM v0 (c, f, 0) 0 wn p (mkM v0 (nI c) g 0 0 (nI wn) w tg) := ⟨g, w, tg, rfl, hg, hw⟩
      cases lv
      · have hAny : aAny c false (c, f, 0) = (0, (c, f, 0)) := by
          show (if (0 : Int32) = 0 then (if c < c then _ else (0, (c, f, (0 : Int32)))) else _) = _; rw [if_pos rfl, if_neg (Nat.lt_irrefl c)]
        refine ⟨_, 0, rfl, ?_, ?_⟩
        · unfold aTk aTake; rw [hAny]; simp only [if_true]; split <;> exact key
        · unfold aTk aTake; rw [hAny]; simp only [if_true]; split <;> exact fun _ => rfl
      · have hAny : aAny c true (c, f, 0) = (0, (c, f, 1)) := by
          show (if (0 : Int32) = 0 then (if c < c then _ else (0, (c, f, (1 : Int32)))) else _) = _; rw [if_pos rfl, if_neg (Nat.lt_irrefl c)]
        rw [if_pos rfl]
        obtain ⟨v2, e2, r2⟩ := mStop (N := N) 1 key
        rw [zbd_eq e2]
        refine ⟨_, 0, rfl, ?_, ?_⟩
        · unfold aTk aTake; rw [hAny]; simp only [if_true]; split <;> exact r2
        · unfold aTk aTake; rw [hAny]; simp only [if_true]; split <;> exact fun _ => rfl
  · rw [if_neg (fun q => he ((zle0 h3).mp q))]
    refine ⟨_, tk, rfl, ?_, fun q => absurd q he⟩
    have : (aTk h lv t (c, f, e)).2 = (c, f, e) := by
      unfold aTk
      split
      · rw [aAny_ne he]
      · rw [aTake_ne he]
    rw [this]
    exact ⟨g, w, tg, rfl, hg, hw⟩
theorem mGive {N : Nat} {v0 : zU} {h : Nat} {s : zS} {tk : Int32} {wn : Nat} {p : Nat → Int32} {v : zU} (t : Int32) (H : zOk h s) (hv : RM v0 s tk wn p v) : ∃ v', zf_MMC_give_0 N t v = some ((), v') ∧ RM v0 (aGive t s) tk wn p v' := by
  obtain ⟨g, w, tg, rfl, hg, hw⟩ := hv
  obtain ⟨c, f, e⟩ := s
  obtain ⟨h1, h2, h3⟩ := H
  simp only at h1 h2 h3 hg
  have g11 : ∀ l g e tk wn w tg, gi (mkM v0 l g e tk wn w tg) 11 = e := fun _ _ _ _ _ _ _ => rfl
  have g13 : ∀ l g e tk wn w tg, gi (mkM v0 l g e tk wn w tg) 13 = l := fun _ _ _ _ _ _ _ => rfl
  unfold zf_MMC_give_0
  rw [g13]
  by_cases hc : c < 200
  · rw [if_neg (fun q => by have q : nI c = nI 200 := q; rw [nI_eq (by omega) (by omega)] at q; omega)]
    unfold zf_MMC_give_0_b16 aGive
    simp only
    rw [g11, g13]
    by_cases he : e = 0
    · subst he
      rw [if_pos (by decide), if_pos rfl, if_pos hc, zck_pos (zin_of (by omega) (by omega)), mkM_a15, mkM_13, nI_1, nI_clamp (by omega)]
      refine ⟨_, rfl, upd g c t, w, tg, rfl, ?_, hw⟩
      intro i hi
      simp only at hi ⊢
      unfold upd
      split
      · rfl
      · exact hg i (by omega)
    · rw [if_neg (fun q => he ((zle0 h3).mp q)), if_neg he]
      exact ⟨_, rfl, g, w, tg, rfl, hg, hw⟩
  · have hc2 : c = 200 := by omega
    subst hc2
    rw [if_pos (show nI (200, f, e).1 = 200 from rfl)]
    obtain ⟨v2, e2, r2⟩ := mStop (N := N) 15 (show RM v0 (200, f, e) tk wn p _ from ⟨g, w, tg, rfl, hg, hw⟩)
    rw [zbd_eq e2]
    obtain ⟨g', w', tg', rfl, hg', hw'⟩ := r2
    unfold zf_MMC_give_0_b16
    rw [g11]
    have hs : aGive t (200, f, e) = aStop 15 (200, f, e) := by
      unfold aGive aStop
      simp only
      split <;> rfl
    rw [hs]
    have hne : ¬ (aStop 15 (200, f, e)).2.2 ≤ 0 := by
      unfold aStop
      simp only
      split
      · exact (by decide : ¬ (15 : Int32) ≤ 0)
      · rename_i q; exact fun q2 => q ((zle0 h3).mp q2)
    rw [if_neg hne]
    exact ⟨_, rfl, g', w', tg', rfl, hg', hw'⟩
