/-! pure: a block is opened -/
def zPuC (u : zU) (b : Nat) (o x : Int32) (c1 : Nat) : zU := si (sa (sa (sa (sa u 19 (nI (b + 1)) x) 20 (nI (b + 1)) (nI c1)) 21 (nI (b + 1)) o) 22 (nI (b + 1)) 1) 15 (nI (b + 2))
def zPuM (v0 : zU) (b : Nat) (o x : Int32) (c1 : Nat) : zU := sa (sa (sa (sa v0 11 (nI (b + 1)) o) 12 (nI (b + 1)) x) 13 (nI (b + 1)) (nI c1)) 14 (nI (b + 1)) 0
theorem mkC_push (u : zU) (c : Int32) (f : Nat → Int32) (e : Int32) (k : Nat → Int32) (i x y o l z : Int32) : si (sa (sa (sa (sa (mkC u c f e k) 19 i x) 20 i y) 21 i o) 22 i l) 15 z = mkC (si (sa (sa (sa (sa u 19 i x) 20 i y) 21 i o) 22 i l) 15 z) c f e k := by
  refine Prod.ext ?_ (Prod.ext rfl (Prod.ext ?_ rfl))
  · funext q
    by_cases h14 : q = 14
    · subst h14; rfl
    by_cases h15 : q = 15
    · subst h15; rfl
    by_cases h16 : q = 16
    · subst h16; rfl
    simp only [si, sa, mkC, va_up, if_neg h14, if_neg h15, if_neg h16]
  · funext q
    by_cases h18 : q = 18
    · subst h18; rfl
    by_cases h19 : q = 19
    · subst h19; rfl
    by_cases h20 : q = 20
    · subst h20; rfl
    by_cases h21 : q = 21
    · subst h21; rfl
    by_cases h22 : q = 22
    · subst h22; rfl
    by_cases h23 : q = 23
    · subst h23; rfl
    simp only [si, sa, mkC, va_up, if_neg h18, if_neg h19, if_neg h20, if_neg h21, if_neg h22, if_neg h23]
theorem mkM_push (v0 : zU) (l : Int32) (g : Nat → Int32) (e tk wn : Int32) (w tg : Nat → Int32) (i o x y d : Int32) : sa (sa (sa (sa (mkM v0 l g e tk wn w tg) 11 i o) 12 i x) 13 i y) 14 i d = mkM (sa (sa (sa (sa v0 11 i o) 12 i x) 13 i y) 14 i d) l g e tk wn w tg := by
  refine Prod.ext rfl (Prod.ext rfl (Prod.ext ?_ rfl))
  funext q
  by_cases h11 : q = 11
  · subst h11; rfl
  by_cases h12 : q = 12
  · subst h12; rfl
  by_cases h13 : q = 13
  · subst h13; rfl
  by_cases h14 : q = 14
  · subst h14; rfl
  by_cases h15 : q = 15
  · subst h15; rfl
  by_cases h16 : q = 16
  · subst h16; rfl
  by_cases h17 : q = 17
  · subst h17; rfl
  simp only [sa, mkM, va_up, if_neg h11, if_neg h12, if_neg h13, if_neg h14, if_neg h15, if_neg h16, if_neg h17]
theorem aGive_e {t : Int32} {s : zS} (h : (aGive t s).2.2 = 0) : s.2.2 = 0 ∧ s.1 ≤ (aGive t s).1 := by
  unfold aGive at h ⊢
  by_cases e : s.2.2 = 0
  · rw [if_pos e] at h ⊢
    by_cases c : s.1 < 200
    · rw [if_pos c]; exact ⟨e, Nat.le_succ _⟩
    · rw [if_neg c] at h; exact absurd h (by decide : ¬ (15 : Int32) = 0)
  · rw [if_neg e] at h; exact absurd h e
theorem aGives_e (l : List Int32) : ∀ {s : zS}, (aGives l s).2.2 = 0 → s.2.2 = 0 ∧ s.1 ≤ (aGives l s).1 := by
  induction l with
  | nil => intro s h; exact ⟨h, Nat.le_refl _⟩
  | cons t l ih =>
    intro s h
    obtain ⟨a1, a2⟩ := ih (s := aGive t s) h
    obtain ⟨b1, b2⟩ := aGive_e a1
    exact ⟨b1, Nat.le_trans b2 a2⟩
section OP
variable {N ty b c lb rw' lc : Nat} {n H M : Nat → Nat} {u v u' w' : zU} {s : zS} {tk : Int32} {wn : Nat} {p : Nat → Int32} {x y : Int32}
theorem cPush (o : Int32) (a2 : b < 60) (a3 : gi u 15 = nI (b + 1)) (hs : s.1 ≤ 200) (hu : RC u s u') : ∃ u2, zf_CCStack_pushBlock_31 N o x u' = some ((), u2) ∧ ((s.2.2 = 0 ∧ b + 1 < 60) → RC (zPuC u b o x s.1) s u2) ∧ (¬ (s.2.2 = 0 ∧ b + 1 < 60) → RC u (aStop 15 s) u2) := by
  have u15 : gi u' 15 = nI (b + 1) := by rw [RC_i (k := 15) (by decide) hu]; exact a3
  unfold zf_CCStack_pushBlock_31 zf_CCStack_pushBlock_31_b24
  rw [RC_16 hu, u15, RC_14 hu]
  by_cases he : s.2.2 = 0
  · rw [if_pos he, if_neg (nI_pos (by omega))]
    by_cases hb : b + 1 < 60
    · rw [if_pos (show nI (b + 1) < 60 from nI_lt (b := 60) hb (by omega)), zck_pos (zin_of hb (by omega)), zck_pos (zin_of hb (by omega)), zck_pos (zin_of hb (by omega)), zck_pos (zin_of hb (by omega)), nar1, nI_1]
      refine ⟨_, rfl, fun _ => ?_, fun q => absurd ⟨he, hb⟩ q⟩
      obtain ⟨k, rfl⟩ := hu
      exact ⟨k, mkC_push ..⟩
    · rw [if_neg (show ¬ nI (b + 1) < 60 from nI_nlt (b := 60) (by omega) (by omega))]
      refine ⟨_, rfl, fun q => absurd q.2 hb, fun _ => ?_⟩
      obtain ⟨k, rfl⟩ := hu
      rw [mkC_16]
      refine ⟨k, ?_⟩
      unfold aStop
      rw [if_pos he]
  · rw [if_neg he, aStop_ne he]
    exact ⟨_, rfl, fun q => absurd q.1 he, fun _ => hu⟩
theorem zPuC_a {o : Int32} {c1 k : Nat} (hb : b + 1 < 60) : (zPuC u b o x c1).2.2.1 k = if k = 22 then upd (u.2.2.1 22) (b + 1) 1 else if k = 21 then upd (u.2.2.1 21) (b + 1) o else if k = 20 then upd (u.2.2.1 20) (b + 1) (nI c1) else if k = 19 then upd (u.2.2.1 19) (b + 1) x else u.2.2.1 k := by
  have e : (nI (b + 1)).toNatClampNeg = b + 1 := nI_clamp (by omega)
  show (if k = 22 then upd (u.2.2.1 22) (nI (b + 1)).toNatClampNeg 1 else if k = 21 then upd (u.2.2.1 21) (nI (b + 1)).toNatClampNeg o else if k = 20 then upd (u.2.2.1 20) (nI (b + 1)).toNatClampNeg (nI c1) else if k = 19 then upd (u.2.2.1 19) (nI (b + 1)).toNatClampNeg x else u.2.2.1 k) = _
  rw [e]
theorem zPuM_a {o : Int32} {c1 k : Nat} (hb : b + 1 < 60) : (zPuM (zB0 v) b o x c1).2.2.1 k = if k = 14 then upd (v.2.2.1 14) (b + 1) 0 else if k = 13 then upd (v.2.2.1 13) (b + 1) (nI c1) else if k = 12 then upd (v.2.2.1 12) (b + 1) x else if k = 11 then upd (v.2.2.1 11) (b + 1) o else v.2.2.1 k := by
  have e : (nI (b + 1)).toNatClampNeg = b + 1 := nI_clamp (by omega)
  show (if k = 14 then upd (v.2.2.1 14) (nI (b + 1)).toNatClampNeg 0 else if k = 13 then upd (v.2.2.1 13) (nI (b + 1)).toNatClampNeg (nI c1) else if k = 12 then upd (v.2.2.1 12) (nI (b + 1)).toNatClampNeg x else if k = 11 then upd (v.2.2.1 11) (nI (b + 1)).toNatClampNeg o else v.2.2.1 k) = _
  rw [e]
theorem RM_gen_i {v0 : zU} {k : Nat} (h : k < 11) (hw : RM v0 s tk wn p w') : gi w' k = gi v0 k := RM_i (by omega) hw
/-- behind the opening -/
theorem zStepO {o : Int32} {c1 : Nat} {s2 : zS} (hN : 1000 ≤ N) (hT : RT ty n u v) (hB : RB ty b c H u v) (hL : RL lb rw' lc M u v) (h8 : gi u 8 = gi v 1) (h1 : gi v 1 = 1) (hb : b + 1 < 60) (hc1 : H b ≤ c1) (hc2 : c1 ≤ 200) (hx : zBT ty x) (hu : RC (zPuC u b o x c1) s2 u') (hw : RM (zPuM (zB0 v) b o x c1) s2 tk wn p w') (k2 : s2.1 ≤ 200) (k0 : 0 ≤ s2.2.2) (kc : s2.2.2 = 0 → c1 ≤ s2.1) : ∃ u2 v2, zf_CCC_step_0_b40 N s2.2.2 u' = some (s2.2.2, u2) ∧ zf_MMC_step_0_b96 N (si w' 15 1) = some (s2.2.2, v2) ∧ zRel u2 v2 := by
  have ui : ∀ k, k ≠ 14 → k ≠ 16 → k ≠ 15 → gi u' k = gi u k := fun k q1 q2 q3 => by
    rw [RC_i ⟨q1, q2⟩ hu]
    show (if k = 15 then _ else gi u k) = _
    rw [if_neg q3]
  have wi : ∀ k, k < 11 → gi w' k = gi v k := fun k q => by
    rw [RM_i (by omega) hw]
    show gi (zB0 v) k = _
    exact zB0_i (by omega)
  have ua : ∀ k, k ≠ 18 → k ≠ 23 → u'.2.2.1 k = (zPuC u b o x c1).2.2.1 k := fun k q1 q2 => RC_a ⟨q1, q2⟩ hu
  have wa : ∀ k, k < 15 → w'.2.2.1 k = (zPuM (zB0 v) b o x c1).2.2.1 k := fun k q => RM_a (by omega) hw
  have hTm : RT ty n u' w' := by
    refine RT_to (u := u) (v := v) (fun k hk => ui k (by omega) (by omega) (by omega)) (fun k hk => ?_) (wi 0 (by omega)) (fun k hk => ?_) hT
    · rw [ua k (by omega) (by omega), zPuC_a hb, if_neg (by omega), if_neg (by omega), if_neg (by omega), if_neg (by omega)]
    · rw [wa k (by omega), zPuM_a hb, if_neg (by omega), if_neg (by omega), if_neg (by omega), if_neg (by omega)]
  have w11 : gi w' 11 = s2.2.2 := by obtain ⟨g, x, tg, rfl, hg, hx⟩ := hw; rfl
  have w13 : gi w' 13 = nI s2.1 := by obtain ⟨g, x, tg, rfl, hg, hx⟩ := hw; rfl
  have wrow : ∀ i, i < s2.1 → w'.2.2.1 15 i = s2.2.1 i := by obtain ⟨g, x, tg, rfl, hg, hx⟩ := hw; exact hg
  have wj : w'.2.1 = v.2.1 ∧ w'.2.2.2 = v.2.2.2 := by obtain ⟨g, x, tg, rfl, hg, hx⟩ := hw; exact ⟨rfl, rfl⟩
  have uj : u'.2.1 = u.2.1 ∧ u'.2.2.2 = u.2.2.2 := by obtain ⟨k, rfl⟩ := hu; exact ⟨rfl, rfl⟩
  by_cases he : s2.2.2 = 0
  · have kc := kc he
    obtain ⟨⟨a1, a2, a3, a4⟩, ⟨e1, e2, e3, e4⟩, ⟨d1, d2, d3, d4⟩, ⟨o1, o2⟩, lf, ⟨t1, t2⟩, bd⟩ := hB
    have u15 : gi u' 15 = nI (b + 2) := by rw [RC_i (k := 15) (by decide) hu]; rfl
    have w10 : gi w' 10 = nI (b + 1) := by rw [wi 10 (by omega)]; exact a4
    have f14 : gi w' 14 = 0 := by rw [RM_i (k := 14) (by decide) hw]; rfl
    have f16 : gi w' 16 = 0 := by rw [RM_i (k := 16) (by decide) hw]; rfl
    have f17 : gi w' 17 = 0 := by rw [RM_i (k := 17) (by decide) hw]; rfl
    refine ⟨si (si u' 10 1) 7 0, si (zE0 (si w' 15 1) s2.1) 10 (nI (b + 2)), ?_, ?_, ?_⟩
    · unfold zf_CCC_step_0_b40 zf_CCCode_finishInstruction_26
      rw [he, if_pos rfl, u15, if_neg (nI_ne0 (by omega) (by omega))]; rfl
    · rw [mEnd0 hN (show gi (si w' 15 1) 11 = 0 from by show gi w' 11 = 0; rw [w11]; exact he) (show gi (si w' 15 1) 13 = nI s2.1 from w13) k2, if_pos (show gi (si w' 15 1) 14 = 0 from f14), he]
      unfold zf_MMC_step_0_b186 zf_MMC_step_0_b203 zf_MMC_step_0_b226 zf_MMC_step_0_b243
      have g10 : gi (zE0 (si w' 15 1) s2.1) 10 = nI (b + 1) := w10
      rw [if_neg (show ¬ gi (zE0 (si w' 15 1) s2.1) 15 = 0 from by show ¬ (1 : Int32) = 0; decide), g10, nI_1]
      have g17 : gi (si (zE0 (si w' 15 1) s2.1) 10 (nI (b + 1 + 1))) 17 = 0 := f17
      have g16 : gi (si (zE0 (si w' 15 1) s2.1) 10 (nI (b + 1 + 1))) 16 = 0 := f16
      have g10b : gi (si (zE0 (si w' 15 1) s2.1) 10 (nI (b + 1 + 1))) 10 = nI (b + 2) := rfl
      rw [g17, if_pos rfl, g16, if_pos rfl, g10b, if_neg (nI_ne0 (by omega) (by omega))]; rfl
    · have y1 : gi (si (zE0 (si w' 15 1) s2.1) 10 (nI (b + 2))) 1 = 1 := by show gi w' 1 = 1; rw [wi 1 (by omega)]; exact h1
      have x8 : gi (si (si u' 10 1) 7 0) 8 = 1 := by show gi u' 8 = 1; rw [ui 8 (by decide) (by decide) (by decide), h8]; exact h1
      refine ⟨ty, n, ?_, by rw [x8, y1], Or.inr (Or.inl y1), fun _ => ⟨b + 1, s2.1, zMu H (b + 1) c1, 0, rw', lc, M, ?_, ?_⟩⟩
      · refine RT_to (u := u') (v := w') (fun k hk => ?_) (fun k hk => rfl) rfl (fun k hk => ?_) hTm
        · rw [gi_si, if_neg (by omega), gi_si, if_neg (by omega)]
        · rw [a_si, zE0_a (by omega)]; rfl
      · have x19 : (si (si u' 10 1) 7 0).2.2.1 19 = upd (u.2.2.1 19) (b + 1) x := by show u'.2.2.1 19 = _; rw [ua 19 (by decide) (by decide), zPuC_a hb]; rfl
        have x20 : (si (si u' 10 1) 7 0).2.2.1 20 = upd (u.2.2.1 20) (b + 1) (nI c1) := by show u'.2.2.1 20 = _; rw [ua 20 (by decide) (by decide), zPuC_a hb]; rfl
        have x21 : (si (si u' 10 1) 7 0).2.2.1 21 = upd (u.2.2.1 21) (b + 1) o := by show u'.2.2.1 21 = _; rw [ua 21 (by decide) (by decide), zPuC_a hb]; rfl
        have x22 : (si (si u' 10 1) 7 0).2.2.1 22 = upd (u.2.2.1 22) (b + 1) 1 := by show u'.2.2.1 22 = _; rw [ua 22 (by decide) (by decide), zPuC_a hb]; rfl
        have y11 : (si (zE0 (si w' 15 1) s2.1) 10 (nI (b + 2))).2.2.1 11 = upd (v.2.2.1 11) (b + 1) o := by show w'.2.2.1 11 = _; rw [wa 11 (by decide), zPuM_a hb]; rfl
        have y12 : (si (zE0 (si w' 15 1) s2.1) 10 (nI (b + 2))).2.2.1 12 = upd (v.2.2.1 12) (b + 1) x := by show w'.2.2.1 12 = _; rw [wa 12 (by decide), zPuM_a hb]; rfl
        have y13 : (si (zE0 (si w' 15 1) s2.1) 10 (nI (b + 2))).2.2.1 13 = upd (v.2.2.1 13) (b + 1) (nI c1) := by show w'.2.2.1 13 = _; rw [wa 13 (by decide), zPuM_a hb]; rfl
        have y14 : (si (zE0 (si w' 15 1) s2.1) 10 (nI (b + 2))).2.2.1 14 = upd (v.2.2.1 14) (b + 1) 0 := by show w'.2.2.1 14 = _; rw [wa 14 (by decide), zPuM_a hb]; rfl
        refine ⟨⟨?_, hb, u15, rfl⟩, ⟨k2, ?_, rfl, ?_⟩, ⟨?_, ?_, ?_, ?_⟩, ⟨?_, ?_⟩, ?_, ⟨?_, ?_⟩, ?_⟩
        · show gi u' 16 = 0; rw [RC_16 hu]; exact he
        · show gi u' 14 = _; exact RC_14 hu
        · intro i hi
          show u'.2.2.1 18 i = zMix (w'.2.2.1 15) (w'.2.2.1 10) s2.1 i
          rw [zMix_lt _ _ hi, wrow i hi, RC_18 hu]
        · intro q hq
          rw [x20, y13]
          by_cases e : q = b + 1
          · subst e; rw [upd_at, upd_at, zMu_at]; exact ⟨rfl, rfl⟩
          · rw [upd_ne _ _ e, upd_ne _ _ e, zMu_ne _ _ e]; exact d1 q (by omega)
        · intro q hq
          by_cases e : q = b
          · subst e; rw [zMu_ne _ _ (by omega), zMu_at]; exact hc1
          · rw [zMu_ne _ _ (by omega), zMu_ne _ _ (by omega)]; exact d2 q (by omega)
        · rw [zMu_at]; exact kc
        · rw [zMu_ne _ _ (by omega)]; exact d4
        · intro q hq
          rw [x21, y11]
          by_cases e : q = b + 1
          · subst e; rw [upd_at, upd_at]
          · rw [upd_ne _ _ e, upd_ne _ _ e]; exact o1 q (by omega)
        · rw [x21, upd_ne _ _ (by omega)]; exact o2
        · intro q hq
          rw [x22, y14]
          by_cases e : q = b + 1
          · subst e; rw [upd_at, upd_at]; exact Or.inl ⟨rfl, rfl⟩
          · rw [upd_ne _ _ e, upd_ne _ _ e]; exact lf q (by omega)
        · intro q q1 hq
          rw [x19, y12]
          by_cases e : q = b + 1
          · subst e; rw [upd_at, upd_at]
          · rw [upd_ne _ _ e, upd_ne _ _ e]; exact t1 q q1 (by omega)
        · intro q hq
          rw [x19]
          by_cases e : q = b + 1
          · subst e; rw [upd_at]; exact hx
          · rw [upd_ne _ _ e]; exact t2 q (by omega)
        · rw [x19, upd_ne _ _ (by omega), show gi (si (si u' 10 1) 7 0) 9 = gi u 9 from ui 9 (by decide) (by decide) (by decide), show gi (si (si u' 10 1) 7 0) 11 = gi u 11 from ui 11 (by decide) (by decide) (by decide), show gi (si (zE0 (si w' 15 1) s2.1) 10 (nI (b + 2))) 2 = gi v 2 from wi 2 (by decide), show gi (si (zE0 (si w' 15 1) s2.1) 10 (nI (b + 2))) 4 = gi v 4 from wi 4 (by decide), show gi (si (zE0 (si w' 15 1) s2.1) 10 (nI (b + 2))) 5 = gi v 5 from wi 5 (by decide), show gj (si (zE0 (si w' 15 1) s2.1) 10 (nI (b + 2))) 0 = gj v 0 from by show w'.2.1 0 = v.2.1 0; rw [wj.1]]
          exact bd
      · refine RL_after hL rfl rfl ?_ ?_ uj.1 uj.2 ?_ rfl rfl ?_ ?_ wj.2 ?_
        · exact ui 12 (by decide) (by decide) (by decide)
        · exact ui 13 (by decide) (by decide) (by decide)
        · show u'.2.2.1 16 = _; rw [ua 16 (by decide) (by decide), zPuC_a hb]; rfl
        · exact wi 7 (by decide)
        · exact wi 6 (by decide)
        · show w'.2.2.1 8 = _; rw [wa 8 (by decide), zPuM_a hb]; rfl
  · exact zStepF k0 he (RT_to (u := u') (v := w') (fun _ _ => rfl) (fun _ _ => rfl) rfl (fun _ _ => rfl) hTm) w11
end OP
