/-! pure: the end of a step, on both sides -/
section DN
variable {N ty b c lb rw' lc : Nat} {n H M : Nat → Nat} {u v u' w' : zU} {s : zS} {tk : Int32} {wn : Nat} {p : Nat → Int32}
theorem zB0_i {k : Nat} (h : k < 14 ∨ 17 < k) : gi (zB0 v) k = gi v k := by
  unfold zB0
  rw [gi_si, if_neg (by omega), gi_si, if_neg (by omega), gi_si, if_neg (by omega), gi_si, if_neg (by omega)]
theorem zRM_i {k : Nat} (h : k < 11) (hw : RM (zB0 v) s tk wn p w') : gi w' k = gi v k := by
  rw [RM_i (by omega) hw, zB0_i (by omega)]
theorem zRM_a {k : Nat} (h : k < 15) (hw : RM (zB0 v) s tk wn p w') : w'.2.2.1 k = v.2.2.1 k := by
  rw [RM_a (by omega) hw]; rfl
theorem zRM_j (hw : RM (zB0 v) s tk wn p w') : w'.2.1 = v.2.1 ∧ w'.2.2.2 = v.2.2.2 := by
  obtain ⟨g, x, tg, rfl, hg, hx⟩ := hw; exact ⟨rfl, rfl⟩
theorem zRC_j (hu : RC u s u') : u'.2.1 = u.2.1 ∧ u'.2.2.2 = u.2.2.2 := by
  obtain ⟨k, rfl⟩ := hu; exact ⟨rfl, rfl⟩
theorem zRT_mid (hT : RT ty n u v) (hu : RC u s u') (hw : RM (zB0 v) s tk wn p w') : RT ty n u' w' :=
  RT_to (u := u) (v := v) (fun k hk => RC_i (by omega) hu) (fun k hk => RC_a (by omega) hu) (zRM_i (by omega) hw) (fun k hk => zRM_a (by omega) hw) hT
/-- behind a fault -/
theorem zRel_fault {x y : zU} (hT : RT ty n x y) (hx : gi x 8 = 0) (hy : gi y 1 = 0) : zRel x y := ⟨ty, n, hT, by rw [hx, hy], Or.inl hy, fun q => by rw [hy] at q; exact absurd q (by decide)⟩
theorem zStepF {e : Int32} (h0 : 0 ≤ e) (hne : e ≠ 0) (hT : RT ty n u' w') (h11 : gi w' 11 = e) : ∃ u2 v2, zf_CCC_step_0_b40 N e u' = some (e, u2) ∧ zf_MMC_step_0_b96 N w' = some (e, v2) ∧ zRel u2 v2 := by
  refine ⟨si (si (si u' 10 1) 7 0) 8 0, si w' 1 0, ?_, mEndF h11 h0 hne, ?_⟩
  · unfold zf_CCC_step_0_b40 zf_CCCode_finishInstruction_26
    rw [if_neg hne]; rfl
  · refine zRel_fault (RT_to (u := u') (v := w') (fun k hk => ?_) (fun k hk => rfl) rfl (fun k hk => rfl) hT) rfl rfl
    rw [gi_si, if_neg (by omega), gi_si, if_neg (by omega), gi_si, if_neg (by omega)]
theorem RM_11 (hw : RM (zB0 v) s tk wn p w') : gi w' 11 = s.2.2 := by obtain ⟨g, x, tg, rfl, hg, hx⟩ := hw; rfl
theorem RM_13 (hw : RM (zB0 v) s tk wn p w') : gi w' 13 = nI s.1 := by obtain ⟨g, x, tg, rfl, hg, hx⟩ := hw; rfl
theorem RM_row (hw : RM (zB0 v) s tk wn p w') : ∀ i, i < s.1 → w'.2.2.1 15 i = s.2.1 i := by obtain ⟨g, x, tg, rfl, hg, hx⟩ := hw; exact hg
theorem RC_14 (hu : RC u s u') : gi u' 14 = nI s.1 := by obtain ⟨k, rfl⟩ := hu; rfl
theorem RC_18 (hu : RC u s u') : u'.2.2.1 18 = s.2.1 := by obtain ⟨k, rfl⟩ := hu; rfl
theorem zE0_a {k : Nat} {x : zU} (h : k ≠ 10) : (zE0 x c).2.2.1 k = x.2.2.1 k := by
  show (if k = 10 then _ else x.2.2.1 k) = _
  rw [if_neg h]
theorem zE0_10 {x : zU} {i : Nat} (h : i < c) : (zE0 x c).2.2.1 10 i = x.2.2.1 15 i := zMix_lt _ _ h
theorem zE0_i {k : Nat} {x : zU} (h : k ≠ 3 ∧ k ≠ 8 ∧ k ≠ 9) : gi (zE0 x c) k = gi x k := by
  show (if k = 9 then _ else if k = 8 then _ else if k = 3 then _ else gi x k) = _
  rw [if_neg h.2.2, if_neg h.2.1, if_neg h.1]
/-- labels and locals behind an instruction -/
theorem RL_after {x y : zU} (hL : RL lb rw' lc M u v) (x7 : gi x 7 = 0) (x10 : gi x 10 = 1) (x12 : gi x 12 = gi u 12) (x13 : gi x 13 = gi u 13) (xj : x.2.1 = u.2.1) (xl : x.2.2.2 = u.2.2.2) (x16 : x.2.2.1 16 = u.2.2.1 16) (y8 : gi y 8 = 0) (y3 : gi y 3 = 1) (y7 : gi y 7 = gi v 7) (y6 : gi y 6 = gi v 6) (yl : y.2.2.2 = v.2.2.2) (y8a : y.2.2.1 8 = v.2.2.1 8) : RL 0 rw' lc M x y := by
  obtain ⟨l1, l2, ⟨l3, l4, l5⟩, ⟨l6, l7, l8⟩, l9, l10⟩ := hL
  refine ⟨⟨by omega, x7, y8, fun i hi => absurd hi (by omega)⟩, ⟨by rw [x10, y3], Or.inr y3⟩, ⟨l3, by rw [x12]; exact l4, by rw [y7]; exact l5⟩, ⟨l6, by rw [x13]; exact l7, by rw [y6]; exact l8⟩, ?_, ?_⟩
  · rw [x16, y8a, yl, xl]; exact l9
  · show x.2.1 0 = _; rw [xj]; exact l10
/-- an instruction that only takes and gives, at its end -/
theorem zStep1 (hN : 1000 ≤ N) (hT : RT ty n u v) (hB : RB ty b c H u v) (hL : RL lb rw' lc M u v) (h8 : gi u 8 = gi v 1) (h1 : gi v 1 = 1) (hu : RC u s u') (hw : RM (zB0 v) s tk wn p w') (Ho : zOk (H b) s) : ∃ u2 v2, zf_CCC_step_0_b40 N s.2.2 u' = some (s.2.2, u2) ∧ zf_MMC_step_0_b96 N w' = some (s.2.2, v2) ∧ zRel u2 v2 := by
  by_cases he : s.2.2 = 0
  · obtain ⟨⟨a1, a2, a3, a4⟩, ⟨c1, c2, c3, c4⟩, ⟨d1, d2, d3, d4⟩, ⟨o1, o2⟩, lf, ⟨t1, t2⟩, bd⟩ := hB
    obtain ⟨k1, k2, k3⟩ := Ho
    have w10 : gi w' 10 = nI (b + 1) := by rw [zRM_i (by omega) hw]; exact a4
    have f14 : gi w' 14 = 0 := by rw [RM_i (k := 14) (by decide) hw]; rfl
    have f15 : gi w' 15 = 0 := by rw [RM_i (k := 15) (by decide) hw]; rfl
    have f16 : gi w' 16 = 0 := by rw [RM_i (k := 16) (by decide) hw]; rfl
    have f17 : gi w' 17 = 0 := by rw [RM_i (k := 17) (by decide) hw]; rfl
    refine ⟨si (si u' 10 1) 7 0, zE0 w' s.1, ?_, ?_, ?_⟩
    · unfold zf_CCC_step_0_b40 zf_CCCode_finishInstruction_26
      rw [he, if_pos rfl, RC_i (k := 15) (by decide) hu, a3, if_neg (nI_ne0 (by omega) (by omega))]; rfl
    · rw [mEnd0 hN (by rw [RM_11 hw]; exact he) (RM_13 hw) k2, f14, if_pos rfl, he]
      unfold zf_MMC_step_0_b186 zf_MMC_step_0_b203 zf_MMC_step_0_b226 zf_MMC_step_0_b243
      rw [zE0_i (k := 15) (by decide), f15, if_pos rfl, zE0_i (k := 17) (by decide), f17, if_pos rfl, zE0_i (k := 16) (by decide), f16, if_pos rfl, zE0_i (k := 10) (by decide), w10, if_neg (nI_ne0 (by omega) (by omega))]; rfl
    · have y1 : gi (zE0 w' s.1) 1 = 1 := by rw [zE0_i (by decide), zRM_i (by omega) hw]; exact h1
      have x8 : gi (si (si u' 10 1) 7 0) 8 = 1 := by
        show gi u' 8 = 1
        rw [RC_i (k := 8) (by decide) hu, h8]; exact h1
      refine ⟨ty, n, ?_, by rw [x8, y1], Or.inr (Or.inl y1), fun _ => ⟨b, s.1, H, 0, rw', lc, M, ?_, ?_⟩⟩
      · refine RT_to (u := u') (v := w') (fun k hk => ?_) (fun k hk => rfl) (zE0_i (by decide)) (fun k hk => zE0_a (by omega)) (zRT_mid hT hu hw)
        rw [gi_si, if_neg (by omega), gi_si, if_neg (by omega)]
      · have ua : ∀ k, 19 ≤ k → k < 23 → (si (si u' 10 1) 7 0).2.2.1 k = u.2.2.1 k := fun k q1 q2 => by rw [a_si, a_si]; exact RC_a (by omega) hu
        have va : ∀ k, 11 ≤ k → k < 15 → (zE0 w' s.1).2.2.1 k = v.2.2.1 k := fun k q1 q2 => by rw [zE0_a (by omega)]; exact zRM_a (by omega) hw
        have xi : ∀ k, k ≠ 7 → k ≠ 10 → k ≠ 14 → k ≠ 16 → gi (si (si u' 10 1) 7 0) k = gi u k := fun k q1 q2 q3 q4 => by
          rw [gi_si, if_neg q1, gi_si, if_neg q2]; exact RC_i ⟨q3, q4⟩ hu
        have yi : ∀ k, k < 11 → k ≠ 3 → k ≠ 8 → k ≠ 9 → gi (zE0 w' s.1) k = gi v k := fun k q1 q2 q3 q4 => by
          rw [zE0_i ⟨q2, q3, q4⟩]; exact zRM_i q1 hw
        refine ⟨⟨?_, a2, ?_, ?_⟩, ⟨k2, ?_, rfl, ?_⟩, ⟨?_, d2, k1, d4⟩, ⟨?_, ?_⟩, ?_, ⟨?_, ?_⟩, ?_⟩
        · show gi u' 16 = 0; rw [RC_16 hu]; exact he
        · rw [xi 15 (by decide) (by decide) (by decide) (by decide)]; exact a3
        · rw [yi 10 (by decide) (by decide) (by decide) (by decide)]; exact a4
        · show gi u' 14 = _; exact RC_14 hu
        · intro i hi
          rw [zE0_10 hi, RM_row hw i hi]
          show u'.2.2.1 18 i = _
          rw [RC_18 hu]
        · rw [ua 20 (by decide) (by decide), va 13 (by decide) (by decide)]; exact d1
        · rw [ua 21 (by decide) (by decide), va 11 (by decide) (by decide)]; exact o1
        · rw [ua 21 (by decide) (by decide)]; exact o2
        · rw [ua 22 (by decide) (by decide), va 14 (by decide) (by decide)]; exact lf
        · rw [ua 19 (by decide) (by decide), va 12 (by decide) (by decide)]; exact t1
        · rw [ua 19 (by decide) (by decide)]; exact t2
        · rw [ua 19 (by decide) (by decide), xi 9 (by decide) (by decide) (by decide) (by decide), xi 11 (by decide) (by decide) (by decide) (by decide), yi 2 (by decide) (by decide) (by decide) (by decide), yi 4 (by decide) (by decide) (by decide) (by decide), yi 5 (by decide) (by decide) (by decide) (by decide), show gj (zE0 w' s.1) 0 = gj v 0 from by show w'.2.1 0 = v.2.1 0; rw [(zRM_j hw).1]]
          exact bd
      · refine RL_after hL rfl rfl ?_ ?_ (zRC_j hu).1 (zRC_j hu).2 ?_ rfl rfl ?_ ?_ (zRM_j hw).2 ?_
        · show gi u' 12 = _; exact RC_i (by decide) hu
        · show gi u' 13 = _; exact RC_i (by decide) hu
        · show u'.2.2.1 16 = _; exact RC_a (by decide) hu
        · rw [zE0_i (by decide)]; exact zRM_i (by omega) hw
        · rw [zE0_i (by decide)]; exact zRM_i (by omega) hw
        · rw [zE0_a (by omega)]; exact zRM_a (by omega) hw
  · exact zStepF Ho.2.2 he (zRT_mid hT hu hw) (RM_11 hw)
theorem RB_fin {c' : Nat} {x y : zU} (hB : RB ty b c H u v) (x16 : gi x 16 = 0) (x15 : gi x 15 = gi u 15) (y10 : gi y 10 = gi v 10) (hc' : c' ≤ 200) (x14 : gi x 14 = nI c') (y9 : gi y 9 = nI c') (hop : ∀ i, i < c' → x.2.2.1 18 i = y.2.2.1 10 i) (x20 : x.2.2.1 20 = u.2.2.1 20) (y13 : y.2.2.1 13 = v.2.2.1 13) (hH : H b ≤ c') (hop2 : (∀ q, q ≤ b → x.2.2.1 21 q = y.2.2.1 11 q) ∧ x.2.2.1 21 0 = -1) (hlf : ∀ q, q ≤ b → (x.2.2.1 22 q = 1 ∧ y.2.2.1 14 q = 0) ∨ (x.2.2.1 22 q = 0 ∧ y.2.2.1 14 q = 1)) (x19 : x.2.2.1 19 = u.2.2.1 19) (y12 : y.2.2.1 12 = v.2.2.1 12) (x9 : gi x 9 = gi u 9) (x11 : gi x 11 = gi u 11) (y2 : gi y 2 = gi v 2) (y4 : gi y 4 = gi v 4) (y5 : gi y 5 = gi v 5) (yj : y.2.1 = v.2.1) : RB ty b c' H x y := by
  obtain ⟨⟨a1, a2, a3, a4⟩, ⟨c1, c2, c3, c4⟩, ⟨d1, d2, d3, d4⟩, ⟨o1, o2⟩, lf, ⟨t1, t2⟩, bd⟩ := hB
  refine ⟨⟨x16, a2, by rw [x15]; exact a3, by rw [y10]; exact a4⟩, ⟨hc', x14, y9, hop⟩, ⟨by rw [x20, y13]; exact d1, d2, hH, d4⟩, hop2, hlf, ⟨by rw [x19, y12]; exact t1, by rw [x19]; exact t2⟩, ?_⟩
  rw [x19, x9, x11, y2, y4, y5, show gj y 0 = gj v 0 from by show y.2.1 0 = v.2.1 0; rw [yj]]
  exact bd
theorem cDie {h : Nat} {lv : Bool} (X : CxC u b h lv) (hu : RC u s u') : zf_CCStack_die_31 N u' = some ((), if s.2.2 = 0 then sa (si u' 14 (nI h)) 22 (nI b) 0 else u') := by
  obtain ⟨x1, x2, x3, x4, x5⟩ := X
  have u15 : gi u' 15 = nI (b + 1) := by rw [RC_i (k := 15) (by decide) hu]; exact x1
  have e20 : ga u' 20 (nI b) = nI h := by show u'.2.2.1 20 _ = _; rw [RC_a (k := 20) (by decide) hu, nI_clamp (by omega)]; exact x3
  unfold zf_CCStack_die_31 zf_CCStack_die_31_b14
  rw [RC_16 hu]
  by_cases he : s.2.2 = 0
  · rw [if_pos he, if_pos he, zbd_eq (cInner x2 u15), if_neg (show ¬ (1 : Int32) = 0 from by decide), u15, nI_pred, zck_pos (zin_of x2 (by omega)), zck_pos (zin_of x2 (by omega)), e20, nar0]
  · rw [if_neg he, if_neg he]
theorem mDie {h : Nat} {lv : Bool} (Y : CxM (zB0 v) b h lv) (Ho : 0 ≤ s.2.2) (hw : RM (zB0 v) s tk wn p w') : zf_MMC_die_0 N w' = some ((), if s.2.2 = 0 then si (si w' 13 (nI h)) 14 1 else w') := by
  obtain ⟨x1, x2, x3, x4, x5⟩ := Y
  have w10 : gi w' 10 = nI (b + 1) := by rw [RM_i (k := 10) (by decide) hw]; exact x1
  have e13 : ga w' 13 (nI b) = nI h := by show w'.2.2.1 13 _ = _; rw [RM_a (k := 13) (by decide) hw, nI_clamp (by omega)]; exact x3
  unfold zf_MMC_die_0
  rw [RM_11 hw]
  by_cases he : s.2.2 = 0
  · rw [if_pos ((zle0 Ho).mpr he), if_pos he, w10, nI_pred, zck_pos (zin_of (by omega) (by omega)), e13]
  · rw [if_neg (fun q => he ((zle0 Ho).mp q)), if_neg he]
/-- an instruction that ends with 'die', at its end -/
theorem zStep2 {lv : Bool} (hN : 1000 ≤ N) (hT : RT ty n u v) (hB : RB ty b c H u v) (hL : RL lb rw' lc M u v) (h8 : gi u 8 = gi v 1) (h1 : gi v 1 = 1) (X : CxC u b (H b) lv) (Y : CxM (zB0 v) b (H b) lv) (hu : RC u s u') (hw : RM (zB0 v) s tk wn p w') (Ho : zOk (H b) s) : ∃ u3 w3 u2 v2, zf_CCStack_die_31 N u' = some ((), u3) ∧ zf_MMC_die_0 N w' = some ((), w3) ∧ gi u3 16 = s.2.2 ∧ zf_CCC_step_0_b40 N s.2.2 u3 = some (s.2.2, u2) ∧ zf_MMC_step_0_b96 N w3 = some (s.2.2, v2) ∧ zRel u2 v2 := by
  rw [cDie X hu, mDie Y Ho.2.2 hw]
  by_cases he : s.2.2 = 0
  · rw [if_pos he, if_pos he]
    have X2 := X.2.1
    have X5 := X.2.2.2.2
    have x16 : gi (sa (si u' 14 (nI (H b))) 22 (nI b) 0) 16 = 0 := by show gi u' 16 = 0; rw [RC_16 hu]; exact he
    have w10 : gi (si (si w' 13 (nI (H b))) 14 1) 10 = nI (b + 1) := by show gi w' 10 = _; rw [zRM_i (by omega) hw]; exact hB.1.2.2.2
    have x15 : gi (sa (si u' 14 (nI (H b))) 22 (nI b) 0) 15 = nI (b + 1) := by show gi u' 15 = _; rw [RC_i (k := 15) (by decide) hu]; exact hB.1.2.2.1
    have f15 : gi w' 15 = 0 := by rw [RM_i (k := 15) (by decide) hw]; rfl
    have f16 : gi w' 16 = 0 := by rw [RM_i (k := 16) (by decide) hw]; rfl
    have f17 : gi w' 17 = 0 := by rw [RM_i (k := 17) (by decide) hw]; rfl
    have eb : (nI b).toNatClampNeg = b := nI_clamp (by omega)
    refine ⟨_, _, si (si (sa (si u' 14 (nI (H b))) 22 (nI b) 0) 10 1) 7 0, sa (zE0 (si (si w' 13 (nI (H b))) 14 1) (H b)) 14 (nI b) 1, rfl, rfl, by rw [x16, he], ?_, ?_, ?_⟩
    · unfold zf_CCC_step_0_b40 zf_CCCode_finishInstruction_26
      rw [he, if_pos rfl, x15, if_neg (nI_ne0 (by omega) (by omega))]; rfl
    · rw [mEnd0 hN (show gi (si (si w' 13 (nI (H b))) 14 1) 11 = 0 from by show gi w' 11 = 0; rw [RM_11 hw]; exact he) (show gi (si (si w' 13 (nI (H b))) 14 1) 13 = nI (H b) from rfl) X5, if_neg (show ¬ gi (si (si w' 13 (nI (H b))) 14 1) 14 = 0 from by show ¬ (1 : Int32) = 0; decide), w10, nI_pred, zck_pos (zin_of (by omega) (by omega)), he]
      unfold zf_MMC_step_0_b186 zf_MMC_step_0_b203 zf_MMC_step_0_b226 zf_MMC_step_0_b243
      have g15 : gi (sa (zE0 (si (si w' 13 (nI (H b))) 14 1) (H b)) 14 (nI b) 1) 15 = 0 := f15
      have g16 : gi (sa (zE0 (si (si w' 13 (nI (H b))) 14 1) (H b)) 14 (nI b) 1) 16 = 0 := f16
      have g17 : gi (sa (zE0 (si (si w' 13 (nI (H b))) 14 1) (H b)) 14 (nI b) 1) 17 = 0 := f17
      have g10 : gi (sa (zE0 (si (si w' 13 (nI (H b))) 14 1) (H b)) 14 (nI b) 1) 10 = nI (b + 1) := w10
      rw [g15, if_pos rfl, g17, if_pos rfl, g16, if_pos rfl, g10, if_neg (nI_ne0 (by omega) (by omega))]; rfl
    · have y1 : gi (sa (zE0 (si (si w' 13 (nI (H b))) 14 1) (H b)) 14 (nI b) 1) 1 = 1 := by show gi w' 1 = 1; rw [zRM_i (by omega) hw]; exact h1
      have x8 : gi (si (si (sa (si u' 14 (nI (H b))) 22 (nI b) 0) 10 1) 7 0) 8 = 1 := by show gi u' 8 = 1; rw [RC_i (k := 8) (by decide) hu, h8]; exact h1
      refine ⟨ty, n, ?_, by rw [x8, y1], Or.inr (Or.inl y1), fun _ => ⟨b, H b, H, 0, rw', lc, M, ?_, ?_⟩⟩
      · refine RT_to (u := u') (v := w') (fun k hk => ?_) (fun k hk => ?_) rfl (fun k hk => ?_) (zRT_mid hT hu hw)
        · rw [gi_si, if_neg (by omega), gi_si, if_neg (by omega), gi_sa, gi_si, if_neg (by omega)]
        · rw [a_si, a_si, a_sa, if_neg (by omega), a_si]
        · rw [a_sa, if_neg (by omega), zE0_a (by omega)]; rfl
      · refine RB_fin hB x16 ?_ ?_ X5 rfl rfl ?_ ?_ ?_ (Nat.le_refl _) ⟨?_, ?_⟩ ?_ ?_ ?_ ?_ ?_ ?_ ?_ ?_ ?_
        · show gi u' 15 = _; exact RC_i (by decide) hu
        · show gi w' 10 = _; exact zRM_i (by omega) hw
        · intro i hi
          have hi2 : i < s.1 := Nat.lt_of_lt_of_le hi Ho.1
          show u'.2.2.1 18 i = zMix (w'.2.2.1 15) (w'.2.2.1 10) (H b) i
          rw [zMix_lt _ _ hi, RM_row hw i hi2, RC_18 hu]
        · show u'.2.2.1 20 = _; exact RC_a (by decide) hu
        · show w'.2.2.1 13 = _; exact zRM_a (by omega) hw
        · show ∀ q, q ≤ b → u'.2.2.1 21 q = w'.2.2.1 11 q
          rw [RC_a (k := 21) (by decide) hu, zRM_a (k := 11) (by omega) hw]; exact hB.2.2.2.1.1
        · show u'.2.2.1 21 0 = -1
          rw [RC_a (k := 21) (by decide) hu]; exact hB.2.2.2.1.2
        · intro q hq
          show (upd (u'.2.2.1 22) (nI b).toNatClampNeg 0 q = 1 ∧ upd (w'.2.2.1 14) (nI b).toNatClampNeg 1 q = 0) ∨ (upd (u'.2.2.1 22) (nI b).toNatClampNeg 0 q = 0 ∧ upd (w'.2.2.1 14) (nI b).toNatClampNeg 1 q = 1)
          rw [eb, RC_a (k := 22) (by decide) hu, zRM_a (k := 14) (by omega) hw]
          by_cases e : q = b
          · subst e; rw [upd_at, upd_at]; exact Or.inr ⟨rfl, rfl⟩
          · rw [upd_ne _ _ e, upd_ne _ _ e]; exact hB.2.2.2.2.1 q hq
        · show u'.2.2.1 19 = _; exact RC_a (by decide) hu
        · show w'.2.2.1 12 = _; exact zRM_a (by omega) hw
        · show gi u' 9 = _; exact RC_i (by decide) hu
        · show gi u' 11 = _; exact RC_i (by decide) hu
        · show gi w' 2 = _; exact zRM_i (by omega) hw
        · show gi w' 4 = _; exact zRM_i (by omega) hw
        · show gi w' 5 = _; exact zRM_i (by omega) hw
        · exact (zRM_j hw).1
      · refine RL_after hL rfl rfl ?_ ?_ (zRC_j hu).1 (zRC_j hu).2 ?_ rfl rfl ?_ ?_ (zRM_j hw).2 ?_
        · show gi u' 12 = _; exact RC_i (by decide) hu
        · show gi u' 13 = _; exact RC_i (by decide) hu
        · show u'.2.2.1 16 = _; exact RC_a (by decide) hu
        · show gi w' 7 = _; exact zRM_i (by omega) hw
        · show gi w' 6 = _; exact zRM_i (by omega) hw
        · show w'.2.2.1 8 = _; exact zRM_a (by omega) hw
  · rw [if_neg he, if_neg he]
    obtain ⟨u2, v2, e1, e2, e3⟩ := zStepF (N := N) Ho.2.2 he (zRT_mid hT hu hw) (RM_11 hw)
    exact ⟨u', w', u2, v2, rfl, rfl, RC_16 hu, e1, e2, e3⟩
end DN
