/-! pure: 11, at its end -/
theorem aLeft_le {h : Nat} {s : zS} (e : (aLeft h s).2.2 = 0) : (aLeft h s).1 ≤ h := by
  unfold aLeft at e ⊢
  by_cases q : h < s.1
  · rw [if_pos q] at e
    unfold aStop at e
    by_cases z : s.2.2 = 0
    · rw [if_pos z] at e; exact absurd e (show ¬ (3 : Int32) = 0 by decide)
    · rw [if_neg z] at e; exact absurd e z
  · rw [if_neg q]; omega
theorem aStop_n0 {k : Int32} {s : zS} (hk : k ≠ 0) : (aStop k s).2.2 ≠ 0 := by
  unfold aStop
  by_cases q : s.2.2 = 0
  · rw [if_pos q]; exact hk
  · rw [if_neg q]; exact q
section EE
variable {N ty b c lb rw' lc : Nat} {n H M : Nat → Nat} {u v u' w' : zU} {s s4 : zS} {tk : Int32} {wn : Nat} {p : Nat → Int32} {x y : Int32} {lv : Bool}
/-- a block is left, and there is one around it -/
theorem zStepE1 {a : Nat} (hN : 1000 ≤ N) (hT : RT ty n u v) (hB : RB ty (a + 1) c H u v) (hL : RL lb rw' lc M u v) (h8 : gi u 8 = gi v 1) (h1 : gi v 1 = 1) (hu : RC (si u 15 (nI (a + 1))) s u') (hw : RM (zB0 v) s tk wn p w') (Ho : zOk (H (a + 1)) s) : ∃ u2 v2, zf_CCC_step_0_b40 N s.2.2 u' = some (s.2.2, u2) ∧ zf_MMC_step_0_b96 N (si w' 16 (if s.2.2 = 0 then 1 else 0)) = some (s.2.2, v2) ∧ zRel u2 v2 := by
  have ui : ∀ k, k ≠ 14 → k ≠ 16 → k ≠ 15 → gi u' k = gi u k := fun k q1 q2 q3 => by
    rw [RC_i ⟨q1, q2⟩ hu, gi_si, if_neg q3]
  have ua : ∀ k, k ≠ 18 → k ≠ 23 → u'.2.2.1 k = u.2.2.1 k := fun k q1 q2 => by rw [RC_a ⟨q1, q2⟩ hu]; rfl
  have hTm : RT ty n u' w' := RT_to (u := u) (v := v) (fun k hk => ui k (by omega) (by omega) (by omega)) (fun k hk => ua k (by omega) (by omega)) (zRM_i (by omega) hw) (fun k hk => zRM_a (by omega) hw) hT
  have uj : u'.2.1 = u.2.1 ∧ u'.2.2.2 = u.2.2.2 := by obtain ⟨k, rfl⟩ := hu; exact ⟨rfl, rfl⟩
  by_cases he : s.2.2 = 0
  · rw [if_pos he]
    obtain ⟨⟨a1, a2, a3, a4⟩, ⟨e1, e2, e3, e4⟩, ⟨d1, d2, d3, d4⟩, ⟨o1, o2⟩, lf, ⟨t1, t2⟩, bd⟩ := hB
    obtain ⟨k1, k2, k3⟩ := Ho
    have hd := d2 a (by omega)
    have u15 : gi u' 15 = nI (a + 1) := by rw [RC_i (k := 15) (by decide) hu]; rfl
    have w10 : gi w' 10 = nI (a + 1 + 1) := by rw [zRM_i (by omega) hw]; exact a4
    have f14 : gi w' 14 = 0 := by rw [RM_i (k := 14) (by decide) hw]; rfl
    have f15 : gi w' 15 = 0 := by rw [RM_i (k := 15) (by decide) hw]; rfl
    have f17 : gi w' 17 = 0 := by rw [RM_i (k := 17) (by decide) hw]; rfl
    refine ⟨si (si u' 10 1) 7 0, si (zE0 (si w' 16 1) s.1) 10 (nI (a + 1)), ?_, ?_, ?_⟩
    · unfold zf_CCC_step_0_b40 zf_CCCode_finishInstruction_26
      rw [he, if_pos rfl, u15, if_neg (nI_ne0 (by omega) (by omega))]; rfl
    · rw [mEnd0 hN (show gi (si w' 16 1) 11 = 0 from by show gi w' 11 = 0; rw [RM_11 hw]; exact he) (show gi (si w' 16 1) 13 = nI s.1 from by show gi w' 13 = _; exact RM_13 hw) k2, if_pos (show gi (si w' 16 1) 14 = 0 from f14), he]
      unfold zf_MMC_step_0_b186 zf_MMC_step_0_b203 zf_MMC_step_0_b226 zf_MMC_step_0_b243
      have g10 : gi (zE0 (si w' 16 1) s.1) 10 = nI (a + 1 + 1) := w10
      rw [if_pos (show gi (zE0 (si w' 16 1) s.1) 15 = 0 from f15), if_pos (show gi (zE0 (si w' 16 1) s.1) 17 = 0 from f17), if_neg (show ¬ gi (zE0 (si w' 16 1) s.1) 16 = 0 from by show ¬ (1 : Int32) = 0; decide), g10, nI_pred]
      have g10b : gi (si (zE0 (si w' 16 1) s.1) 10 (nI (a + 1))) 10 = nI (a + 1) := rfl
      rw [g10b, if_neg (nI_ne0 (by omega) (by omega))]; rfl
    · have y1 : gi (si (zE0 (si w' 16 1) s.1) 10 (nI (a + 1))) 1 = 1 := by show gi w' 1 = 1; rw [zRM_i (by omega) hw]; exact h1
      have x8 : gi (si (si u' 10 1) 7 0) 8 = 1 := by show gi u' 8 = 1; rw [ui 8 (by decide) (by decide) (by decide), h8]; exact h1
      refine ⟨ty, n, ?_, by rw [x8, y1], Or.inr (Or.inl y1), fun _ => ⟨a, s.1, H, 0, rw', lc, M, ?_, ?_⟩⟩
      · refine RT_to (u := u') (v := w') (fun k hk => ?_) (fun k hk => rfl) rfl (fun k hk => ?_) hTm
        · rw [gi_si, if_neg (by omega), gi_si, if_neg (by omega)]
        · rw [a_si, zE0_a (by omega)]; rfl
      · have xa : ∀ k, k ≠ 18 → k ≠ 23 → (si (si u' 10 1) 7 0).2.2.1 k = u.2.2.1 k := ua
        have ya : ∀ k, k < 15 → k ≠ 10 → (si (zE0 (si w' 16 1) s.1) 10 (nI (a + 1))).2.2.1 k = v.2.2.1 k := fun k q1 q2 => by
          rw [a_si, zE0_a q2]; show w'.2.2.1 k = _; exact zRM_a q1 hw
        refine ⟨⟨?_, by omega, u15, rfl⟩, ⟨k2, ?_, rfl, ?_⟩, ⟨?_, ?_, by omega, d4⟩, ⟨?_, ?_⟩, ?_, ⟨?_, ?_⟩, ?_⟩
        · show gi u' 16 = 0; rw [RC_16 hu]; exact he
        · show gi u' 14 = _; exact RC_14 hu
        · intro i hi
          show u'.2.2.1 18 i = zMix (w'.2.2.1 15) (w'.2.2.1 10) s.1 i
          rw [zMix_lt _ _ hi, RM_row hw i hi, RC_18 hu]
        · intro q hq
          rw [xa 20 (by decide) (by decide), ya 13 (by decide) (by decide)]; exact d1 q (by omega)
        · intro q hq; exact d2 q (by omega)
        · intro q hq
          rw [xa 21 (by decide) (by decide), ya 11 (by decide) (by decide)]; exact o1 q (by omega)
        · rw [xa 21 (by decide) (by decide)]; exact o2
        · intro q hq
          rw [xa 22 (by decide) (by decide), ya 14 (by decide) (by decide)]; exact lf q (by omega)
        · intro q q1 hq
          rw [xa 19 (by decide) (by decide), ya 12 (by decide) (by decide)]; exact t1 q q1 (by omega)
        · intro q hq
          rw [xa 19 (by decide) (by decide)]; exact t2 q (by omega)
        · rw [xa 19 (by decide) (by decide), show gi (si (si u' 10 1) 7 0) 9 = gi u 9 from ui 9 (by decide) (by decide) (by decide), show gi (si (si u' 10 1) 7 0) 11 = gi u 11 from ui 11 (by decide) (by decide) (by decide), show gi (si (zE0 (si w' 16 1) s.1) 10 (nI (a + 1))) 2 = gi v 2 from by show gi w' 2 = _; exact zRM_i (by omega) hw, show gi (si (zE0 (si w' 16 1) s.1) 10 (nI (a + 1))) 4 = gi v 4 from by show gi w' 4 = _; exact zRM_i (by omega) hw, show gi (si (zE0 (si w' 16 1) s.1) 10 (nI (a + 1))) 5 = gi v 5 from by show gi w' 5 = _; exact zRM_i (by omega) hw, show gj (si (zE0 (si w' 16 1) s.1) 10 (nI (a + 1))) 0 = gj v 0 from by show w'.2.1 0 = v.2.1 0; rw [(zRM_j hw).1]]
          exact bd
      · refine RL_after hL rfl rfl (ui 12 (by decide) (by decide) (by decide)) (ui 13 (by decide) (by decide) (by decide)) uj.1 uj.2 (ua 16 (by decide) (by decide)) rfl rfl ?_ ?_ (zRM_j hw).2 ?_
        · show gi w' 7 = _; exact zRM_i (by omega) hw
        · show gi w' 6 = _; exact zRM_i (by omega) hw
        · show w'.2.2.1 8 = _; exact zRM_a (by omega) hw
  · rw [if_neg he]
    exact zStepF (N := N) (w' := si w' 16 0) Ho.2.2 he (RT_to (u := u') (v := w') (fun _ _ => rfl) (fun _ _ => rfl) rfl (fun _ _ => rfl) hTm) (show gi w' 11 = _ from RM_11 hw)
/-- the code's own block is left -/
theorem zStepE0 (hN : 1000 ≤ N) (hT : RT ty n u v) (hB : RB ty 0 c H u v) (hu : RC u s u') (hw : RM (zB0 v) s4 tk wn p w') (he4 : s4.2.2 = 0) (k4 : s4.1 ≤ 200) : ∃ u2 v2, zf_CCC_step_0_b40 N 0 (si u' 15 (nI 0)) = some (0, u2) ∧ zf_MMC_step_0_b96 N (si w' 16 1) = some (0, v2) ∧ zRel u2 v2 := by
  have w10 : gi w' 10 = nI (0 + 1) := by rw [zRM_i (by omega) hw]; exact hB.1.2.2.2
  have f14 : gi w' 14 = 0 := by rw [RM_i (k := 14) (by decide) hw]; rfl
  have f15 : gi w' 15 = 0 := by rw [RM_i (k := 15) (by decide) hw]; rfl
  have f17 : gi w' 17 = 0 := by rw [RM_i (k := 17) (by decide) hw]; rfl
  refine ⟨si (si (si (si u' 15 (nI 0)) 10 1) 7 0) 8 2, si (si (zE0 (si w' 16 1) s4.1) 10 (nI 0)) 1 2, ?_, ?_, ?_⟩
  · unfold zf_CCC_step_0_b40 zf_CCCode_finishInstruction_26
    rw [if_pos rfl, if_pos (show gi (si u' 15 (nI 0)) 15 = 0 from rfl)]; rfl
  · rw [mEnd0 hN (show gi (si w' 16 1) 11 = 0 from by show gi w' 11 = 0; rw [RM_11 hw]; exact he4) (show gi (si w' 16 1) 13 = nI s4.1 from by show gi w' 13 = _; exact RM_13 hw) k4, if_pos (show gi (si w' 16 1) 14 = 0 from f14)]
    unfold zf_MMC_step_0_b186 zf_MMC_step_0_b203 zf_MMC_step_0_b226 zf_MMC_step_0_b243
    have g10 : gi (zE0 (si w' 16 1) s4.1) 10 = nI (0 + 1) := w10
    rw [if_pos (show gi (zE0 (si w' 16 1) s4.1) 15 = 0 from f15), if_pos (show gi (zE0 (si w' 16 1) s4.1) 17 = 0 from f17), if_neg (show ¬ gi (zE0 (si w' 16 1) s4.1) 16 = 0 from by show ¬ (1 : Int32) = 0; decide), g10, nI_pred]
    have g10b : gi (si (zE0 (si w' 16 1) s4.1) 10 (nI 0)) 10 = 0 := rfl
    rw [g10b, if_pos rfl]; rfl
  · refine ⟨ty, n, ?_, rfl, Or.inr (Or.inr rfl), fun q => absurd q (by show ¬ (2 : Int32) = 1; decide)⟩
    refine RT_to (u := u) (v := v) (fun k hk => ?_) (fun k hk => ?_) ?_ (fun k hk => ?_) hT
    · rw [gi_si, if_neg (by omega), gi_si, if_neg (by omega), gi_si, if_neg (by omega), gi_si, if_neg (by omega)]; exact RC_i (by omega) hu
    · show u'.2.2.1 k = _; exact RC_a (by omega) hu
    · show gi w' 0 = _; exact zRM_i (by omega) hw
    · rw [a_si, a_si, zE0_a (by omega)]; show w'.2.2.1 k = _; exact zRM_a (by omega) hw
theorem zGo_11 (hN : 1000 ≤ N) (hT : RT ty n u v) (hB : RB ty b c H u v) (hL : RL lb rw' lc M u v) (h8 : gi u 8 = gi v 1) (h1 : gi v 1 = 1) (Ho : zOk (H b) s) (hu : RC u s u') (hw : RM (zB0 v) s tk wn p w') (he : s.2.2 = 0) : zGo N (zf_CCCode_carryOut_26 N 11 x u') (zf_MMC_perform_0 N 11 x y w') := by
  obtain ⟨lv, X, Y⟩ := zCxC hB
  have t1 := hT.1.1
  obtain ⟨p1, p2, p3, p4⟩ := hT.2.1
  obtain ⟨z1, z2, z3, z4⟩ := hT.2.2.1
  have a2 := hB.1.2.1
  have a3 := hB.1.2.2.1
  have hbt := hB.2.2.2.2.2.1.2 b (Nat.le_refl _)
  have hb4 := zBT_40 t1 hbt
  have ob := hB.2.2.2.1.1 b (Nat.le_refl _)
  have eb : (nI b).toNatClampNeg = b := nI_clamp (by omega)
  have b12 := zNn_le (res := true) z2 hb4
  obtain ⟨w0, f0, g0⟩ := mWantNothing (N := N) p hw
  have hcar : zf_CCCode_carryOut_26 N 11 x u' = zbd (zf_CCCode_carryOutBlock_26 N 11 x u') (fun _ z => some (gi z 16, z)) := by
    unfold zf_CCCode_carryOut_26
    rw [zbd_eq (zPl_of hN (by decide +kernel : zPl 60 11 0 = some (-1))), if_pos (by decide)]; rfl
  have hc : zf_CCCode_carryOutBlock_26 N 11 x u' = zbd (zf_CCStack_closeBlock_31 N u') zI := rfl
  have hper : zf_MMC_perform_0 N 11 x y w' = zbd (zbd (zf_MMC_wantNothing_0 N w') (fun _ z => zbd (zf_MMC_end_0 N z) zI)) zI := rfl
  rw [hcar, hc, hper, zbdI, zbdI, zbd_eq f0, zbdI]
  have e33 : zf_CCStack_ofBlock_31_33 N 0 u' = some (u.2.2.1 19 b, u') := cOf33 (N := N) (x := 0) a3 a2 (Nat.zero_le b) hu
  obtain ⟨u1, e1, r1⟩ := cTakeRow5 hN X (by rw [p3]; exact z2) hb4 Ho hu
  rw [p3, p4] at r1
  have H1 := zOk_takes (lv := lv) (h := H b) (zDown (zPp (v.2.2.1 3) (u.2.2.1 19 b)) (zNn true (v.2.2.1 1) (u.2.2.1 19 b))) Ho
  obtain ⟨u2, e2, r2⟩ := cNoMore (N := N) X H1.2.1 r1
  obtain ⟨w1, k1, f1, g1⟩ := mClose (lv := lv) hN hT hB Y Ho g0
  have H2 := zOk_left H1
  have L2 := aLeft_le (h := H b) (s := aTakes (H b) lv (zDown (zPp (v.2.2.1 3) (u.2.2.1 19 b)) (zNn true (v.2.2.1 1) (u.2.2.1 19 b))) s)
  generalize aLeft (H b) (aTakes (H b) lv (zDown (zPp (v.2.2.1 3) (u.2.2.1 19 b)) (zNn true (v.2.2.1 1) (u.2.2.1 19 b))) s) = s2 at r2 g1 H2 L2
  have eo : zf_CCStack_opener_31 N u2 = some (u.2.2.1 21 b, u2) := by
    unfold zf_CCStack_opener_31
    rw [zbd_eq (show zf_CCStack_ofBlock_31_35 N 0 u2 = some (u.2.2.1 21 b, u2) from cOf35 (N := N) (x := 0) a3 a2 (Nat.zero_le b) r2)]
  obtain ⟨ok, e5, q5⟩ := cLike (N := N) hN hT hb4 r2
  obtain ⟨ok', f5, q5'⟩ := mLike (N := N) hN hT hB g1 rfl
  have v10 : gi w1 10 = nI (b + 1) := by rw [zRM_i (by omega) g1]; exact hB.1.2.2.2
  have v11 : ga w1 11 (nI b) = u.2.2.1 21 b := by show w1.2.2.1 11 _ = _; rw [zRM_a (by omega) g1, eb]; exact ob.symm
  obtain ⟨s3, u3, w3, e6, r3, f6, g3, H3, L3⟩ : ∃ s3 u3 w3, (if u.2.2.1 21 b = 4 then zbd (zf_CCThings_hasLikeParametersAndResults_1 N (u.2.2.1 19 b) u2) (fun r14 u15 => if r14 = 0 then zbd (zf_CCStack_fail_31 N 4 u15) (fun r18 u19 => zf_CCStack_closeBlock_31_b50 N (u.2.2.1 19 b) u19) else zf_CCStack_closeBlock_31_b50 N (u.2.2.1 19 b) u15) else zf_CCStack_closeBlock_31_b50 N (u.2.2.1 19 b) u2) = zf_CCStack_closeBlock_31_b50 N (u.2.2.1 19 b) u3 ∧ RC u s3 u3 ∧ zf_MMC_end_0_b77 N (nI b) (if ok' then 1 else 0) w1 = zf_MMC_end_0_b96 N w3 ∧ RM (zB0 v) s3 k1 (zNn true (v.2.2.1 1) (u.2.2.1 19 b)) (zPp (v.2.2.1 3) (u.2.2.1 19 b)) w3 ∧ zOk (H b) s3 ∧ (s3.2.2 = 0 → s3.1 ≤ H b) := by
    unfold zf_MMC_end_0_b77
    rw [zck_pos (zin_of (by omega) (by omega)), v11]
    by_cases o4 : u.2.2.1 21 b = 4
    · have bpos : 1 ≤ b := by
        rcases Nat.eq_zero_or_pos b with rfl | hp
        · rw [hB.2.2.2.1.2] at o4; exact absurd o4 (by decide)
        · exact hp
      have eok : ok' = ok := by
        have a := q5' bpos
        cases ok' <;> cases ok <;> simp_all
      rw [if_pos o4, if_pos o4, zbd_eq e5, eok]
      cases ok with
      | true => exact ⟨s2, u2, w1, rfl, r2, rfl, g1, H2, L2⟩
      | false =>
        obtain ⟨u3, e3, r3⟩ := cFail (N := N) 4 r2
        obtain ⟨w3, f3, g3⟩ := mStop (N := N) 4 g1
        refine ⟨aStop 4 s2, u3, w3, ?_, r3, ?_, g3, zOk_stop (by decide) H2, fun q => absurd q (aStop_n0 (by decide))⟩
        · rw [if_pos (show (if false = true then (1 : Int32) else 0) = 0 from rfl), zbd_eq e3]
        · rw [if_pos (show (if false = true then (1 : Int32) else 0) = 0 from rfl), zbd_eq f3]
    · rw [if_neg o4, if_neg o4]; exact ⟨s2, u2, w1, rfl, r2, rfl, g1, H2, L2⟩
  obtain ⟨w4, f4, g4⟩ := mGiveWanted (N := N) hN (Nat.le_trans b12 (by omega)) H3 g3
  have H4 := zOk_gives (h := H b) (zUp (zPp (v.2.2.1 3) (u.2.2.1 19 b)) 0 (zNn true (v.2.2.1 1) (u.2.2.1 19 b))) H3
  have hR : zf_MMC_end_0 N w0 = some ((), si w4 16 (if (aGives (zUp (zPp (v.2.2.1 3) (u.2.2.1 19 b)) 0 (zNn true (v.2.2.1 1) (u.2.2.1 19 b))) s3).2.2 = 0 then 1 else 0)) := by
    unfold zf_MMC_end_0
    rw [zbd_eq f1, v10, nI_pred, f5, f6]
    unfold zf_MMC_end_0_b96 zf_MMC_end_0_b113
    rw [zbd_eq f4, RM_11 g4]
    by_cases q : (aGives (zUp (zPp (v.2.2.1 3) (u.2.2.1 19 b)) 0 (zNn true (v.2.2.1 1) (u.2.2.1 19 b))) s3).2.2 = 0
    · rw [if_pos q, if_pos q]; rfl
    · rw [if_neg q, if_neg q]; rfl
  have hC : zf_CCStack_closeBlock_31 N u' = zf_CCStack_closeBlock_31_b50 N (u.2.2.1 19 b) u3 := by
    unfold zf_CCStack_closeBlock_31
    rw [zbd_eq e33, zbd_eq e1, zbd_eq e2, zbd_eq eo]; exact e6
  have x15 : gi u3 15 = nI (b + 1) := by rw [RC_i (k := 15) (by decide) r3]; exact a3
  rw [hC, hR]
  unfold zGo zf_CCStack_closeBlock_31_b50 zf_CCStack_closeBlock_31_b64 zf_CCStack_closeBlock_31_b94
  rw [RC_16 r3]
  by_cases he3 : s3.2.2 = 0
  · rw [if_pos he3, zbd_eq (cInner a2 x15), if_neg (show ¬ (1 : Int32) = 0 from by decide), x15, nI_pred]
    rcases Nat.eq_zero_or_pos b with b0 | bp
    · subst b0
      have H00 := hB.2.2.1.2.2.2
      have l3 := L3 he3
      have e4 : (aGives (zUp (zPp (v.2.2.1 3) (u.2.2.1 19 0)) 0 (zNn true (v.2.2.1 1) (u.2.2.1 19 0))) s3).2.2 = 0 := aGives_ok _ he3 (by rw [zUp_len]; omega)
      obtain ⟨y1, y2, q1, q2, q3⟩ := zStepE0 (N := N) hN hT hB r3 g4 e4 H4.2.1
      rw [if_pos (show nI 0 ≤ (0 : Int32) from by decide), if_pos e4]
      refine ⟨0, y1, y2, ?_, q2, q3⟩
      show zf_CCC_step_0_b40 N (gi (si u3 15 (nI 0)) 16) (si u3 15 (nI 0)) = _
      rw [show gi (si u3 15 (nI 0)) 16 = 0 from by show gi u3 16 = 0; rw [RC_16 r3]; exact he3]
      exact q1
    · obtain ⟨a, rfl⟩ : ∃ a, b = a + 1 := ⟨b - 1, by omega⟩
      have r3' : RC (si u 15 (nI (a + 1))) s3 (si u3 15 (nI (a + 1))) := by
        obtain ⟨k, rfl⟩ := r3
        exact ⟨k, mkC_15 ..⟩
      obtain ⟨u4, e4, r4⟩ := cGiveRow5 (N := N) (u0 := si u 15 (nI (a + 1))) (h := H (a + 1)) hN (show zSz (u.2.2.1 2) from by rw [p3]; exact z2) hb4 H3 r3'
      have r4 : RC (si u 15 (nI (a + 1))) (aGives (zUp (zPp (u.2.2.1 3) (u.2.2.1 19 (a + 1))) 0 (zNn true (u.2.2.1 2) (u.2.2.1 19 (a + 1)))) s3) u4 := r4
      rw [p3, p4] at r4
      obtain ⟨y1, y2, q1, q2, q3⟩ := zStepE1 (N := N) hN hT hB hL h8 h1 r4 g4 H4
      rw [if_neg (nI_nle (by omega) (by omega)), zbd_eq e4]
      refine ⟨_, y1, y2, ?_, q2, q3⟩
      show zf_CCC_step_0_b40 N (gi u4 16) u4 = _
      rw [RC_16 r4]
      exact q1
  · rw [if_neg he3]
    rw [aGives_ne _ he3] at g4 ⊢
    rw [if_neg he3]
    obtain ⟨y1, y2, q1, q2, q3⟩ := zStepF (N := N) (w' := si w4 16 0) H3.2.2 he3 (RT_to (u := u3) (v := w4) (fun _ _ => rfl) (fun _ _ => rfl) rfl (fun _ _ => rfl) (zRT_mid hT r3 g4)) (show gi w4 11 = _ from RM_11 g4)
    refine ⟨_, y1, y2, ?_, q2, q3⟩
    show zf_CCC_step_0_b40 N (gi u3 16) u3 = _
    rw [RC_16 r3]
    exact q1
end EE
