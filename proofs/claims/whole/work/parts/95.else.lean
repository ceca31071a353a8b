/-! pure: the end of a block's code, and 5 -/
def aLeft (h : Nat) (s : zS) : zS := if h < s.1 then aStop 3 s else s
theorem zOk_left {h : Nat} {s : zS} (H : zOk h s) : zOk h (aLeft h s) := zOk_if (zOk_stop (by decide) H) H
theorem aLeft_ne {h : Nat} {s : zS} (e : s.2.2 ≠ 0) : aLeft h s = s := by unfold aLeft; split; exact aStop_ne e; rfl
section EL
variable {N ty b c lb rw' lc : Nat} {n H M : Nat → Nat} {u v u' w' : zU} {s : zS} {tk : Int32} {wn : Nat} {p : Nat → Int32} {x y : Int32} {lv : Bool}
theorem cNoMore (X : CxC u b (H b) lv) (hs : s.1 ≤ 200) (hu : RC u s u') : ∃ u1, zf_CCStack_expectNoMoreOperands_31 N u' = some ((), u1) ∧ RC u (aLeft (H b) s) u1 := by
  obtain ⟨x1, x2, x3, x4, x5⟩ := X
  have eh : zf_CCStack_height_31 N u' = some (nI (H b), u') := by
    unfold zf_CCStack_height_31
    have := cOf34 (N := N) (x := 0) x1 x2 (Nat.zero_le b) hu
    rw [zbd_eq (show zf_CCStack_ofBlock_31_34 N 0 u' = some (nI (H b), u') from by rw [← x3]; exact this)]
  unfold zf_CCStack_expectNoMoreOperands_31 zf_CCStack_expectNoMoreOperands_31_b16 aLeft
  rw [zbd_eq eh, RC_14 hu]
  by_cases q : H b < s.1
  · rw [if_neg (nI_ge q (by omega)), if_pos q]
    obtain ⟨u1, e1, r1⟩ := cFail (N := N) 3 hu
    rw [zbd_eq e1]; exact ⟨u1, rfl, r1⟩
  · rw [if_pos (nI_le (by omega) (by omega)), if_neg q]; exact ⟨u', rfl, hu⟩
theorem mClose {p0 : Nat → Int32} (hN : 1000 ≤ N) (hT : RT ty n u v) (hB : RB ty b c H u v) (Y : CxM (zB0 v) b (H b) lv) (Ho : zOk (H b) s) (hw : RM (zB0 v) s tk 0 p0 w') : ∃ w1 tk1, zf_MMC_close_0 N w' = some ((), w1) ∧ RM (zB0 v) (aLeft (H b) (aTakes (H b) lv (zDown (zPp (v.2.2.1 3) (u.2.2.1 19 b)) (zNn true (v.2.2.1 1) (u.2.2.1 19 b))) s)) tk1 (zNn true (v.2.2.1 1) (u.2.2.1 19 b)) (zPp (v.2.2.1 3) (u.2.2.1 19 b)) w1 := by
  have t1 := hT.1.1
  obtain ⟨z1, z2, z3, z4⟩ := hT.2.2.1
  have a2 := hB.1.2.1
  have hbt := hB.2.2.2.2.2.1.2 b (Nat.le_refl _)
  have hb4 := zBT_40 t1 hbt
  have b12 := zNn_le (res := true) z2 hb4
  have w10 : gi w' 10 = nI (b + 1) := by rw [zRM_i (by omega) hw]; exact hB.1.2.2.2
  obtain ⟨w1, f1, g1⟩ := mWantBlockR (N := N) (q := b) hN (zHB t1 hB) (show zSz ((zB0 v).2.2.1 1) from z2) (Nat.le_refl _) hw
  obtain ⟨w2, k2, f2, g2⟩ := mTakeWanted (N := N) hN Y (fun i hi => zV_ne (zPp_V (res := true) t1 hbt z4 hi)) (Nat.le_trans b12 (by omega)) Ho g1
  have H1 := zOk_takes (lv := lv) (h := H b) (zDown (zPp (v.2.2.1 3) (u.2.2.1 19 b)) (zNn true (v.2.2.1 1) (u.2.2.1 19 b))) Ho
  have g2' : RM (zB0 v) (aTakes (H b) lv (zDown (zPp (v.2.2.1 3) (u.2.2.1 19 b)) (zNn true (v.2.2.1 1) (u.2.2.1 19 b))) s) k2 (zNn true (v.2.2.1 1) (u.2.2.1 19 b)) (zPp (v.2.2.1 3) (u.2.2.1 19 b)) w2 := g2
  generalize aTakes (H b) lv (zDown (zPp (v.2.2.1 3) (u.2.2.1 19 b)) (zNn true (v.2.2.1 1) (u.2.2.1 19 b))) s = s1 at g2' H1
  have v10 : gi w2 10 = nI (b + 1) := by rw [zRM_i (by omega) g2']; exact hB.1.2.2.2
  have v13 : ga w2 13 (nI b) = nI (H b) := by show w2.2.2.1 13 _ = _; rw [zRM_a (by omega) g2', nI_clamp (by omega)]; exact (hB.2.2.1.1 b (Nat.le_refl _)).2
  unfold zf_MMC_close_0 zf_MMC_close_0_b45
  rw [w10, nI_pred, zbd_eq f1, zbd_eq f2, RM_11 g2', v10, nI_pred, v13, RM_13 g2']
  unfold aLeft
  have H12 := H1.2.1
  have Hb2 := Y.2.2.2.2
  by_cases he : s1.2.2 = 0
  · rw [if_pos he, zck_pos (zin_of (by omega) (by omega))]
    by_cases q : H b < s1.1
    · rw [if_neg (nI_ge q (by omega)), if_pos q]
      obtain ⟨w3, f3, g3⟩ := mStop (N := N) 3 g2'
      rw [zbd_eq f3]; exact ⟨w3, k2, rfl, g3⟩
    · rw [if_pos (nI_le (by omega) (by omega)), if_neg q]; exact ⟨w2, k2, rfl, g2'⟩
  · rw [if_neg he]
    refine ⟨w2, k2, rfl, ?_⟩
    split
    · rw [aStop_ne he]; exact g2'
    · exact g2'
theorem mkC_else (u : zU) (c : Int32) (f : Nat → Int32) (e : Int32) (k : Nat → Int32) (i : Int32) : sa (sa (mkC u c f e k) 21 i 5) 22 i 1 = mkC (sa (sa u 21 i 5) 22 i 1) c f e k := by
  refine Prod.ext rfl (Prod.ext rfl (Prod.ext ?_ rfl))
  funext q
  by_cases h18 : q = 18
  · subst h18; rfl
  by_cases h21 : q = 21
  · subst h21; rfl
  by_cases h22 : q = 22
  · subst h22; rfl
  by_cases h23 : q = 23
  · subst h23; rfl
  simp only [sa, mkC, va_up, if_neg h18, if_neg h21, if_neg h22, if_neg h23]
theorem mWant00 {p0 : Nat → Int32} (hN : 1000 ≤ N) (hw : RM (zB0 v) s tk 0 p0 w') : zf_MMC_wantBlock_0 N 0 0 w' = some ((), w') := by
  obtain ⟨m, rfl⟩ : ∃ m, N = m + 1 := ⟨N - 1, by omega⟩
  unfold zf_MMC_wantBlock_0
  rw [zf_MMC_wantBlock_0_b2]
  have : zf_MMC_countOf_0 (m + 1) 0 0 w' = some (0, w') := rfl
  rw [zbd_eq this, if_pos (show (0 : Int32) ≤ 0 from by decide)]
theorem zGo_5 (hN : 1000 ≤ N) (hT : RT ty n u v) (hB : RB ty b c H u v) (hL : RL lb rw' lc M u v) (h8 : gi u 8 = gi v 1) (h1 : gi v 1 = 1) (Ho : zOk (H b) s) (hu : RC u s u') (hw : RM (zB0 v) s tk wn p w') (he : s.2.2 = 0) : zGo N (zf_CCCode_carryOut_26 N 5 x u') (zf_MMC_perform_0 N 5 x y w') := by
  obtain ⟨lv, X, Y⟩ := zCxC hB
  have t1 := hT.1.1
  obtain ⟨p1, p2, p3, p4⟩ := hT.2.1
  obtain ⟨z1, z2, z3, z4⟩ := hT.2.2.1
  have a2 := hB.1.2.1
  have a3 := hB.1.2.2.1
  have hbt := hB.2.2.2.2.2.1.2 b (Nat.le_refl _)
  have hb4 := zBT_40 t1 hbt
  have ob := hB.2.2.2.1.1 b (Nat.le_refl _)
  have eb : (nI b).toNatClampNeg = b := nI_clamp (by omega)
  obtain ⟨w0, f0, g0⟩ := mWantNothing (N := N) p hw
  have hcar : zf_CCCode_carryOut_26 N 5 x u' = zbd (zf_CCCode_carryOutBlock_26 N 5 x u') (fun _ z => some (gi z 16, z)) := by
    unfold zf_CCCode_carryOut_26
    rw [zbd_eq (zPl_of hN (by decide +kernel : zPl 60 5 0 = some (-1))), if_pos (by decide)]; rfl
  have hc : zf_CCCode_carryOutBlock_26 N 5 x u' = zbd (zf_CCStack_turnToElse_31 N u') zI := rfl
  have hper : zf_MMC_perform_0 N 5 x y w' = zbd (zbd (zf_MMC_wantNothing_0 N w') (fun _ z => zbd (zf_MMC_choose_0 N z) zI)) zI := rfl
  have u15 : gi u' 15 = nI (b + 1) := by rw [RC_i (k := 15) (by decide) hu]; exact a3
  have eo : zf_CCStack_opener_31 N u' = some (u.2.2.1 21 b, u') := by
    unfold zf_CCStack_opener_31
    rw [zbd_eq (show zf_CCStack_ofBlock_31_35 N 0 u' = some (u.2.2.1 21 b, u') from cOf35 (N := N) (x := 0) a3 a2 (Nat.zero_le b) hu)]
  have w10 : gi w0 10 = nI (b + 1) := by rw [zRM_i (by omega) g0]; exact hB.1.2.2.2
  have w11 : ga w0 11 (nI b) = u.2.2.1 21 b := by show w0.2.2.1 11 _ = _; rw [zRM_a (by omega) g0, eb]; exact ob.symm
  rw [hcar, hc, hper, zbdI, zbdI, zbd_eq f0, zbdI]
  unfold zf_CCStack_turnToElse_31 zf_CCStack_turnToElse_31_b15 zf_MMC_choose_0
  rw [zbd_eq (cInner a2 u15), if_neg (show ¬ (1 : Int32) = 0 from by decide), zbd_eq eo, w10, nI_pred, zck_pos (zin_of (by omega) (by omega)), w11]
  by_cases o4 : u.2.2.1 21 b = 4
  · have bpos : 1 ≤ b := by
      rcases Nat.eq_zero_or_pos b with rfl | hp
      · rw [hB.2.2.2.1.2] at o4; exact absurd o4 (by decide)
      · exact hp
    rw [if_pos o4, if_pos o4]
    have e33 : zf_CCStack_ofBlock_31_33 N 0 u' = some (u.2.2.1 19 b, u') := cOf33 (N := N) (x := 0) a3 a2 (Nat.zero_le b) hu
    obtain ⟨u1, e1, r1⟩ := cTakeRow5 hN X (by rw [p3]; exact z2) hb4 Ho hu
    rw [p3, p4] at r1
    have H1 := zOk_takes (lv := lv) (h := H b) (zDown (zPp (v.2.2.1 3) (u.2.2.1 19 b)) (zNn true (v.2.2.1 1) (u.2.2.1 19 b))) Ho
    obtain ⟨u2, e2, r2⟩ := cNoMore (N := N) X H1.2.1 r1
    obtain ⟨w1, k1, f1, g1⟩ := mClose (lv := lv) hN hT hB Y Ho g0
    have H2 := zOk_left H1
    generalize aLeft (H b) (aTakes (H b) lv (zDown (zPp (v.2.2.1 3) (u.2.2.1 19 b)) (zNn true (v.2.2.1 1) (u.2.2.1 19 b))) s) = s2 at r2 g1 H2
    have x15 : gi u2 15 = nI (b + 1) := by rw [RC_i (k := 15) (by decide) r2]; exact a3
    have r3 : RC (sa (sa u 21 (nI b) 5) 22 (nI b) 1) s2 (sa (sa u2 21 (nI b) 5) 22 (nI b) 1) := by
      obtain ⟨k, rfl⟩ := r2
      exact ⟨k, mkC_else ..⟩
    obtain ⟨u4, e4, r4⟩ := cGiveRow2 (N := N) (u0 := sa (sa u 21 (nI b) 5) 22 (nI b) 1) (h := H b) hN (show zSz (u.2.2.1 0) from by rw [p1]; exact z1) hb4 H2 r3
    have r4 : RC (sa (sa u 21 (nI b) 5) 22 (nI b) 1) (aGives (zUp (zPp (u.2.2.1 1) (u.2.2.1 19 b)) 0 (zNn false (u.2.2.1 0) (u.2.2.1 19 b))) s2) u4 := r4
    rw [p1, p2] at r4
    obtain ⟨w2, f2, g2⟩ := mWantNothing (N := N) p g1
    have v10 : gi w2 10 = nI (b + 1) := by rw [zRM_i (by omega) g2]; exact hB.1.2.2.2
    obtain ⟨w3, f3, g3⟩ := mWantBlockP (N := N) (q := b) hN (zHB t1 hB) (show zSz ((zB0 v).2.2.1 0) from z1) bpos (Nat.le_refl _) g2
    obtain ⟨w4, f4, g4⟩ := mGiveWanted (N := N) hN (Nat.le_trans (zNn_le (res := false) (show zSz ((zB0 v).2.2.1 0) from z1) hb4) (by omega)) H2 g3
    have g4 : RM (zB0 v) (aGives (zUp (zPp (v.2.2.1 2) (u.2.2.1 19 b)) 0 (zNn false (v.2.2.1 0) (u.2.2.1 19 b))) s2) k1 (zNn false (v.2.2.1 0) (u.2.2.1 19 b)) (zPp (v.2.2.1 2) (u.2.2.1 19 b)) w4 := g4
    have H4 := zOk_gives (h := H b) (zUp (zPp (v.2.2.1 2) (u.2.2.1 19 b)) 0 (zNn false (v.2.2.1 0) (u.2.2.1 19 b))) H2
    generalize aGives (zUp (zPp (v.2.2.1 2) (u.2.2.1 19 b)) 0 (zNn false (v.2.2.1 0) (u.2.2.1 19 b))) s2 = s4 at r4 g4 H4
    have hC : zbd (zf_CCStack_ofBlock_31_33 N 0 u') (fun r9 u10 => zbd (zf_CCStack_takeRow_31_5 N r9 u10) (fun r12 u13 => zbd (zf_CCStack_expectNoMoreOperands_31 N u13) (fun r15 u16 => zck (zin ((gi u16 15) - 1) 60) (zck (zin ((gi u16 15) - 1) 60) (zbd (zf_CCStack_giveRow_31_2 N r9 (sa (sa u16 21 ((gi u16 15) - 1) 5) 22 ((gi u16 15) - 1) (vp_nar .boolean 1))) (fun r20 u21 => some ((), u21))))))) = some ((), u4) := by
      rw [zbd_eq e33, zbd_eq e1, zbd_eq e2, x15, nI_pred, zck_pos (zin_of a2 (by omega)), zck_pos (zin_of a2 (by omega)), nar1, zbd_eq e4]
    have u4i : ∀ k, k ≠ 14 → k ≠ 16 → gi u4 k = gi u k := fun k q1 q2 => by rw [RC_i ⟨q1, q2⟩ r4]; rfl
    have hTm : RT ty n u4 w4 := by
      refine RT_to (u := u) (v := v) (fun k hk => u4i k (by omega) (by omega)) (fun k hk => ?_) (zRM_i (by omega) g4) (fun k hk => zRM_a (by omega) g4) hT
      rw [RC_a (by omega) r4, a_sa, if_neg (by omega), a_sa, if_neg (by omega)]
    have hR : zf_MMC_choose_0_b20 N w0 = some ((), si w4 17 (if s4.2.2 = 0 then 1 else 0)) := by
      unfold zf_MMC_choose_0_b20 zf_MMC_choose_0_b56
      rw [zbd_eq f1, zbd_eq f2, v10, nI_pred, zbd_eq f3, zbd_eq f4, RM_11 g4]
      by_cases q : s4.2.2 = 0
      · rw [if_pos q, if_pos q]; rfl
      · rw [if_neg q, if_neg q]; rfl
    unfold zGo
    rw [hC, hR]
    have hC2 : zbd (zbd (some ((), u4)) (fun _ z => some (gi z 16, z))) (fun r9 u10 => zf_CCC_step_0_b40 N r9 u10) = zf_CCC_step_0_b40 N s4.2.2 u4 := by
      show zf_CCC_step_0_b40 N (gi u4 16) u4 = _
      rw [RC_16 r4]
    rw [hC2]
    show ∃ r u1 v1, zf_CCC_step_0_b40 N s4.2.2 u4 = some (r, u1) ∧ zf_MMC_step_0_b96 N (si w4 17 (if s4.2.2 = 0 then 1 else 0)) = some (r, v1) ∧ zRel u1 v1
    by_cases he4 : s4.2.2 = 0
    · rw [if_pos he4]
      have f14 : gi w4 14 = 0 := by rw [RM_i (k := 14) (by decide) g4]; rfl
      have f15 : gi w4 15 = 0 := by rw [RM_i (k := 15) (by decide) g4]; rfl
      have f16 : gi w4 16 = 0 := by rw [RM_i (k := 16) (by decide) g4]; rfl
      have w410 : gi w4 10 = nI (b + 1) := by rw [zRM_i (by omega) g4]; exact hB.1.2.2.2
      refine ⟨0, si (si u4 10 1) 7 0, sa (sa (zE0 (si w4 17 1) s4.1) 11 (nI b) 5) 14 (nI b) 0, ?_, ?_, ?_⟩
      · unfold zf_CCC_step_0_b40 zf_CCCode_finishInstruction_26
        rw [he4, if_pos rfl, u4i 15 (by decide) (by decide), a3, if_neg (nI_ne0 (by omega) (by omega))]; rfl
      · rw [mEnd0 hN (show gi (si w4 17 1) 11 = 0 from by show gi w4 11 = 0; rw [RM_11 g4]; exact he4) (show gi (si w4 17 1) 13 = nI s4.1 from by show gi w4 13 = _; exact RM_13 g4) H4.2.1, if_pos (show gi (si w4 17 1) 14 = 0 from f14), show gi (si w4 17 1) 10 = nI (b + 1) from w410, nI_pred]
        unfold zf_MMC_step_0_b186 zf_MMC_step_0_b203 zf_MMC_step_0_b226 zf_MMC_step_0_b243
        rw [if_pos (show gi (zE0 (si w4 17 1) s4.1) 15 = 0 from f15), if_neg (show ¬ gi (zE0 (si w4 17 1) s4.1) 17 = 0 from by show ¬ (1 : Int32) = 0; decide), zck_pos (zin_of (by omega) (by omega)), zck_pos (zin_of (by omega) (by omega)), nar0, if_pos (show gi (sa (sa (zE0 (si w4 17 1) s4.1) 11 (nI b) 5) 14 (nI b) 0) 16 = 0 from f16), if_neg (show ¬ gi (sa (sa (zE0 (si w4 17 1) s4.1) 11 (nI b) 5) 14 (nI b) 0) 10 = 0 from by show ¬ gi w4 10 = 0; rw [w410]; exact nI_ne0 (by omega) (by omega))]; rfl
      · have y1 : gi (sa (sa (zE0 (si w4 17 1) s4.1) 11 (nI b) 5) 14 (nI b) 0) 1 = 1 := by show gi w4 1 = 1; rw [zRM_i (by omega) g4]; exact h1
        have x8 : gi (si (si u4 10 1) 7 0) 8 = 1 := by show gi u4 8 = 1; rw [u4i 8 (by decide) (by decide), h8]; exact h1
        have ua : ∀ k, k ≠ 18 → k ≠ 23 → k ≠ 21 → k ≠ 22 → u4.2.2.1 k = u.2.2.1 k := fun k q1 q2 q3 q4 => by rw [RC_a ⟨q1, q2⟩ r4, a_sa, if_neg q4, a_sa, if_neg q3]
        have u421 : u4.2.2.1 21 = upd (u.2.2.1 21) b 5 := by rw [RC_a (k := 21) (by decide) r4]; show upd (u.2.2.1 21) (nI b).toNatClampNeg 5 = _; rw [eb]
        have u422 : u4.2.2.1 22 = upd (u.2.2.1 22) b 1 := by rw [RC_a (k := 22) (by decide) r4]; show upd (u.2.2.1 22) (nI b).toNatClampNeg 1 = _; rw [eb]
        have y11 : (sa (sa (zE0 (si w4 17 1) s4.1) 11 (nI b) 5) 14 (nI b) 0).2.2.1 11 = upd (v.2.2.1 11) b 5 := by show upd (w4.2.2.1 11) (nI b).toNatClampNeg 5 = _; rw [eb, zRM_a (by omega) g4]
        have y14 : (sa (sa (zE0 (si w4 17 1) s4.1) 11 (nI b) 5) 14 (nI b) 0).2.2.1 14 = upd (v.2.2.1 14) b 0 := by show upd (w4.2.2.1 14) (nI b).toNatClampNeg 0 = _; rw [eb, zRM_a (by omega) g4]
        refine ⟨ty, n, ?_, by rw [x8, y1], Or.inr (Or.inl y1), fun _ => ⟨b, s4.1, H, 0, rw', lc, M, ?_, ?_⟩⟩
        · refine RT_to (u := u4) (v := w4) (fun k hk => ?_) (fun k hk => rfl) rfl (fun k hk => ?_) hTm
          · rw [gi_si, if_neg (by omega), gi_si, if_neg (by omega)]
          · rw [a_sa, if_neg (by omega), a_sa, if_neg (by omega), zE0_a (by omega)]; rfl
        · refine RB_fin hB ?_ (u4i 15 (by decide) (by decide)) ?_ H4.2.1 ?_ rfl ?_ ?_ ?_ H4.1 ⟨?_, ?_⟩ ?_ ?_ ?_ ?_ ?_ ?_ ?_ ?_ (zRM_j g4).1
          · show gi u4 16 = 0; rw [RC_16 r4]; exact he4
          · show gi w4 10 = _; exact zRM_i (by omega) g4
          · show gi u4 14 = _; exact RC_14 r4
          · intro i hi
            show u4.2.2.1 18 i = zMix (w4.2.2.1 15) (w4.2.2.1 10) s4.1 i
            rw [zMix_lt _ _ hi, RM_row g4 i hi, RC_18 r4]
          · show u4.2.2.1 20 = _; exact ua 20 (by decide) (by decide) (by decide) (by decide)
          · show w4.2.2.1 13 = _; exact zRM_a (by omega) g4
          · intro q hq
            rw [show (si (si u4 10 1) 7 0).2.2.1 21 = upd (u.2.2.1 21) b 5 from u421, y11]
            by_cases e : q = b
            · subst e; rw [upd_at, upd_at]
            · rw [upd_ne _ _ e, upd_ne _ _ e]; exact hB.2.2.2.1.1 q hq
          · rw [show (si (si u4 10 1) 7 0).2.2.1 21 = upd (u.2.2.1 21) b 5 from u421, upd_ne _ _ (by omega)]; exact hB.2.2.2.1.2
          · intro q hq
            rw [show (si (si u4 10 1) 7 0).2.2.1 22 = upd (u.2.2.1 22) b 1 from u422, y14]
            by_cases e : q = b
            · subst e; rw [upd_at, upd_at]; exact Or.inl ⟨rfl, rfl⟩
            · rw [upd_ne _ _ e, upd_ne _ _ e]; exact hB.2.2.2.2.1 q hq
          · show u4.2.2.1 19 = _; exact ua 19 (by decide) (by decide) (by decide) (by decide)
          · show w4.2.2.1 12 = _; exact zRM_a (by omega) g4
          · exact u4i 9 (by decide) (by decide)
          · exact u4i 11 (by decide) (by decide)
          · show gi w4 2 = _; exact zRM_i (by omega) g4
          · show gi w4 4 = _; exact zRM_i (by omega) g4
          · show gi w4 5 = _; exact zRM_i (by omega) g4
        · refine RL_after hL rfl rfl (u4i 12 (by decide) (by decide)) (u4i 13 (by decide) (by decide)) (zRC_j r4).1 (zRC_j r4).2 (ua 16 (by decide) (by decide) (by decide) (by decide)) rfl rfl ?_ ?_ (zRM_j g4).2 ?_
          · show gi w4 7 = _; exact zRM_i (by omega) g4
          · show gi w4 6 = _; exact zRM_i (by omega) g4
          · show w4.2.2.1 8 = _; exact zRM_a (by omega) g4
    · rw [if_neg he4]
      obtain ⟨y1, y2, q1, q2, q3⟩ := zStepF (N := N) (w' := si w4 17 0) H4.2.2 he4 (RT_to (u := u4) (v := w4) (fun _ _ => rfl) (fun _ _ => rfl) rfl (fun _ _ => rfl) hTm) (show gi w4 11 = _ from RM_11 g4)
      exact ⟨_, y1, y2, q1, q2, q3⟩
  · rw [if_neg o4, if_neg o4]
    obtain ⟨u1, e1, r1⟩ := cFail (N := N) 2 hu
    obtain ⟨w1, f1, g1⟩ := mStop (N := N) 2 g0
    have hne : (aStop 2 s).2.2 ≠ 0 := by unfold aStop; rw [if_pos he]; exact (by decide : (2 : Int32) ≠ 0)
    have H1 : zOk (H b) (aStop 2 s) := zOk_stop (by decide) Ho
    obtain ⟨w2, k2, f2, g2⟩ := mClose (lv := lv) hN hT hB Y H1 g1
    rw [aTakes_ne _ hne, aLeft_ne hne] at g2
    obtain ⟨w3, f3, g3⟩ := mWantNothing (N := N) p g2
    have v10 : gi w3 10 = nI (b + 1) := by rw [zRM_i (by omega) g3]; exact hB.1.2.2.2
    obtain ⟨w4, n4, p4', f4, hn4, g4⟩ : ∃ w4 n4 p4', zf_MMC_wantBlock_0 N (nI b) 0 w3 = some ((), w4) ∧ n4 ≤ 64 ∧ RM (zB0 v) (aStop 2 s) k2 n4 p4' w4 := by
      rcases Nat.eq_zero_or_pos b with rfl | hp
      · exact ⟨w3, 0, p, mWant00 hN g3, by omega, g3⟩
      · obtain ⟨w4, f4, g4⟩ := mWantBlockP (N := N) (q := b) hN (zHB t1 hB) (show zSz ((zB0 v).2.2.1 0) from z1) hp (Nat.le_refl _) g3
        exact ⟨w4, _, _, f4, Nat.le_trans (zNn_le (res := false) (show zSz ((zB0 v).2.2.1 0) from z1) hb4) (by omega), g4⟩
    obtain ⟨w5, f5, g5⟩ := mGiveWanted (N := N) hN hn4 H1 g4
    rw [aGives_ne _ hne] at g5
    have hR : zbd (zf_MMC_stop_0 N 2 w0) (fun _ z => zf_MMC_choose_0_b20 N z) = some ((), si w5 17 0) := by
      unfold zf_MMC_choose_0_b20 zf_MMC_choose_0_b56
      rw [zbd_eq f1, zbd_eq f2, zbd_eq f3, v10, nI_pred, zbd_eq f4, zbd_eq f5, RM_11 g5, if_neg hne]; rfl
    unfold zGo
    rw [zbd_eq e1, hR]
    show ∃ r u1_1 v1, zf_CCC_step_0_b40 N (gi u1 16) u1 = some (r, u1_1) ∧ zf_MMC_step_0_b96 N (si w5 17 0) = some (r, v1) ∧ zRel u1_1 v1
    rw [RC_16 r1]
    obtain ⟨y1, y2, q1, q2, q3⟩ := zStepF (N := N) (w' := si w5 17 0) H1.2.2 hne (RT_to (u := u1) (v := w5) (fun _ _ => rfl) (fun _ _ => rfl) rfl (fun _ _ => rfl) (zRT_mid hT r1 g5)) (show gi w5 11 = _ from RM_11 g5)
    exact ⟨_, y1, y2, q1, q2, q3⟩
end EL
