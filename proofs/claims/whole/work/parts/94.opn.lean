/-! pure: 2, 3, 4 -/
section OQ
variable {N ty b c lb rw' lc : Nat} {n H M : Nat → Nat} {u v u' w' : zU} {s : zS} {tk : Int32} {wn : Nat} {p : Nat → Int32} {x y : Int32} {lv : Bool}
theorem zOpen (o : Int32) (hN : 1000 ≤ N) (hT : RT ty n u v) (hB : RB ty b c H u v) (hL : RL lb rw' lc M u v) (h8 : gi u 8 = gi v 1) (h1 : gi v 1 = 1) (X : CxC u b (H b) lv) (Y : CxM (zB0 v) b (H b) lv) (Ho : zOk (H b) s) (hu : RC u s u') (hw : RM (zB0 v) s tk 0 p w') (hx : zBlk x) (hx2 : x < nI ty) : ∃ r u3 w3 u2 v2, zf_CCStack_openBlock_31 N o x u' = some ((), u3) ∧ gi u3 16 = r ∧ zf_CCC_step_0_b40 N r u3 = some (r, u2) ∧ zf_MMC_open_0_b11 N o x w' = some ((), w3) ∧ zf_MMC_step_0_b96 N w3 = some (r, v2) ∧ zRel u2 v2 := by
  have t1 := hT.1.1
  obtain ⟨p1, p2, p3, p4⟩ := hT.2.1
  obtain ⟨z1, z2, z3, z4⟩ := hT.2.2.1
  have hbt : zBT ty x := ⟨hx2, fun q => by rcases hx with a | a | a; exact absurd q (Int32.not_lt.mpr a); exact Or.inl a; exact Or.inr a⟩
  have hb4 := zBT_40 t1 hbt
  have a2 := hB.1.2.1
  have b12 := zNn_le (res := false) z1 hb4
  obtain ⟨u1, e1, r1⟩ := cTakeRow2 hN X (by rw [p1]; exact z1) hb4 Ho hu
  rw [p1, p2] at r1
  -- what the reference wants
  obtain ⟨w1, f1, g1⟩ : ∃ w1, zf_MMC_open_0_b11 N o x w' = zf_MMC_open_0_b21 N o x w1 ∧ RM (zB0 v) s tk (zNn false (v.2.2.1 0) x) (zPp (v.2.2.1 2) x) w1 := by
    unfold zf_MMC_open_0_b11
    by_cases q : x < 0
    · rw [if_pos q]
      have e0 : zNn false (v.2.2.1 0) x = 0 := by unfold zNn; rw [if_pos q, if_neg (fun a => Bool.false_ne_true a.1)]
      rw [e0]
      obtain ⟨g, w, tg, rfl, hg, hw⟩ := hw
      exact ⟨_, rfl, g, w, tg, rfl, hg, fun i hi => absurd hi (by omega)⟩
    · rw [if_neg q]
      obtain ⟨t, ht, rfl⟩ := nI_of q
      have t4 : t < ty := (nI_ltI ht (by omega)).mp hx2
      obtain ⟨w1, f1, g1⟩ := mWantPartsP (N := N) (t := t) hN (show zSz ((zB0 v).2.2.1 0) from z1) (by omega) hw
      rw [zbd_eq f1]
      exact ⟨w1, rfl, g1⟩
  obtain ⟨w2, tk2, f2, g2⟩ := mTakeWanted (N := N) hN Y (fun i hi => zV_ne (zPp_V (res := false) t1 hbt z3 hi)) (Nat.le_trans b12 (by omega)) Ho g1
  have H1 : zOk (H b) (aTakes (H b) lv (zDown (zPp (v.2.2.1 2) x) (zNn false (v.2.2.1 0) x)) s) := zOk_takes _ Ho
  generalize hs1 : aTakes (H b) lv (zDown (zPp (v.2.2.1 2) x) (zNn false (v.2.2.1 0) x)) s = s1 at r1 g2 H1
  obtain ⟨u2, e2, r2a, r2b⟩ := cPush (N := N) (x := x) o a2 hB.1.2.2.1 H1.2.1 r1
  have w10 : gi w2 10 = nI (b + 1) := by rw [zRM_i (by omega) g2]; exact hB.1.2.2.2
  rw [f1]
  unfold zf_CCStack_openBlock_31 zf_MMC_open_0_b21
  rw [zbd_eq e1, zbd_eq e2, zbd_eq f2, w10]
  by_cases hc : s1.2.2 = 0 ∧ b + 1 < 60
  · have r2 := r2a hc
    obtain ⟨he, hb⟩ := hc
    have q10 : ¬ nI (b + 1) = 60 := fun q => by have := (nI_eq (b := 60) (by omega) (by omega)).mp q; omega
    obtain ⟨u3, e3, r3⟩ := cGiveRow2 (N := N) (u0 := zPuC u b o x s1.1) (h := H b) hN (show zSz ((zPuC u b o x s1.1).2.2.1 0) from by rw [zPuC_a hb]; show zSz (u.2.2.1 0); rw [p1]; exact z1) hb4 H1 r2
    have ea : (zPuC u b o x s1.1).2.2.1 1 = v.2.2.1 2 := by rw [zPuC_a hb]; exact p2
    have eb : (zPuC u b o x s1.1).2.2.1 0 = v.2.2.1 0 := by rw [zPuC_a hb]; exact p1
    rw [ea, eb] at r3
    rw [if_neg q10]
    unfold zf_MMC_open_0_b40
    have w11 : gi w2 11 = 0 := by rw [RM_11 g2]; exact he
    have w13 : gi w2 13 = nI s1.1 := RM_13 g2
    rw [w11, if_pos (show (0 : Int32) ≤ 0 from by decide), w10, w13, zck_pos (zin_of (by omega) (by omega)), zck_pos (zin_of (by omega) (by omega)), zck_pos (zin_of (by omega) (by omega)), zck_pos (zin_of (by omega) (by omega)), nar0]
    have g3 : RM (zPuM (zB0 v) b o x s1.1) s1 tk2 (zNn false (v.2.2.1 0) x) (zPp (v.2.2.1 2) x) (sa (sa (sa (sa w2 11 (nI (b + 1)) o) 12 (nI (b + 1)) x) 13 (nI (b + 1)) (nI s1.1)) 14 (nI (b + 1)) 0) := by
      obtain ⟨g, w, tg, rfl, hg, hw⟩ := g2
      exact ⟨g, w, tg, mkM_push .., hg, hw⟩
    obtain ⟨w3, f3, g4⟩ := mGiveWanted (N := N) hN (Nat.le_trans b12 (by omega)) H1 g3
    have H2 := zOk_gives (h := H b) (zUp (zPp (v.2.2.1 2) x) 0 (zNn false (v.2.2.1 0) x)) H1
    obtain ⟨y1, y2, q1, q2, q3⟩ := zStepO (N := N) hN hT hB hL h8 h1 hb H1.1 H1.2.1 hbt r3 g4 H2.2.1 H2.2.2 (fun q => (aGives_e _ q).2)
    exact ⟨_, u3, si w3 15 1, y1, y2, by rw [zbd_eq e3], RC_16 r3, q1, by rw [zbd_eq f3], q2, q3⟩
  · have r2 := r2b hc
    have hne : (aStop 15 s1).2.2 ≠ 0 := by
      unfold aStop
      by_cases q : s1.2.2 = 0
      · rw [if_pos q]; exact (by decide : (15 : Int32) ≠ 0)
      · rw [if_neg q]; exact q
    have H2 := zOk_stop (k := 15) (by decide) H1
    obtain ⟨u3, e3, r3⟩ := cGiveRow2 (N := N) (h := H b) hN (show zSz (u.2.2.1 0) from by rw [p1]; exact z1) hb4 H2 r2
    rw [aGives_ne _ hne] at r3
    obtain ⟨w3, f3, g3⟩ : ∃ w3, (if nI (b + 1) = 60 then zbd (zf_MMC_stop_0 N 15 w2) (fun _ u6 => zf_MMC_open_0_b40 N o x u6) else zf_MMC_open_0_b40 N o x w2) = some ((), w3) ∧ RM (zB0 v) (aStop 15 s1) tk2 (zNn false (v.2.2.1 0) x) (zPp (v.2.2.1 2) x) w3 := by
      have stopped : ∀ w, RM (zB0 v) (aStop 15 s1) tk2 (zNn false (v.2.2.1 0) x) (zPp (v.2.2.1 2) x) w → zf_MMC_open_0_b40 N o x w = some ((), w) := by
        intro w r
        unfold zf_MMC_open_0_b40
        rw [RM_11 r, if_neg (fun q => hne ((zle0 H2.2.2).mp q))]
      by_cases q : nI (b + 1) = 60
      · rw [if_pos q]
        obtain ⟨w3, f3, g3⟩ := mStop (N := N) 15 g2
        rw [zbd_eq f3]
        exact ⟨w3, stopped w3 g3, g3⟩
      · rw [if_neg q]
        have he : s1.2.2 ≠ 0 := fun e => hc ⟨e, by
          rcases Nat.lt_or_ge (b + 1) 60 with a | a
          · exact a
          · exact absurd (show nI (b + 1) = 60 from by rw [show b + 1 = 60 from by omega]; rfl) q⟩
        rw [aStop_ne he]
        rw [aStop_ne he] at stopped
        exact ⟨w2, stopped w2 g2, g2⟩
    obtain ⟨y1, y2, q1, q2, q3⟩ := zStepF (N := N) H2.2.2 hne (zRT_mid hT r3 g3) (RM_11 g3)
    exact ⟨_, u3, w3, y1, y2, by rw [zbd_eq e3], RC_16 r3, q1, f3, q2, q3⟩
theorem zGoO {C : Option (Int32 × zU)} {R : Option (Unit × zU)} {o : Int32} (hC : C = zbd (zf_CCStack_openBlock_31 N o x u') (fun _ z => some (gi z 16, z))) (hR : R = zf_MMC_open_0_b11 N o x w') (h : ∃ r u3 w3 u2 v2, zf_CCStack_openBlock_31 N o x u' = some ((), u3) ∧ gi u3 16 = r ∧ zf_CCC_step_0_b40 N r u3 = some (r, u2) ∧ zf_MMC_open_0_b11 N o x w' = some ((), w3) ∧ zf_MMC_step_0_b96 N w3 = some (r, v2) ∧ zRel u2 v2) : zGo N C R := by
  obtain ⟨r, u3, w3, u2, v2, e1, e2, e3, e4, e5, e6⟩ := h
  refine ⟨r, u2, v2, ?_, ?_, e6⟩
  · rw [hC, zbd_eq e1, e2]; exact e3
  · rw [hR, zbd_eq e4]; exact e5
theorem zGo_2 (hN : 1000 ≤ N) (hT : RT ty n u v) (hB : RB ty b c H u v) (hL : RL lb rw' lc M u v) (h8 : gi u 8 = gi v 1) (h1 : gi v 1 = 1) (Ho : zOk (H b) s) (hu : RC u s u') (hw : RM (zB0 v) s tk wn p w') (hx : zBlk x) (hx2 : x < nI ty) (he : s.2.2 = 0) : zGo N (zf_CCCode_carryOut_26 N 2 x u') (zf_MMC_perform_0 N 2 x y w') := by
  obtain ⟨lv, X, Y⟩ := zCxC hB
  obtain ⟨w0, f0, g0⟩ := mWantNothing (N := N) p hw
  refine zGoO (o := 2) ?_ ?_ (zOpen 2 hN hT hB hL h8 h1 X Y Ho hu g0 hx hx2)
  · have hcar : zf_CCCode_carryOut_26 N 2 x u' = zbd (zf_CCCode_carryOutBlock_26 N 2 x u') (fun _ z => some (gi z 16, z)) := by
      unfold zf_CCCode_carryOut_26
      rw [zbd_eq (zPl_of hN (by decide +kernel : zPl 60 2 0 = some (-1))), if_pos (by decide)]; rfl
    have hc : zf_CCCode_carryOutBlock_26 N 2 x u' = zbd (zf_CCStack_openBlock_31 N 2 x u') zI := rfl
    rw [hcar, hc, zbdI]
  · have hper : zf_MMC_perform_0 N 2 x y w' = zbd (zbd (zf_MMC_wantNothing_0 N w') (fun _ z => zbd (zf_MMC_open_0_b11 N 2 x z) zI)) zI := rfl
    rw [hper, zbdI, zbd_eq f0, zbdI]
theorem zGo_3 (hN : 1000 ≤ N) (hT : RT ty n u v) (hB : RB ty b c H u v) (hL : RL lb rw' lc M u v) (h8 : gi u 8 = gi v 1) (h1 : gi v 1 = 1) (Ho : zOk (H b) s) (hu : RC u s u') (hw : RM (zB0 v) s tk wn p w') (hx : zBlk x) (hx2 : x < nI ty) (he : s.2.2 = 0) : zGo N (zf_CCCode_carryOut_26 N 3 x u') (zf_MMC_perform_0 N 3 x y w') := by
  obtain ⟨lv, X, Y⟩ := zCxC hB
  obtain ⟨w0, f0, g0⟩ := mWantNothing (N := N) p hw
  refine zGoO (o := 3) ?_ ?_ (zOpen 3 hN hT hB hL h8 h1 X Y Ho hu g0 hx hx2)
  · have hcar : zf_CCCode_carryOut_26 N 3 x u' = zbd (zf_CCCode_carryOutBlock_26 N 3 x u') (fun _ z => some (gi z 16, z)) := by
      unfold zf_CCCode_carryOut_26
      rw [zbd_eq (zPl_of hN (by decide +kernel : zPl 60 3 0 = some (-1))), if_pos (by decide)]; rfl
    have hc : zf_CCCode_carryOutBlock_26 N 3 x u' = zbd (zf_CCStack_openBlock_31 N 3 x u') zI := rfl
    rw [hcar, hc, zbdI]
  · have hper : zf_MMC_perform_0 N 3 x y w' = zbd (zbd (zf_MMC_wantNothing_0 N w') (fun _ z => zbd (zf_MMC_open_0_b11 N 3 x z) zI)) zI := rfl
    rw [hper, zbdI, zbd_eq f0, zbdI]
theorem zGo_4 (hN : 1000 ≤ N) (hT : RT ty n u v) (hB : RB ty b c H u v) (hL : RL lb rw' lc M u v) (h8 : gi u 8 = gi v 1) (h1 : gi v 1 = 1) (Ho : zOk (H b) s) (hu : RC u s u') (hw : RM (zB0 v) s tk wn p w') (hx : zBlk x) (hx2 : x < nI ty) (he : s.2.2 = 0) : zGo N (zf_CCCode_carryOut_26 N 4 x u') (zf_MMC_perform_0 N 4 x y w') := by
  obtain ⟨lv, X, Y⟩ := zCxC hB
  obtain ⟨w0, f0, g0⟩ := mWantNothing (N := N) p hw
  obtain ⟨u1, e1, r1⟩ := cTake (N := N) 127 X Ho hu
  obtain ⟨w1, tk1, f1, g1⟩ := mTk (N := N) 127 (by decide) Y Ho g0
  refine zGoO (o := 4) ?_ ?_ (zOpen 4 hN hT hB hL h8 h1 X Y (zOk_take Ho) r1 g1 hx hx2)
  · have hcar : zf_CCCode_carryOut_26 N 4 x u' = zbd (zf_CCCode_carryOutBlock_26 N 4 x u') (fun _ z => some (gi z 16, z)) := by
      unfold zf_CCCode_carryOut_26
      rw [zbd_eq (zPl_of hN (by decide +kernel : zPl 60 4 0 = some (-1))), if_pos (by decide)]; rfl
    have hc : zf_CCCode_carryOutBlock_26 N 4 x u' = zbd (zf_CCStack_take_31 N 127 u') (fun _ z => zbd (zf_CCStack_openBlock_31 N 4 x z) zI) := rfl
    rw [hcar, hc, zbd_eq e1, zbdI]
  · have hper : zf_MMC_perform_0 N 4 x y w' = zbd (zbd (zf_MMC_wantNothing_0 N w') (fun _ z => zbd (zbd (zf_MMC_take_0 N 127 z) (fun _ z => zf_MMC_open_0_b11 N 4 x z)) zI)) zI := rfl
    rw [hper, zbdI, zbd_eq f0, zbdI, zbd_eq f1]
end OQ
