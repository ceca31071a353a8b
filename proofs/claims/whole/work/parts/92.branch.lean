/-! pure: branches and calls -/
section BR
variable {N ty b c lb rw' lc : Nat} {n H M : Nat → Nat} {u v u' w' : zU} {s : zS} {tk : Int32} {wn : Nat} {p : Nat → Int32} {x y : Int32} {lv : Bool}
theorem zPp_V {res : Bool} {sz pt : Nat → Int32} {bt : Int32} {i : Nat} (hty : ty ≤ 40) (hbt : zBT ty bt) (hv : zVals sz pt) (hi : i < zNn res sz bt) : zV (zPp pt bt i) := by
  unfold zNn at hi
  unfold zPp
  by_cases h : bt < 0
  · rw [if_pos h] at hi ⊢
    by_cases q : res = true ∧ bt ≠ -64
    · rcases hbt.2 h with e | e
      · exact absurd e q.2
      · exact e
    · rw [if_neg q] at hi; omega
  · rw [if_neg h] at hi ⊢
    obtain ⟨t, ht, rfl⟩ := nI_of h
    have t4 : t < ty := (nI_ltI ht (by omega)).mp hbt.1
    rw [nI_clamp ht] at hi ⊢
    exact hv t (by omega) i hi
theorem zLp_V {o : Int32} {p0 p1 r0 r1 : Nat → Int32} {bt : Int32} {i : Nat} (hty : ty ≤ 40) (hbt : zBT ty bt) (h1 : zVals p0 p1) (h2 : zVals r0 r1) (hi : i < zLn o p0 r0 bt) : zV (zLp o p1 r1 bt i) := by
  unfold zLn at hi
  unfold zLp
  by_cases q : o = 3
  · rw [if_pos q] at hi ⊢; exact zPp_V hty hbt h1 hi
  · rw [if_neg q] at hi ⊢; exact zPp_V hty hbt h2 hi
theorem zHB (hty : ty ≤ 40) (hB : RB ty b c H u v) : HB (zB0 v) b (u.2.2.1 19) := by
  obtain ⟨⟨a1, a2, a3, a4⟩, -, -, -, -, ⟨t1, t2⟩, bd⟩ := hB
  refine ⟨a2, t1, fun q hq => zBT_40 hty (t2 q hq), ?_⟩
  rcases bd with ⟨q1, q2, q3, q4⟩ | ⟨q1, q2, q3, q4, q5, -⟩
  · exact Or.inl ⟨by show gi v 2 ≠ 0; rw [q1]; decide, q3, q4⟩
  · exact Or.inr ⟨q1, q3, q4, q5⟩
theorem zHO (hB : RB ty b c H u v) : ∀ q, q ≤ b → (zB0 v).2.2.1 11 q = 3 → 1 ≤ q := by
  obtain ⟨-, -, -, ⟨o1, o2⟩, -⟩ := hB
  intro q hq h3
  rcases Nat.eq_zero_or_pos q with rfl | hp
  · have : v.2.2.1 11 0 = -1 := by rw [← o1 0 hq]; exact o2
    have h3 : v.2.2.1 11 0 = 3 := h3
    rw [this] at h3; exact absurd h3 (by decide)
  · exact hp
theorem zCxC (hB : RB ty b c H u v) : ∃ lv, CxC u b (H b) lv ∧ CxM (zB0 v) b (H b) lv := by
  obtain ⟨⟨a1, a2, a3, a4⟩, ⟨c1, -⟩, ⟨d1, d2, d3, d4⟩, -, lf, -⟩ := hB
  have h1 := d1 b (Nat.le_refl _)
  rcases lf b (Nat.le_refl _) with ⟨q1, q2⟩ | ⟨q1, q2⟩
  · exact ⟨true, ⟨a3, a2, h1.1, q1, by omega⟩, ⟨a4, a2, h1.2, q2, by omega⟩⟩
  · exact ⟨false, ⟨a3, a2, h1.1, q1, by omega⟩, ⟨a4, a2, h1.2, q2, by omega⟩⟩
/-- what is shown of the rest of a step -/
def zGo (N : Nat) (C : Option (Int32 × zU)) (R : Option (Unit × zU)) : Prop := ∃ r u1 v1, zbd C (fun r9 u10 => zf_CCC_step_0_b40 N r9 u10) = some (r, u1) ∧ zbd R (fun _ z => zf_MMC_step_0_b96 N z) = some (r, v1) ∧ zRel u1 v1
theorem zGo1 {C : Option (Int32 × zU)} {R : Option (Unit × zU)} (hN : 1000 ≤ N) (hT : RT ty n u v) (hB : RB ty b c H u v) (hL : RL lb rw' lc M u v) (h8 : gi u 8 = gi v 1) (h1 : gi v 1 = 1) (hk : zK1 (H b) u (zB0 v) C R) : zGo N C R := by
  obtain ⟨s', tk', wn', p', u', w', e1, r1, e2, r2, ho⟩ := hk
  obtain ⟨u2, v2, f1, f2, f3⟩ := zStep1 hN hT hB hL h8 h1 r1 r2 ho
  exact ⟨s'.2.2, u2, v2, by rw [zbd_eq e1]; exact f1, by rw [zbd_eq e2]; exact f2, f3⟩
theorem zGoD {C : Option (Int32 × zU)} {R : Option (Unit × zU)} (hN : 1000 ≤ N) (hT : RT ty n u v) (hB : RB ty b c H u v) (hL : RL lb rw' lc M u v) (h8 : gi u 8 = gi v 1) (h1 : gi v 1 = 1) (X : CxC u b (H b) lv) (Y : CxM (zB0 v) b (H b) lv) (hu : RC u s u') (hw : RM (zB0 v) s tk wn p w') (Ho : zOk (H b) s) (hC : C = zbd (zf_CCStack_die_31 N u') (fun _ z => some (gi z 16, z))) (hR : R = zf_MMC_die_0 N w') : zGo N C R := by
  obtain ⟨u3, w3, u2, v2, e1, e2, e3, f1, f2, f3⟩ := zStep2 hN hT hB hL h8 h1 X Y hu hw Ho
  refine ⟨s.2.2, u2, v2, ?_, ?_, f3⟩
  · rw [hC, zbd_eq e1, e3]; exact f1
  · rw [hR, zbd_eq e2]; exact f2
theorem cEnter {t : Nat} (hN : 1000 ≤ N) (X : CxC u b (H b) lv) (hs0 : zSz (u.2.2.1 0)) (hs1 : zSz (u.2.2.1 2)) (ht : t < 40) (Ho : zOk (H b) s) (hu : RC u s u') : ∃ u1, zf_CCCode_enterFunction_26 N (nI t) u' = some ((), u1) ∧ RC u (aGives (zUp (zPp (u.2.2.1 3) (nI t)) 0 (zNn true (u.2.2.1 2) (nI t))) (aTakes (H b) lv (zDown (zPp (u.2.2.1 1) (nI t)) (zNn false (u.2.2.1 0) (nI t))) s)) u1 := by
  have h40 : nI t < 40 := nI_lt (b := 40) ht (by omega)
  obtain ⟨u1, e1, r1⟩ := cTakeRow2 hN X hs0 h40 Ho hu
  obtain ⟨u2, e2, r2⟩ := cGiveRow5 hN hs1 h40 (zOk_takes _ Ho) r1
  unfold zf_CCCode_enterFunction_26
  rw [zbd_eq e1, zbd_eq e2]
  exact ⟨u2, rfl, r2⟩
theorem mCall {t : Nat} {p0 : Nat → Int32} (hN : 1000 ≤ N) (Y : CxM (zB0 v) b (H b) lv) (hs0 : zSz (v.2.2.1 0)) (hs1 : zSz (v.2.2.1 1)) (hv0 : zVals (v.2.2.1 0) (v.2.2.1 2)) (ht : t < 40) (Ho : zOk (H b) s) (hw : RM (zB0 v) s tk 0 p0 w') : ∃ w1 tk1 wn1 p1, zf_MMC_call_0 N (nI t) w' = some ((), w1) ∧ RM (zB0 v) (aGives (zUp (zPp (v.2.2.1 3) (nI t)) 0 (zNn true (v.2.2.1 1) (nI t))) (aTakes (H b) lv (zDown (zPp (v.2.2.1 2) (nI t)) (zNn false (v.2.2.1 0) (nI t))) s)) tk1 wn1 p1 w1 := by
  have h40 : nI t < 40 := nI_lt (b := 40) ht (by omega)
  have b1 := zNn_le (res := false) hs0 h40
  have b2 := zNn_le (res := true) hs1 h40
  have hbt : zBT 40 (nI t) := ⟨h40, fun q => absurd q (nI_pos (by omega))⟩
  obtain ⟨w1, e1, r1⟩ := mWantPartsP (N := N) hN (show zSz ((zB0 v).2.2.1 0) from hs0) ht hw
  obtain ⟨w2, k2, e2, r2⟩ := mTakeWanted (N := N) hN Y (fun i hi => zV_ne (zPp_V (res := false) (Nat.le_refl _) hbt hv0 hi)) (show zNn false ((zB0 v).2.2.1 0) (nI t) ≤ 64 from by have : zNn false ((zB0 v).2.2.1 0) (nI t) ≤ 12 := b1; omega) Ho r1
  obtain ⟨w3, e3, r3⟩ := mWantNothing (N := N) p0 r2
  obtain ⟨w4, e4, r4⟩ := mWantPartsR (N := N) hN (show zSz ((zB0 v).2.2.1 1) from hs1) ht r3
  obtain ⟨w5, e5, r5⟩ := mGiveWanted (N := N) hN (show zNn true ((zB0 v).2.2.1 1) (nI t) ≤ 64 from by have : zNn true ((zB0 v).2.2.1 1) (nI t) ≤ 12 := b2; omega) (zOk_takes _ Ho) r4
  unfold zf_MMC_call_0
  rw [zbd_eq e1, zbd_eq e2, zbd_eq e3, zbd_eq e4, zbd_eq e5]
  exact ⟨w5, _, _, _, rfl, r5⟩
theorem carB {i : Int32} (hpl : zf_CCC_plainLine N i u' = some (-1, u')) (h1 : 11 < i) (h2 : ¬ 17 < i) : zf_CCCode_carryOut_26 N i x u' = zbd (zf_CCCode_carryOutBranch_26 N i x u') (fun _ z => some (gi z 16, z)) := by
  unfold zf_CCCode_carryOut_26
  rw [zbd_eq hpl, if_pos (by decide), if_pos h1, if_neg h2]; rfl
theorem zGo_16 (hN : 1000 ≤ N) (hT : RT ty n u v) (hB : RB ty b c H u v) (hL : RL lb rw' lc M u v) (h8 : gi u 8 = gi v 1) (h1 : gi v 1 = 1) (Ho : zOk (H b) s) (hu : RC u s u') (hw : RM (zB0 v) s tk wn p w') (hx : zHs (n 0) x) : zGo N (zf_CCCode_carryOut_26 N 16 x u') (zf_MMC_perform_0 N 16 x y w') := by
  obtain ⟨lv, X, Y⟩ := zCxC hB
  have sh := hT.2.2.2.1
  obtain ⟨j, hj, rfl⟩ := zHs_j hx (by have := (sh 0 (by omega)).1; omega)
  have n0 := (sh 0 (by omega)).1
  obtain ⟨v1, v2, -⟩ := hT.2.2.2.2.1 0 (by omega) (by omega) (by omega) j hj
  have v1 : u.2.2.1 4 j = v.2.2.1 5 (40 * 0 + j) := v1
  obtain ⟨t, ht, et⟩ := v2 rfl
  have t1 := hT.1.1
  obtain ⟨p1, p2, p3, p4⟩ := hT.2.1
  obtain ⟨z1, z2, z3, z4⟩ := hT.2.2.1
  obtain ⟨u1, e1, r1⟩ := cEnter (t := t) hN X (by rw [p1]; exact z1) (by rw [p3]; exact z2) (by omega) Ho hu
  obtain ⟨w0, f0, g0⟩ := mWantNothing (N := N) p hw
  obtain ⟨w1, tk1, wn1, q1, f1, g1⟩ := mCall (t := t) hN Y z1 z2 z3 (by omega) Ho g0
  have ea : zf_MMC_attribute_0 N 0 (nI j) w0 = some (nI t, w0) := by rw [← et]; exact mAt (v0 := zB0 v) (k := 0) (by omega) (by omega) g0
  refine zGo1 hN hT hB hL h8 h1 ?_
  rw [carB (zPl_of hN (by decide +kernel : zPl 60 16 0 = some (-1))) (by decide) (by decide)]
  have hper : zf_MMC_perform_0 N 16 (nI j) y w' = zbd (zbd (zf_MMC_wantNothing_0 N w') (fun _ z => zbd (zf_MMC_attribute_0 N 0 (nI j) z) (fun r z => zbd (zf_MMC_call_0 N r z) zI))) zI := rfl
  rw [hper, zbdI]
  rw [p1, p2, p3, p4] at r1
  refine zFin (u' := u1) (w' := w1) ?_ r1 ?_ g1 (zOk_gives _ (zOk_takes _ Ho))
  · show zbd (zf_CCShelf_typeOf_8 N (nI j) u') (fun r z => zbd (zf_CCCode_enterFunction_26 N r z) (fun _ z => some ((), z))) = some ((), u1)
    rw [zbd_eq (cTy0 (sh 0 (by omega)).2.1 n0 hj hu), v1, et, zbd_eq e1]
  · rw [zbd_eq f0, zbd_eq ea, zbdI]; exact f1
theorem zGo_17 (hN : 1000 ≤ N) (hT : RT ty n u v) (hB : RB ty b c H u v) (hL : RL lb rw' lc M u v) (h8 : gi u 8 = gi v 1) (h1 : gi v 1 = 1) (Ho : zOk (H b) s) (hu : RC u s u') (hw : RM (zB0 v) s tk wn p w') (hx : zHs ty x) : zGo N (zf_CCCode_carryOut_26 N 17 x u') (zf_MMC_perform_0 N 17 x y w') := by
  obtain ⟨lv, X, Y⟩ := zCxC hB
  have t1 := hT.1.1
  obtain ⟨t, ht, rfl⟩ := zHs_j hx (by omega)
  obtain ⟨p1, p2, p3, p4⟩ := hT.2.1
  obtain ⟨z1, z2, z3, z4⟩ := hT.2.2.1
  obtain ⟨u0, e0, r0⟩ := cTake (N := N) 127 X Ho hu
  obtain ⟨u1, e1, r1⟩ := cEnter (t := t) hN X (by rw [p1]; exact z1) (by rw [p3]; exact z2) (by omega) (zOk_take Ho) r0
  obtain ⟨w0, f0, g0⟩ := mWantNothing (N := N) p hw
  obtain ⟨w9, tk9, f9, g9⟩ := mTk (N := N) 127 (by decide) Y Ho g0
  obtain ⟨w1, tk1, wn1, q1, f1, g1⟩ := mCall (t := t) hN Y z1 z2 z3 (by omega) (zOk_take Ho) g9
  refine zGo1 hN hT hB hL h8 h1 ?_
  rw [carB (zPl_of hN (by decide +kernel : zPl 60 17 0 = some (-1))) (by decide) (by decide)]
  have hper : zf_MMC_perform_0 N 17 (nI t) y w' = zbd (zbd (zf_MMC_wantNothing_0 N w') (fun _ z => zbd (zf_MMC_take_0 N 127 z) (fun _ z => zbd (zf_MMC_call_0 N (nI t) z) zI))) zI := rfl
  rw [hper, zbdI]
  rw [p1, p2, p3, p4] at r1
  refine zFin (u' := u1) (w' := w1) ?_ r1 ?_ g1 (zOk_gives _ (zOk_takes _ (zOk_take Ho)))
  · show zbd (zf_CCStack_take_31 N 127 u') (fun _ z => zbd (zf_CCCode_enterFunction_26 N (nI t) z) (fun _ z => some ((), z))) = some ((), u1)
    rw [zbd_eq e0, zbd_eq e1]
  · rw [zbd_eq f0, zbd_eq f9, zbdI]; exact f1
/-- a label's types are the same on both sides -/
theorem zLab (hT : RT ty n u v) (hB : RB ty b c H u v) {j : Nat} (hj : j ≤ b) : zLn (u.2.2.1 21 (b - j)) (u.2.2.1 0) (u.2.2.1 2) (u.2.2.1 19 (b - j)) = zLn ((zB0 v).2.2.1 11 (b - j)) ((zB0 v).2.2.1 0) ((zB0 v).2.2.1 1) (u.2.2.1 19 (b - j)) ∧ zLp (u.2.2.1 21 (b - j)) (u.2.2.1 1) (u.2.2.1 3) (u.2.2.1 19 (b - j)) = zLp ((zB0 v).2.2.1 11 (b - j)) ((zB0 v).2.2.1 2) ((zB0 v).2.2.1 3) (u.2.2.1 19 (b - j)) := by
  obtain ⟨p1, p2, p3, p4⟩ := hT.2.1
  have o := hB.2.2.2.1.1 (b - j) (by omega)
  rw [p1, p2, p3, p4, o]
  exact ⟨rfl, rfl⟩
theorem mLabTake {j : Nat} {p0 : Nat → Int32} (hN : 1000 ≤ N) (hT : RT ty n u v) (hB : RB ty b c H u v) (Y : CxM (zB0 v) b (H b) lv) (hj : j ≤ b) (Ho : zOk (H b) s) (hw : RM (zB0 v) s tk 0 p0 w') : ∃ w1 w2 tk2, zf_MMC_wantLabel_0 N (nI j) w' = some ((), w1) ∧ zf_MMC_takeWanted_0 N w1 = some ((), w2) ∧ RM (zB0 v) (aTakes (H b) lv (zDown (zLp (u.2.2.1 21 (b - j)) (u.2.2.1 1) (u.2.2.1 3) (u.2.2.1 19 (b - j))) (zLn (u.2.2.1 21 (b - j)) (u.2.2.1 0) (u.2.2.1 2) (u.2.2.1 19 (b - j)))) s) tk2 (zLn (u.2.2.1 21 (b - j)) (u.2.2.1 0) (u.2.2.1 2) (u.2.2.1 19 (b - j))) (zLp (u.2.2.1 21 (b - j)) (u.2.2.1 1) (u.2.2.1 3) (u.2.2.1 19 (b - j))) w2 := by
  obtain ⟨l1, l2⟩ := zLab hT hB hj
  obtain ⟨z1, z2, z3, z4⟩ := hT.2.2.1
  have t1 := hT.1.1
  have hbt := hB.2.2.2.2.2.1.2 (b - j) (by omega)
  have b12 := zLn_le (o := (zB0 v).2.2.1 11 (b - j)) (p0 := (zB0 v).2.2.1 0) (r0 := (zB0 v).2.2.1 1) z1 z2 (zBT_40 t1 hbt)
  rw [l1, l2]
  obtain ⟨w1, e1, r1⟩ := mWantLabel (N := N) hN (zHB t1 hB) (zHO hB) z1 z2 (show gi (zB0 v) 10 = nI (b + 1) from hB.1.2.2.2) hj hw
  obtain ⟨w2, k2, e2, r2⟩ := mTakeWanted (N := N) hN Y (fun i hi => zV_ne (zLp_V t1 hbt z3 z4 hi)) (Nat.le_trans b12 (by omega)) Ho r1
  exact ⟨w1, w2, k2, e1, e2, r2⟩
theorem zGo_13 (hN : 1000 ≤ N) (hT : RT ty n u v) (hB : RB ty b c H u v) (hL : RL lb rw' lc M u v) (h8 : gi u 8 = gi v 1) (h1 : gi v 1 = 1) (Ho : zOk (H b) s) (hu : RC u s u') (hw : RM (zB0 v) s tk wn p w') (hx : zHs (b + 1) x) : zGo N (zf_CCCode_carryOut_26 N 13 x u') (zf_MMC_perform_0 N 13 x y w') := by
  obtain ⟨lv, X, Y⟩ := zCxC hB
  have t1 := hT.1.1
  have b60 := hB.1.2.1
  obtain ⟨j, hj, rfl⟩ := zHs_j hx (by omega)
  obtain ⟨p1, p2, p3, p4⟩ := hT.2.1
  obtain ⟨z1, z2, z3, z4⟩ := hT.2.2.1
  have hbt := hB.2.2.2.2.2.1.2 (b - j) (by omega)
  have hb4 := zBT_40 t1 hbt
  have b12 := zLn_le (o := u.2.2.1 21 (b - j)) (p0 := u.2.2.1 0) (r0 := u.2.2.1 2) (by rw [p1]; exact z1) (by rw [p3]; exact z2) hb4
  obtain ⟨u0, e0, r0⟩ := cTake (N := N) 127 X Ho hu
  obtain ⟨u1, e1, r1⟩ := cTakeLabel hN X (by omega) (by rw [p1]; exact z1) (by rw [p3]; exact z2) hb4 (zOk_take Ho) r0
  obtain ⟨u2, e2, r2⟩ := cGiveLabel hN X (by omega) (by rw [p1]; exact z1) (by rw [p3]; exact z2) hb4 (zOk_takes _ (zOk_take Ho)) r1
  obtain ⟨w0, f0, g0⟩ := mWantNothing (N := N) p hw
  obtain ⟨w9, tk9, f9, g9⟩ := mTk (N := N) 127 (by decide) Y Ho g0
  obtain ⟨w1, w2, tk2, f1, f2, g2⟩ := mLabTake (j := j) hN hT hB Y (by omega) (zOk_take Ho) g9
  obtain ⟨w3, f3, g3⟩ := mGiveWanted (N := N) hN (by omega) (zOk_takes _ (zOk_take Ho)) g2
  refine zGo1 hN hT hB hL h8 h1 ?_
  rw [carB (zPl_of hN (by decide +kernel : zPl 60 13 0 = some (-1))) (by decide) (by decide)]
  have hper : zf_MMC_perform_0 N 13 (nI j) y w' = zbd (zbd (zf_MMC_wantNothing_0 N w') (fun _ z => zbd (zf_MMC_take_0 N 127 z) (fun _ z => zbd (zf_MMC_wantLabel_0 N (nI j) z) (fun _ z => zbd (zf_MMC_takeWanted_0 N z) (fun _ z => zbd (zf_MMC_giveWanted_0 N z) zI))))) zI := rfl
  rw [hper, zbdI]
  refine zFin (u' := u2) (w' := w3) ?_ r2 ?_ g3 (zOk_gives _ (zOk_takes _ (zOk_take Ho)))
  · show zbd (zf_CCStack_take_31 N 127 u') (fun _ z => zbd (zf_CCStack_takeLabel_31 N (nI j) z) (fun _ z => zbd (zf_CCStack_giveLabel_31 N (nI j) z) (fun _ z => some ((), z)))) = some ((), u2)
    rw [zbd_eq e0, zbd_eq e1, zbd_eq e2]
  · rw [zbd_eq f0, zbd_eq f9, zbd_eq f1, zbd_eq f2, zbdI]; exact f3
theorem zGo_12 (hN : 1000 ≤ N) (hT : RT ty n u v) (hB : RB ty b c H u v) (hL : RL lb rw' lc M u v) (h8 : gi u 8 = gi v 1) (h1 : gi v 1 = 1) (Ho : zOk (H b) s) (hu : RC u s u') (hw : RM (zB0 v) s tk wn p w') (hx : zHs (b + 1) x) : zGo N (zf_CCCode_carryOut_26 N 12 x u') (zf_MMC_perform_0 N 12 x y w') := by
  obtain ⟨lv, X, Y⟩ := zCxC hB
  have t1 := hT.1.1
  have b60 := hB.1.2.1
  obtain ⟨j, hj, rfl⟩ := zHs_j hx (by omega)
  obtain ⟨p1, p2, p3, p4⟩ := hT.2.1
  obtain ⟨z1, z2, z3, z4⟩ := hT.2.2.1
  have hbt := hB.2.2.2.2.2.1.2 (b - j) (by omega)
  obtain ⟨u1, e1, r1⟩ := cTakeLabel hN X (by omega) (by rw [p1]; exact z1) (by rw [p3]; exact z2) (zBT_40 t1 hbt) Ho hu
  obtain ⟨w0, f0, g0⟩ := mWantNothing (N := N) p hw
  obtain ⟨w1, w2, tk2, f1, f2, g2⟩ := mLabTake (j := j) hN hT hB Y (by omega) Ho g0
  refine zGoD hN hT hB hL h8 h1 X Y r1 g2 (zOk_takes _ Ho) ?_ ?_
  · rw [carB (zPl_of hN (by decide +kernel : zPl 60 12 0 = some (-1))) (by decide) (by decide)]
    have hc : zf_CCCode_carryOutBranch_26 N 12 (nI j) u' = zbd (zf_CCStack_takeLabel_31 N (nI j) u') (fun _ z => zbd (zf_CCStack_die_31 N z) zI) := rfl
    rw [hc, zbd_eq e1, zbdI]
  · have hper : zf_MMC_perform_0 N 12 (nI j) y w' = zbd (zbd (zf_MMC_wantNothing_0 N w') (fun _ z => zbd (zf_MMC_wantLabel_0 N (nI j) z) (fun _ z => zbd (zf_MMC_takeWanted_0 N z) (fun _ z => zbd (zf_MMC_die_0 N z) zI)))) zI := rfl
    rw [hper, zbdI, zbd_eq f0, zbd_eq f1, zbd_eq f2, zbdI]
theorem zGo_0 (hN : 1000 ≤ N) (hT : RT ty n u v) (hB : RB ty b c H u v) (hL : RL lb rw' lc M u v) (h8 : gi u 8 = gi v 1) (h1 : gi v 1 = 1) (Ho : zOk (H b) s) (hu : RC u s u') (hw : RM (zB0 v) s tk wn p w') : zGo N (zf_CCCode_carryOut_26 N 0 x u') (zf_MMC_perform_0 N 0 x y w') := by
  obtain ⟨lv, X, Y⟩ := zCxC hB
  obtain ⟨w0, f0, g0⟩ := mWantNothing (N := N) p hw
  refine zGoD hN hT hB hL h8 h1 X Y hu g0 Ho ?_ ?_
  · have hcar : zf_CCCode_carryOut_26 N 0 x u' = zbd (zf_CCCode_carryOutBlock_26 N 0 x u') (fun _ z => some (gi z 16, z)) := by
      unfold zf_CCCode_carryOut_26
      rw [zbd_eq (zPl_of hN (by decide +kernel : zPl 60 0 0 = some (-1))), if_pos (by decide)]; rfl
    have hc : zf_CCCode_carryOutBlock_26 N 0 x u' = zbd (zf_CCStack_die_31 N u') zI := rfl
    rw [hcar, hc, zbdI]
  · have hper : zf_MMC_perform_0 N 0 x y w' = zbd (zbd (zf_MMC_wantNothing_0 N w') (fun _ z => zbd (zf_MMC_die_0 N z) zI)) zI := rfl
    rw [hper, zbdI, zbd_eq f0, zbdI]
theorem zGo_15 (hN : 1000 ≤ N) (hT : RT ty n u v) (hB : RB ty b c H u v) (hL : RL lb rw' lc M u v) (h8 : gi u 8 = gi v 1) (h1 : gi v 1 = 1) (Ho : zOk (H b) s) (hu : RC u s u') (hw : RM (zB0 v) s tk wn p w') : zGo N (zf_CCCode_carryOut_26 N 15 x u') (zf_MMC_perform_0 N 15 x y w') := by
  obtain ⟨lv, X, Y⟩ := zCxC hB
  have t1 := hT.1.1
  obtain ⟨p1, p2, p3, p4⟩ := hT.2.1
  obtain ⟨z1, z2, z3, z4⟩ := hT.2.2.1
  have a3 := hB.1.2.2.1
  have a2 := hB.1.2.1
  have hbt := hB.2.2.2.2.2.1.2 0 (Nat.zero_le _)
  have hb4 := zBT_40 t1 hbt
  have u15 : gi u' 15 = nI (b + 1) := by rw [RC_i (k := 15) (by decide) hu]; exact a3
  have eo : zf_CCStack_ofBlock_31_33 N (nI b) u' = some (u.2.2.1 19 0, u') := by
    have := cOf33 (N := N) (x := b) a3 a2 (Nat.le_refl _) hu
    rw [Nat.sub_self] at this; exact this
  obtain ⟨u1, e1, r1⟩ := cTakeRow5 hN X (by rw [p3]; exact z2) hb4 Ho hu
  obtain ⟨w0, f0, g0⟩ := mWantNothing (N := N) p hw
  obtain ⟨w1, f1, g1⟩ := mWantBlockR (N := N) (q := 0) hN (zHB t1 hB) (show zSz ((zB0 v).2.2.1 1) from z2) (Nat.zero_le _) g0
  have b12 := zNn_le (res := true) (show zSz ((zB0 v).2.2.1 1) from z2) hb4
  obtain ⟨w2, k2, f2, g2⟩ := mTakeWanted (N := N) hN Y (fun i hi => zV_ne (zPp_V (res := true) t1 hbt z4 hi)) (Nat.le_trans b12 (by omega)) Ho g1
  rw [p3, p4] at r1
  refine zGoD hN hT hB hL h8 h1 X Y r1 g2 (zOk_takes _ Ho) ?_ ?_
  · rw [carB (zPl_of hN (by decide +kernel : zPl 60 15 0 = some (-1))) (by decide) (by decide)]
    have hc : zf_CCCode_carryOutBranch_26 N 15 x u' = zbd (zf_CCStack_takeOutermostResults_31 N u') (fun _ z => zbd (zf_CCStack_die_31 N z) zI) := rfl
    have ht : zf_CCStack_takeOutermostResults_31 N u' = some ((), u1) := by
      unfold zf_CCStack_takeOutermostResults_31
      rw [u15, nI_pred, zbd_eq eo, zbd_eq e1]
    rw [hc, zbd_eq ht, zbdI]
  · have hper : zf_MMC_perform_0 N 15 x y w' = zbd (zbd (zf_MMC_wantNothing_0 N w') (fun _ z => zbd (zf_MMC_wantBlock_0 N 0 1 z) (fun _ z => zbd (zf_MMC_takeWanted_0 N z) (fun _ z => zbd (zf_MMC_die_0 N z) zI)))) zI := rfl
    rw [hper, zbdI, zbd_eq f0, zbd_eq (show zf_MMC_wantBlock_0 N 0 1 w0 = some ((), w1) from f1), zbd_eq f2, zbdI]
end BR
