/-! pure: instructions with names: locals, globals, tables, loads and stores -/
section NM
variable {N b h c : Nat} {lv : Bool} {u0 v0 : zU} {s : zS} {tk : Int32} {wn : Nat} {p : Nat → Int32} {u w : zU} {x y : Int32}
theorem zFin {C : Option (Unit × zU)} {R : Option (Unit × zU)} {s' : zS} {u' w' : zU} {tk' : Int32} {wn' : Nat} {p' : Nat → Int32} (h1 : C = some ((), u')) (h2 : RC u0 s' u') (h3 : R = some ((), w')) (h4 : RM v0 s' tk' wn' p' w') (h5 : zOk h s') : zK1 h u0 v0 (zbd C (fun _ z => some (gi z 16, z))) R := by
  refine ⟨s', tk', wn', p', u', w', ?_, h2, h3, h4, h5⟩
  rw [zbd_eq h1, RC_16 h2]
theorem cTy0 {j : Nat} (hc : gi u0 1 = nI c) (hc4 : c ≤ 40) (hj : j < c) (hu : RC u0 s u) : zf_CCShelf_typeOf_8 N (nI j) u = some (u0.2.2.1 4 j, u) := by
  rw [cTypeOf0 (c := c) (by rw [RC_i (k := 1) (by decide) hu]; exact hc) hc4 hj, RC_a (k := 4) (by decide) hu]
theorem cTy1 {j : Nat} (hc : gi u0 2 = nI c) (hc4 : c ≤ 40) (hj : j < c) (hu : RC u0 s u) : zf_CCShelf_typeOf_11 N (nI j) u = some (u0.2.2.1 6 j, u) := by
  rw [cTypeOf1 (c := c) (by rw [RC_i (k := 2) (by decide) hu]; exact hc) hc4 hj, RC_a (k := 6) (by decide) hu]
theorem cTy3 {j : Nat} (hc : gi u0 4 = nI c) (hc4 : c ≤ 40) (hj : j < c) (hu : RC u0 s u) : zf_CCShelf_typeOf_17 N (nI j) u = some (u0.2.2.1 10 j, u) := by
  rw [cTypeOf3 (c := c) (by rw [RC_i (k := 4) (by decide) hu]; exact hc) hc4 hj, RC_a (k := 10) (by decide) hu]
theorem mAt {k j : Nat} (hk : k < 6) (hj : j < 40) (hv : RM v0 s tk wn p w) : zf_MMC_attribute_0 N (nI k) (nI j) w = some (v0.2.2.1 5 (40 * k + j), w) := by
  rw [mAttr hk hj, RM_a (k := 5) (by decide) hv]
theorem cLocCongr {u1 : zU} (g1 : gi u1 13 = gi u 13) (g2 : u1.2.2.1 16 = u.2.2.1 16) (g3 : u1.2.2.2 0 = u.2.2.2 0) : ∀ (n : Nat) (m : Int64) (i r : Int32), zf_CCLocals_typeOf_27_b8 N n m i u = some (r, u) → zf_CCLocals_typeOf_27_b8 N n m i u1 = some (r, u1) := by
  intro n
  induction n with
  | zero => intro m i r h; rw [zf_CCLocals_typeOf_27_b8] at h; cases h
  | succ n ih =>
    intro m i r h
    rw [zf_CCLocals_typeOf_27_b8] at h ⊢
    unfold zf_CCLocals_typeOf_27_b63 at h ⊢
    have e1 : ga u1 16 i = ga u 16 i := by show u1.2.2.1 16 _ = u.2.2.1 16 _; rw [g2]
    have e2 : gb u1 0 i = gb u 0 i := by show u1.2.2.2 0 _ = u.2.2.2 0 _; rw [g3]
    rw [g1, e1, e2]
    by_cases a : gi u 13 ≤ i
    · rw [if_pos a] at h ⊢; cases h; rfl
    rw [if_neg a] at h ⊢
    by_cases b : 52 ≤ i
    · rw [if_pos b] at h ⊢; cases h; rfl
    rw [if_neg b, if_neg b] at h ⊢
    obtain ⟨q, h⟩ := zck_some h
    rw [zck_pos q]
    by_cases d : 0 ≤ lg_cmp m (gb u 0 i)
    · rw [if_pos d] at h ⊢; exact ih _ _ _ h
    · rw [if_neg d] at h ⊢
      obtain ⟨q, h⟩ := zck_some h
      rw [zck_pos q]; cases h; rfl
/-- the type of a local that is there, on both sides, whatever operands there are -/
theorem zLocT {lb rw' lc : Nat} {M : Nat → Nat} {w0 : zU} (hN : 1000 ≤ N) (hL : RL lb rw' lc M u0 w0) (hx : x.toBitVec.toNat < zSum M rw') : ∃ T : Int32, zV T ∧ (∀ s u, RC u0 s u → zf_CCLocals_typeOf_27 N x u = some (T, u)) ∧ zf_MMC_localType_0 N x w0 = some (T, w0) := by
  have hx2 := x.toBitVec.isLt
  obtain ⟨R, R', q1, q2, q3⟩ := zLocal (N := N) (m := x.toBitVec.toNat) hL hx2 rw' 0 N (by omega) (by have := hL.2.2.2.1.1; have := hL.2.2.1.1; omega) (Nat.zero_le _)
  rcases q3 with ⟨a1, a2, a3⟩ | ⟨a1, a2, a3⟩
  · subst a2
    refine ⟨R, a3, fun s u hu => ?_, by unfold zf_MMC_localType_0; rw [zand32]; exact q1⟩
    have hw : zf_CCC_withoutSign N x u = some (Int64.ofNat x.toBitVec.toNat, u) := by unfold zf_CCC_withoutSign; rw [zand32]
    unfold zf_CCLocals_typeOf_27
    rw [zbd_eq hw]
    refine cLocCongr (u := u0) (RC_i (by decide) hu) (RC_a (by decide) hu) ?_ _ _ _ _ q2
    obtain ⟨k, rfl⟩ := hu
    rfl
  · omega
theorem zNk_26 (hN : 1000 ≤ N) (X : CxC u0 b h lv) (Y : CxM v0 b h lv) (H : zOk h s) (hu : RC u0 s u) (hw : RM v0 s tk wn p w) : zK1 h u0 v0 (zf_CCCode_carryOut_26 N 26 x u) (zf_MMC_perform_0 N 26 x y w) := by
  have hcar : zf_CCCode_carryOut_26 N 26 x u = zbd (zf_CCCode_carryOutVariable_26 N 26 x u) (fun _ z => some (gi z 16, z)) := by
    unfold zf_CCCode_carryOut_26
    rw [zbd_eq (zPl_of hN (by decide +kernel : zPl 60 26 0 = some (-1))), if_pos (by decide)]; rfl
  have hper : zf_MMC_perform_0 N 26 x y w = zbd (zbd (zf_MMC_take_0 N (-1) w) zI) zI := rfl
  rw [hcar, hper]
  obtain ⟨u1, e1, r1⟩ := cAny (N := N) X H hu
  obtain ⟨w1, tk1, f1, g1, -⟩ := mTake (N := N) (-1) Y H hw
  have ea : aTk h lv (-1) s = aAny h lv s := by unfold aTk; rw [if_pos rfl]
  rw [ea] at g1
  exact zFin (show zbd (zf_CCStack_takeAny_31 N u) (fun _ z => some ((), z)) = some ((), u1) by rw [zbd_eq e1]) r1 (by rw [zbdI, zbdI]; exact f1) g1 (zOk_any H)
theorem zNk_28 (hN : 1000 ≤ N) (X : CxC u0 b h lv) (Y : CxM v0 b h lv) (H : zOk h s) (hu : RC u0 s u) (hw : RM v0 s tk wn p w) (hx : zV x) : zK1 h u0 v0 (zf_CCCode_carryOut_26 N 28 x u) (zf_MMC_perform_0 N 28 x y w) := by
  have hcar : zf_CCCode_carryOut_26 N 28 x u = zbd (zf_CCCode_carryOutVariable_26 N 28 x u) (fun _ z => some (gi z 16, z)) := by
    unfold zf_CCCode_carryOut_26
    rw [zbd_eq (zPl_of hN (by decide +kernel : zPl 60 28 0 = some (-1))), if_pos (by decide)]; rfl
  have hper : zf_MMC_perform_0 N 28 x y w = zbd (zbd (zf_MMC_take_0 N 127 w) (fun _ z => zbd (zf_MMC_two_0 N x x z) zI)) zI := rfl
  rw [hcar, hper]
  obtain ⟨u1, e1, r1⟩ := cTake (N := N) 127 X H hu
  obtain ⟨u2, e2, r2⟩ := cTimes (N := N) x 2 (by omega) hN X (zOk_take H) r1
  obtain ⟨u3, e3, r3⟩ := cGive (N := N) x (zOk_takes _ (zOk_take H)) r2
  obtain ⟨w1, tk1, f1, g1⟩ := mTk (N := N) 127 (by decide) Y H hw
  obtain ⟨w2, tk2, f2, g2⟩ := mTwo (N := N) x x (zV_ne hx) Y (zOk_take H) g1
  exact zFin (show zbd (zf_CCStack_take_31 N 127 u) (fun _ z => zbd (zf_CCStack_takeTimes_31 N x (nI 2) z) (fun _ z => zbd (zf_CCStack_give_31 N x z) (fun _ z => some ((), z)))) = some ((), u3) by rw [zbd_eq e1, zbd_eq e2, zbd_eq e3]) r3 (by rw [zbdI, zbd_eq f1, zbdI]; exact f2) g2 (zOk_give (zOk_takes _ (zOk_take H)))
theorem zNk_32 (hN : 1000 ≤ N) (X : CxC u0 b h lv) (Y : CxM v0 b h lv) (H : zOk h s) (hu : RC u0 s u) (hw : RM v0 s tk wn p w) {T : Int32} (hT : zV T) (hc : ∀ s u, RC u0 s u → zf_CCLocals_typeOf_27 N x u = some (T, u)) (hm : zf_MMC_localType_0 N x w = some (T, w)) : zK1 h u0 v0 (zf_CCCode_carryOut_26 N 32 x u) (zf_MMC_perform_0 N 32 x y w) := by
  have hcar : zf_CCCode_carryOut_26 N 32 x u = zbd (zf_CCCode_carryOutVariable_26 N 32 x u) (fun _ z => some (gi z 16, z)) := by
    unfold zf_CCCode_carryOut_26
    rw [zbd_eq (zPl_of hN (by decide +kernel : zPl 60 32 0 = some (-1))), if_pos (by decide)]; rfl
  have hper : zf_MMC_perform_0 N 32 x y w = zbd (zbd (zf_MMC_localType_0 N x w) (fun r z => zbd (zf_MMC_give_0 N r z) zI)) zI := rfl
  rw [hcar, hper]
  obtain ⟨u1, e1, r1⟩ := cGive (N := N) T H hu
  obtain ⟨w1, f1, g1⟩ := mGive (N := N) T H hw
  exact zFin (show zbd (zf_CCLocals_typeOf_27 N x u) (fun r z => zbd (zf_CCStack_give_31 N r z) (fun _ z => some ((), z))) = some ((), u1) by rw [zbd_eq (hc s u hu), zbd_eq e1]) r1 (by rw [zbdI, zbd_eq hm, zbdI]; exact f1) g1 (zOk_give H)
theorem zNk_33 (hN : 1000 ≤ N) (X : CxC u0 b h lv) (Y : CxM v0 b h lv) (H : zOk h s) (hu : RC u0 s u) (hw : RM v0 s tk wn p w) {T : Int32} (hT : zV T) (hc : ∀ s u, RC u0 s u → zf_CCLocals_typeOf_27 N x u = some (T, u)) (hm : zf_MMC_localType_0 N x w = some (T, w)) : zK1 h u0 v0 (zf_CCCode_carryOut_26 N 33 x u) (zf_MMC_perform_0 N 33 x y w) := by
  have hcar : zf_CCCode_carryOut_26 N 33 x u = zbd (zf_CCCode_carryOutVariable_26 N 33 x u) (fun _ z => some (gi z 16, z)) := by
    unfold zf_CCCode_carryOut_26
    rw [zbd_eq (zPl_of hN (by decide +kernel : zPl 60 33 0 = some (-1))), if_pos (by decide)]; rfl
  have hper : zf_MMC_perform_0 N 33 x y w = zbd (zbd (zf_MMC_localType_0 N x w) (fun r z => zbd (zf_MMC_take_0 N r z) zI)) zI := rfl
  rw [hcar, hper]
  obtain ⟨u1, e1, r1⟩ := cTake (N := N) T X H hu
  obtain ⟨w1, tk1, f1, g1⟩ := mTk (N := N) T (zV_ne hT) Y H hw
  exact zFin (show zbd (zf_CCLocals_typeOf_27 N x u) (fun r z => zbd (zf_CCStack_take_31 N r z) (fun _ z => some ((), z))) = some ((), u1) by rw [zbd_eq (hc s u hu), zbd_eq e1]) r1 (by rw [zbdI, zbd_eq hm, zbdI]; exact f1) g1 (zOk_take H)
theorem zNk_34 (hN : 1000 ≤ N) (X : CxC u0 b h lv) (Y : CxM v0 b h lv) (H : zOk h s) (hu : RC u0 s u) (hw : RM v0 s tk wn p w) {T : Int32} (hT : zV T) (hc : ∀ s u, RC u0 s u → zf_CCLocals_typeOf_27 N x u = some (T, u)) (hm : zf_MMC_localType_0 N x w = some (T, w)) : zK1 h u0 v0 (zf_CCCode_carryOut_26 N 34 x u) (zf_MMC_perform_0 N 34 x y w) := by
  have hcar : zf_CCCode_carryOut_26 N 34 x u = zbd (zf_CCCode_carryOutVariable_26 N 34 x u) (fun _ z => some (gi z 16, z)) := by
    unfold zf_CCCode_carryOut_26
    rw [zbd_eq (zPl_of hN (by decide +kernel : zPl 60 34 0 = some (-1))), if_pos (by decide)]; rfl
  have hper : zf_MMC_perform_0 N 34 x y w = zbd (zbd (zf_MMC_localType_0 N x w) (fun r z => zbd (zf_MMC_localType_0 N x z) (fun r2 z => zbd (zf_MMC_one_0 N r r2 z) zI))) zI := rfl
  rw [hcar, hper]
  obtain ⟨u1, e1, r1⟩ := cTake (N := N) T X H hu
  obtain ⟨u2, e2, r2⟩ := cGive (N := N) T (zOk_take H) r1
  obtain ⟨w1, tk1, f1, g1⟩ := mOne (N := N) T T (zV_ne hT) Y H hw
  exact zFin (show zbd (zf_CCLocals_typeOf_27 N x u) (fun r z => zbd (zf_CCStack_take_31 N r z) (fun _ z => zbd (zf_CCLocals_typeOf_27 N x z) (fun r z => zbd (zf_CCStack_give_31 N r z) (fun _ z => some ((), z))))) = some ((), u2) by rw [zbd_eq (hc s u hu), zbd_eq e1, zbd_eq (hc _ u1 r1), zbd_eq e2]) r2 (by rw [zbdI, zbd_eq hm, zbd_eq hm, zbdI]; exact f1) g1 (zOk_give (zOk_take H))
theorem zNk_35 (hN : 1000 ≤ N) (X : CxC u0 b h lv) (Y : CxM v0 b h lv) (H : zOk h s) (hu : RC u0 s u) (hw : RM v0 s tk wn p w) {j : Nat} {T : Int32} (hx : x = nI j) (hj : j < c) (hc4 : c ≤ 40) (hc : gi u0 4 = nI c) (e1T : u0.2.2.1 10 j = T) (e2T : v0.2.2.1 5 (120 + j) = T) (hT : zV T) : zK1 h u0 v0 (zf_CCCode_carryOut_26 N 35 x u) (zf_MMC_perform_0 N 35 x y w) := by
  have hcar : zf_CCCode_carryOut_26 N 35 x u = zbd (zf_CCCode_carryOutVariable_26 N 35 x u) (fun _ z => some (gi z 16, z)) := by
    unfold zf_CCCode_carryOut_26
    rw [zbd_eq (zPl_of hN (by decide +kernel : zPl 60 35 0 = some (-1))), if_pos (by decide)]; rfl
  have hper : zf_MMC_perform_0 N 35 x y w = zbd (zbd (zf_MMC_attribute_0 N 3 x w) (fun r z => zbd (zf_MMC_give_0 N r z) zI)) zI := rfl
  rw [hcar, hper]
  subst hx
  have ta : zf_MMC_attribute_0 N 3 (nI j) w = some (T, w) := by rw [← e2T]; exact mAt (k := 3) (by omega) (by omega) hw
  obtain ⟨u1, e1, r1⟩ := cGive (N := N) T H hu
  obtain ⟨w1, f1, g1⟩ := mGive (N := N) T H hw
  exact zFin (show zbd (zf_CCShelf_typeOf_17 N (nI j) u) (fun r z => zbd (zf_CCStack_give_31 N r z) (fun _ z => some ((), z))) = some ((), u1) by rw [zbd_eq (cTy3 hc hc4 hj hu), e1T, zbd_eq e1]) r1 (by rw [zbdI, zbd_eq ta, zbdI]; exact f1) g1 (zOk_give H)
theorem zNk_36 (hN : 1000 ≤ N) (X : CxC u0 b h lv) (Y : CxM v0 b h lv) (H : zOk h s) (hu : RC u0 s u) (hw : RM v0 s tk wn p w) {j : Nat} {T : Int32} (hx : x = nI j) (hj : j < c) (hc4 : c ≤ 40) (hc : gi u0 4 = nI c) (e1T : u0.2.2.1 10 j = T) (e2T : v0.2.2.1 5 (120 + j) = T) (hT : zV T) : zK1 h u0 v0 (zf_CCCode_carryOut_26 N 36 x u) (zf_MMC_perform_0 N 36 x y w) := by
  have hcar : zf_CCCode_carryOut_26 N 36 x u = zbd (zf_CCCode_carryOutVariable_26 N 36 x u) (fun _ z => some (gi z 16, z)) := by
    unfold zf_CCCode_carryOut_26
    rw [zbd_eq (zPl_of hN (by decide +kernel : zPl 60 36 0 = some (-1))), if_pos (by decide)]; rfl
  have hper : zf_MMC_perform_0 N 36 x y w = zbd (zbd (zf_MMC_attribute_0 N 3 x w) (fun r z => zbd (zf_MMC_take_0 N r z) zI)) zI := rfl
  rw [hcar, hper]
  subst hx
  have ta : zf_MMC_attribute_0 N 3 (nI j) w = some (T, w) := by rw [← e2T]; exact mAt (k := 3) (by omega) (by omega) hw
  obtain ⟨u1, e1, r1⟩ := cTake (N := N) T X H hu
  obtain ⟨w1, tk1, f1, g1⟩ := mTk (N := N) T (zV_ne hT) Y H hw
  exact zFin (show zbd (zf_CCShelf_typeOf_17 N (nI j) u) (fun r z => zbd (zf_CCStack_take_31 N r z) (fun _ z => some ((), z))) = some ((), u1) by rw [zbd_eq (cTy3 hc hc4 hj hu), e1T, zbd_eq e1]) r1 (by rw [zbdI, zbd_eq ta, zbdI]; exact f1) g1 (zOk_take H)
theorem zNk_37 (hN : 1000 ≤ N) (X : CxC u0 b h lv) (Y : CxM v0 b h lv) (H : zOk h s) (hu : RC u0 s u) (hw : RM v0 s tk wn p w) {j : Nat} {T : Int32} (hx : x = nI j) (hj : j < c) (hc4 : c ≤ 40) (hc : gi u0 2 = nI c) (e1T : u0.2.2.1 6 j = T) (e2T : v0.2.2.1 5 (40 + j) = T) (hT : zV T) : zK1 h u0 v0 (zf_CCCode_carryOut_26 N 37 x u) (zf_MMC_perform_0 N 37 x y w) := by
  have hcar : zf_CCCode_carryOut_26 N 37 x u = zbd (zf_CCCode_carryOutReference_26 N 37 x u) (fun _ z => some (gi z 16, z)) := by
    unfold zf_CCCode_carryOut_26
    rw [zbd_eq (zPl_of hN (by decide +kernel : zPl 60 37 0 = some (-1))), if_pos (by decide)]; rfl
  have hper : zf_MMC_perform_0 N 37 x y w = zbd (zbd (zf_MMC_attribute_0 N 1 x w) (fun r z => zbd (zf_MMC_one_0 N 127 r z) zI)) zI := rfl
  rw [hcar, hper]
  subst hx
  have ta : zf_MMC_attribute_0 N 1 (nI j) w = some (T, w) := by rw [← e2T]; exact mAt (k := 1) (by omega) (by omega) hw
  obtain ⟨u1, e1, r1⟩ := cTake (N := N) 127 X H hu
  obtain ⟨u2, e2, r2⟩ := cGive (N := N) T (zOk_take H) r1
  obtain ⟨w1, tk1, f1, g1⟩ := mOne (N := N) 127 T (by decide) Y H hw
  exact zFin (show zbd (zf_CCStack_take_31 N 127 u) (fun _ z => zbd (zf_CCShelf_typeOf_11 N (nI j) z) (fun r z => zbd (zf_CCStack_give_31 N r z) (fun _ z => some ((), z)))) = some ((), u2) by rw [zbd_eq e1, zbd_eq (cTy1 hc hc4 hj r1), e1T, zbd_eq e2]) r2 (by rw [zbdI, zbd_eq ta, zbdI]; exact f1) g1 (zOk_give (zOk_take H))
theorem zNk_38 (hN : 1000 ≤ N) (X : CxC u0 b h lv) (Y : CxM v0 b h lv) (H : zOk h s) (hu : RC u0 s u) (hw : RM v0 s tk wn p w) {j : Nat} {T : Int32} (hx : x = nI j) (hj : j < c) (hc4 : c ≤ 40) (hc : gi u0 2 = nI c) (e1T : u0.2.2.1 6 j = T) (e2T : v0.2.2.1 5 (40 + j) = T) (hT : zV T) : zK1 h u0 v0 (zf_CCCode_carryOut_26 N 38 x u) (zf_MMC_perform_0 N 38 x y w) := by
  have hcar : zf_CCCode_carryOut_26 N 38 x u = zbd (zf_CCCode_carryOutReference_26 N 38 x u) (fun _ z => some (gi z 16, z)) := by
    unfold zf_CCCode_carryOut_26
    rw [zbd_eq (zPl_of hN (by decide +kernel : zPl 60 38 0 = some (-1))), if_pos (by decide)]; rfl
  have hper : zf_MMC_perform_0 N 38 x y w = zbd (zbd (zf_MMC_attribute_0 N 1 x w) (fun r z => zbd (zf_MMC_takeTwo_0 N 127 r z) zI)) zI := rfl
  rw [hcar, hper]
  subst hx
  have ta : zf_MMC_attribute_0 N 1 (nI j) w = some (T, w) := by rw [← e2T]; exact mAt (k := 1) (by omega) (by omega) hw
  obtain ⟨u1, e1, r1⟩ := cTake (N := N) T X H hu
  obtain ⟨u2, e2, r2⟩ := cTake (N := N) 127 X (zOk_take H) r1
  obtain ⟨w1, tk1, f1, g1⟩ := mTk (N := N) T (zV_ne hT) Y H hw
  obtain ⟨w2, tk2, f2, g2⟩ := mTk (N := N) 127 (by decide) Y (zOk_take H) g1
  exact zFin (show zbd (zf_CCShelf_typeOf_11 N (nI j) u) (fun r z => zbd (zf_CCStack_take_31 N r z) (fun _ z => zbd (zf_CCStack_take_31 N 127 z) (fun _ z => some ((), z)))) = some ((), u2) by rw [zbd_eq (cTy1 hc hc4 hj hu), e1T, zbd_eq e1, zbd_eq e2]) r2 (by rw [zbdI, zbd_eq ta, zbdI]; unfold zf_MMC_takeTwo_0; rw [zbd_eq f1, zbd_eq f2]) g2 (zOk_take (zOk_take H))
theorem zNk_208 (hN : 1000 ≤ N) (X : CxC u0 b h lv) (Y : CxM v0 b h lv) (H : zOk h s) (hu : RC u0 s u) (hw : RM v0 s tk wn p w) : zK1 h u0 v0 (zf_CCCode_carryOut_26 N 208 x u) (zf_MMC_perform_0 N 208 x y w) := by
  have hcar : zf_CCCode_carryOut_26 N 208 x u = zbd (zf_CCCode_carryOutReference_26 N 208 x u) (fun _ z => some (gi z 16, z)) := by
    unfold zf_CCCode_carryOut_26
    rw [zbd_eq (zPl_of hN (by decide +kernel : zPl 60 208 0 = some (-1))), if_pos (by decide)]; rfl
  have hper : zf_MMC_perform_0 N 208 x y w = zbd (zbd (zf_MMC_give_0 N x w) zI) zI := rfl
  rw [hcar, hper]
  obtain ⟨u1, e1, r1⟩ := cGive (N := N) x H hu
  obtain ⟨w1, f1, g1⟩ := mGive (N := N) x H hw
  exact zFin (show zbd (zf_CCStack_give_31 N x u) (fun _ z => some ((), z)) = some ((), u1) by rw [zbd_eq e1]) r1 (by rw [zbdI, zbdI]; exact f1) g1 (zOk_give H)
theorem zNk_265 (hN : 1000 ≤ N) (X : CxC u0 b h lv) (Y : CxM v0 b h lv) (H : zOk h s) (hu : RC u0 s u) (hw : RM v0 s tk wn p w) : zK1 h u0 v0 (zf_CCCode_carryOut_26 N 265 x u) (zf_MMC_perform_0 N 265 x y w) := by
  have hcar : zf_CCCode_carryOut_26 N 265 x u = zbd (zf_CCCode_carryOutReference_26 N 265 x u) (fun _ z => some (gi z 16, z)) := by
    unfold zf_CCCode_carryOut_26
    rw [zbd_eq (zPl_of hN (by decide +kernel : zPl 60 265 0 = some (-1))), if_pos (by decide)]; rfl
  have hper : zf_MMC_perform_0 N 265 x y w = zbd (some ((), w)) zI := rfl
  rw [hcar, hper]
  exact zFin (show some ((), u) = some ((), u) from rfl) hu rfl hw H
theorem zNk_269 (hN : 1000 ≤ N) (X : CxC u0 b h lv) (Y : CxM v0 b h lv) (H : zOk h s) (hu : RC u0 s u) (hw : RM v0 s tk wn p w) : zK1 h u0 v0 (zf_CCCode_carryOut_26 N 269 x u) (zf_MMC_perform_0 N 269 x y w) := by
  have hcar : zf_CCCode_carryOut_26 N 269 x u = zbd (zf_CCCode_carryOutReference_26 N 269 x u) (fun _ z => some (gi z 16, z)) := by
    unfold zf_CCCode_carryOut_26
    rw [zbd_eq (zPl_of hN (by decide +kernel : zPl 60 269 0 = some (-1))), if_pos (by decide)]; rfl
  have hper : zf_MMC_perform_0 N 269 x y w = zbd (some ((), w)) zI := rfl
  rw [hcar, hper]
  exact zFin (show some ((), u) = some ((), u) from rfl) hu rfl hw H
theorem zNk_271 (hN : 1000 ≤ N) (X : CxC u0 b h lv) (Y : CxM v0 b h lv) (H : zOk h s) (hu : RC u0 s u) (hw : RM v0 s tk wn p w) {j : Nat} {T : Int32} (hx : x = nI j) (hj : j < c) (hc4 : c ≤ 40) (hc : gi u0 2 = nI c) (e1T : u0.2.2.1 6 j = T) (e2T : v0.2.2.1 5 (40 + j) = T) (hT : zV T) : zK1 h u0 v0 (zf_CCCode_carryOut_26 N 271 x u) (zf_MMC_perform_0 N 271 x y w) := by
  have hcar : zf_CCCode_carryOut_26 N 271 x u = zbd (zf_CCCode_carryOutReference_26 N 271 x u) (fun _ z => some (gi z 16, z)) := by
    unfold zf_CCCode_carryOut_26
    rw [zbd_eq (zPl_of hN (by decide +kernel : zPl 60 271 0 = some (-1))), if_pos (by decide)]; rfl
  have hper : zf_MMC_perform_0 N 271 x y w = zbd (zbd (zf_MMC_attribute_0 N 1 x w) (fun r z => zbd (zf_MMC_takeTwo_0 N r 127 z) (fun _ z => zbd (zf_MMC_give_0 N 127 z) zI))) zI := rfl
  rw [hcar, hper]
  subst hx
  have ta : zf_MMC_attribute_0 N 1 (nI j) w = some (T, w) := by rw [← e2T]; exact mAt (k := 1) (by omega) (by omega) hw
  obtain ⟨u1, e1, r1⟩ := cTake (N := N) 127 X H hu
  obtain ⟨u2, e2, r2⟩ := cTake (N := N) T X (zOk_take H) r1
  obtain ⟨u3, e3, r3⟩ := cGive (N := N) 127 (zOk_take (zOk_take H)) r2
  obtain ⟨w1, tk1, f1, g1⟩ := mTk (N := N) 127 (by decide) Y H hw
  obtain ⟨w2, tk2, f2, g2⟩ := mTk (N := N) T (zV_ne hT) Y (zOk_take H) g1
  obtain ⟨w3, f3, g3⟩ := mGive (N := N) 127 (zOk_take (zOk_take H)) g2
  have ft : zf_MMC_takeTwo_0 N T 127 w = some ((), w2) := by unfold zf_MMC_takeTwo_0; rw [zbd_eq f1, zbd_eq f2]
  exact zFin (show zbd (zf_CCStack_take_31 N 127 u) (fun _ z => zbd (zf_CCShelf_typeOf_11 N (nI j) z) (fun r z => zbd (zf_CCStack_take_31 N r z) (fun _ z => zbd (zf_CCStack_give_31 N 127 z) (fun _ z => some ((), z))))) = some ((), u3) by rw [zbd_eq e1, zbd_eq (cTy1 hc hc4 hj r1), e1T, zbd_eq e2, zbd_eq e3]) r3 (by rw [zbdI, zbd_eq ta, zbd_eq ft, zbdI]; exact f3) g3 (zOk_give (zOk_take (zOk_take H)))
theorem zNk_273 (hN : 1000 ≤ N) (X : CxC u0 b h lv) (Y : CxM v0 b h lv) (H : zOk h s) (hu : RC u0 s u) (hw : RM v0 s tk wn p w) {j : Nat} {T : Int32} (hx : x = nI j) (hj : j < c) (hc4 : c ≤ 40) (hc : gi u0 2 = nI c) (e1T : u0.2.2.1 6 j = T) (e2T : v0.2.2.1 5 (40 + j) = T) (hT : zV T) : zK1 h u0 v0 (zf_CCCode_carryOut_26 N 273 x u) (zf_MMC_perform_0 N 273 x y w) := by
  have hcar : zf_CCCode_carryOut_26 N 273 x u = zbd (zf_CCCode_carryOutReference_26 N 273 x u) (fun _ z => some (gi z 16, z)) := by
    unfold zf_CCCode_carryOut_26
    rw [zbd_eq (zPl_of hN (by decide +kernel : zPl 60 273 0 = some (-1))), if_pos (by decide)]; rfl
  have hper : zf_MMC_perform_0 N 273 x y w = zbd (zbd (zf_MMC_take_0 N 127 w) (fun _ z => zbd (zf_MMC_attribute_0 N 1 x z) (fun r z => zbd (zf_MMC_takeTwo_0 N 127 r z) zI))) zI := rfl
  rw [hcar, hper]
  subst hx
  obtain ⟨u1, e1, r1⟩ := cTake (N := N) 127 X H hu
  obtain ⟨u2, e2, r2⟩ := cTake (N := N) T X (zOk_take H) r1
  obtain ⟨u3, e3, r3⟩ := cTake (N := N) 127 X (zOk_take (zOk_take H)) r2
  obtain ⟨w1, tk1, f1, g1⟩ := mTk (N := N) 127 (by decide) Y H hw
  have ta : zf_MMC_attribute_0 N 1 (nI j) w1 = some (T, w1) := by rw [← e2T]; exact mAt (k := 1) (by omega) (by omega) g1
  obtain ⟨w2, tk2, f2, g2⟩ := mTk (N := N) T (zV_ne hT) Y (zOk_take H) g1
  obtain ⟨w3, tk3, f3, g3⟩ := mTk (N := N) 127 (by decide) Y (zOk_take (zOk_take H)) g2
  have ft : zf_MMC_takeTwo_0 N 127 T w1 = some ((), w3) := by unfold zf_MMC_takeTwo_0; rw [zbd_eq f2, zbd_eq f3]
  exact zFin (show zbd (zf_CCStack_take_31 N 127 u) (fun _ z => zbd (zf_CCShelf_typeOf_11 N (nI j) z) (fun r z => zbd (zf_CCStack_take_31 N r z) (fun _ z => zbd (zf_CCStack_take_31 N 127 z) (fun _ z => some ((), z))))) = some ((), u3) by rw [zbd_eq e1, zbd_eq (cTy1 hc hc4 hj r1), e1T, zbd_eq e2, zbd_eq e3]) r3 (by rw [zbdI, zbd_eq f1, zbd_eq ta, zbdI]; exact ft) g3 (zOk_take (zOk_take (zOk_take H)))
theorem zNk_40 (hN : 1000 ≤ N) (X : CxC u0 b h lv) (Y : CxM v0 b h lv) (H : zOk h s) (hu : RC u0 s u) (hw : RM v0 s tk wn p w) : zK1 h u0 v0 (zf_CCCode_carryOut_26 N 40 x u) (zf_MMC_perform_0 N 40 x y w) := by
  have hcar : zf_CCCode_carryOut_26 N 40 x u = zbd (zf_CCCode_carryOutAccess_26 N 40 u) (fun _ z => some (gi z 16, z)) := by
    unfold zf_CCCode_carryOut_26
    rw [zbd_eq (zPl_of hN (by decide +kernel : zPl 60 40 0 = some (-1))), if_pos (by decide)]; rfl
  have hper : zf_MMC_perform_0 N 40 x y w = zbd (zbd (zf_MMC_one_0 N 127 127 w) zI) zI := rfl
  rw [hcar, hper]
  obtain ⟨u1, e1, r1⟩ := cTake (N := N) 127 X H hu
  obtain ⟨u2, e2, r2⟩ := cGive (N := N) 127 (zOk_take H) r1
  obtain ⟨w1, tk1, f1, g1⟩ := mOne (N := N) 127 127 (by decide) Y H hw
  exact zFin (show zbd (zf_CCStack_take_31 N 127 u) (fun _ z => zbd (zf_CCStack_give_31 N 127 z) (fun _ z => some ((), z))) = some ((), u2) by rw [zbd_eq e1, zbd_eq e2]) r2 (by rw [zbdI, zbdI]; exact f1) g1 (zOk_give (zOk_take H))
theorem zNk_41 (hN : 1000 ≤ N) (X : CxC u0 b h lv) (Y : CxM v0 b h lv) (H : zOk h s) (hu : RC u0 s u) (hw : RM v0 s tk wn p w) : zK1 h u0 v0 (zf_CCCode_carryOut_26 N 41 x u) (zf_MMC_perform_0 N 41 x y w) := by
  have hcar : zf_CCCode_carryOut_26 N 41 x u = zbd (zf_CCCode_carryOutAccess_26 N 41 u) (fun _ z => some (gi z 16, z)) := by
    unfold zf_CCCode_carryOut_26
    rw [zbd_eq (zPl_of hN (by decide +kernel : zPl 60 41 0 = some (-1))), if_pos (by decide)]; rfl
  have hper : zf_MMC_perform_0 N 41 x y w = zbd (zbd (zf_MMC_one_0 N 127 126 w) zI) zI := rfl
  rw [hcar, hper]
  obtain ⟨u1, e1, r1⟩ := cTake (N := N) 127 X H hu
  obtain ⟨u2, e2, r2⟩ := cGive (N := N) 126 (zOk_take H) r1
  obtain ⟨w1, tk1, f1, g1⟩ := mOne (N := N) 127 126 (by decide) Y H hw
  exact zFin (show zbd (zf_CCStack_take_31 N 127 u) (fun _ z => zbd (zf_CCStack_give_31 N 126 z) (fun _ z => some ((), z))) = some ((), u2) by rw [zbd_eq e1, zbd_eq e2]) r2 (by rw [zbdI, zbdI]; exact f1) g1 (zOk_give (zOk_take H))
theorem zNk_42 (hN : 1000 ≤ N) (X : CxC u0 b h lv) (Y : CxM v0 b h lv) (H : zOk h s) (hu : RC u0 s u) (hw : RM v0 s tk wn p w) : zK1 h u0 v0 (zf_CCCode_carryOut_26 N 42 x u) (zf_MMC_perform_0 N 42 x y w) := by
  have hcar : zf_CCCode_carryOut_26 N 42 x u = zbd (zf_CCCode_carryOutAccess_26 N 42 u) (fun _ z => some (gi z 16, z)) := by
    unfold zf_CCCode_carryOut_26
    rw [zbd_eq (zPl_of hN (by decide +kernel : zPl 60 42 0 = some (-1))), if_pos (by decide)]; rfl
  have hper : zf_MMC_perform_0 N 42 x y w = zbd (zbd (zf_MMC_one_0 N 127 125 w) zI) zI := rfl
  rw [hcar, hper]
  obtain ⟨u1, e1, r1⟩ := cTake (N := N) 127 X H hu
  obtain ⟨u2, e2, r2⟩ := cGive (N := N) 125 (zOk_take H) r1
  obtain ⟨w1, tk1, f1, g1⟩ := mOne (N := N) 127 125 (by decide) Y H hw
  exact zFin (show zbd (zf_CCStack_take_31 N 127 u) (fun _ z => zbd (zf_CCStack_give_31 N 125 z) (fun _ z => some ((), z))) = some ((), u2) by rw [zbd_eq e1, zbd_eq e2]) r2 (by rw [zbdI, zbdI]; exact f1) g1 (zOk_give (zOk_take H))
theorem zNk_43 (hN : 1000 ≤ N) (X : CxC u0 b h lv) (Y : CxM v0 b h lv) (H : zOk h s) (hu : RC u0 s u) (hw : RM v0 s tk wn p w) : zK1 h u0 v0 (zf_CCCode_carryOut_26 N 43 x u) (zf_MMC_perform_0 N 43 x y w) := by
  have hcar : zf_CCCode_carryOut_26 N 43 x u = zbd (zf_CCCode_carryOutAccess_26 N 43 u) (fun _ z => some (gi z 16, z)) := by
    unfold zf_CCCode_carryOut_26
    rw [zbd_eq (zPl_of hN (by decide +kernel : zPl 60 43 0 = some (-1))), if_pos (by decide)]; rfl
  have hper : zf_MMC_perform_0 N 43 x y w = zbd (zbd (zf_MMC_one_0 N 127 124 w) zI) zI := rfl
  rw [hcar, hper]
  obtain ⟨u1, e1, r1⟩ := cTake (N := N) 127 X H hu
  obtain ⟨u2, e2, r2⟩ := cGive (N := N) 124 (zOk_take H) r1
  obtain ⟨w1, tk1, f1, g1⟩ := mOne (N := N) 127 124 (by decide) Y H hw
  exact zFin (show zbd (zf_CCStack_take_31 N 127 u) (fun _ z => zbd (zf_CCStack_give_31 N 124 z) (fun _ z => some ((), z))) = some ((), u2) by rw [zbd_eq e1, zbd_eq e2]) r2 (by rw [zbdI, zbdI]; exact f1) g1 (zOk_give (zOk_take H))
theorem zNk_44 (hN : 1000 ≤ N) (X : CxC u0 b h lv) (Y : CxM v0 b h lv) (H : zOk h s) (hu : RC u0 s u) (hw : RM v0 s tk wn p w) : zK1 h u0 v0 (zf_CCCode_carryOut_26 N 44 x u) (zf_MMC_perform_0 N 44 x y w) := by
  have hcar : zf_CCCode_carryOut_26 N 44 x u = zbd (zf_CCCode_carryOutAccess_26 N 44 u) (fun _ z => some (gi z 16, z)) := by
    unfold zf_CCCode_carryOut_26
    rw [zbd_eq (zPl_of hN (by decide +kernel : zPl 60 44 0 = some (-1))), if_pos (by decide)]; rfl
  have hper : zf_MMC_perform_0 N 44 x y w = zbd (zbd (zf_MMC_one_0 N 127 127 w) zI) zI := rfl
  rw [hcar, hper]
  obtain ⟨u1, e1, r1⟩ := cTake (N := N) 127 X H hu
  obtain ⟨u2, e2, r2⟩ := cGive (N := N) 127 (zOk_take H) r1
  obtain ⟨w1, tk1, f1, g1⟩ := mOne (N := N) 127 127 (by decide) Y H hw
  exact zFin (show zbd (zf_CCStack_take_31 N 127 u) (fun _ z => zbd (zf_CCStack_give_31 N 127 z) (fun _ z => some ((), z))) = some ((), u2) by rw [zbd_eq e1, zbd_eq e2]) r2 (by rw [zbdI, zbdI]; exact f1) g1 (zOk_give (zOk_take H))
theorem zNk_45 (hN : 1000 ≤ N) (X : CxC u0 b h lv) (Y : CxM v0 b h lv) (H : zOk h s) (hu : RC u0 s u) (hw : RM v0 s tk wn p w) : zK1 h u0 v0 (zf_CCCode_carryOut_26 N 45 x u) (zf_MMC_perform_0 N 45 x y w) := by
  have hcar : zf_CCCode_carryOut_26 N 45 x u = zbd (zf_CCCode_carryOutAccess_26 N 45 u) (fun _ z => some (gi z 16, z)) := by
    unfold zf_CCCode_carryOut_26
    rw [zbd_eq (zPl_of hN (by decide +kernel : zPl 60 45 0 = some (-1))), if_pos (by decide)]; rfl
  have hper : zf_MMC_perform_0 N 45 x y w = zbd (zbd (zf_MMC_one_0 N 127 127 w) zI) zI := rfl
  rw [hcar, hper]
  obtain ⟨u1, e1, r1⟩ := cTake (N := N) 127 X H hu
  obtain ⟨u2, e2, r2⟩ := cGive (N := N) 127 (zOk_take H) r1
  obtain ⟨w1, tk1, f1, g1⟩ := mOne (N := N) 127 127 (by decide) Y H hw
  exact zFin (show zbd (zf_CCStack_take_31 N 127 u) (fun _ z => zbd (zf_CCStack_give_31 N 127 z) (fun _ z => some ((), z))) = some ((), u2) by rw [zbd_eq e1, zbd_eq e2]) r2 (by rw [zbdI, zbdI]; exact f1) g1 (zOk_give (zOk_take H))
theorem zNk_46 (hN : 1000 ≤ N) (X : CxC u0 b h lv) (Y : CxM v0 b h lv) (H : zOk h s) (hu : RC u0 s u) (hw : RM v0 s tk wn p w) : zK1 h u0 v0 (zf_CCCode_carryOut_26 N 46 x u) (zf_MMC_perform_0 N 46 x y w) := by
  have hcar : zf_CCCode_carryOut_26 N 46 x u = zbd (zf_CCCode_carryOutAccess_26 N 46 u) (fun _ z => some (gi z 16, z)) := by
    unfold zf_CCCode_carryOut_26
    rw [zbd_eq (zPl_of hN (by decide +kernel : zPl 60 46 0 = some (-1))), if_pos (by decide)]; rfl
  have hper : zf_MMC_perform_0 N 46 x y w = zbd (zbd (zf_MMC_one_0 N 127 127 w) zI) zI := rfl
  rw [hcar, hper]
  obtain ⟨u1, e1, r1⟩ := cTake (N := N) 127 X H hu
  obtain ⟨u2, e2, r2⟩ := cGive (N := N) 127 (zOk_take H) r1
  obtain ⟨w1, tk1, f1, g1⟩ := mOne (N := N) 127 127 (by decide) Y H hw
  exact zFin (show zbd (zf_CCStack_take_31 N 127 u) (fun _ z => zbd (zf_CCStack_give_31 N 127 z) (fun _ z => some ((), z))) = some ((), u2) by rw [zbd_eq e1, zbd_eq e2]) r2 (by rw [zbdI, zbdI]; exact f1) g1 (zOk_give (zOk_take H))
theorem zNk_47 (hN : 1000 ≤ N) (X : CxC u0 b h lv) (Y : CxM v0 b h lv) (H : zOk h s) (hu : RC u0 s u) (hw : RM v0 s tk wn p w) : zK1 h u0 v0 (zf_CCCode_carryOut_26 N 47 x u) (zf_MMC_perform_0 N 47 x y w) := by
  have hcar : zf_CCCode_carryOut_26 N 47 x u = zbd (zf_CCCode_carryOutAccess_26 N 47 u) (fun _ z => some (gi z 16, z)) := by
    unfold zf_CCCode_carryOut_26
    rw [zbd_eq (zPl_of hN (by decide +kernel : zPl 60 47 0 = some (-1))), if_pos (by decide)]; rfl
  have hper : zf_MMC_perform_0 N 47 x y w = zbd (zbd (zf_MMC_one_0 N 127 127 w) zI) zI := rfl
  rw [hcar, hper]
  obtain ⟨u1, e1, r1⟩ := cTake (N := N) 127 X H hu
  obtain ⟨u2, e2, r2⟩ := cGive (N := N) 127 (zOk_take H) r1
  obtain ⟨w1, tk1, f1, g1⟩ := mOne (N := N) 127 127 (by decide) Y H hw
  exact zFin (show zbd (zf_CCStack_take_31 N 127 u) (fun _ z => zbd (zf_CCStack_give_31 N 127 z) (fun _ z => some ((), z))) = some ((), u2) by rw [zbd_eq e1, zbd_eq e2]) r2 (by rw [zbdI, zbdI]; exact f1) g1 (zOk_give (zOk_take H))
theorem zNk_48 (hN : 1000 ≤ N) (X : CxC u0 b h lv) (Y : CxM v0 b h lv) (H : zOk h s) (hu : RC u0 s u) (hw : RM v0 s tk wn p w) : zK1 h u0 v0 (zf_CCCode_carryOut_26 N 48 x u) (zf_MMC_perform_0 N 48 x y w) := by
  have hcar : zf_CCCode_carryOut_26 N 48 x u = zbd (zf_CCCode_carryOutAccess_26 N 48 u) (fun _ z => some (gi z 16, z)) := by
    unfold zf_CCCode_carryOut_26
    rw [zbd_eq (zPl_of hN (by decide +kernel : zPl 60 48 0 = some (-1))), if_pos (by decide)]; rfl
  have hper : zf_MMC_perform_0 N 48 x y w = zbd (zbd (zf_MMC_one_0 N 127 126 w) zI) zI := rfl
  rw [hcar, hper]
  obtain ⟨u1, e1, r1⟩ := cTake (N := N) 127 X H hu
  obtain ⟨u2, e2, r2⟩ := cGive (N := N) 126 (zOk_take H) r1
  obtain ⟨w1, tk1, f1, g1⟩ := mOne (N := N) 127 126 (by decide) Y H hw
  exact zFin (show zbd (zf_CCStack_take_31 N 127 u) (fun _ z => zbd (zf_CCStack_give_31 N 126 z) (fun _ z => some ((), z))) = some ((), u2) by rw [zbd_eq e1, zbd_eq e2]) r2 (by rw [zbdI, zbdI]; exact f1) g1 (zOk_give (zOk_take H))
theorem zNk_49 (hN : 1000 ≤ N) (X : CxC u0 b h lv) (Y : CxM v0 b h lv) (H : zOk h s) (hu : RC u0 s u) (hw : RM v0 s tk wn p w) : zK1 h u0 v0 (zf_CCCode_carryOut_26 N 49 x u) (zf_MMC_perform_0 N 49 x y w) := by
  have hcar : zf_CCCode_carryOut_26 N 49 x u = zbd (zf_CCCode_carryOutAccess_26 N 49 u) (fun _ z => some (gi z 16, z)) := by
    unfold zf_CCCode_carryOut_26
    rw [zbd_eq (zPl_of hN (by decide +kernel : zPl 60 49 0 = some (-1))), if_pos (by decide)]; rfl
  have hper : zf_MMC_perform_0 N 49 x y w = zbd (zbd (zf_MMC_one_0 N 127 126 w) zI) zI := rfl
  rw [hcar, hper]
  obtain ⟨u1, e1, r1⟩ := cTake (N := N) 127 X H hu
  obtain ⟨u2, e2, r2⟩ := cGive (N := N) 126 (zOk_take H) r1
  obtain ⟨w1, tk1, f1, g1⟩ := mOne (N := N) 127 126 (by decide) Y H hw
  exact zFin (show zbd (zf_CCStack_take_31 N 127 u) (fun _ z => zbd (zf_CCStack_give_31 N 126 z) (fun _ z => some ((), z))) = some ((), u2) by rw [zbd_eq e1, zbd_eq e2]) r2 (by rw [zbdI, zbdI]; exact f1) g1 (zOk_give (zOk_take H))
theorem zNk_50 (hN : 1000 ≤ N) (X : CxC u0 b h lv) (Y : CxM v0 b h lv) (H : zOk h s) (hu : RC u0 s u) (hw : RM v0 s tk wn p w) : zK1 h u0 v0 (zf_CCCode_carryOut_26 N 50 x u) (zf_MMC_perform_0 N 50 x y w) := by
  have hcar : zf_CCCode_carryOut_26 N 50 x u = zbd (zf_CCCode_carryOutAccess_26 N 50 u) (fun _ z => some (gi z 16, z)) := by
    unfold zf_CCCode_carryOut_26
    rw [zbd_eq (zPl_of hN (by decide +kernel : zPl 60 50 0 = some (-1))), if_pos (by decide)]; rfl
  have hper : zf_MMC_perform_0 N 50 x y w = zbd (zbd (zf_MMC_one_0 N 127 126 w) zI) zI := rfl
  rw [hcar, hper]
  obtain ⟨u1, e1, r1⟩ := cTake (N := N) 127 X H hu
  obtain ⟨u2, e2, r2⟩ := cGive (N := N) 126 (zOk_take H) r1
  obtain ⟨w1, tk1, f1, g1⟩ := mOne (N := N) 127 126 (by decide) Y H hw
  exact zFin (show zbd (zf_CCStack_take_31 N 127 u) (fun _ z => zbd (zf_CCStack_give_31 N 126 z) (fun _ z => some ((), z))) = some ((), u2) by rw [zbd_eq e1, zbd_eq e2]) r2 (by rw [zbdI, zbdI]; exact f1) g1 (zOk_give (zOk_take H))
theorem zNk_51 (hN : 1000 ≤ N) (X : CxC u0 b h lv) (Y : CxM v0 b h lv) (H : zOk h s) (hu : RC u0 s u) (hw : RM v0 s tk wn p w) : zK1 h u0 v0 (zf_CCCode_carryOut_26 N 51 x u) (zf_MMC_perform_0 N 51 x y w) := by
  have hcar : zf_CCCode_carryOut_26 N 51 x u = zbd (zf_CCCode_carryOutAccess_26 N 51 u) (fun _ z => some (gi z 16, z)) := by
    unfold zf_CCCode_carryOut_26
    rw [zbd_eq (zPl_of hN (by decide +kernel : zPl 60 51 0 = some (-1))), if_pos (by decide)]; rfl
  have hper : zf_MMC_perform_0 N 51 x y w = zbd (zbd (zf_MMC_one_0 N 127 126 w) zI) zI := rfl
  rw [hcar, hper]
  obtain ⟨u1, e1, r1⟩ := cTake (N := N) 127 X H hu
  obtain ⟨u2, e2, r2⟩ := cGive (N := N) 126 (zOk_take H) r1
  obtain ⟨w1, tk1, f1, g1⟩ := mOne (N := N) 127 126 (by decide) Y H hw
  exact zFin (show zbd (zf_CCStack_take_31 N 127 u) (fun _ z => zbd (zf_CCStack_give_31 N 126 z) (fun _ z => some ((), z))) = some ((), u2) by rw [zbd_eq e1, zbd_eq e2]) r2 (by rw [zbdI, zbdI]; exact f1) g1 (zOk_give (zOk_take H))
theorem zNk_52 (hN : 1000 ≤ N) (X : CxC u0 b h lv) (Y : CxM v0 b h lv) (H : zOk h s) (hu : RC u0 s u) (hw : RM v0 s tk wn p w) : zK1 h u0 v0 (zf_CCCode_carryOut_26 N 52 x u) (zf_MMC_perform_0 N 52 x y w) := by
  have hcar : zf_CCCode_carryOut_26 N 52 x u = zbd (zf_CCCode_carryOutAccess_26 N 52 u) (fun _ z => some (gi z 16, z)) := by
    unfold zf_CCCode_carryOut_26
    rw [zbd_eq (zPl_of hN (by decide +kernel : zPl 60 52 0 = some (-1))), if_pos (by decide)]; rfl
  have hper : zf_MMC_perform_0 N 52 x y w = zbd (zbd (zf_MMC_one_0 N 127 126 w) zI) zI := rfl
  rw [hcar, hper]
  obtain ⟨u1, e1, r1⟩ := cTake (N := N) 127 X H hu
  obtain ⟨u2, e2, r2⟩ := cGive (N := N) 126 (zOk_take H) r1
  obtain ⟨w1, tk1, f1, g1⟩ := mOne (N := N) 127 126 (by decide) Y H hw
  exact zFin (show zbd (zf_CCStack_take_31 N 127 u) (fun _ z => zbd (zf_CCStack_give_31 N 126 z) (fun _ z => some ((), z))) = some ((), u2) by rw [zbd_eq e1, zbd_eq e2]) r2 (by rw [zbdI, zbdI]; exact f1) g1 (zOk_give (zOk_take H))
theorem zNk_53 (hN : 1000 ≤ N) (X : CxC u0 b h lv) (Y : CxM v0 b h lv) (H : zOk h s) (hu : RC u0 s u) (hw : RM v0 s tk wn p w) : zK1 h u0 v0 (zf_CCCode_carryOut_26 N 53 x u) (zf_MMC_perform_0 N 53 x y w) := by
  have hcar : zf_CCCode_carryOut_26 N 53 x u = zbd (zf_CCCode_carryOutAccess_26 N 53 u) (fun _ z => some (gi z 16, z)) := by
    unfold zf_CCCode_carryOut_26
    rw [zbd_eq (zPl_of hN (by decide +kernel : zPl 60 53 0 = some (-1))), if_pos (by decide)]; rfl
  have hper : zf_MMC_perform_0 N 53 x y w = zbd (zbd (zf_MMC_one_0 N 127 126 w) zI) zI := rfl
  rw [hcar, hper]
  obtain ⟨u1, e1, r1⟩ := cTake (N := N) 127 X H hu
  obtain ⟨u2, e2, r2⟩ := cGive (N := N) 126 (zOk_take H) r1
  obtain ⟨w1, tk1, f1, g1⟩ := mOne (N := N) 127 126 (by decide) Y H hw
  exact zFin (show zbd (zf_CCStack_take_31 N 127 u) (fun _ z => zbd (zf_CCStack_give_31 N 126 z) (fun _ z => some ((), z))) = some ((), u2) by rw [zbd_eq e1, zbd_eq e2]) r2 (by rw [zbdI, zbdI]; exact f1) g1 (zOk_give (zOk_take H))
theorem zNk_54 (hN : 1000 ≤ N) (X : CxC u0 b h lv) (Y : CxM v0 b h lv) (H : zOk h s) (hu : RC u0 s u) (hw : RM v0 s tk wn p w) : zK1 h u0 v0 (zf_CCCode_carryOut_26 N 54 x u) (zf_MMC_perform_0 N 54 x y w) := by
  have hcar : zf_CCCode_carryOut_26 N 54 x u = zbd (zf_CCCode_carryOutAccess_26 N 54 u) (fun _ z => some (gi z 16, z)) := by
    unfold zf_CCCode_carryOut_26
    rw [zbd_eq (zPl_of hN (by decide +kernel : zPl 60 54 0 = some (-1))), if_pos (by decide)]; rfl
  have hper : zf_MMC_perform_0 N 54 x y w = zbd (zbd (zf_MMC_takeTwo_0 N 127 127 w) zI) zI := rfl
  rw [hcar, hper]
  obtain ⟨u1, e1, r1⟩ := cTake (N := N) 127 X H hu
  obtain ⟨u2, e2, r2⟩ := cTake (N := N) 127 X (zOk_take H) r1
  obtain ⟨w1, tk1, f1, g1⟩ := mTk (N := N) 127 (by decide) Y H hw
  obtain ⟨w2, tk2, f2, g2⟩ := mTk (N := N) 127 (by decide) Y (zOk_take H) g1
  exact zFin (show zbd (zf_CCStack_take_31 N 127 u) (fun _ z => zbd (zf_CCStack_take_31 N 127 z) (fun _ z => some ((), z))) = some ((), u2) by rw [zbd_eq e1, zbd_eq e2]) r2 (by rw [zbdI, zbdI]; unfold zf_MMC_takeTwo_0; rw [zbd_eq f1, zbd_eq f2]) g2 (zOk_take (zOk_take H))
theorem zNk_55 (hN : 1000 ≤ N) (X : CxC u0 b h lv) (Y : CxM v0 b h lv) (H : zOk h s) (hu : RC u0 s u) (hw : RM v0 s tk wn p w) : zK1 h u0 v0 (zf_CCCode_carryOut_26 N 55 x u) (zf_MMC_perform_0 N 55 x y w) := by
  have hcar : zf_CCCode_carryOut_26 N 55 x u = zbd (zf_CCCode_carryOutAccess_26 N 55 u) (fun _ z => some (gi z 16, z)) := by
    unfold zf_CCCode_carryOut_26
    rw [zbd_eq (zPl_of hN (by decide +kernel : zPl 60 55 0 = some (-1))), if_pos (by decide)]; rfl
  have hper : zf_MMC_perform_0 N 55 x y w = zbd (zbd (zf_MMC_takeTwo_0 N 127 126 w) zI) zI := rfl
  rw [hcar, hper]
  obtain ⟨u1, e1, r1⟩ := cTake (N := N) 126 X H hu
  obtain ⟨u2, e2, r2⟩ := cTake (N := N) 127 X (zOk_take H) r1
  obtain ⟨w1, tk1, f1, g1⟩ := mTk (N := N) 126 (by decide) Y H hw
  obtain ⟨w2, tk2, f2, g2⟩ := mTk (N := N) 127 (by decide) Y (zOk_take H) g1
  exact zFin (show zbd (zf_CCStack_take_31 N 126 u) (fun _ z => zbd (zf_CCStack_take_31 N 127 z) (fun _ z => some ((), z))) = some ((), u2) by rw [zbd_eq e1, zbd_eq e2]) r2 (by rw [zbdI, zbdI]; unfold zf_MMC_takeTwo_0; rw [zbd_eq f1, zbd_eq f2]) g2 (zOk_take (zOk_take H))
theorem zNk_56 (hN : 1000 ≤ N) (X : CxC u0 b h lv) (Y : CxM v0 b h lv) (H : zOk h s) (hu : RC u0 s u) (hw : RM v0 s tk wn p w) : zK1 h u0 v0 (zf_CCCode_carryOut_26 N 56 x u) (zf_MMC_perform_0 N 56 x y w) := by
  have hcar : zf_CCCode_carryOut_26 N 56 x u = zbd (zf_CCCode_carryOutAccess_26 N 56 u) (fun _ z => some (gi z 16, z)) := by
    unfold zf_CCCode_carryOut_26
    rw [zbd_eq (zPl_of hN (by decide +kernel : zPl 60 56 0 = some (-1))), if_pos (by decide)]; rfl
  have hper : zf_MMC_perform_0 N 56 x y w = zbd (zbd (zf_MMC_takeTwo_0 N 127 125 w) zI) zI := rfl
  rw [hcar, hper]
  obtain ⟨u1, e1, r1⟩ := cTake (N := N) 125 X H hu
  obtain ⟨u2, e2, r2⟩ := cTake (N := N) 127 X (zOk_take H) r1
  obtain ⟨w1, tk1, f1, g1⟩ := mTk (N := N) 125 (by decide) Y H hw
  obtain ⟨w2, tk2, f2, g2⟩ := mTk (N := N) 127 (by decide) Y (zOk_take H) g1
  exact zFin (show zbd (zf_CCStack_take_31 N 125 u) (fun _ z => zbd (zf_CCStack_take_31 N 127 z) (fun _ z => some ((), z))) = some ((), u2) by rw [zbd_eq e1, zbd_eq e2]) r2 (by rw [zbdI, zbdI]; unfold zf_MMC_takeTwo_0; rw [zbd_eq f1, zbd_eq f2]) g2 (zOk_take (zOk_take H))
theorem zNk_57 (hN : 1000 ≤ N) (X : CxC u0 b h lv) (Y : CxM v0 b h lv) (H : zOk h s) (hu : RC u0 s u) (hw : RM v0 s tk wn p w) : zK1 h u0 v0 (zf_CCCode_carryOut_26 N 57 x u) (zf_MMC_perform_0 N 57 x y w) := by
  have hcar : zf_CCCode_carryOut_26 N 57 x u = zbd (zf_CCCode_carryOutAccess_26 N 57 u) (fun _ z => some (gi z 16, z)) := by
    unfold zf_CCCode_carryOut_26
    rw [zbd_eq (zPl_of hN (by decide +kernel : zPl 60 57 0 = some (-1))), if_pos (by decide)]; rfl
  have hper : zf_MMC_perform_0 N 57 x y w = zbd (zbd (zf_MMC_takeTwo_0 N 127 124 w) zI) zI := rfl
  rw [hcar, hper]
  obtain ⟨u1, e1, r1⟩ := cTake (N := N) 124 X H hu
  obtain ⟨u2, e2, r2⟩ := cTake (N := N) 127 X (zOk_take H) r1
  obtain ⟨w1, tk1, f1, g1⟩ := mTk (N := N) 124 (by decide) Y H hw
  obtain ⟨w2, tk2, f2, g2⟩ := mTk (N := N) 127 (by decide) Y (zOk_take H) g1
  exact zFin (show zbd (zf_CCStack_take_31 N 124 u) (fun _ z => zbd (zf_CCStack_take_31 N 127 z) (fun _ z => some ((), z))) = some ((), u2) by rw [zbd_eq e1, zbd_eq e2]) r2 (by rw [zbdI, zbdI]; unfold zf_MMC_takeTwo_0; rw [zbd_eq f1, zbd_eq f2]) g2 (zOk_take (zOk_take H))
theorem zNk_58 (hN : 1000 ≤ N) (X : CxC u0 b h lv) (Y : CxM v0 b h lv) (H : zOk h s) (hu : RC u0 s u) (hw : RM v0 s tk wn p w) : zK1 h u0 v0 (zf_CCCode_carryOut_26 N 58 x u) (zf_MMC_perform_0 N 58 x y w) := by
  have hcar : zf_CCCode_carryOut_26 N 58 x u = zbd (zf_CCCode_carryOutAccess_26 N 58 u) (fun _ z => some (gi z 16, z)) := by
    unfold zf_CCCode_carryOut_26
    rw [zbd_eq (zPl_of hN (by decide +kernel : zPl 60 58 0 = some (-1))), if_pos (by decide)]; rfl
  have hper : zf_MMC_perform_0 N 58 x y w = zbd (zbd (zf_MMC_takeTwo_0 N 127 127 w) zI) zI := rfl
  rw [hcar, hper]
  obtain ⟨u1, e1, r1⟩ := cTake (N := N) 127 X H hu
  obtain ⟨u2, e2, r2⟩ := cTake (N := N) 127 X (zOk_take H) r1
  obtain ⟨w1, tk1, f1, g1⟩ := mTk (N := N) 127 (by decide) Y H hw
  obtain ⟨w2, tk2, f2, g2⟩ := mTk (N := N) 127 (by decide) Y (zOk_take H) g1
  exact zFin (show zbd (zf_CCStack_take_31 N 127 u) (fun _ z => zbd (zf_CCStack_take_31 N 127 z) (fun _ z => some ((), z))) = some ((), u2) by rw [zbd_eq e1, zbd_eq e2]) r2 (by rw [zbdI, zbdI]; unfold zf_MMC_takeTwo_0; rw [zbd_eq f1, zbd_eq f2]) g2 (zOk_take (zOk_take H))
theorem zNk_59 (hN : 1000 ≤ N) (X : CxC u0 b h lv) (Y : CxM v0 b h lv) (H : zOk h s) (hu : RC u0 s u) (hw : RM v0 s tk wn p w) : zK1 h u0 v0 (zf_CCCode_carryOut_26 N 59 x u) (zf_MMC_perform_0 N 59 x y w) := by
  have hcar : zf_CCCode_carryOut_26 N 59 x u = zbd (zf_CCCode_carryOutAccess_26 N 59 u) (fun _ z => some (gi z 16, z)) := by
    unfold zf_CCCode_carryOut_26
    rw [zbd_eq (zPl_of hN (by decide +kernel : zPl 60 59 0 = some (-1))), if_pos (by decide)]; rfl
  have hper : zf_MMC_perform_0 N 59 x y w = zbd (zbd (zf_MMC_takeTwo_0 N 127 127 w) zI) zI := rfl
  rw [hcar, hper]
  obtain ⟨u1, e1, r1⟩ := cTake (N := N) 127 X H hu
  obtain ⟨u2, e2, r2⟩ := cTake (N := N) 127 X (zOk_take H) r1
  obtain ⟨w1, tk1, f1, g1⟩ := mTk (N := N) 127 (by decide) Y H hw
  obtain ⟨w2, tk2, f2, g2⟩ := mTk (N := N) 127 (by decide) Y (zOk_take H) g1
  exact zFin (show zbd (zf_CCStack_take_31 N 127 u) (fun _ z => zbd (zf_CCStack_take_31 N 127 z) (fun _ z => some ((), z))) = some ((), u2) by rw [zbd_eq e1, zbd_eq e2]) r2 (by rw [zbdI, zbdI]; unfold zf_MMC_takeTwo_0; rw [zbd_eq f1, zbd_eq f2]) g2 (zOk_take (zOk_take H))
theorem zNk_60 (hN : 1000 ≤ N) (X : CxC u0 b h lv) (Y : CxM v0 b h lv) (H : zOk h s) (hu : RC u0 s u) (hw : RM v0 s tk wn p w) : zK1 h u0 v0 (zf_CCCode_carryOut_26 N 60 x u) (zf_MMC_perform_0 N 60 x y w) := by
  have hcar : zf_CCCode_carryOut_26 N 60 x u = zbd (zf_CCCode_carryOutAccess_26 N 60 u) (fun _ z => some (gi z 16, z)) := by
    unfold zf_CCCode_carryOut_26
    rw [zbd_eq (zPl_of hN (by decide +kernel : zPl 60 60 0 = some (-1))), if_pos (by decide)]; rfl
  have hper : zf_MMC_perform_0 N 60 x y w = zbd (zbd (zf_MMC_takeTwo_0 N 127 126 w) zI) zI := rfl
  rw [hcar, hper]
  obtain ⟨u1, e1, r1⟩ := cTake (N := N) 126 X H hu
  obtain ⟨u2, e2, r2⟩ := cTake (N := N) 127 X (zOk_take H) r1
  obtain ⟨w1, tk1, f1, g1⟩ := mTk (N := N) 126 (by decide) Y H hw
  obtain ⟨w2, tk2, f2, g2⟩ := mTk (N := N) 127 (by decide) Y (zOk_take H) g1
  exact zFin (show zbd (zf_CCStack_take_31 N 126 u) (fun _ z => zbd (zf_CCStack_take_31 N 127 z) (fun _ z => some ((), z))) = some ((), u2) by rw [zbd_eq e1, zbd_eq e2]) r2 (by rw [zbdI, zbdI]; unfold zf_MMC_takeTwo_0; rw [zbd_eq f1, zbd_eq f2]) g2 (zOk_take (zOk_take H))
theorem zNk_61 (hN : 1000 ≤ N) (X : CxC u0 b h lv) (Y : CxM v0 b h lv) (H : zOk h s) (hu : RC u0 s u) (hw : RM v0 s tk wn p w) : zK1 h u0 v0 (zf_CCCode_carryOut_26 N 61 x u) (zf_MMC_perform_0 N 61 x y w) := by
  have hcar : zf_CCCode_carryOut_26 N 61 x u = zbd (zf_CCCode_carryOutAccess_26 N 61 u) (fun _ z => some (gi z 16, z)) := by
    unfold zf_CCCode_carryOut_26
    rw [zbd_eq (zPl_of hN (by decide +kernel : zPl 60 61 0 = some (-1))), if_pos (by decide)]; rfl
  have hper : zf_MMC_perform_0 N 61 x y w = zbd (zbd (zf_MMC_takeTwo_0 N 127 126 w) zI) zI := rfl
  rw [hcar, hper]
  obtain ⟨u1, e1, r1⟩ := cTake (N := N) 126 X H hu
  obtain ⟨u2, e2, r2⟩ := cTake (N := N) 127 X (zOk_take H) r1
  obtain ⟨w1, tk1, f1, g1⟩ := mTk (N := N) 126 (by decide) Y H hw
  obtain ⟨w2, tk2, f2, g2⟩ := mTk (N := N) 127 (by decide) Y (zOk_take H) g1
  exact zFin (show zbd (zf_CCStack_take_31 N 126 u) (fun _ z => zbd (zf_CCStack_take_31 N 127 z) (fun _ z => some ((), z))) = some ((), u2) by rw [zbd_eq e1, zbd_eq e2]) r2 (by rw [zbdI, zbdI]; unfold zf_MMC_takeTwo_0; rw [zbd_eq f1, zbd_eq f2]) g2 (zOk_take (zOk_take H))
theorem zNk_62 (hN : 1000 ≤ N) (X : CxC u0 b h lv) (Y : CxM v0 b h lv) (H : zOk h s) (hu : RC u0 s u) (hw : RM v0 s tk wn p w) : zK1 h u0 v0 (zf_CCCode_carryOut_26 N 62 x u) (zf_MMC_perform_0 N 62 x y w) := by
  have hcar : zf_CCCode_carryOut_26 N 62 x u = zbd (zf_CCCode_carryOutAccess_26 N 62 u) (fun _ z => some (gi z 16, z)) := by
    unfold zf_CCCode_carryOut_26
    rw [zbd_eq (zPl_of hN (by decide +kernel : zPl 60 62 0 = some (-1))), if_pos (by decide)]; rfl
  have hper : zf_MMC_perform_0 N 62 x y w = zbd (zbd (zf_MMC_takeTwo_0 N 127 126 w) zI) zI := rfl
  rw [hcar, hper]
  obtain ⟨u1, e1, r1⟩ := cTake (N := N) 126 X H hu
  obtain ⟨u2, e2, r2⟩ := cTake (N := N) 127 X (zOk_take H) r1
  obtain ⟨w1, tk1, f1, g1⟩ := mTk (N := N) 126 (by decide) Y H hw
  obtain ⟨w2, tk2, f2, g2⟩ := mTk (N := N) 127 (by decide) Y (zOk_take H) g1
  exact zFin (show zbd (zf_CCStack_take_31 N 126 u) (fun _ z => zbd (zf_CCStack_take_31 N 127 z) (fun _ z => some ((), z))) = some ((), u2) by rw [zbd_eq e1, zbd_eq e2]) r2 (by rw [zbdI, zbdI]; unfold zf_MMC_takeTwo_0; rw [zbd_eq f1, zbd_eq f2]) g2 (zOk_take (zOk_take H))
end NM
