/-! pure: the faults that are looked for ahead, on both sides -/
section EX
variable {N ty b c lb rw' lc wn : Nat} {n : Nat → Nat} {H M : Nat → Nat} {u w v0 : zU} {s : zS} {tk : Int32} {p : Nat → Int32} {i x y : Int32}
theorem zMay (hT : RT ty n u w) (hg : gj w 0 = Int32.toInt64 (gi u 11)) (hg0 : 0 ≤ gi u 11) : ∃ ok : Bool, zf_CCCode_mayStandInConstant_26 N i x u = some (if ok then 1 else 0, u) ∧ zf_MMC_mayBeConstant_0 N i x w = some (if ok then 1 else 0, w) := by
  have sh := hT.2.2.2.1
  have ms := hT.2.2.2.2.2.1
  have n3 := (sh 3 (by omega)).1
  by_cases i35 : i = 35
  · subst i35
    have hc : zf_CCCode_mayStandInConstant_26 N 35 x u = zbd (zf_CCShelf_has_17 N x u) (fun r5 u6 => if r5 = 0 then some (0, u6) else if (gi u6 11) ≤ x then some (0, u6) else zbd (zf_CCShelf_isMarked_17 N x u6) (fun r10 u11 => if r10 = 0 then some (1, u11) else some (0, u11))) := rfl
    have hm : zf_MMC_mayBeConstant_0 N 35 x w = zbd (zf_MMC_has_0 N 3 x w) (fun r5 u6 => if r5 = 0 then some (0, u6) else if 0 ≤ (lg_cmp ((Int32.toInt64 x) &&& 4294967295) (gj u6 0)) then some (0, u6) else zck (zin (120 + x) 240) (if (ga u6 6 (120 + x)) = 0 then some (1, u6) else some (0, u6))) := rfl
    have m3 : zf_MMC_has_0 N 3 x w = some (if zHs (n 3) x then 1 else 0, w) := mHas (k := 3) (by omega) n3 (sh 3 (by omega)).2.2
    rw [hc, hm, zbd_eq (cHas3 (sh 3 (by omega)).2.1), zbd_eq m3]
    by_cases h : zHs (n 3) x
    · rw [if_pos h, if_neg (show ¬ (1 : Int32) = 0 from by decide), if_neg (show ¬ (1 : Int32) = 0 from by decide), hg]
      obtain ⟨j, hj, rfl⟩ := zHs_j h (by omega)
      obtain ⟨g, hgl, hge⟩ := nI_of (Int32.not_lt.mpr hg0)
      have e0 : (120 : Int32) + nI j = nI (120 + j) := nI_add 120 j
      have eg : ga w 6 (nI (120 + j)) = w.2.2.1 6 (120 + j) := by show w.2.2.1 6 _ = _; rw [nI_clamp (by omega)]
      rw [hge, e0, zck_pos (zin_of (by omega) (by omega)), eg, zbd_eq (cMark3 (sh 3 (by omega)).2.1 n3 hj), ms j hj]
      by_cases q : j < g
      · rw [if_neg (nI_ge q hgl), if_neg (fun a => (zhas hgl).mp a ⟨nI_pos' (by omega), nI_lt q hgl⟩)]
        by_cases z : w.2.2.1 6 (120 + j) = 0
        · rw [if_pos z, if_pos rfl, if_pos z]; exact ⟨true, rfl, rfl⟩
        · rw [if_neg z, if_neg (show ¬ (1 : Int32) = 0 from by decide), if_neg z]; exact ⟨false, rfl, rfl⟩
      · rw [if_pos (nI_le (by omega) (by omega)), if_pos ((zhas hgl).mpr (fun a => q ((nI_ltI (by omega) hgl).mp a.2)))]
        exact ⟨false, rfl, rfl⟩
    · rw [if_neg h, if_pos rfl, if_pos rfl]; exact ⟨false, rfl, rfl⟩
  · unfold zf_CCCode_mayStandInConstant_26 zf_MMC_mayBeConstant_0
    rw [if_neg i35, if_neg i35]
    by_cases i11 : i = 11
    · rw [if_pos i11, if_pos i11]; exact ⟨true, rfl, rfl⟩
    rw [if_neg i11, if_neg i11]
    have h66 : ∃ ok : Bool, zf_CCCode_mayStandInConstant_26_b66 N i u = some (if ok then 1 else 0, u) ∧ zf_MMC_mayBeConstant_0_b65 N i w = some (if ok then 1 else 0, w) := by
      unfold zf_CCCode_mayStandInConstant_26_b66 zf_MMC_mayBeConstant_0_b65
      by_cases a : i = 208
      · rw [if_pos a, if_pos a]; exact ⟨true, rfl, rfl⟩
      rw [if_neg a, if_neg a]
      by_cases b : i = 210
      · rw [if_pos b, if_pos b]; exact ⟨true, rfl, rfl⟩
      rw [if_neg b, if_neg b]; exact ⟨false, rfl, rfl⟩
    by_cases a : i < 65
    · rw [if_pos a, if_pos a]; exact h66
    rw [if_neg a, if_neg a]
    by_cases b : i ≤ 68
    · rw [if_pos b, if_pos b]; exact ⟨true, rfl, rfl⟩
    rw [if_neg b, if_neg b]; exact h66
theorem zExamine (hN : 1000 ≤ N) (hT : RT ty n u w) (hB : RB ty b c H u w) (hL : RL lb rw' lc M u w) (hs : s.2.2 = 0) (hw : RM v0 s tk wn p w) : ∃ k : Int32, zf_CCCode_faultAhead_26 N i x y u = some (k, u) ∧ 0 ≤ k ∧ ∃ w', zf_MMC_examine_0 N i x y w = some ((), w') ∧ RM v0 (aStop k s) tk wn p w' ∧ (k = 0 → zFm i x ∧ zTh ty n b lb rw' M w i x y) := by
  obtain ⟨hf1, hf2⟩ := zFormed (i := i) (x := x) (u := u) (v := w) hN
  unfold zf_CCCode_faultAhead_26 zf_MMC_examine_0 zf_MMC_examine_0_b68
  rw [zbd_eq hf1, zbd_eq hf2]
  by_cases hF : zFm i x
  · rw [if_pos hF, if_pos rfl, if_pos hF, if_neg (show ¬ (1 : Int32) = 0 from by decide)]
    have tail : ∃ k : Int32, zf_CCCode_faultAhead_26_b31 N i x y u = some (k, u) ∧ 0 ≤ k ∧ ∃ w', zf_MMC_examine_0_b42 N i x y w = some ((), w') ∧ RM v0 (aStop k s) tk wn p w' ∧ (k = 0 → zFm i x ∧ zTh ty n b lb rw' M w i x y) := by
      obtain ⟨ok, a1, a2, a3⟩ := zMissing hN hT hB hL i x y
      unfold zf_CCCode_faultAhead_26_b31 zf_MMC_examine_0_b42
      rw [zbd_eq a1, zbd_eq a2]
      cases ok
      · obtain ⟨w', e, r⟩ := mStop (N := N) 12 hw
        refine ⟨12, rfl, by decide, w', ?_, r, fun q => absurd q (by decide)⟩
        show zbd (zf_MMC_stop_0 N 12 w) (fun r8 u9 => zf_MMC_examine_0_b68 N u9) = _
        rw [zbd_eq e]; rfl
      · obtain ⟨k, e1, k0, w', e2, r⟩ := zMisfit hN hT hs hw (a3 rfl)
        refine ⟨k, ?_, k0, w', ?_, r, fun _ => ⟨hF, a3 rfl⟩⟩
        · show zbd (zf_CCCode_misfit_26 N i x y u) (fun r5 u6 => some (r5, u6)) = _
          rw [zbd_eq e1]
        · show zbd (zf_MMC_require_0 N i x y w) (fun r5 u6 => zf_MMC_examine_0_b68 N u6) = _
          rw [zbd_eq e2]; rfl
    rcases hB.2.2.2.2.2.2 with ⟨q1, q2, -⟩ | ⟨q1, q2, -, -, -, q3, q4⟩
    · rw [q1, q2, if_pos rfl, if_neg (show ¬ (1 : Int32) = 0 from by decide)]
      exact tail
    · obtain ⟨ok, a1, a2⟩ := zMay (N := N) (i := i) (x := x) hT q3 q4
      rw [q1, q2, if_neg (show ¬ (1 : Int32) = 0 from by decide), if_pos rfl, zbd_eq a1, zbd_eq a2]
      cases ok
      · obtain ⟨w', e, r⟩ := mStop (N := N) 14 hw
        refine ⟨14, rfl, by decide, w', ?_, r, fun q => absurd q (by decide)⟩
        show zbd (zf_MMC_stop_0 N 14 w) (fun r8 u9 => some ((), u9)) = _
        rw [zbd_eq e]
      · exact tail
  · obtain ⟨w', e, r⟩ := mStop (N := N) 13 hw
    rw [if_neg hF, if_neg (show ¬ (1 : Int32) = 0 from by decide), if_neg hF, if_pos rfl, zbd_eq e]
    exact ⟨13, rfl, by decide, w', rfl, r, fun q => absurd q (by decide)⟩
end EX
