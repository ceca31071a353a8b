section SB
variable {N ty b c lb rw' lc : Nat} {n H M : Nat → Nat} {u v u' w' : zU} {s : zS} {tk : Int32} {wn : Nat} {p : Nat → Int32} {x y : Int32}
theorem zGo_2 (hN : 1000 ≤ N) (hT : RT ty n u v) (hB : RB ty b c H u v) (hL : RL lb rw' lc M u v) (h8 : gi u 8 = gi v 1) (h1 : gi v 1 = 1) (Ho : zOk (H b) s) (hu : RC u s u') (hw : RM (zB0 v) s tk wn p w') (hx : zBlk x) (hx2 : x < nI ty) (he : s.2.2 = 0) : zGo N (zf_CCCode_carryOut_26 N 2 x u') (zf_MMC_perform_0 N 2 x y w') := by
  sorry
theorem zGo_3 (hN : 1000 ≤ N) (hT : RT ty n u v) (hB : RB ty b c H u v) (hL : RL lb rw' lc M u v) (h8 : gi u 8 = gi v 1) (h1 : gi v 1 = 1) (Ho : zOk (H b) s) (hu : RC u s u') (hw : RM (zB0 v) s tk wn p w') (hx : zBlk x) (hx2 : x < nI ty) (he : s.2.2 = 0) : zGo N (zf_CCCode_carryOut_26 N 3 x u') (zf_MMC_perform_0 N 3 x y w') := by
  sorry
theorem zGo_4 (hN : 1000 ≤ N) (hT : RT ty n u v) (hB : RB ty b c H u v) (hL : RL lb rw' lc M u v) (h8 : gi u 8 = gi v 1) (h1 : gi v 1 = 1) (Ho : zOk (H b) s) (hu : RC u s u') (hw : RM (zB0 v) s tk wn p w') (hx : zBlk x) (hx2 : x < nI ty) (he : s.2.2 = 0) : zGo N (zf_CCCode_carryOut_26 N 4 x u') (zf_MMC_perform_0 N 4 x y w') := by
  sorry
theorem zGo_5 (hN : 1000 ≤ N) (hT : RT ty n u v) (hB : RB ty b c H u v) (hL : RL lb rw' lc M u v) (h8 : gi u 8 = gi v 1) (h1 : gi v 1 = 1) (Ho : zOk (H b) s) (hu : RC u s u') (hw : RM (zB0 v) s tk wn p w') (he : s.2.2 = 0) : zGo N (zf_CCCode_carryOut_26 N 5 x u') (zf_MMC_perform_0 N 5 x y w') := by
  sorry
theorem zGo_11 (hN : 1000 ≤ N) (hT : RT ty n u v) (hB : RB ty b c H u v) (hL : RL lb rw' lc M u v) (h8 : gi u 8 = gi v 1) (h1 : gi v 1 = 1) (Ho : zOk (H b) s) (hu : RC u s u') (hw : RM (zB0 v) s tk wn p w') (he : s.2.2 = 0) : zGo N (zf_CCCode_carryOut_26 N 11 x u') (zf_MMC_perform_0 N 11 x y w') := by
  sorry
theorem zGo_14 (hN : 1000 ≤ N) (hT : RT ty n u v) (hB : RB ty b c H u v) (hL : RL lb rw' lc M u v) (h8 : gi u 8 = gi v 1) (h1 : gi v 1 = 1) (Ho : zOk (H b) s) (hu : RC u s u') (hw : RM (zB0 v) s tk wn p w') (hx : zHs (b + 1) x) (hl : ∀ q, q < lb → zHs (b + 1) (w'.2.2.1 9 q)) : zGo N (zf_CCCode_carryOut_26 N 14 x u') (zf_MMC_perform_0 N 14 x y w') := by
  sorry
end SB
