section PK
variable {N b h : Nat} {lv : Bool} {u0 v0 : zU} {s : zS} {tk : Int32} {wn : Nat} {p : Nat → Int32} {u w : zU} {x y : Int32}
theorem zPk_63 (hN : 1000 ≤ N) (X : CxC u0 b h lv) (Y : CxM v0 b h lv) (H : zOk h s) (hu : RC u0 s u) (hw : RM v0 s tk wn p w) : zK1 h u0 v0 (zf_CCCode_carryOut_26 N 63 x u) (zf_MMC_perform_0 N 63 x y w) := by
  rw [show zf_MMC_perform_0 N 63 x y w = zf_MMC_give_0 N 127 w from (show zf_MMC_perform_0 N 63 x y w = zbd (zbd (zf_MMC_give_0 N 127 w) zI) zI from rfl).trans (by rw [zbdI, zbdI])]
  exact zLine 0 0 127 (by decide) (by omega) hN X H hu (zPl_of hN (by decide +kernel : zPl 60 63 0 = some 0)) (by decide) cLn_0 (by obtain ⟨v1, e1, r1⟩ := mGive (N := N) 127 H hw; exact ⟨v1, tk, e1, r1⟩)
theorem zPk_64 (hN : 1000 ≤ N) (X : CxC u0 b h lv) (Y : CxM v0 b h lv) (H : zOk h s) (hu : RC u0 s u) (hw : RM v0 s tk wn p w) : zK1 h u0 v0 (zf_CCCode_carryOut_26 N 64 x u) (zf_MMC_perform_0 N 64 x y w) := by
  rw [show zf_MMC_perform_0 N 64 x y w = zf_MMC_one_0 N 127 127 w from (show zf_MMC_perform_0 N 64 x y w = zbd (zbd (zf_MMC_one_0 N 127 127 w) zI) zI from rfl).trans (by rw [zbdI, zbdI])]
  exact zLine 1 127 127 (by decide) (by omega) hN X H hu (zPl_of hN (by decide +kernel : zPl 60 64 0 = some 5)) (by decide) cLn_5 (mOne 127 127 (by decide) Y H hw)
theorem zPk_65 (hN : 1000 ≤ N) (X : CxC u0 b h lv) (Y : CxM v0 b h lv) (H : zOk h s) (hu : RC u0 s u) (hw : RM v0 s tk wn p w) : zK1 h u0 v0 (zf_CCCode_carryOut_26 N 65 x u) (zf_MMC_perform_0 N 65 x y w) := by
  rw [show zf_MMC_perform_0 N 65 x y w = zf_MMC_give_0 N 127 w from (show zf_MMC_perform_0 N 65 x y w = zbd (zbd (zf_MMC_give_0 N 127 w) zI) zI from rfl).trans (by rw [zbdI, zbdI])]
  exact zLine 0 0 127 (by decide) (by omega) hN X H hu (zPl_of hN (by decide +kernel : zPl 60 65 0 = some 10)) (by decide) cLn_10 (by obtain ⟨v1, e1, r1⟩ := mGive (N := N) 127 H hw; exact ⟨v1, tk, e1, r1⟩)
theorem zPk_66 (hN : 1000 ≤ N) (X : CxC u0 b h lv) (Y : CxM v0 b h lv) (H : zOk h s) (hu : RC u0 s u) (hw : RM v0 s tk wn p w) : zK1 h u0 v0 (zf_CCCode_carryOut_26 N 66 x u) (zf_MMC_perform_0 N 66 x y w) := by
  rw [show zf_MMC_perform_0 N 66 x y w = zf_MMC_give_0 N 126 w from (show zf_MMC_perform_0 N 66 x y w = zbd (zbd (zf_MMC_give_0 N 126 w) zI) zI from rfl).trans (by rw [zbdI, zbdI])]
  exact zLine 0 0 126 (by decide) (by omega) hN X H hu (zPl_of hN (by decide +kernel : zPl 60 66 0 = some 15)) (by decide) cLn_15 (by obtain ⟨v1, e1, r1⟩ := mGive (N := N) 126 H hw; exact ⟨v1, tk, e1, r1⟩)
theorem zPk_67 (hN : 1000 ≤ N) (X : CxC u0 b h lv) (Y : CxM v0 b h lv) (H : zOk h s) (hu : RC u0 s u) (hw : RM v0 s tk wn p w) : zK1 h u0 v0 (zf_CCCode_carryOut_26 N 67 x u) (zf_MMC_perform_0 N 67 x y w) := by
  rw [show zf_MMC_perform_0 N 67 x y w = zf_MMC_give_0 N 125 w from (show zf_MMC_perform_0 N 67 x y w = zbd (zbd (zf_MMC_give_0 N 125 w) zI) zI from rfl).trans (by rw [zbdI, zbdI])]
  exact zLine 0 0 125 (by decide) (by omega) hN X H hu (zPl_of hN (by decide +kernel : zPl 60 67 0 = some 20)) (by decide) cLn_20 (by obtain ⟨v1, e1, r1⟩ := mGive (N := N) 125 H hw; exact ⟨v1, tk, e1, r1⟩)
theorem zPk_68 (hN : 1000 ≤ N) (X : CxC u0 b h lv) (Y : CxM v0 b h lv) (H : zOk h s) (hu : RC u0 s u) (hw : RM v0 s tk wn p w) : zK1 h u0 v0 (zf_CCCode_carryOut_26 N 68 x u) (zf_MMC_perform_0 N 68 x y w) := by
  rw [show zf_MMC_perform_0 N 68 x y w = zf_MMC_give_0 N 124 w from (show zf_MMC_perform_0 N 68 x y w = zbd (zbd (zf_MMC_give_0 N 124 w) zI) zI from rfl).trans (by rw [zbdI, zbdI])]
  exact zLine 0 0 124 (by decide) (by omega) hN X H hu (zPl_of hN (by decide +kernel : zPl 60 68 0 = some 25)) (by decide) cLn_25 (by obtain ⟨v1, e1, r1⟩ := mGive (N := N) 124 H hw; exact ⟨v1, tk, e1, r1⟩)
theorem zPk_69 (hN : 1000 ≤ N) (X : CxC u0 b h lv) (Y : CxM v0 b h lv) (H : zOk h s) (hu : RC u0 s u) (hw : RM v0 s tk wn p w) : zK1 h u0 v0 (zf_CCCode_carryOut_26 N 69 x u) (zf_MMC_perform_0 N 69 x y w) := by
  rw [show zf_MMC_perform_0 N 69 x y w = zf_MMC_one_0 N 127 127 w from (show zf_MMC_perform_0 N 69 x y w = zbd (zbd (zf_MMC_one_0 N 127 127 w) zI) zI from rfl).trans (by rw [zbdI, zbdI])]
  exact zLine 1 127 127 (by decide) (by omega) hN X H hu (zPl_of hN (by decide +kernel : zPl 60 69 0 = some 30)) (by decide) cLn_30 (mOne 127 127 (by decide) Y H hw)
theorem zPk_70 (hN : 1000 ≤ N) (X : CxC u0 b h lv) (Y : CxM v0 b h lv) (H : zOk h s) (hu : RC u0 s u) (hw : RM v0 s tk wn p w) : zK1 h u0 v0 (zf_CCCode_carryOut_26 N 70 x u) (zf_MMC_perform_0 N 70 x y w) := by
  rw [show zf_MMC_perform_0 N 70 x y w = zf_MMC_two_0 N 127 127 w from (show zf_MMC_perform_0 N 70 x y w = zbd (zbd (zf_MMC_two_0 N 127 127 w) zI) zI from rfl).trans (by rw [zbdI, zbdI])]
  exact zLine 2 127 127 (by decide) (by omega) hN X H hu (zPl_of hN (by decide +kernel : zPl 60 70 0 = some 35)) (by decide) cLn_35 (mTwo 127 127 (by decide) Y H hw)
theorem zPk_71 (hN : 1000 ≤ N) (X : CxC u0 b h lv) (Y : CxM v0 b h lv) (H : zOk h s) (hu : RC u0 s u) (hw : RM v0 s tk wn p w) : zK1 h u0 v0 (zf_CCCode_carryOut_26 N 71 x u) (zf_MMC_perform_0 N 71 x y w) := by
  rw [show zf_MMC_perform_0 N 71 x y w = zf_MMC_two_0 N 127 127 w from (show zf_MMC_perform_0 N 71 x y w = zbd (zbd (zf_MMC_two_0 N 127 127 w) zI) zI from rfl).trans (by rw [zbdI, zbdI])]
  exact zLine 2 127 127 (by decide) (by omega) hN X H hu (zPl_of hN (by decide +kernel : zPl 60 71 0 = some 35)) (by decide) cLn_35 (mTwo 127 127 (by decide) Y H hw)
theorem zPk_72 (hN : 1000 ≤ N) (X : CxC u0 b h lv) (Y : CxM v0 b h lv) (H : zOk h s) (hu : RC u0 s u) (hw : RM v0 s tk wn p w) : zK1 h u0 v0 (zf_CCCode_carryOut_26 N 72 x u) (zf_MMC_perform_0 N 72 x y w) := by
  rw [show zf_MMC_perform_0 N 72 x y w = zf_MMC_two_0 N 127 127 w from (show zf_MMC_perform_0 N 72 x y w = zbd (zbd (zf_MMC_two_0 N 127 127 w) zI) zI from rfl).trans (by rw [zbdI, zbdI])]
  exact zLine 2 127 127 (by decide) (by omega) hN X H hu (zPl_of hN (by decide +kernel : zPl 60 72 0 = some 35)) (by decide) cLn_35 (mTwo 127 127 (by decide) Y H hw)
theorem zPk_73 (hN : 1000 ≤ N) (X : CxC u0 b h lv) (Y : CxM v0 b h lv) (H : zOk h s) (hu : RC u0 s u) (hw : RM v0 s tk wn p w) : zK1 h u0 v0 (zf_CCCode_carryOut_26 N 73 x u) (zf_MMC_perform_0 N 73 x y w) := by
  rw [show zf_MMC_perform_0 N 73 x y w = zf_MMC_two_0 N 127 127 w from (show zf_MMC_perform_0 N 73 x y w = zbd (zbd (zf_MMC_two_0 N 127 127 w) zI) zI from rfl).trans (by rw [zbdI, zbdI])]
  exact zLine 2 127 127 (by decide) (by omega) hN X H hu (zPl_of hN (by decide +kernel : zPl 60 73 0 = some 35)) (by decide) cLn_35 (mTwo 127 127 (by decide) Y H hw)
theorem zPk_74 (hN : 1000 ≤ N) (X : CxC u0 b h lv) (Y : CxM v0 b h lv) (H : zOk h s) (hu : RC u0 s u) (hw : RM v0 s tk wn p w) : zK1 h u0 v0 (zf_CCCode_carryOut_26 N 74 x u) (zf_MMC_perform_0 N 74 x y w) := by
  rw [show zf_MMC_perform_0 N 74 x y w = zf_MMC_two_0 N 127 127 w from (show zf_MMC_perform_0 N 74 x y w = zbd (zbd (zf_MMC_two_0 N 127 127 w) zI) zI from rfl).trans (by rw [zbdI, zbdI])]
  exact zLine 2 127 127 (by decide) (by omega) hN X H hu (zPl_of hN (by decide +kernel : zPl 60 74 0 = some 35)) (by decide) cLn_35 (mTwo 127 127 (by decide) Y H hw)
theorem zPk_75 (hN : 1000 ≤ N) (X : CxC u0 b h lv) (Y : CxM v0 b h lv) (H : zOk h s) (hu : RC u0 s u) (hw : RM v0 s tk wn p w) : zK1 h u0 v0 (zf_CCCode_carryOut_26 N 75 x u) (zf_MMC_perform_0 N 75 x y w) := by
  rw [show zf_MMC_perform_0 N 75 x y w = zf_MMC_two_0 N 127 127 w from (show zf_MMC_perform_0 N 75 x y w = zbd (zbd (zf_MMC_two_0 N 127 127 w) zI) zI from rfl).trans (by rw [zbdI, zbdI])]
  exact zLine 2 127 127 (by decide) (by omega) hN X H hu (zPl_of hN (by decide +kernel : zPl 60 75 0 = some 35)) (by decide) cLn_35 (mTwo 127 127 (by decide) Y H hw)
theorem zPk_76 (hN : 1000 ≤ N) (X : CxC u0 b h lv) (Y : CxM v0 b h lv) (H : zOk h s) (hu : RC u0 s u) (hw : RM v0 s tk wn p w) : zK1 h u0 v0 (zf_CCCode_carryOut_26 N 76 x u) (zf_MMC_perform_0 N 76 x y w) := by
  rw [show zf_MMC_perform_0 N 76 x y w = zf_MMC_two_0 N 127 127 w from (show zf_MMC_perform_0 N 76 x y w = zbd (zbd (zf_MMC_two_0 N 127 127 w) zI) zI from rfl).trans (by rw [zbdI, zbdI])]
  exact zLine 2 127 127 (by decide) (by omega) hN X H hu (zPl_of hN (by decide +kernel : zPl 60 76 0 = some 35)) (by decide) cLn_35 (mTwo 127 127 (by decide) Y H hw)
theorem zPk_77 (hN : 1000 ≤ N) (X : CxC u0 b h lv) (Y : CxM v0 b h lv) (H : zOk h s) (hu : RC u0 s u) (hw : RM v0 s tk wn p w) : zK1 h u0 v0 (zf_CCCode_carryOut_26 N 77 x u) (zf_MMC_perform_0 N 77 x y w) := by
  rw [show zf_MMC_perform_0 N 77 x y w = zf_MMC_two_0 N 127 127 w from (show zf_MMC_perform_0 N 77 x y w = zbd (zbd (zf_MMC_two_0 N 127 127 w) zI) zI from rfl).trans (by rw [zbdI, zbdI])]
  exact zLine 2 127 127 (by decide) (by omega) hN X H hu (zPl_of hN (by decide +kernel : zPl 60 77 0 = some 35)) (by decide) cLn_35 (mTwo 127 127 (by decide) Y H hw)
theorem zPk_78 (hN : 1000 ≤ N) (X : CxC u0 b h lv) (Y : CxM v0 b h lv) (H : zOk h s) (hu : RC u0 s u) (hw : RM v0 s tk wn p w) : zK1 h u0 v0 (zf_CCCode_carryOut_26 N 78 x u) (zf_MMC_perform_0 N 78 x y w) := by
  rw [show zf_MMC_perform_0 N 78 x y w = zf_MMC_two_0 N 127 127 w from (show zf_MMC_perform_0 N 78 x y w = zbd (zbd (zf_MMC_two_0 N 127 127 w) zI) zI from rfl).trans (by rw [zbdI, zbdI])]
  exact zLine 2 127 127 (by decide) (by omega) hN X H hu (zPl_of hN (by decide +kernel : zPl 60 78 0 = some 35)) (by decide) cLn_35 (mTwo 127 127 (by decide) Y H hw)
theorem zPk_79 (hN : 1000 ≤ N) (X : CxC u0 b h lv) (Y : CxM v0 b h lv) (H : zOk h s) (hu : RC u0 s u) (hw : RM v0 s tk wn p w) : zK1 h u0 v0 (zf_CCCode_carryOut_26 N 79 x u) (zf_MMC_perform_0 N 79 x y w) := by
  rw [show zf_MMC_perform_0 N 79 x y w = zf_MMC_two_0 N 127 127 w from (show zf_MMC_perform_0 N 79 x y w = zbd (zbd (zf_MMC_two_0 N 127 127 w) zI) zI from rfl).trans (by rw [zbdI, zbdI])]
  exact zLine 2 127 127 (by decide) (by omega) hN X H hu (zPl_of hN (by decide +kernel : zPl 60 79 0 = some 35)) (by decide) cLn_35 (mTwo 127 127 (by decide) Y H hw)
theorem zPk_80 (hN : 1000 ≤ N) (X : CxC u0 b h lv) (Y : CxM v0 b h lv) (H : zOk h s) (hu : RC u0 s u) (hw : RM v0 s tk wn p w) : zK1 h u0 v0 (zf_CCCode_carryOut_26 N 80 x u) (zf_MMC_perform_0 N 80 x y w) := by
  rw [show zf_MMC_perform_0 N 80 x y w = zf_MMC_one_0 N 126 127 w from (show zf_MMC_perform_0 N 80 x y w = zbd (zbd (zf_MMC_one_0 N 126 127 w) zI) zI from rfl).trans (by rw [zbdI, zbdI])]
  exact zLine 1 126 127 (by decide) (by omega) hN X H hu (zPl_of hN (by decide +kernel : zPl 60 80 0 = some 40)) (by decide) cLn_40 (mOne 126 127 (by decide) Y H hw)
theorem zPk_81 (hN : 1000 ≤ N) (X : CxC u0 b h lv) (Y : CxM v0 b h lv) (H : zOk h s) (hu : RC u0 s u) (hw : RM v0 s tk wn p w) : zK1 h u0 v0 (zf_CCCode_carryOut_26 N 81 x u) (zf_MMC_perform_0 N 81 x y w) := by
  rw [show zf_MMC_perform_0 N 81 x y w = zf_MMC_two_0 N 126 127 w from (show zf_MMC_perform_0 N 81 x y w = zbd (zbd (zf_MMC_two_0 N 126 127 w) zI) zI from rfl).trans (by rw [zbdI, zbdI])]
  exact zLine 2 126 127 (by decide) (by omega) hN X H hu (zPl_of hN (by decide +kernel : zPl 60 81 0 = some 45)) (by decide) cLn_45 (mTwo 126 127 (by decide) Y H hw)
theorem zPk_82 (hN : 1000 ≤ N) (X : CxC u0 b h lv) (Y : CxM v0 b h lv) (H : zOk h s) (hu : RC u0 s u) (hw : RM v0 s tk wn p w) : zK1 h u0 v0 (zf_CCCode_carryOut_26 N 82 x u) (zf_MMC_perform_0 N 82 x y w) := by
  rw [show zf_MMC_perform_0 N 82 x y w = zf_MMC_two_0 N 126 127 w from (show zf_MMC_perform_0 N 82 x y w = zbd (zbd (zf_MMC_two_0 N 126 127 w) zI) zI from rfl).trans (by rw [zbdI, zbdI])]
  exact zLine 2 126 127 (by decide) (by omega) hN X H hu (zPl_of hN (by decide +kernel : zPl 60 82 0 = some 45)) (by decide) cLn_45 (mTwo 126 127 (by decide) Y H hw)
theorem zPk_83 (hN : 1000 ≤ N) (X : CxC u0 b h lv) (Y : CxM v0 b h lv) (H : zOk h s) (hu : RC u0 s u) (hw : RM v0 s tk wn p w) : zK1 h u0 v0 (zf_CCCode_carryOut_26 N 83 x u) (zf_MMC_perform_0 N 83 x y w) := by
  rw [show zf_MMC_perform_0 N 83 x y w = zf_MMC_two_0 N 126 127 w from (show zf_MMC_perform_0 N 83 x y w = zbd (zbd (zf_MMC_two_0 N 126 127 w) zI) zI from rfl).trans (by rw [zbdI, zbdI])]
  exact zLine 2 126 127 (by decide) (by omega) hN X H hu (zPl_of hN (by decide +kernel : zPl 60 83 0 = some 45)) (by decide) cLn_45 (mTwo 126 127 (by decide) Y H hw)
theorem zPk_84 (hN : 1000 ≤ N) (X : CxC u0 b h lv) (Y : CxM v0 b h lv) (H : zOk h s) (hu : RC u0 s u) (hw : RM v0 s tk wn p w) : zK1 h u0 v0 (zf_CCCode_carryOut_26 N 84 x u) (zf_MMC_perform_0 N 84 x y w) := by
  rw [show zf_MMC_perform_0 N 84 x y w = zf_MMC_two_0 N 126 127 w from (show zf_MMC_perform_0 N 84 x y w = zbd (zbd (zf_MMC_two_0 N 126 127 w) zI) zI from rfl).trans (by rw [zbdI, zbdI])]
  exact zLine 2 126 127 (by decide) (by omega) hN X H hu (zPl_of hN (by decide +kernel : zPl 60 84 0 = some 45)) (by decide) cLn_45 (mTwo 126 127 (by decide) Y H hw)
theorem zPk_85 (hN : 1000 ≤ N) (X : CxC u0 b h lv) (Y : CxM v0 b h lv) (H : zOk h s) (hu : RC u0 s u) (hw : RM v0 s tk wn p w) : zK1 h u0 v0 (zf_CCCode_carryOut_26 N 85 x u) (zf_MMC_perform_0 N 85 x y w) := by
  rw [show zf_MMC_perform_0 N 85 x y w = zf_MMC_two_0 N 126 127 w from (show zf_MMC_perform_0 N 85 x y w = zbd (zbd (zf_MMC_two_0 N 126 127 w) zI) zI from rfl).trans (by rw [zbdI, zbdI])]
  exact zLine 2 126 127 (by decide) (by omega) hN X H hu (zPl_of hN (by decide +kernel : zPl 60 85 0 = some 45)) (by decide) cLn_45 (mTwo 126 127 (by decide) Y H hw)
theorem zPk_86 (hN : 1000 ≤ N) (X : CxC u0 b h lv) (Y : CxM v0 b h lv) (H : zOk h s) (hu : RC u0 s u) (hw : RM v0 s tk wn p w) : zK1 h u0 v0 (zf_CCCode_carryOut_26 N 86 x u) (zf_MMC_perform_0 N 86 x y w) := by
  rw [show zf_MMC_perform_0 N 86 x y w = zf_MMC_two_0 N 126 127 w from (show zf_MMC_perform_0 N 86 x y w = zbd (zbd (zf_MMC_two_0 N 126 127 w) zI) zI from rfl).trans (by rw [zbdI, zbdI])]
  exact zLine 2 126 127 (by decide) (by omega) hN X H hu (zPl_of hN (by decide +kernel : zPl 60 86 0 = some 45)) (by decide) cLn_45 (mTwo 126 127 (by decide) Y H hw)
theorem zPk_87 (hN : 1000 ≤ N) (X : CxC u0 b h lv) (Y : CxM v0 b h lv) (H : zOk h s) (hu : RC u0 s u) (hw : RM v0 s tk wn p w) : zK1 h u0 v0 (zf_CCCode_carryOut_26 N 87 x u) (zf_MMC_perform_0 N 87 x y w) := by
  rw [show zf_MMC_perform_0 N 87 x y w = zf_MMC_two_0 N 126 127 w from (show zf_MMC_perform_0 N 87 x y w = zbd (zbd (zf_MMC_two_0 N 126 127 w) zI) zI from rfl).trans (by rw [zbdI, zbdI])]
  exact zLine 2 126 127 (by decide) (by omega) hN X H hu (zPl_of hN (by decide +kernel : zPl 60 87 0 = some 45)) (by decide) cLn_45 (mTwo 126 127 (by decide) Y H hw)
theorem zPk_88 (hN : 1000 ≤ N) (X : CxC u0 b h lv) (Y : CxM v0 b h lv) (H : zOk h s) (hu : RC u0 s u) (hw : RM v0 s tk wn p w) : zK1 h u0 v0 (zf_CCCode_carryOut_26 N 88 x u) (zf_MMC_perform_0 N 88 x y w) := by
  rw [show zf_MMC_perform_0 N 88 x y w = zf_MMC_two_0 N 126 127 w from (show zf_MMC_perform_0 N 88 x y w = zbd (zbd (zf_MMC_two_0 N 126 127 w) zI) zI from rfl).trans (by rw [zbdI, zbdI])]
  exact zLine 2 126 127 (by decide) (by omega) hN X H hu (zPl_of hN (by decide +kernel : zPl 60 88 0 = some 45)) (by decide) cLn_45 (mTwo 126 127 (by decide) Y H hw)
theorem zPk_89 (hN : 1000 ≤ N) (X : CxC u0 b h lv) (Y : CxM v0 b h lv) (H : zOk h s) (hu : RC u0 s u) (hw : RM v0 s tk wn p w) : zK1 h u0 v0 (zf_CCCode_carryOut_26 N 89 x u) (zf_MMC_perform_0 N 89 x y w) := by
  rw [show zf_MMC_perform_0 N 89 x y w = zf_MMC_two_0 N 126 127 w from (show zf_MMC_perform_0 N 89 x y w = zbd (zbd (zf_MMC_two_0 N 126 127 w) zI) zI from rfl).trans (by rw [zbdI, zbdI])]
  exact zLine 2 126 127 (by decide) (by omega) hN X H hu (zPl_of hN (by decide +kernel : zPl 60 89 0 = some 45)) (by decide) cLn_45 (mTwo 126 127 (by decide) Y H hw)
theorem zPk_90 (hN : 1000 ≤ N) (X : CxC u0 b h lv) (Y : CxM v0 b h lv) (H : zOk h s) (hu : RC u0 s u) (hw : RM v0 s tk wn p w) : zK1 h u0 v0 (zf_CCCode_carryOut_26 N 90 x u) (zf_MMC_perform_0 N 90 x y w) := by
  rw [show zf_MMC_perform_0 N 90 x y w = zf_MMC_two_0 N 126 127 w from (show zf_MMC_perform_0 N 90 x y w = zbd (zbd (zf_MMC_two_0 N 126 127 w) zI) zI from rfl).trans (by rw [zbdI, zbdI])]
  exact zLine 2 126 127 (by decide) (by omega) hN X H hu (zPl_of hN (by decide +kernel : zPl 60 90 0 = some 45)) (by decide) cLn_45 (mTwo 126 127 (by decide) Y H hw)
theorem zPk_91 (hN : 1000 ≤ N) (X : CxC u0 b h lv) (Y : CxM v0 b h lv) (H : zOk h s) (hu : RC u0 s u) (hw : RM v0 s tk wn p w) : zK1 h u0 v0 (zf_CCCode_carryOut_26 N 91 x u) (zf_MMC_perform_0 N 91 x y w) := by
  rw [show zf_MMC_perform_0 N 91 x y w = zf_MMC_two_0 N 125 127 w from (show zf_MMC_perform_0 N 91 x y w = zbd (zbd (zf_MMC_two_0 N 125 127 w) zI) zI from rfl).trans (by rw [zbdI, zbdI])]
  exact zLine 2 125 127 (by decide) (by omega) hN X H hu (zPl_of hN (by decide +kernel : zPl 60 91 0 = some 50)) (by decide) cLn_50 (mTwo 125 127 (by decide) Y H hw)
theorem zPk_92 (hN : 1000 ≤ N) (X : CxC u0 b h lv) (Y : CxM v0 b h lv) (H : zOk h s) (hu : RC u0 s u) (hw : RM v0 s tk wn p w) : zK1 h u0 v0 (zf_CCCode_carryOut_26 N 92 x u) (zf_MMC_perform_0 N 92 x y w) := by
  rw [show zf_MMC_perform_0 N 92 x y w = zf_MMC_two_0 N 125 127 w from (show zf_MMC_perform_0 N 92 x y w = zbd (zbd (zf_MMC_two_0 N 125 127 w) zI) zI from rfl).trans (by rw [zbdI, zbdI])]
  exact zLine 2 125 127 (by decide) (by omega) hN X H hu (zPl_of hN (by decide +kernel : zPl 60 92 0 = some 50)) (by decide) cLn_50 (mTwo 125 127 (by decide) Y H hw)
theorem zPk_93 (hN : 1000 ≤ N) (X : CxC u0 b h lv) (Y : CxM v0 b h lv) (H : zOk h s) (hu : RC u0 s u) (hw : RM v0 s tk wn p w) : zK1 h u0 v0 (zf_CCCode_carryOut_26 N 93 x u) (zf_MMC_perform_0 N 93 x y w) := by
  rw [show zf_MMC_perform_0 N 93 x y w = zf_MMC_two_0 N 125 127 w from (show zf_MMC_perform_0 N 93 x y w = zbd (zbd (zf_MMC_two_0 N 125 127 w) zI) zI from rfl).trans (by rw [zbdI, zbdI])]
  exact zLine 2 125 127 (by decide) (by omega) hN X H hu (zPl_of hN (by decide +kernel : zPl 60 93 0 = some 50)) (by decide) cLn_50 (mTwo 125 127 (by decide) Y H hw)
theorem zPk_94 (hN : 1000 ≤ N) (X : CxC u0 b h lv) (Y : CxM v0 b h lv) (H : zOk h s) (hu : RC u0 s u) (hw : RM v0 s tk wn p w) : zK1 h u0 v0 (zf_CCCode_carryOut_26 N 94 x u) (zf_MMC_perform_0 N 94 x y w) := by
  rw [show zf_MMC_perform_0 N 94 x y w = zf_MMC_two_0 N 125 127 w from (show zf_MMC_perform_0 N 94 x y w = zbd (zbd (zf_MMC_two_0 N 125 127 w) zI) zI from rfl).trans (by rw [zbdI, zbdI])]
  exact zLine 2 125 127 (by decide) (by omega) hN X H hu (zPl_of hN (by decide +kernel : zPl 60 94 0 = some 50)) (by decide) cLn_50 (mTwo 125 127 (by decide) Y H hw)
theorem zPk_95 (hN : 1000 ≤ N) (X : CxC u0 b h lv) (Y : CxM v0 b h lv) (H : zOk h s) (hu : RC u0 s u) (hw : RM v0 s tk wn p w) : zK1 h u0 v0 (zf_CCCode_carryOut_26 N 95 x u) (zf_MMC_perform_0 N 95 x y w) := by
  rw [show zf_MMC_perform_0 N 95 x y w = zf_MMC_two_0 N 125 127 w from (show zf_MMC_perform_0 N 95 x y w = zbd (zbd (zf_MMC_two_0 N 125 127 w) zI) zI from rfl).trans (by rw [zbdI, zbdI])]
  exact zLine 2 125 127 (by decide) (by omega) hN X H hu (zPl_of hN (by decide +kernel : zPl 60 95 0 = some 50)) (by decide) cLn_50 (mTwo 125 127 (by decide) Y H hw)
theorem zPk_96 (hN : 1000 ≤ N) (X : CxC u0 b h lv) (Y : CxM v0 b h lv) (H : zOk h s) (hu : RC u0 s u) (hw : RM v0 s tk wn p w) : zK1 h u0 v0 (zf_CCCode_carryOut_26 N 96 x u) (zf_MMC_perform_0 N 96 x y w) := by
  rw [show zf_MMC_perform_0 N 96 x y w = zf_MMC_two_0 N 125 127 w from (show zf_MMC_perform_0 N 96 x y w = zbd (zbd (zf_MMC_two_0 N 125 127 w) zI) zI from rfl).trans (by rw [zbdI, zbdI])]
  exact zLine 2 125 127 (by decide) (by omega) hN X H hu (zPl_of hN (by decide +kernel : zPl 60 96 0 = some 50)) (by decide) cLn_50 (mTwo 125 127 (by decide) Y H hw)
theorem zPk_97 (hN : 1000 ≤ N) (X : CxC u0 b h lv) (Y : CxM v0 b h lv) (H : zOk h s) (hu : RC u0 s u) (hw : RM v0 s tk wn p w) : zK1 h u0 v0 (zf_CCCode_carryOut_26 N 97 x u) (zf_MMC_perform_0 N 97 x y w) := by
  rw [show zf_MMC_perform_0 N 97 x y w = zf_MMC_two_0 N 124 127 w from (show zf_MMC_perform_0 N 97 x y w = zbd (zbd (zf_MMC_two_0 N 124 127 w) zI) zI from rfl).trans (by rw [zbdI, zbdI])]
  exact zLine 2 124 127 (by decide) (by omega) hN X H hu (zPl_of hN (by decide +kernel : zPl 60 97 0 = some 55)) (by decide) cLn_55 (mTwo 124 127 (by decide) Y H hw)
theorem zPk_98 (hN : 1000 ≤ N) (X : CxC u0 b h lv) (Y : CxM v0 b h lv) (H : zOk h s) (hu : RC u0 s u) (hw : RM v0 s tk wn p w) : zK1 h u0 v0 (zf_CCCode_carryOut_26 N 98 x u) (zf_MMC_perform_0 N 98 x y w) := by
  rw [show zf_MMC_perform_0 N 98 x y w = zf_MMC_two_0 N 124 127 w from (show zf_MMC_perform_0 N 98 x y w = zbd (zbd (zf_MMC_two_0 N 124 127 w) zI) zI from rfl).trans (by rw [zbdI, zbdI])]
  exact zLine 2 124 127 (by decide) (by omega) hN X H hu (zPl_of hN (by decide +kernel : zPl 60 98 0 = some 55)) (by decide) cLn_55 (mTwo 124 127 (by decide) Y H hw)
theorem zPk_99 (hN : 1000 ≤ N) (X : CxC u0 b h lv) (Y : CxM v0 b h lv) (H : zOk h s) (hu : RC u0 s u) (hw : RM v0 s tk wn p w) : zK1 h u0 v0 (zf_CCCode_carryOut_26 N 99 x u) (zf_MMC_perform_0 N 99 x y w) := by
  rw [show zf_MMC_perform_0 N 99 x y w = zf_MMC_two_0 N 124 127 w from (show zf_MMC_perform_0 N 99 x y w = zbd (zbd (zf_MMC_two_0 N 124 127 w) zI) zI from rfl).trans (by rw [zbdI, zbdI])]
  exact zLine 2 124 127 (by decide) (by omega) hN X H hu (zPl_of hN (by decide +kernel : zPl 60 99 0 = some 55)) (by decide) cLn_55 (mTwo 124 127 (by decide) Y H hw)
theorem zPk_100 (hN : 1000 ≤ N) (X : CxC u0 b h lv) (Y : CxM v0 b h lv) (H : zOk h s) (hu : RC u0 s u) (hw : RM v0 s tk wn p w) : zK1 h u0 v0 (zf_CCCode_carryOut_26 N 100 x u) (zf_MMC_perform_0 N 100 x y w) := by
  rw [show zf_MMC_perform_0 N 100 x y w = zf_MMC_two_0 N 124 127 w from (show zf_MMC_perform_0 N 100 x y w = zbd (zbd (zf_MMC_two_0 N 124 127 w) zI) zI from rfl).trans (by rw [zbdI, zbdI])]
  exact zLine 2 124 127 (by decide) (by omega) hN X H hu (zPl_of hN (by decide +kernel : zPl 60 100 0 = some 55)) (by decide) cLn_55 (mTwo 124 127 (by decide) Y H hw)
theorem zPk_101 (hN : 1000 ≤ N) (X : CxC u0 b h lv) (Y : CxM v0 b h lv) (H : zOk h s) (hu : RC u0 s u) (hw : RM v0 s tk wn p w) : zK1 h u0 v0 (zf_CCCode_carryOut_26 N 101 x u) (zf_MMC_perform_0 N 101 x y w) := by
  rw [show zf_MMC_perform_0 N 101 x y w = zf_MMC_two_0 N 124 127 w from (show zf_MMC_perform_0 N 101 x y w = zbd (zbd (zf_MMC_two_0 N 124 127 w) zI) zI from rfl).trans (by rw [zbdI, zbdI])]
  exact zLine 2 124 127 (by decide) (by omega) hN X H hu (zPl_of hN (by decide +kernel : zPl 60 101 0 = some 55)) (by decide) cLn_55 (mTwo 124 127 (by decide) Y H hw)
theorem zPk_102 (hN : 1000 ≤ N) (X : CxC u0 b h lv) (Y : CxM v0 b h lv) (H : zOk h s) (hu : RC u0 s u) (hw : RM v0 s tk wn p w) : zK1 h u0 v0 (zf_CCCode_carryOut_26 N 102 x u) (zf_MMC_perform_0 N 102 x y w) := by
  rw [show zf_MMC_perform_0 N 102 x y w = zf_MMC_two_0 N 124 127 w from (show zf_MMC_perform_0 N 102 x y w = zbd (zbd (zf_MMC_two_0 N 124 127 w) zI) zI from rfl).trans (by rw [zbdI, zbdI])]
  exact zLine 2 124 127 (by decide) (by omega) hN X H hu (zPl_of hN (by decide +kernel : zPl 60 102 0 = some 55)) (by decide) cLn_55 (mTwo 124 127 (by decide) Y H hw)
theorem zPk_103 (hN : 1000 ≤ N) (X : CxC u0 b h lv) (Y : CxM v0 b h lv) (H : zOk h s) (hu : RC u0 s u) (hw : RM v0 s tk wn p w) : zK1 h u0 v0 (zf_CCCode_carryOut_26 N 103 x u) (zf_MMC_perform_0 N 103 x y w) := by
  rw [show zf_MMC_perform_0 N 103 x y w = zf_MMC_one_0 N 127 127 w from (show zf_MMC_perform_0 N 103 x y w = zbd (zbd (zbd (zf_MMC_one_0 N 127 127 w) zI) zI) zI from rfl).trans (by rw [zbdI, zbdI, zbdI])]
  exact zLine 1 127 127 (by decide) (by omega) hN X H hu (zPl_of hN (by decide +kernel : zPl 60 103 0 = some 60)) (by decide) cLn_60 (mOne 127 127 (by decide) Y H hw)
theorem zPk_104 (hN : 1000 ≤ N) (X : CxC u0 b h lv) (Y : CxM v0 b h lv) (H : zOk h s) (hu : RC u0 s u) (hw : RM v0 s tk wn p w) : zK1 h u0 v0 (zf_CCCode_carryOut_26 N 104 x u) (zf_MMC_perform_0 N 104 x y w) := by
  rw [show zf_MMC_perform_0 N 104 x y w = zf_MMC_one_0 N 127 127 w from (show zf_MMC_perform_0 N 104 x y w = zbd (zbd (zbd (zf_MMC_one_0 N 127 127 w) zI) zI) zI from rfl).trans (by rw [zbdI, zbdI, zbdI])]
  exact zLine 1 127 127 (by decide) (by omega) hN X H hu (zPl_of hN (by decide +kernel : zPl 60 104 0 = some 60)) (by decide) cLn_60 (mOne 127 127 (by decide) Y H hw)
theorem zPk_105 (hN : 1000 ≤ N) (X : CxC u0 b h lv) (Y : CxM v0 b h lv) (H : zOk h s) (hu : RC u0 s u) (hw : RM v0 s tk wn p w) : zK1 h u0 v0 (zf_CCCode_carryOut_26 N 105 x u) (zf_MMC_perform_0 N 105 x y w) := by
  rw [show zf_MMC_perform_0 N 105 x y w = zf_MMC_one_0 N 127 127 w from (show zf_MMC_perform_0 N 105 x y w = zbd (zbd (zbd (zf_MMC_one_0 N 127 127 w) zI) zI) zI from rfl).trans (by rw [zbdI, zbdI, zbdI])]
  exact zLine 1 127 127 (by decide) (by omega) hN X H hu (zPl_of hN (by decide +kernel : zPl 60 105 0 = some 60)) (by decide) cLn_60 (mOne 127 127 (by decide) Y H hw)
theorem zPk_106 (hN : 1000 ≤ N) (X : CxC u0 b h lv) (Y : CxM v0 b h lv) (H : zOk h s) (hu : RC u0 s u) (hw : RM v0 s tk wn p w) : zK1 h u0 v0 (zf_CCCode_carryOut_26 N 106 x u) (zf_MMC_perform_0 N 106 x y w) := by
  rw [show zf_MMC_perform_0 N 106 x y w = zf_MMC_two_0 N 127 127 w from (show zf_MMC_perform_0 N 106 x y w = zbd (zbd (zbd (zf_MMC_two_0 N 127 127 w) zI) zI) zI from rfl).trans (by rw [zbdI, zbdI, zbdI])]
  exact zLine 2 127 127 (by decide) (by omega) hN X H hu (zPl_of hN (by decide +kernel : zPl 60 106 0 = some 65)) (by decide) cLn_65 (mTwo 127 127 (by decide) Y H hw)
theorem zPk_107 (hN : 1000 ≤ N) (X : CxC u0 b h lv) (Y : CxM v0 b h lv) (H : zOk h s) (hu : RC u0 s u) (hw : RM v0 s tk wn p w) : zK1 h u0 v0 (zf_CCCode_carryOut_26 N 107 x u) (zf_MMC_perform_0 N 107 x y w) := by
  rw [show zf_MMC_perform_0 N 107 x y w = zf_MMC_two_0 N 127 127 w from (show zf_MMC_perform_0 N 107 x y w = zbd (zbd (zbd (zf_MMC_two_0 N 127 127 w) zI) zI) zI from rfl).trans (by rw [zbdI, zbdI, zbdI])]
  exact zLine 2 127 127 (by decide) (by omega) hN X H hu (zPl_of hN (by decide +kernel : zPl 60 107 0 = some 65)) (by decide) cLn_65 (mTwo 127 127 (by decide) Y H hw)
theorem zPk_108 (hN : 1000 ≤ N) (X : CxC u0 b h lv) (Y : CxM v0 b h lv) (H : zOk h s) (hu : RC u0 s u) (hw : RM v0 s tk wn p w) : zK1 h u0 v0 (zf_CCCode_carryOut_26 N 108 x u) (zf_MMC_perform_0 N 108 x y w) := by
  rw [show zf_MMC_perform_0 N 108 x y w = zf_MMC_two_0 N 127 127 w from (show zf_MMC_perform_0 N 108 x y w = zbd (zbd (zbd (zf_MMC_two_0 N 127 127 w) zI) zI) zI from rfl).trans (by rw [zbdI, zbdI, zbdI])]
  exact zLine 2 127 127 (by decide) (by omega) hN X H hu (zPl_of hN (by decide +kernel : zPl 60 108 0 = some 65)) (by decide) cLn_65 (mTwo 127 127 (by decide) Y H hw)
theorem zPk_109 (hN : 1000 ≤ N) (X : CxC u0 b h lv) (Y : CxM v0 b h lv) (H : zOk h s) (hu : RC u0 s u) (hw : RM v0 s tk wn p w) : zK1 h u0 v0 (zf_CCCode_carryOut_26 N 109 x u) (zf_MMC_perform_0 N 109 x y w) := by
  rw [show zf_MMC_perform_0 N 109 x y w = zf_MMC_two_0 N 127 127 w from (show zf_MMC_perform_0 N 109 x y w = zbd (zbd (zbd (zf_MMC_two_0 N 127 127 w) zI) zI) zI from rfl).trans (by rw [zbdI, zbdI, zbdI])]
  exact zLine 2 127 127 (by decide) (by omega) hN X H hu (zPl_of hN (by decide +kernel : zPl 60 109 0 = some 65)) (by decide) cLn_65 (mTwo 127 127 (by decide) Y H hw)
theorem zPk_110 (hN : 1000 ≤ N) (X : CxC u0 b h lv) (Y : CxM v0 b h lv) (H : zOk h s) (hu : RC u0 s u) (hw : RM v0 s tk wn p w) : zK1 h u0 v0 (zf_CCCode_carryOut_26 N 110 x u) (zf_MMC_perform_0 N 110 x y w) := by
  rw [show zf_MMC_perform_0 N 110 x y w = zf_MMC_two_0 N 127 127 w from (show zf_MMC_perform_0 N 110 x y w = zbd (zbd (zbd (zf_MMC_two_0 N 127 127 w) zI) zI) zI from rfl).trans (by rw [zbdI, zbdI, zbdI])]
  exact zLine 2 127 127 (by decide) (by omega) hN X H hu (zPl_of hN (by decide +kernel : zPl 60 110 0 = some 65)) (by decide) cLn_65 (mTwo 127 127 (by decide) Y H hw)
theorem zPk_111 (hN : 1000 ≤ N) (X : CxC u0 b h lv) (Y : CxM v0 b h lv) (H : zOk h s) (hu : RC u0 s u) (hw : RM v0 s tk wn p w) : zK1 h u0 v0 (zf_CCCode_carryOut_26 N 111 x u) (zf_MMC_perform_0 N 111 x y w) := by
  rw [show zf_MMC_perform_0 N 111 x y w = zf_MMC_two_0 N 127 127 w from (show zf_MMC_perform_0 N 111 x y w = zbd (zbd (zbd (zf_MMC_two_0 N 127 127 w) zI) zI) zI from rfl).trans (by rw [zbdI, zbdI, zbdI])]
  exact zLine 2 127 127 (by decide) (by omega) hN X H hu (zPl_of hN (by decide +kernel : zPl 60 111 0 = some 65)) (by decide) cLn_65 (mTwo 127 127 (by decide) Y H hw)
theorem zPk_112 (hN : 1000 ≤ N) (X : CxC u0 b h lv) (Y : CxM v0 b h lv) (H : zOk h s) (hu : RC u0 s u) (hw : RM v0 s tk wn p w) : zK1 h u0 v0 (zf_CCCode_carryOut_26 N 112 x u) (zf_MMC_perform_0 N 112 x y w) := by
  rw [show zf_MMC_perform_0 N 112 x y w = zf_MMC_two_0 N 127 127 w from (show zf_MMC_perform_0 N 112 x y w = zbd (zbd (zbd (zf_MMC_two_0 N 127 127 w) zI) zI) zI from rfl).trans (by rw [zbdI, zbdI, zbdI])]
  exact zLine 2 127 127 (by decide) (by omega) hN X H hu (zPl_of hN (by decide +kernel : zPl 60 112 0 = some 65)) (by decide) cLn_65 (mTwo 127 127 (by decide) Y H hw)
theorem zPk_113 (hN : 1000 ≤ N) (X : CxC u0 b h lv) (Y : CxM v0 b h lv) (H : zOk h s) (hu : RC u0 s u) (hw : RM v0 s tk wn p w) : zK1 h u0 v0 (zf_CCCode_carryOut_26 N 113 x u) (zf_MMC_perform_0 N 113 x y w) := by
  rw [show zf_MMC_perform_0 N 113 x y w = zf_MMC_two_0 N 127 127 w from (show zf_MMC_perform_0 N 113 x y w = zbd (zbd (zbd (zf_MMC_two_0 N 127 127 w) zI) zI) zI from rfl).trans (by rw [zbdI, zbdI, zbdI])]
  exact zLine 2 127 127 (by decide) (by omega) hN X H hu (zPl_of hN (by decide +kernel : zPl 60 113 0 = some 65)) (by decide) cLn_65 (mTwo 127 127 (by decide) Y H hw)
theorem zPk_114 (hN : 1000 ≤ N) (X : CxC u0 b h lv) (Y : CxM v0 b h lv) (H : zOk h s) (hu : RC u0 s u) (hw : RM v0 s tk wn p w) : zK1 h u0 v0 (zf_CCCode_carryOut_26 N 114 x u) (zf_MMC_perform_0 N 114 x y w) := by
  rw [show zf_MMC_perform_0 N 114 x y w = zf_MMC_two_0 N 127 127 w from (show zf_MMC_perform_0 N 114 x y w = zbd (zbd (zbd (zf_MMC_two_0 N 127 127 w) zI) zI) zI from rfl).trans (by rw [zbdI, zbdI, zbdI])]
  exact zLine 2 127 127 (by decide) (by omega) hN X H hu (zPl_of hN (by decide +kernel : zPl 60 114 0 = some 65)) (by decide) cLn_65 (mTwo 127 127 (by decide) Y H hw)
theorem zPk_115 (hN : 1000 ≤ N) (X : CxC u0 b h lv) (Y : CxM v0 b h lv) (H : zOk h s) (hu : RC u0 s u) (hw : RM v0 s tk wn p w) : zK1 h u0 v0 (zf_CCCode_carryOut_26 N 115 x u) (zf_MMC_perform_0 N 115 x y w) := by
  rw [show zf_MMC_perform_0 N 115 x y w = zf_MMC_two_0 N 127 127 w from (show zf_MMC_perform_0 N 115 x y w = zbd (zbd (zbd (zf_MMC_two_0 N 127 127 w) zI) zI) zI from rfl).trans (by rw [zbdI, zbdI, zbdI])]
  exact zLine 2 127 127 (by decide) (by omega) hN X H hu (zPl_of hN (by decide +kernel : zPl 60 115 0 = some 65)) (by decide) cLn_65 (mTwo 127 127 (by decide) Y H hw)
theorem zPk_116 (hN : 1000 ≤ N) (X : CxC u0 b h lv) (Y : CxM v0 b h lv) (H : zOk h s) (hu : RC u0 s u) (hw : RM v0 s tk wn p w) : zK1 h u0 v0 (zf_CCCode_carryOut_26 N 116 x u) (zf_MMC_perform_0 N 116 x y w) := by
  rw [show zf_MMC_perform_0 N 116 x y w = zf_MMC_two_0 N 127 127 w from (show zf_MMC_perform_0 N 116 x y w = zbd (zbd (zbd (zf_MMC_two_0 N 127 127 w) zI) zI) zI from rfl).trans (by rw [zbdI, zbdI, zbdI])]
  exact zLine 2 127 127 (by decide) (by omega) hN X H hu (zPl_of hN (by decide +kernel : zPl 60 116 0 = some 65)) (by decide) cLn_65 (mTwo 127 127 (by decide) Y H hw)
theorem zPk_117 (hN : 1000 ≤ N) (X : CxC u0 b h lv) (Y : CxM v0 b h lv) (H : zOk h s) (hu : RC u0 s u) (hw : RM v0 s tk wn p w) : zK1 h u0 v0 (zf_CCCode_carryOut_26 N 117 x u) (zf_MMC_perform_0 N 117 x y w) := by
  rw [show zf_MMC_perform_0 N 117 x y w = zf_MMC_two_0 N 127 127 w from (show zf_MMC_perform_0 N 117 x y w = zbd (zbd (zbd (zf_MMC_two_0 N 127 127 w) zI) zI) zI from rfl).trans (by rw [zbdI, zbdI, zbdI])]
  exact zLine 2 127 127 (by decide) (by omega) hN X H hu (zPl_of hN (by decide +kernel : zPl 60 117 0 = some 65)) (by decide) cLn_65 (mTwo 127 127 (by decide) Y H hw)
theorem zPk_118 (hN : 1000 ≤ N) (X : CxC u0 b h lv) (Y : CxM v0 b h lv) (H : zOk h s) (hu : RC u0 s u) (hw : RM v0 s tk wn p w) : zK1 h u0 v0 (zf_CCCode_carryOut_26 N 118 x u) (zf_MMC_perform_0 N 118 x y w) := by
  rw [show zf_MMC_perform_0 N 118 x y w = zf_MMC_two_0 N 127 127 w from (show zf_MMC_perform_0 N 118 x y w = zbd (zbd (zbd (zf_MMC_two_0 N 127 127 w) zI) zI) zI from rfl).trans (by rw [zbdI, zbdI, zbdI])]
  exact zLine 2 127 127 (by decide) (by omega) hN X H hu (zPl_of hN (by decide +kernel : zPl 60 118 0 = some 65)) (by decide) cLn_65 (mTwo 127 127 (by decide) Y H hw)
theorem zPk_119 (hN : 1000 ≤ N) (X : CxC u0 b h lv) (Y : CxM v0 b h lv) (H : zOk h s) (hu : RC u0 s u) (hw : RM v0 s tk wn p w) : zK1 h u0 v0 (zf_CCCode_carryOut_26 N 119 x u) (zf_MMC_perform_0 N 119 x y w) := by
  rw [show zf_MMC_perform_0 N 119 x y w = zf_MMC_two_0 N 127 127 w from (show zf_MMC_perform_0 N 119 x y w = zbd (zbd (zbd (zf_MMC_two_0 N 127 127 w) zI) zI) zI from rfl).trans (by rw [zbdI, zbdI, zbdI])]
  exact zLine 2 127 127 (by decide) (by omega) hN X H hu (zPl_of hN (by decide +kernel : zPl 60 119 0 = some 65)) (by decide) cLn_65 (mTwo 127 127 (by decide) Y H hw)
theorem zPk_120 (hN : 1000 ≤ N) (X : CxC u0 b h lv) (Y : CxM v0 b h lv) (H : zOk h s) (hu : RC u0 s u) (hw : RM v0 s tk wn p w) : zK1 h u0 v0 (zf_CCCode_carryOut_26 N 120 x u) (zf_MMC_perform_0 N 120 x y w) := by
  rw [show zf_MMC_perform_0 N 120 x y w = zf_MMC_two_0 N 127 127 w from (show zf_MMC_perform_0 N 120 x y w = zbd (zbd (zbd (zf_MMC_two_0 N 127 127 w) zI) zI) zI from rfl).trans (by rw [zbdI, zbdI, zbdI])]
  exact zLine 2 127 127 (by decide) (by omega) hN X H hu (zPl_of hN (by decide +kernel : zPl 60 120 0 = some 65)) (by decide) cLn_65 (mTwo 127 127 (by decide) Y H hw)
theorem zPk_121 (hN : 1000 ≤ N) (X : CxC u0 b h lv) (Y : CxM v0 b h lv) (H : zOk h s) (hu : RC u0 s u) (hw : RM v0 s tk wn p w) : zK1 h u0 v0 (zf_CCCode_carryOut_26 N 121 x u) (zf_MMC_perform_0 N 121 x y w) := by
  rw [show zf_MMC_perform_0 N 121 x y w = zf_MMC_one_0 N 126 126 w from (show zf_MMC_perform_0 N 121 x y w = zbd (zbd (zbd (zf_MMC_one_0 N 126 126 w) zI) zI) zI from rfl).trans (by rw [zbdI, zbdI, zbdI])]
  exact zLine 1 126 126 (by decide) (by omega) hN X H hu (zPl_of hN (by decide +kernel : zPl 60 121 0 = some 70)) (by decide) cLn_70 (mOne 126 126 (by decide) Y H hw)
theorem zPk_122 (hN : 1000 ≤ N) (X : CxC u0 b h lv) (Y : CxM v0 b h lv) (H : zOk h s) (hu : RC u0 s u) (hw : RM v0 s tk wn p w) : zK1 h u0 v0 (zf_CCCode_carryOut_26 N 122 x u) (zf_MMC_perform_0 N 122 x y w) := by
  rw [show zf_MMC_perform_0 N 122 x y w = zf_MMC_one_0 N 126 126 w from (show zf_MMC_perform_0 N 122 x y w = zbd (zbd (zbd (zf_MMC_one_0 N 126 126 w) zI) zI) zI from rfl).trans (by rw [zbdI, zbdI, zbdI])]
  exact zLine 1 126 126 (by decide) (by omega) hN X H hu (zPl_of hN (by decide +kernel : zPl 60 122 0 = some 70)) (by decide) cLn_70 (mOne 126 126 (by decide) Y H hw)
theorem zPk_123 (hN : 1000 ≤ N) (X : CxC u0 b h lv) (Y : CxM v0 b h lv) (H : zOk h s) (hu : RC u0 s u) (hw : RM v0 s tk wn p w) : zK1 h u0 v0 (zf_CCCode_carryOut_26 N 123 x u) (zf_MMC_perform_0 N 123 x y w) := by
  rw [show zf_MMC_perform_0 N 123 x y w = zf_MMC_one_0 N 126 126 w from (show zf_MMC_perform_0 N 123 x y w = zbd (zbd (zbd (zf_MMC_one_0 N 126 126 w) zI) zI) zI from rfl).trans (by rw [zbdI, zbdI, zbdI])]
  exact zLine 1 126 126 (by decide) (by omega) hN X H hu (zPl_of hN (by decide +kernel : zPl 60 123 0 = some 70)) (by decide) cLn_70 (mOne 126 126 (by decide) Y H hw)
theorem zPk_124 (hN : 1000 ≤ N) (X : CxC u0 b h lv) (Y : CxM v0 b h lv) (H : zOk h s) (hu : RC u0 s u) (hw : RM v0 s tk wn p w) : zK1 h u0 v0 (zf_CCCode_carryOut_26 N 124 x u) (zf_MMC_perform_0 N 124 x y w) := by
  rw [show zf_MMC_perform_0 N 124 x y w = zf_MMC_two_0 N 126 126 w from (show zf_MMC_perform_0 N 124 x y w = zbd (zbd (zbd (zf_MMC_two_0 N 126 126 w) zI) zI) zI from rfl).trans (by rw [zbdI, zbdI, zbdI])]
  exact zLine 2 126 126 (by decide) (by omega) hN X H hu (zPl_of hN (by decide +kernel : zPl 60 124 0 = some 75)) (by decide) cLn_75 (mTwo 126 126 (by decide) Y H hw)
theorem zPk_125 (hN : 1000 ≤ N) (X : CxC u0 b h lv) (Y : CxM v0 b h lv) (H : zOk h s) (hu : RC u0 s u) (hw : RM v0 s tk wn p w) : zK1 h u0 v0 (zf_CCCode_carryOut_26 N 125 x u) (zf_MMC_perform_0 N 125 x y w) := by
  rw [show zf_MMC_perform_0 N 125 x y w = zf_MMC_two_0 N 126 126 w from (show zf_MMC_perform_0 N 125 x y w = zbd (zbd (zbd (zf_MMC_two_0 N 126 126 w) zI) zI) zI from rfl).trans (by rw [zbdI, zbdI, zbdI])]
  exact zLine 2 126 126 (by decide) (by omega) hN X H hu (zPl_of hN (by decide +kernel : zPl 60 125 0 = some 75)) (by decide) cLn_75 (mTwo 126 126 (by decide) Y H hw)
theorem zPk_126 (hN : 1000 ≤ N) (X : CxC u0 b h lv) (Y : CxM v0 b h lv) (H : zOk h s) (hu : RC u0 s u) (hw : RM v0 s tk wn p w) : zK1 h u0 v0 (zf_CCCode_carryOut_26 N 126 x u) (zf_MMC_perform_0 N 126 x y w) := by
  rw [show zf_MMC_perform_0 N 126 x y w = zf_MMC_two_0 N 126 126 w from (show zf_MMC_perform_0 N 126 x y w = zbd (zbd (zbd (zf_MMC_two_0 N 126 126 w) zI) zI) zI from rfl).trans (by rw [zbdI, zbdI, zbdI])]
  exact zLine 2 126 126 (by decide) (by omega) hN X H hu (zPl_of hN (by decide +kernel : zPl 60 126 0 = some 75)) (by decide) cLn_75 (mTwo 126 126 (by decide) Y H hw)
theorem zPk_127 (hN : 1000 ≤ N) (X : CxC u0 b h lv) (Y : CxM v0 b h lv) (H : zOk h s) (hu : RC u0 s u) (hw : RM v0 s tk wn p w) : zK1 h u0 v0 (zf_CCCode_carryOut_26 N 127 x u) (zf_MMC_perform_0 N 127 x y w) := by
  rw [show zf_MMC_perform_0 N 127 x y w = zf_MMC_two_0 N 126 126 w from (show zf_MMC_perform_0 N 127 x y w = zbd (zbd (zbd (zf_MMC_two_0 N 126 126 w) zI) zI) zI from rfl).trans (by rw [zbdI, zbdI, zbdI])]
  exact zLine 2 126 126 (by decide) (by omega) hN X H hu (zPl_of hN (by decide +kernel : zPl 60 127 0 = some 75)) (by decide) cLn_75 (mTwo 126 126 (by decide) Y H hw)
theorem zPk_128 (hN : 1000 ≤ N) (X : CxC u0 b h lv) (Y : CxM v0 b h lv) (H : zOk h s) (hu : RC u0 s u) (hw : RM v0 s tk wn p w) : zK1 h u0 v0 (zf_CCCode_carryOut_26 N 128 x u) (zf_MMC_perform_0 N 128 x y w) := by
  rw [show zf_MMC_perform_0 N 128 x y w = zf_MMC_two_0 N 126 126 w from (show zf_MMC_perform_0 N 128 x y w = zbd (zbd (zbd (zf_MMC_two_0 N 126 126 w) zI) zI) zI from rfl).trans (by rw [zbdI, zbdI, zbdI])]
  exact zLine 2 126 126 (by decide) (by omega) hN X H hu (zPl_of hN (by decide +kernel : zPl 60 128 0 = some 75)) (by decide) cLn_75 (mTwo 126 126 (by decide) Y H hw)
theorem zPk_129 (hN : 1000 ≤ N) (X : CxC u0 b h lv) (Y : CxM v0 b h lv) (H : zOk h s) (hu : RC u0 s u) (hw : RM v0 s tk wn p w) : zK1 h u0 v0 (zf_CCCode_carryOut_26 N 129 x u) (zf_MMC_perform_0 N 129 x y w) := by
  rw [show zf_MMC_perform_0 N 129 x y w = zf_MMC_two_0 N 126 126 w from (show zf_MMC_perform_0 N 129 x y w = zbd (zbd (zbd (zf_MMC_two_0 N 126 126 w) zI) zI) zI from rfl).trans (by rw [zbdI, zbdI, zbdI])]
  exact zLine 2 126 126 (by decide) (by omega) hN X H hu (zPl_of hN (by decide +kernel : zPl 60 129 0 = some 75)) (by decide) cLn_75 (mTwo 126 126 (by decide) Y H hw)
theorem zPk_130 (hN : 1000 ≤ N) (X : CxC u0 b h lv) (Y : CxM v0 b h lv) (H : zOk h s) (hu : RC u0 s u) (hw : RM v0 s tk wn p w) : zK1 h u0 v0 (zf_CCCode_carryOut_26 N 130 x u) (zf_MMC_perform_0 N 130 x y w) := by
  rw [show zf_MMC_perform_0 N 130 x y w = zf_MMC_two_0 N 126 126 w from (show zf_MMC_perform_0 N 130 x y w = zbd (zbd (zbd (zf_MMC_two_0 N 126 126 w) zI) zI) zI from rfl).trans (by rw [zbdI, zbdI, zbdI])]
  exact zLine 2 126 126 (by decide) (by omega) hN X H hu (zPl_of hN (by decide +kernel : zPl 60 130 0 = some 75)) (by decide) cLn_75 (mTwo 126 126 (by decide) Y H hw)
theorem zPk_131 (hN : 1000 ≤ N) (X : CxC u0 b h lv) (Y : CxM v0 b h lv) (H : zOk h s) (hu : RC u0 s u) (hw : RM v0 s tk wn p w) : zK1 h u0 v0 (zf_CCCode_carryOut_26 N 131 x u) (zf_MMC_perform_0 N 131 x y w) := by
  rw [show zf_MMC_perform_0 N 131 x y w = zf_MMC_two_0 N 126 126 w from (show zf_MMC_perform_0 N 131 x y w = zbd (zbd (zbd (zf_MMC_two_0 N 126 126 w) zI) zI) zI from rfl).trans (by rw [zbdI, zbdI, zbdI])]
  exact zLine 2 126 126 (by decide) (by omega) hN X H hu (zPl_of hN (by decide +kernel : zPl 60 131 0 = some 75)) (by decide) cLn_75 (mTwo 126 126 (by decide) Y H hw)
theorem zPk_132 (hN : 1000 ≤ N) (X : CxC u0 b h lv) (Y : CxM v0 b h lv) (H : zOk h s) (hu : RC u0 s u) (hw : RM v0 s tk wn p w) : zK1 h u0 v0 (zf_CCCode_carryOut_26 N 132 x u) (zf_MMC_perform_0 N 132 x y w) := by
  rw [show zf_MMC_perform_0 N 132 x y w = zf_MMC_two_0 N 126 126 w from (show zf_MMC_perform_0 N 132 x y w = zbd (zbd (zbd (zf_MMC_two_0 N 126 126 w) zI) zI) zI from rfl).trans (by rw [zbdI, zbdI, zbdI])]
  exact zLine 2 126 126 (by decide) (by omega) hN X H hu (zPl_of hN (by decide +kernel : zPl 60 132 0 = some 75)) (by decide) cLn_75 (mTwo 126 126 (by decide) Y H hw)
theorem zPk_133 (hN : 1000 ≤ N) (X : CxC u0 b h lv) (Y : CxM v0 b h lv) (H : zOk h s) (hu : RC u0 s u) (hw : RM v0 s tk wn p w) : zK1 h u0 v0 (zf_CCCode_carryOut_26 N 133 x u) (zf_MMC_perform_0 N 133 x y w) := by
  rw [show zf_MMC_perform_0 N 133 x y w = zf_MMC_two_0 N 126 126 w from (show zf_MMC_perform_0 N 133 x y w = zbd (zbd (zbd (zf_MMC_two_0 N 126 126 w) zI) zI) zI from rfl).trans (by rw [zbdI, zbdI, zbdI])]
  exact zLine 2 126 126 (by decide) (by omega) hN X H hu (zPl_of hN (by decide +kernel : zPl 60 133 0 = some 75)) (by decide) cLn_75 (mTwo 126 126 (by decide) Y H hw)
theorem zPk_134 (hN : 1000 ≤ N) (X : CxC u0 b h lv) (Y : CxM v0 b h lv) (H : zOk h s) (hu : RC u0 s u) (hw : RM v0 s tk wn p w) : zK1 h u0 v0 (zf_CCCode_carryOut_26 N 134 x u) (zf_MMC_perform_0 N 134 x y w) := by
  rw [show zf_MMC_perform_0 N 134 x y w = zf_MMC_two_0 N 126 126 w from (show zf_MMC_perform_0 N 134 x y w = zbd (zbd (zbd (zf_MMC_two_0 N 126 126 w) zI) zI) zI from rfl).trans (by rw [zbdI, zbdI, zbdI])]
  exact zLine 2 126 126 (by decide) (by omega) hN X H hu (zPl_of hN (by decide +kernel : zPl 60 134 0 = some 75)) (by decide) cLn_75 (mTwo 126 126 (by decide) Y H hw)
theorem zPk_135 (hN : 1000 ≤ N) (X : CxC u0 b h lv) (Y : CxM v0 b h lv) (H : zOk h s) (hu : RC u0 s u) (hw : RM v0 s tk wn p w) : zK1 h u0 v0 (zf_CCCode_carryOut_26 N 135 x u) (zf_MMC_perform_0 N 135 x y w) := by
  rw [show zf_MMC_perform_0 N 135 x y w = zf_MMC_two_0 N 126 126 w from (show zf_MMC_perform_0 N 135 x y w = zbd (zbd (zbd (zf_MMC_two_0 N 126 126 w) zI) zI) zI from rfl).trans (by rw [zbdI, zbdI, zbdI])]
  exact zLine 2 126 126 (by decide) (by omega) hN X H hu (zPl_of hN (by decide +kernel : zPl 60 135 0 = some 75)) (by decide) cLn_75 (mTwo 126 126 (by decide) Y H hw)
theorem zPk_136 (hN : 1000 ≤ N) (X : CxC u0 b h lv) (Y : CxM v0 b h lv) (H : zOk h s) (hu : RC u0 s u) (hw : RM v0 s tk wn p w) : zK1 h u0 v0 (zf_CCCode_carryOut_26 N 136 x u) (zf_MMC_perform_0 N 136 x y w) := by
  rw [show zf_MMC_perform_0 N 136 x y w = zf_MMC_two_0 N 126 126 w from (show zf_MMC_perform_0 N 136 x y w = zbd (zbd (zbd (zf_MMC_two_0 N 126 126 w) zI) zI) zI from rfl).trans (by rw [zbdI, zbdI, zbdI])]
  exact zLine 2 126 126 (by decide) (by omega) hN X H hu (zPl_of hN (by decide +kernel : zPl 60 136 0 = some 75)) (by decide) cLn_75 (mTwo 126 126 (by decide) Y H hw)
theorem zPk_137 (hN : 1000 ≤ N) (X : CxC u0 b h lv) (Y : CxM v0 b h lv) (H : zOk h s) (hu : RC u0 s u) (hw : RM v0 s tk wn p w) : zK1 h u0 v0 (zf_CCCode_carryOut_26 N 137 x u) (zf_MMC_perform_0 N 137 x y w) := by
  rw [show zf_MMC_perform_0 N 137 x y w = zf_MMC_two_0 N 126 126 w from (show zf_MMC_perform_0 N 137 x y w = zbd (zbd (zbd (zf_MMC_two_0 N 126 126 w) zI) zI) zI from rfl).trans (by rw [zbdI, zbdI, zbdI])]
  exact zLine 2 126 126 (by decide) (by omega) hN X H hu (zPl_of hN (by decide +kernel : zPl 60 137 0 = some 75)) (by decide) cLn_75 (mTwo 126 126 (by decide) Y H hw)
end PK
