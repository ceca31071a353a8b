section PK
variable {N b h : Nat} {lv : Bool} {u0 v0 : zU} {s : zS} {tk : Int32} {wn : Nat} {p : Nat → Int32} {u w : zU} {x y : Int32}
theorem zPk_138 (hN : 1000 ≤ N) (X : CxC u0 b h lv) (Y : CxM v0 b h lv) (H : zOk h s) (hu : RC u0 s u) (hw : RM v0 s tk wn p w) : zK1 h u0 v0 (zf_CCCode_carryOut_26 N 138 x u) (zf_MMC_perform_0 N 138 x y w) := by
  rw [show zf_MMC_perform_0 N 138 x y w = zf_MMC_two_0 N 126 126 w from (show zf_MMC_perform_0 N 138 x y w = zbd (zbd (zbd (zf_MMC_two_0 N 126 126 w) zI) zI) zI from rfl).trans (by rw [zbdI, zbdI, zbdI])]
  exact zLine 2 126 126 (by decide) (by omega) hN X H hu (zPl_of hN (by decide +kernel : zPl 60 138 0 = some 75)) (by decide) cLn_75 (mTwo 126 126 (by decide) Y H hw)
theorem zPk_139 (hN : 1000 ≤ N) (X : CxC u0 b h lv) (Y : CxM v0 b h lv) (H : zOk h s) (hu : RC u0 s u) (hw : RM v0 s tk wn p w) : zK1 h u0 v0 (zf_CCCode_carryOut_26 N 139 x u) (zf_MMC_perform_0 N 139 x y w) := by
  rw [show zf_MMC_perform_0 N 139 x y w = zf_MMC_one_0 N 125 125 w from (show zf_MMC_perform_0 N 139 x y w = zbd (zbd (zbd (zf_MMC_one_0 N 125 125 w) zI) zI) zI from rfl).trans (by rw [zbdI, zbdI, zbdI])]
  exact zLine 1 125 125 (by decide) (by omega) hN X H hu (zPl_of hN (by decide +kernel : zPl 60 139 0 = some 80)) (by decide) cLn_80 (mOne 125 125 (by decide) Y H hw)
theorem zPk_140 (hN : 1000 ≤ N) (X : CxC u0 b h lv) (Y : CxM v0 b h lv) (H : zOk h s) (hu : RC u0 s u) (hw : RM v0 s tk wn p w) : zK1 h u0 v0 (zf_CCCode_carryOut_26 N 140 x u) (zf_MMC_perform_0 N 140 x y w) := by
  rw [show zf_MMC_perform_0 N 140 x y w = zf_MMC_one_0 N 125 125 w from (show zf_MMC_perform_0 N 140 x y w = zbd (zbd (zbd (zf_MMC_one_0 N 125 125 w) zI) zI) zI from rfl).trans (by rw [zbdI, zbdI, zbdI])]
  exact zLine 1 125 125 (by decide) (by omega) hN X H hu (zPl_of hN (by decide +kernel : zPl 60 140 0 = some 80)) (by decide) cLn_80 (mOne 125 125 (by decide) Y H hw)
theorem zPk_141 (hN : 1000 ≤ N) (X : CxC u0 b h lv) (Y : CxM v0 b h lv) (H : zOk h s) (hu : RC u0 s u) (hw : RM v0 s tk wn p w) : zK1 h u0 v0 (zf_CCCode_carryOut_26 N 141 x u) (zf_MMC_perform_0 N 141 x y w) := by
  rw [show zf_MMC_perform_0 N 141 x y w = zf_MMC_one_0 N 125 125 w from (show zf_MMC_perform_0 N 141 x y w = zbd (zbd (zbd (zf_MMC_one_0 N 125 125 w) zI) zI) zI from rfl).trans (by rw [zbdI, zbdI, zbdI])]
  exact zLine 1 125 125 (by decide) (by omega) hN X H hu (zPl_of hN (by decide +kernel : zPl 60 141 0 = some 80)) (by decide) cLn_80 (mOne 125 125 (by decide) Y H hw)
theorem zPk_142 (hN : 1000 ≤ N) (X : CxC u0 b h lv) (Y : CxM v0 b h lv) (H : zOk h s) (hu : RC u0 s u) (hw : RM v0 s tk wn p w) : zK1 h u0 v0 (zf_CCCode_carryOut_26 N 142 x u) (zf_MMC_perform_0 N 142 x y w) := by
  rw [show zf_MMC_perform_0 N 142 x y w = zf_MMC_one_0 N 125 125 w from (show zf_MMC_perform_0 N 142 x y w = zbd (zbd (zbd (zf_MMC_one_0 N 125 125 w) zI) zI) zI from rfl).trans (by rw [zbdI, zbdI, zbdI])]
  exact zLine 1 125 125 (by decide) (by omega) hN X H hu (zPl_of hN (by decide +kernel : zPl 60 142 0 = some 80)) (by decide) cLn_80 (mOne 125 125 (by decide) Y H hw)
theorem zPk_143 (hN : 1000 ≤ N) (X : CxC u0 b h lv) (Y : CxM v0 b h lv) (H : zOk h s) (hu : RC u0 s u) (hw : RM v0 s tk wn p w) : zK1 h u0 v0 (zf_CCCode_carryOut_26 N 143 x u) (zf_MMC_perform_0 N 143 x y w) := by
  rw [show zf_MMC_perform_0 N 143 x y w = zf_MMC_one_0 N 125 125 w from (show zf_MMC_perform_0 N 143 x y w = zbd (zbd (zbd (zf_MMC_one_0 N 125 125 w) zI) zI) zI from rfl).trans (by rw [zbdI, zbdI, zbdI])]
  exact zLine 1 125 125 (by decide) (by omega) hN X H hu (zPl_of hN (by decide +kernel : zPl 60 143 0 = some 80)) (by decide) cLn_80 (mOne 125 125 (by decide) Y H hw)
theorem zPk_144 (hN : 1000 ≤ N) (X : CxC u0 b h lv) (Y : CxM v0 b h lv) (H : zOk h s) (hu : RC u0 s u) (hw : RM v0 s tk wn p w) : zK1 h u0 v0 (zf_CCCode_carryOut_26 N 144 x u) (zf_MMC_perform_0 N 144 x y w) := by
  rw [show zf_MMC_perform_0 N 144 x y w = zf_MMC_one_0 N 125 125 w from (show zf_MMC_perform_0 N 144 x y w = zbd (zbd (zbd (zf_MMC_one_0 N 125 125 w) zI) zI) zI from rfl).trans (by rw [zbdI, zbdI, zbdI])]
  exact zLine 1 125 125 (by decide) (by omega) hN X H hu (zPl_of hN (by decide +kernel : zPl 60 144 0 = some 80)) (by decide) cLn_80 (mOne 125 125 (by decide) Y H hw)
theorem zPk_145 (hN : 1000 ≤ N) (X : CxC u0 b h lv) (Y : CxM v0 b h lv) (H : zOk h s) (hu : RC u0 s u) (hw : RM v0 s tk wn p w) : zK1 h u0 v0 (zf_CCCode_carryOut_26 N 145 x u) (zf_MMC_perform_0 N 145 x y w) := by
  rw [show zf_MMC_perform_0 N 145 x y w = zf_MMC_one_0 N 125 125 w from (show zf_MMC_perform_0 N 145 x y w = zbd (zbd (zbd (zf_MMC_one_0 N 125 125 w) zI) zI) zI from rfl).trans (by rw [zbdI, zbdI, zbdI])]
  exact zLine 1 125 125 (by decide) (by omega) hN X H hu (zPl_of hN (by decide +kernel : zPl 60 145 0 = some 80)) (by decide) cLn_80 (mOne 125 125 (by decide) Y H hw)
theorem zPk_146 (hN : 1000 ≤ N) (X : CxC u0 b h lv) (Y : CxM v0 b h lv) (H : zOk h s) (hu : RC u0 s u) (hw : RM v0 s tk wn p w) : zK1 h u0 v0 (zf_CCCode_carryOut_26 N 146 x u) (zf_MMC_perform_0 N 146 x y w) := by
  rw [show zf_MMC_perform_0 N 146 x y w = zf_MMC_two_0 N 125 125 w from (show zf_MMC_perform_0 N 146 x y w = zbd (zbd (zbd (zf_MMC_two_0 N 125 125 w) zI) zI) zI from rfl).trans (by rw [zbdI, zbdI, zbdI])]
  exact zLine 2 125 125 (by decide) (by omega) hN X H hu (zPl_of hN (by decide +kernel : zPl 60 146 0 = some 85)) (by decide) cLn_85 (mTwo 125 125 (by decide) Y H hw)
theorem zPk_147 (hN : 1000 ≤ N) (X : CxC u0 b h lv) (Y : CxM v0 b h lv) (H : zOk h s) (hu : RC u0 s u) (hw : RM v0 s tk wn p w) : zK1 h u0 v0 (zf_CCCode_carryOut_26 N 147 x u) (zf_MMC_perform_0 N 147 x y w) := by
  rw [show zf_MMC_perform_0 N 147 x y w = zf_MMC_two_0 N 125 125 w from (show zf_MMC_perform_0 N 147 x y w = zbd (zbd (zbd (zf_MMC_two_0 N 125 125 w) zI) zI) zI from rfl).trans (by rw [zbdI, zbdI, zbdI])]
  exact zLine 2 125 125 (by decide) (by omega) hN X H hu (zPl_of hN (by decide +kernel : zPl 60 147 0 = some 85)) (by decide) cLn_85 (mTwo 125 125 (by decide) Y H hw)
theorem zPk_148 (hN : 1000 ≤ N) (X : CxC u0 b h lv) (Y : CxM v0 b h lv) (H : zOk h s) (hu : RC u0 s u) (hw : RM v0 s tk wn p w) : zK1 h u0 v0 (zf_CCCode_carryOut_26 N 148 x u) (zf_MMC_perform_0 N 148 x y w) := by
  rw [show zf_MMC_perform_0 N 148 x y w = zf_MMC_two_0 N 125 125 w from (show zf_MMC_perform_0 N 148 x y w = zbd (zbd (zbd (zf_MMC_two_0 N 125 125 w) zI) zI) zI from rfl).trans (by rw [zbdI, zbdI, zbdI])]
  exact zLine 2 125 125 (by decide) (by omega) hN X H hu (zPl_of hN (by decide +kernel : zPl 60 148 0 = some 85)) (by decide) cLn_85 (mTwo 125 125 (by decide) Y H hw)
theorem zPk_149 (hN : 1000 ≤ N) (X : CxC u0 b h lv) (Y : CxM v0 b h lv) (H : zOk h s) (hu : RC u0 s u) (hw : RM v0 s tk wn p w) : zK1 h u0 v0 (zf_CCCode_carryOut_26 N 149 x u) (zf_MMC_perform_0 N 149 x y w) := by
  rw [show zf_MMC_perform_0 N 149 x y w = zf_MMC_two_0 N 125 125 w from (show zf_MMC_perform_0 N 149 x y w = zbd (zbd (zbd (zf_MMC_two_0 N 125 125 w) zI) zI) zI from rfl).trans (by rw [zbdI, zbdI, zbdI])]
  exact zLine 2 125 125 (by decide) (by omega) hN X H hu (zPl_of hN (by decide +kernel : zPl 60 149 0 = some 85)) (by decide) cLn_85 (mTwo 125 125 (by decide) Y H hw)
theorem zPk_150 (hN : 1000 ≤ N) (X : CxC u0 b h lv) (Y : CxM v0 b h lv) (H : zOk h s) (hu : RC u0 s u) (hw : RM v0 s tk wn p w) : zK1 h u0 v0 (zf_CCCode_carryOut_26 N 150 x u) (zf_MMC_perform_0 N 150 x y w) := by
  rw [show zf_MMC_perform_0 N 150 x y w = zf_MMC_two_0 N 125 125 w from (show zf_MMC_perform_0 N 150 x y w = zbd (zbd (zbd (zf_MMC_two_0 N 125 125 w) zI) zI) zI from rfl).trans (by rw [zbdI, zbdI, zbdI])]
  exact zLine 2 125 125 (by decide) (by omega) hN X H hu (zPl_of hN (by decide +kernel : zPl 60 150 0 = some 85)) (by decide) cLn_85 (mTwo 125 125 (by decide) Y H hw)
theorem zPk_151 (hN : 1000 ≤ N) (X : CxC u0 b h lv) (Y : CxM v0 b h lv) (H : zOk h s) (hu : RC u0 s u) (hw : RM v0 s tk wn p w) : zK1 h u0 v0 (zf_CCCode_carryOut_26 N 151 x u) (zf_MMC_perform_0 N 151 x y w) := by
  rw [show zf_MMC_perform_0 N 151 x y w = zf_MMC_two_0 N 125 125 w from (show zf_MMC_perform_0 N 151 x y w = zbd (zbd (zbd (zf_MMC_two_0 N 125 125 w) zI) zI) zI from rfl).trans (by rw [zbdI, zbdI, zbdI])]
  exact zLine 2 125 125 (by decide) (by omega) hN X H hu (zPl_of hN (by decide +kernel : zPl 60 151 0 = some 85)) (by decide) cLn_85 (mTwo 125 125 (by decide) Y H hw)
theorem zPk_152 (hN : 1000 ≤ N) (X : CxC u0 b h lv) (Y : CxM v0 b h lv) (H : zOk h s) (hu : RC u0 s u) (hw : RM v0 s tk wn p w) : zK1 h u0 v0 (zf_CCCode_carryOut_26 N 152 x u) (zf_MMC_perform_0 N 152 x y w) := by
  rw [show zf_MMC_perform_0 N 152 x y w = zf_MMC_two_0 N 125 125 w from (show zf_MMC_perform_0 N 152 x y w = zbd (zbd (zbd (zf_MMC_two_0 N 125 125 w) zI) zI) zI from rfl).trans (by rw [zbdI, zbdI, zbdI])]
  exact zLine 2 125 125 (by decide) (by omega) hN X H hu (zPl_of hN (by decide +kernel : zPl 60 152 0 = some 85)) (by decide) cLn_85 (mTwo 125 125 (by decide) Y H hw)
theorem zPk_153 (hN : 1000 ≤ N) (X : CxC u0 b h lv) (Y : CxM v0 b h lv) (H : zOk h s) (hu : RC u0 s u) (hw : RM v0 s tk wn p w) : zK1 h u0 v0 (zf_CCCode_carryOut_26 N 153 x u) (zf_MMC_perform_0 N 153 x y w) := by
  rw [show zf_MMC_perform_0 N 153 x y w = zf_MMC_one_0 N 124 124 w from (show zf_MMC_perform_0 N 153 x y w = zbd (zbd (zbd (zf_MMC_one_0 N 124 124 w) zI) zI) zI from rfl).trans (by rw [zbdI, zbdI, zbdI])]
  exact zLine 1 124 124 (by decide) (by omega) hN X H hu (zPl_of hN (by decide +kernel : zPl 60 153 0 = some 90)) (by decide) cLn_90 (mOne 124 124 (by decide) Y H hw)
theorem zPk_154 (hN : 1000 ≤ N) (X : CxC u0 b h lv) (Y : CxM v0 b h lv) (H : zOk h s) (hu : RC u0 s u) (hw : RM v0 s tk wn p w) : zK1 h u0 v0 (zf_CCCode_carryOut_26 N 154 x u) (zf_MMC_perform_0 N 154 x y w) := by
  rw [show zf_MMC_perform_0 N 154 x y w = zf_MMC_one_0 N 124 124 w from (show zf_MMC_perform_0 N 154 x y w = zbd (zbd (zbd (zf_MMC_one_0 N 124 124 w) zI) zI) zI from rfl).trans (by rw [zbdI, zbdI, zbdI])]
  exact zLine 1 124 124 (by decide) (by omega) hN X H hu (zPl_of hN (by decide +kernel : zPl 60 154 0 = some 90)) (by decide) cLn_90 (mOne 124 124 (by decide) Y H hw)
theorem zPk_155 (hN : 1000 ≤ N) (X : CxC u0 b h lv) (Y : CxM v0 b h lv) (H : zOk h s) (hu : RC u0 s u) (hw : RM v0 s tk wn p w) : zK1 h u0 v0 (zf_CCCode_carryOut_26 N 155 x u) (zf_MMC_perform_0 N 155 x y w) := by
  rw [show zf_MMC_perform_0 N 155 x y w = zf_MMC_one_0 N 124 124 w from (show zf_MMC_perform_0 N 155 x y w = zbd (zbd (zbd (zf_MMC_one_0 N 124 124 w) zI) zI) zI from rfl).trans (by rw [zbdI, zbdI, zbdI])]
  exact zLine 1 124 124 (by decide) (by omega) hN X H hu (zPl_of hN (by decide +kernel : zPl 60 155 0 = some 90)) (by decide) cLn_90 (mOne 124 124 (by decide) Y H hw)
theorem zPk_156 (hN : 1000 ≤ N) (X : CxC u0 b h lv) (Y : CxM v0 b h lv) (H : zOk h s) (hu : RC u0 s u) (hw : RM v0 s tk wn p w) : zK1 h u0 v0 (zf_CCCode_carryOut_26 N 156 x u) (zf_MMC_perform_0 N 156 x y w) := by
  rw [show zf_MMC_perform_0 N 156 x y w = zf_MMC_one_0 N 124 124 w from (show zf_MMC_perform_0 N 156 x y w = zbd (zbd (zbd (zf_MMC_one_0 N 124 124 w) zI) zI) zI from rfl).trans (by rw [zbdI, zbdI, zbdI])]
  exact zLine 1 124 124 (by decide) (by omega) hN X H hu (zPl_of hN (by decide +kernel : zPl 60 156 0 = some 90)) (by decide) cLn_90 (mOne 124 124 (by decide) Y H hw)
theorem zPk_157 (hN : 1000 ≤ N) (X : CxC u0 b h lv) (Y : CxM v0 b h lv) (H : zOk h s) (hu : RC u0 s u) (hw : RM v0 s tk wn p w) : zK1 h u0 v0 (zf_CCCode_carryOut_26 N 157 x u) (zf_MMC_perform_0 N 157 x y w) := by
  rw [show zf_MMC_perform_0 N 157 x y w = zf_MMC_one_0 N 124 124 w from (show zf_MMC_perform_0 N 157 x y w = zbd (zbd (zbd (zf_MMC_one_0 N 124 124 w) zI) zI) zI from rfl).trans (by rw [zbdI, zbdI, zbdI])]
  exact zLine 1 124 124 (by decide) (by omega) hN X H hu (zPl_of hN (by decide +kernel : zPl 60 157 0 = some 90)) (by decide) cLn_90 (mOne 124 124 (by decide) Y H hw)
theorem zPk_158 (hN : 1000 ≤ N) (X : CxC u0 b h lv) (Y : CxM v0 b h lv) (H : zOk h s) (hu : RC u0 s u) (hw : RM v0 s tk wn p w) : zK1 h u0 v0 (zf_CCCode_carryOut_26 N 158 x u) (zf_MMC_perform_0 N 158 x y w) := by
  rw [show zf_MMC_perform_0 N 158 x y w = zf_MMC_one_0 N 124 124 w from (show zf_MMC_perform_0 N 158 x y w = zbd (zbd (zbd (zf_MMC_one_0 N 124 124 w) zI) zI) zI from rfl).trans (by rw [zbdI, zbdI, zbdI])]
  exact zLine 1 124 124 (by decide) (by omega) hN X H hu (zPl_of hN (by decide +kernel : zPl 60 158 0 = some 90)) (by decide) cLn_90 (mOne 124 124 (by decide) Y H hw)
theorem zPk_159 (hN : 1000 ≤ N) (X : CxC u0 b h lv) (Y : CxM v0 b h lv) (H : zOk h s) (hu : RC u0 s u) (hw : RM v0 s tk wn p w) : zK1 h u0 v0 (zf_CCCode_carryOut_26 N 159 x u) (zf_MMC_perform_0 N 159 x y w) := by
  rw [show zf_MMC_perform_0 N 159 x y w = zf_MMC_one_0 N 124 124 w from (show zf_MMC_perform_0 N 159 x y w = zbd (zbd (zbd (zf_MMC_one_0 N 124 124 w) zI) zI) zI from rfl).trans (by rw [zbdI, zbdI, zbdI])]
  exact zLine 1 124 124 (by decide) (by omega) hN X H hu (zPl_of hN (by decide +kernel : zPl 60 159 0 = some 90)) (by decide) cLn_90 (mOne 124 124 (by decide) Y H hw)
theorem zPk_160 (hN : 1000 ≤ N) (X : CxC u0 b h lv) (Y : CxM v0 b h lv) (H : zOk h s) (hu : RC u0 s u) (hw : RM v0 s tk wn p w) : zK1 h u0 v0 (zf_CCCode_carryOut_26 N 160 x u) (zf_MMC_perform_0 N 160 x y w) := by
  rw [show zf_MMC_perform_0 N 160 x y w = zf_MMC_two_0 N 124 124 w from (show zf_MMC_perform_0 N 160 x y w = zbd (zbd (zbd (zf_MMC_two_0 N 124 124 w) zI) zI) zI from rfl).trans (by rw [zbdI, zbdI, zbdI])]
  exact zLine 2 124 124 (by decide) (by omega) hN X H hu (zPl_of hN (by decide +kernel : zPl 60 160 0 = some 95)) (by decide) cLn_95 (mTwo 124 124 (by decide) Y H hw)
theorem zPk_161 (hN : 1000 ≤ N) (X : CxC u0 b h lv) (Y : CxM v0 b h lv) (H : zOk h s) (hu : RC u0 s u) (hw : RM v0 s tk wn p w) : zK1 h u0 v0 (zf_CCCode_carryOut_26 N 161 x u) (zf_MMC_perform_0 N 161 x y w) := by
  rw [show zf_MMC_perform_0 N 161 x y w = zf_MMC_two_0 N 124 124 w from (show zf_MMC_perform_0 N 161 x y w = zbd (zbd (zbd (zf_MMC_two_0 N 124 124 w) zI) zI) zI from rfl).trans (by rw [zbdI, zbdI, zbdI])]
  exact zLine 2 124 124 (by decide) (by omega) hN X H hu (zPl_of hN (by decide +kernel : zPl 60 161 0 = some 95)) (by decide) cLn_95 (mTwo 124 124 (by decide) Y H hw)
theorem zPk_162 (hN : 1000 ≤ N) (X : CxC u0 b h lv) (Y : CxM v0 b h lv) (H : zOk h s) (hu : RC u0 s u) (hw : RM v0 s tk wn p w) : zK1 h u0 v0 (zf_CCCode_carryOut_26 N 162 x u) (zf_MMC_perform_0 N 162 x y w) := by
  rw [show zf_MMC_perform_0 N 162 x y w = zf_MMC_two_0 N 124 124 w from (show zf_MMC_perform_0 N 162 x y w = zbd (zbd (zbd (zf_MMC_two_0 N 124 124 w) zI) zI) zI from rfl).trans (by rw [zbdI, zbdI, zbdI])]
  exact zLine 2 124 124 (by decide) (by omega) hN X H hu (zPl_of hN (by decide +kernel : zPl 60 162 0 = some 95)) (by decide) cLn_95 (mTwo 124 124 (by decide) Y H hw)
theorem zPk_163 (hN : 1000 ≤ N) (X : CxC u0 b h lv) (Y : CxM v0 b h lv) (H : zOk h s) (hu : RC u0 s u) (hw : RM v0 s tk wn p w) : zK1 h u0 v0 (zf_CCCode_carryOut_26 N 163 x u) (zf_MMC_perform_0 N 163 x y w) := by
  rw [show zf_MMC_perform_0 N 163 x y w = zf_MMC_two_0 N 124 124 w from (show zf_MMC_perform_0 N 163 x y w = zbd (zbd (zbd (zf_MMC_two_0 N 124 124 w) zI) zI) zI from rfl).trans (by rw [zbdI, zbdI, zbdI])]
  exact zLine 2 124 124 (by decide) (by omega) hN X H hu (zPl_of hN (by decide +kernel : zPl 60 163 0 = some 95)) (by decide) cLn_95 (mTwo 124 124 (by decide) Y H hw)
theorem zPk_164 (hN : 1000 ≤ N) (X : CxC u0 b h lv) (Y : CxM v0 b h lv) (H : zOk h s) (hu : RC u0 s u) (hw : RM v0 s tk wn p w) : zK1 h u0 v0 (zf_CCCode_carryOut_26 N 164 x u) (zf_MMC_perform_0 N 164 x y w) := by
  rw [show zf_MMC_perform_0 N 164 x y w = zf_MMC_two_0 N 124 124 w from (show zf_MMC_perform_0 N 164 x y w = zbd (zbd (zbd (zf_MMC_two_0 N 124 124 w) zI) zI) zI from rfl).trans (by rw [zbdI, zbdI, zbdI])]
  exact zLine 2 124 124 (by decide) (by omega) hN X H hu (zPl_of hN (by decide +kernel : zPl 60 164 0 = some 95)) (by decide) cLn_95 (mTwo 124 124 (by decide) Y H hw)
theorem zPk_165 (hN : 1000 ≤ N) (X : CxC u0 b h lv) (Y : CxM v0 b h lv) (H : zOk h s) (hu : RC u0 s u) (hw : RM v0 s tk wn p w) : zK1 h u0 v0 (zf_CCCode_carryOut_26 N 165 x u) (zf_MMC_perform_0 N 165 x y w) := by
  rw [show zf_MMC_perform_0 N 165 x y w = zf_MMC_two_0 N 124 124 w from (show zf_MMC_perform_0 N 165 x y w = zbd (zbd (zbd (zf_MMC_two_0 N 124 124 w) zI) zI) zI from rfl).trans (by rw [zbdI, zbdI, zbdI])]
  exact zLine 2 124 124 (by decide) (by omega) hN X H hu (zPl_of hN (by decide +kernel : zPl 60 165 0 = some 95)) (by decide) cLn_95 (mTwo 124 124 (by decide) Y H hw)
theorem zPk_166 (hN : 1000 ≤ N) (X : CxC u0 b h lv) (Y : CxM v0 b h lv) (H : zOk h s) (hu : RC u0 s u) (hw : RM v0 s tk wn p w) : zK1 h u0 v0 (zf_CCCode_carryOut_26 N 166 x u) (zf_MMC_perform_0 N 166 x y w) := by
  rw [show zf_MMC_perform_0 N 166 x y w = zf_MMC_two_0 N 124 124 w from (show zf_MMC_perform_0 N 166 x y w = zbd (zbd (zbd (zf_MMC_two_0 N 124 124 w) zI) zI) zI from rfl).trans (by rw [zbdI, zbdI, zbdI])]
  exact zLine 2 124 124 (by decide) (by omega) hN X H hu (zPl_of hN (by decide +kernel : zPl 60 166 0 = some 95)) (by decide) cLn_95 (mTwo 124 124 (by decide) Y H hw)
theorem zPk_167 (hN : 1000 ≤ N) (X : CxC u0 b h lv) (Y : CxM v0 b h lv) (H : zOk h s) (hu : RC u0 s u) (hw : RM v0 s tk wn p w) : zK1 h u0 v0 (zf_CCCode_carryOut_26 N 167 x u) (zf_MMC_perform_0 N 167 x y w) := by
  rw [show zf_MMC_perform_0 N 167 x y w = zf_MMC_one_0 N 126 127 w from (show zf_MMC_perform_0 N 167 x y w = zbd (zbd (zf_MMC_one_0 N 126 127 w) zI) zI from rfl).trans (by rw [zbdI, zbdI])]
  exact zLine 1 126 127 (by decide) (by omega) hN X H hu (zPl_of hN (by decide +kernel : zPl 60 167 0 = some 100)) (by decide) cLn_100 (mOne 126 127 (by decide) Y H hw)
theorem zPk_168 (hN : 1000 ≤ N) (X : CxC u0 b h lv) (Y : CxM v0 b h lv) (H : zOk h s) (hu : RC u0 s u) (hw : RM v0 s tk wn p w) : zK1 h u0 v0 (zf_CCCode_carryOut_26 N 168 x u) (zf_MMC_perform_0 N 168 x y w) := by
  rw [show zf_MMC_perform_0 N 168 x y w = zf_MMC_one_0 N 125 127 w from (show zf_MMC_perform_0 N 168 x y w = zbd (zbd (zf_MMC_one_0 N 125 127 w) zI) zI from rfl).trans (by rw [zbdI, zbdI])]
  exact zLine 1 125 127 (by decide) (by omega) hN X H hu (zPl_of hN (by decide +kernel : zPl 60 168 0 = some 105)) (by decide) cLn_105 (mOne 125 127 (by decide) Y H hw)
theorem zPk_169 (hN : 1000 ≤ N) (X : CxC u0 b h lv) (Y : CxM v0 b h lv) (H : zOk h s) (hu : RC u0 s u) (hw : RM v0 s tk wn p w) : zK1 h u0 v0 (zf_CCCode_carryOut_26 N 169 x u) (zf_MMC_perform_0 N 169 x y w) := by
  rw [show zf_MMC_perform_0 N 169 x y w = zf_MMC_one_0 N 125 127 w from (show zf_MMC_perform_0 N 169 x y w = zbd (zbd (zf_MMC_one_0 N 125 127 w) zI) zI from rfl).trans (by rw [zbdI, zbdI])]
  exact zLine 1 125 127 (by decide) (by omega) hN X H hu (zPl_of hN (by decide +kernel : zPl 60 169 0 = some 105)) (by decide) cLn_105 (mOne 125 127 (by decide) Y H hw)
theorem zPk_170 (hN : 1000 ≤ N) (X : CxC u0 b h lv) (Y : CxM v0 b h lv) (H : zOk h s) (hu : RC u0 s u) (hw : RM v0 s tk wn p w) : zK1 h u0 v0 (zf_CCCode_carryOut_26 N 170 x u) (zf_MMC_perform_0 N 170 x y w) := by
  rw [show zf_MMC_perform_0 N 170 x y w = zf_MMC_one_0 N 124 127 w from (show zf_MMC_perform_0 N 170 x y w = zbd (zbd (zf_MMC_one_0 N 124 127 w) zI) zI from rfl).trans (by rw [zbdI, zbdI])]
  exact zLine 1 124 127 (by decide) (by omega) hN X H hu (zPl_of hN (by decide +kernel : zPl 60 170 0 = some 110)) (by decide) cLn_110 (mOne 124 127 (by decide) Y H hw)
theorem zPk_171 (hN : 1000 ≤ N) (X : CxC u0 b h lv) (Y : CxM v0 b h lv) (H : zOk h s) (hu : RC u0 s u) (hw : RM v0 s tk wn p w) : zK1 h u0 v0 (zf_CCCode_carryOut_26 N 171 x u) (zf_MMC_perform_0 N 171 x y w) := by
  rw [show zf_MMC_perform_0 N 171 x y w = zf_MMC_one_0 N 124 127 w from (show zf_MMC_perform_0 N 171 x y w = zbd (zbd (zf_MMC_one_0 N 124 127 w) zI) zI from rfl).trans (by rw [zbdI, zbdI])]
  exact zLine 1 124 127 (by decide) (by omega) hN X H hu (zPl_of hN (by decide +kernel : zPl 60 171 0 = some 110)) (by decide) cLn_110 (mOne 124 127 (by decide) Y H hw)
theorem zPk_172 (hN : 1000 ≤ N) (X : CxC u0 b h lv) (Y : CxM v0 b h lv) (H : zOk h s) (hu : RC u0 s u) (hw : RM v0 s tk wn p w) : zK1 h u0 v0 (zf_CCCode_carryOut_26 N 172 x u) (zf_MMC_perform_0 N 172 x y w) := by
  rw [show zf_MMC_perform_0 N 172 x y w = zf_MMC_one_0 N 127 126 w from (show zf_MMC_perform_0 N 172 x y w = zbd (zbd (zf_MMC_one_0 N 127 126 w) zI) zI from rfl).trans (by rw [zbdI, zbdI])]
  exact zLine 1 127 126 (by decide) (by omega) hN X H hu (zPl_of hN (by decide +kernel : zPl 60 172 0 = some 115)) (by decide) cLn_115 (mOne 127 126 (by decide) Y H hw)
theorem zPk_173 (hN : 1000 ≤ N) (X : CxC u0 b h lv) (Y : CxM v0 b h lv) (H : zOk h s) (hu : RC u0 s u) (hw : RM v0 s tk wn p w) : zK1 h u0 v0 (zf_CCCode_carryOut_26 N 173 x u) (zf_MMC_perform_0 N 173 x y w) := by
  rw [show zf_MMC_perform_0 N 173 x y w = zf_MMC_one_0 N 127 126 w from (show zf_MMC_perform_0 N 173 x y w = zbd (zbd (zf_MMC_one_0 N 127 126 w) zI) zI from rfl).trans (by rw [zbdI, zbdI])]
  exact zLine 1 127 126 (by decide) (by omega) hN X H hu (zPl_of hN (by decide +kernel : zPl 60 173 0 = some 115)) (by decide) cLn_115 (mOne 127 126 (by decide) Y H hw)
theorem zPk_174 (hN : 1000 ≤ N) (X : CxC u0 b h lv) (Y : CxM v0 b h lv) (H : zOk h s) (hu : RC u0 s u) (hw : RM v0 s tk wn p w) : zK1 h u0 v0 (zf_CCCode_carryOut_26 N 174 x u) (zf_MMC_perform_0 N 174 x y w) := by
  rw [show zf_MMC_perform_0 N 174 x y w = zf_MMC_one_0 N 125 126 w from (show zf_MMC_perform_0 N 174 x y w = zbd (zbd (zf_MMC_one_0 N 125 126 w) zI) zI from rfl).trans (by rw [zbdI, zbdI])]
  exact zLine 1 125 126 (by decide) (by omega) hN X H hu (zPl_of hN (by decide +kernel : zPl 60 174 0 = some 120)) (by decide) cLn_120 (mOne 125 126 (by decide) Y H hw)
theorem zPk_175 (hN : 1000 ≤ N) (X : CxC u0 b h lv) (Y : CxM v0 b h lv) (H : zOk h s) (hu : RC u0 s u) (hw : RM v0 s tk wn p w) : zK1 h u0 v0 (zf_CCCode_carryOut_26 N 175 x u) (zf_MMC_perform_0 N 175 x y w) := by
  rw [show zf_MMC_perform_0 N 175 x y w = zf_MMC_one_0 N 125 126 w from (show zf_MMC_perform_0 N 175 x y w = zbd (zbd (zf_MMC_one_0 N 125 126 w) zI) zI from rfl).trans (by rw [zbdI, zbdI])]
  exact zLine 1 125 126 (by decide) (by omega) hN X H hu (zPl_of hN (by decide +kernel : zPl 60 175 0 = some 120)) (by decide) cLn_120 (mOne 125 126 (by decide) Y H hw)
theorem zPk_176 (hN : 1000 ≤ N) (X : CxC u0 b h lv) (Y : CxM v0 b h lv) (H : zOk h s) (hu : RC u0 s u) (hw : RM v0 s tk wn p w) : zK1 h u0 v0 (zf_CCCode_carryOut_26 N 176 x u) (zf_MMC_perform_0 N 176 x y w) := by
  rw [show zf_MMC_perform_0 N 176 x y w = zf_MMC_one_0 N 124 126 w from (show zf_MMC_perform_0 N 176 x y w = zbd (zbd (zf_MMC_one_0 N 124 126 w) zI) zI from rfl).trans (by rw [zbdI, zbdI])]
  exact zLine 1 124 126 (by decide) (by omega) hN X H hu (zPl_of hN (by decide +kernel : zPl 60 176 0 = some 125)) (by decide) cLn_125 (mOne 124 126 (by decide) Y H hw)
theorem zPk_177 (hN : 1000 ≤ N) (X : CxC u0 b h lv) (Y : CxM v0 b h lv) (H : zOk h s) (hu : RC u0 s u) (hw : RM v0 s tk wn p w) : zK1 h u0 v0 (zf_CCCode_carryOut_26 N 177 x u) (zf_MMC_perform_0 N 177 x y w) := by
  rw [show zf_MMC_perform_0 N 177 x y w = zf_MMC_one_0 N 124 126 w from (show zf_MMC_perform_0 N 177 x y w = zbd (zbd (zf_MMC_one_0 N 124 126 w) zI) zI from rfl).trans (by rw [zbdI, zbdI])]
  exact zLine 1 124 126 (by decide) (by omega) hN X H hu (zPl_of hN (by decide +kernel : zPl 60 177 0 = some 125)) (by decide) cLn_125 (mOne 124 126 (by decide) Y H hw)
theorem zPk_178 (hN : 1000 ≤ N) (X : CxC u0 b h lv) (Y : CxM v0 b h lv) (H : zOk h s) (hu : RC u0 s u) (hw : RM v0 s tk wn p w) : zK1 h u0 v0 (zf_CCCode_carryOut_26 N 178 x u) (zf_MMC_perform_0 N 178 x y w) := by
  rw [show zf_MMC_perform_0 N 178 x y w = zf_MMC_one_0 N 127 125 w from (show zf_MMC_perform_0 N 178 x y w = zbd (zbd (zf_MMC_one_0 N 127 125 w) zI) zI from rfl).trans (by rw [zbdI, zbdI])]
  exact zLine 1 127 125 (by decide) (by omega) hN X H hu (zPl_of hN (by decide +kernel : zPl 60 178 0 = some 130)) (by decide) cLn_130 (mOne 127 125 (by decide) Y H hw)
theorem zPk_179 (hN : 1000 ≤ N) (X : CxC u0 b h lv) (Y : CxM v0 b h lv) (H : zOk h s) (hu : RC u0 s u) (hw : RM v0 s tk wn p w) : zK1 h u0 v0 (zf_CCCode_carryOut_26 N 179 x u) (zf_MMC_perform_0 N 179 x y w) := by
  rw [show zf_MMC_perform_0 N 179 x y w = zf_MMC_one_0 N 127 125 w from (show zf_MMC_perform_0 N 179 x y w = zbd (zbd (zf_MMC_one_0 N 127 125 w) zI) zI from rfl).trans (by rw [zbdI, zbdI])]
  exact zLine 1 127 125 (by decide) (by omega) hN X H hu (zPl_of hN (by decide +kernel : zPl 60 179 0 = some 130)) (by decide) cLn_130 (mOne 127 125 (by decide) Y H hw)
theorem zPk_180 (hN : 1000 ≤ N) (X : CxC u0 b h lv) (Y : CxM v0 b h lv) (H : zOk h s) (hu : RC u0 s u) (hw : RM v0 s tk wn p w) : zK1 h u0 v0 (zf_CCCode_carryOut_26 N 180 x u) (zf_MMC_perform_0 N 180 x y w) := by
  rw [show zf_MMC_perform_0 N 180 x y w = zf_MMC_one_0 N 126 125 w from (show zf_MMC_perform_0 N 180 x y w = zbd (zbd (zf_MMC_one_0 N 126 125 w) zI) zI from rfl).trans (by rw [zbdI, zbdI])]
  exact zLine 1 126 125 (by decide) (by omega) hN X H hu (zPl_of hN (by decide +kernel : zPl 60 180 0 = some 135)) (by decide) cLn_135 (mOne 126 125 (by decide) Y H hw)
theorem zPk_181 (hN : 1000 ≤ N) (X : CxC u0 b h lv) (Y : CxM v0 b h lv) (H : zOk h s) (hu : RC u0 s u) (hw : RM v0 s tk wn p w) : zK1 h u0 v0 (zf_CCCode_carryOut_26 N 181 x u) (zf_MMC_perform_0 N 181 x y w) := by
  rw [show zf_MMC_perform_0 N 181 x y w = zf_MMC_one_0 N 126 125 w from (show zf_MMC_perform_0 N 181 x y w = zbd (zbd (zf_MMC_one_0 N 126 125 w) zI) zI from rfl).trans (by rw [zbdI, zbdI])]
  exact zLine 1 126 125 (by decide) (by omega) hN X H hu (zPl_of hN (by decide +kernel : zPl 60 181 0 = some 135)) (by decide) cLn_135 (mOne 126 125 (by decide) Y H hw)
theorem zPk_182 (hN : 1000 ≤ N) (X : CxC u0 b h lv) (Y : CxM v0 b h lv) (H : zOk h s) (hu : RC u0 s u) (hw : RM v0 s tk wn p w) : zK1 h u0 v0 (zf_CCCode_carryOut_26 N 182 x u) (zf_MMC_perform_0 N 182 x y w) := by
  rw [show zf_MMC_perform_0 N 182 x y w = zf_MMC_one_0 N 124 125 w from (show zf_MMC_perform_0 N 182 x y w = zbd (zbd (zf_MMC_one_0 N 124 125 w) zI) zI from rfl).trans (by rw [zbdI, zbdI])]
  exact zLine 1 124 125 (by decide) (by omega) hN X H hu (zPl_of hN (by decide +kernel : zPl 60 182 0 = some 140)) (by decide) cLn_140 (mOne 124 125 (by decide) Y H hw)
theorem zPk_183 (hN : 1000 ≤ N) (X : CxC u0 b h lv) (Y : CxM v0 b h lv) (H : zOk h s) (hu : RC u0 s u) (hw : RM v0 s tk wn p w) : zK1 h u0 v0 (zf_CCCode_carryOut_26 N 183 x u) (zf_MMC_perform_0 N 183 x y w) := by
  rw [show zf_MMC_perform_0 N 183 x y w = zf_MMC_one_0 N 127 124 w from (show zf_MMC_perform_0 N 183 x y w = zbd (zbd (zf_MMC_one_0 N 127 124 w) zI) zI from rfl).trans (by rw [zbdI, zbdI])]
  exact zLine 1 127 124 (by decide) (by omega) hN X H hu (zPl_of hN (by decide +kernel : zPl 60 183 0 = some 145)) (by decide) cLn_145 (mOne 127 124 (by decide) Y H hw)
theorem zPk_184 (hN : 1000 ≤ N) (X : CxC u0 b h lv) (Y : CxM v0 b h lv) (H : zOk h s) (hu : RC u0 s u) (hw : RM v0 s tk wn p w) : zK1 h u0 v0 (zf_CCCode_carryOut_26 N 184 x u) (zf_MMC_perform_0 N 184 x y w) := by
  rw [show zf_MMC_perform_0 N 184 x y w = zf_MMC_one_0 N 127 124 w from (show zf_MMC_perform_0 N 184 x y w = zbd (zbd (zf_MMC_one_0 N 127 124 w) zI) zI from rfl).trans (by rw [zbdI, zbdI])]
  exact zLine 1 127 124 (by decide) (by omega) hN X H hu (zPl_of hN (by decide +kernel : zPl 60 184 0 = some 145)) (by decide) cLn_145 (mOne 127 124 (by decide) Y H hw)
theorem zPk_185 (hN : 1000 ≤ N) (X : CxC u0 b h lv) (Y : CxM v0 b h lv) (H : zOk h s) (hu : RC u0 s u) (hw : RM v0 s tk wn p w) : zK1 h u0 v0 (zf_CCCode_carryOut_26 N 185 x u) (zf_MMC_perform_0 N 185 x y w) := by
  rw [show zf_MMC_perform_0 N 185 x y w = zf_MMC_one_0 N 126 124 w from (show zf_MMC_perform_0 N 185 x y w = zbd (zbd (zf_MMC_one_0 N 126 124 w) zI) zI from rfl).trans (by rw [zbdI, zbdI])]
  exact zLine 1 126 124 (by decide) (by omega) hN X H hu (zPl_of hN (by decide +kernel : zPl 60 185 0 = some 150)) (by decide) cLn_150 (mOne 126 124 (by decide) Y H hw)
theorem zPk_186 (hN : 1000 ≤ N) (X : CxC u0 b h lv) (Y : CxM v0 b h lv) (H : zOk h s) (hu : RC u0 s u) (hw : RM v0 s tk wn p w) : zK1 h u0 v0 (zf_CCCode_carryOut_26 N 186 x u) (zf_MMC_perform_0 N 186 x y w) := by
  rw [show zf_MMC_perform_0 N 186 x y w = zf_MMC_one_0 N 126 124 w from (show zf_MMC_perform_0 N 186 x y w = zbd (zbd (zf_MMC_one_0 N 126 124 w) zI) zI from rfl).trans (by rw [zbdI, zbdI])]
  exact zLine 1 126 124 (by decide) (by omega) hN X H hu (zPl_of hN (by decide +kernel : zPl 60 186 0 = some 150)) (by decide) cLn_150 (mOne 126 124 (by decide) Y H hw)
theorem zPk_187 (hN : 1000 ≤ N) (X : CxC u0 b h lv) (Y : CxM v0 b h lv) (H : zOk h s) (hu : RC u0 s u) (hw : RM v0 s tk wn p w) : zK1 h u0 v0 (zf_CCCode_carryOut_26 N 187 x u) (zf_MMC_perform_0 N 187 x y w) := by
  rw [show zf_MMC_perform_0 N 187 x y w = zf_MMC_one_0 N 125 124 w from (show zf_MMC_perform_0 N 187 x y w = zbd (zbd (zf_MMC_one_0 N 125 124 w) zI) zI from rfl).trans (by rw [zbdI, zbdI])]
  exact zLine 1 125 124 (by decide) (by omega) hN X H hu (zPl_of hN (by decide +kernel : zPl 60 187 0 = some 155)) (by decide) cLn_155 (mOne 125 124 (by decide) Y H hw)
theorem zPk_188 (hN : 1000 ≤ N) (X : CxC u0 b h lv) (Y : CxM v0 b h lv) (H : zOk h s) (hu : RC u0 s u) (hw : RM v0 s tk wn p w) : zK1 h u0 v0 (zf_CCCode_carryOut_26 N 188 x u) (zf_MMC_perform_0 N 188 x y w) := by
  rw [show zf_MMC_perform_0 N 188 x y w = zf_MMC_one_0 N 125 127 w from (show zf_MMC_perform_0 N 188 x y w = zbd (zbd (zf_MMC_one_0 N 125 127 w) zI) zI from rfl).trans (by rw [zbdI, zbdI])]
  exact zLine 1 125 127 (by decide) (by omega) hN X H hu (zPl_of hN (by decide +kernel : zPl 60 188 0 = some 160)) (by decide) cLn_160 (mOne 125 127 (by decide) Y H hw)
theorem zPk_189 (hN : 1000 ≤ N) (X : CxC u0 b h lv) (Y : CxM v0 b h lv) (H : zOk h s) (hu : RC u0 s u) (hw : RM v0 s tk wn p w) : zK1 h u0 v0 (zf_CCCode_carryOut_26 N 189 x u) (zf_MMC_perform_0 N 189 x y w) := by
  rw [show zf_MMC_perform_0 N 189 x y w = zf_MMC_one_0 N 124 126 w from (show zf_MMC_perform_0 N 189 x y w = zbd (zbd (zf_MMC_one_0 N 124 126 w) zI) zI from rfl).trans (by rw [zbdI, zbdI])]
  exact zLine 1 124 126 (by decide) (by omega) hN X H hu (zPl_of hN (by decide +kernel : zPl 60 189 0 = some 165)) (by decide) cLn_165 (mOne 124 126 (by decide) Y H hw)
theorem zPk_190 (hN : 1000 ≤ N) (X : CxC u0 b h lv) (Y : CxM v0 b h lv) (H : zOk h s) (hu : RC u0 s u) (hw : RM v0 s tk wn p w) : zK1 h u0 v0 (zf_CCCode_carryOut_26 N 190 x u) (zf_MMC_perform_0 N 190 x y w) := by
  rw [show zf_MMC_perform_0 N 190 x y w = zf_MMC_one_0 N 127 125 w from (show zf_MMC_perform_0 N 190 x y w = zbd (zbd (zf_MMC_one_0 N 127 125 w) zI) zI from rfl).trans (by rw [zbdI, zbdI])]
  exact zLine 1 127 125 (by decide) (by omega) hN X H hu (zPl_of hN (by decide +kernel : zPl 60 190 0 = some 170)) (by decide) cLn_170 (mOne 127 125 (by decide) Y H hw)
theorem zPk_191 (hN : 1000 ≤ N) (X : CxC u0 b h lv) (Y : CxM v0 b h lv) (H : zOk h s) (hu : RC u0 s u) (hw : RM v0 s tk wn p w) : zK1 h u0 v0 (zf_CCCode_carryOut_26 N 191 x u) (zf_MMC_perform_0 N 191 x y w) := by
  rw [show zf_MMC_perform_0 N 191 x y w = zf_MMC_one_0 N 126 124 w from (show zf_MMC_perform_0 N 191 x y w = zbd (zbd (zf_MMC_one_0 N 126 124 w) zI) zI from rfl).trans (by rw [zbdI, zbdI])]
  exact zLine 1 126 124 (by decide) (by omega) hN X H hu (zPl_of hN (by decide +kernel : zPl 60 191 0 = some 175)) (by decide) cLn_175 (mOne 126 124 (by decide) Y H hw)
theorem zPk_192 (hN : 1000 ≤ N) (X : CxC u0 b h lv) (Y : CxM v0 b h lv) (H : zOk h s) (hu : RC u0 s u) (hw : RM v0 s tk wn p w) : zK1 h u0 v0 (zf_CCCode_carryOut_26 N 192 x u) (zf_MMC_perform_0 N 192 x y w) := by
  rw [show zf_MMC_perform_0 N 192 x y w = zf_MMC_one_0 N 127 127 w from (show zf_MMC_perform_0 N 192 x y w = zbd (zbd (zf_MMC_one_0 N 127 127 w) zI) zI from rfl).trans (by rw [zbdI, zbdI])]
  exact zLine 1 127 127 (by decide) (by omega) hN X H hu (zPl_of hN (by decide +kernel : zPl 60 192 0 = some 180)) (by decide) cLn_180 (mOne 127 127 (by decide) Y H hw)
theorem zPk_193 (hN : 1000 ≤ N) (X : CxC u0 b h lv) (Y : CxM v0 b h lv) (H : zOk h s) (hu : RC u0 s u) (hw : RM v0 s tk wn p w) : zK1 h u0 v0 (zf_CCCode_carryOut_26 N 193 x u) (zf_MMC_perform_0 N 193 x y w) := by
  rw [show zf_MMC_perform_0 N 193 x y w = zf_MMC_one_0 N 127 127 w from (show zf_MMC_perform_0 N 193 x y w = zbd (zbd (zf_MMC_one_0 N 127 127 w) zI) zI from rfl).trans (by rw [zbdI, zbdI])]
  exact zLine 1 127 127 (by decide) (by omega) hN X H hu (zPl_of hN (by decide +kernel : zPl 60 193 0 = some 180)) (by decide) cLn_180 (mOne 127 127 (by decide) Y H hw)
theorem zPk_194 (hN : 1000 ≤ N) (X : CxC u0 b h lv) (Y : CxM v0 b h lv) (H : zOk h s) (hu : RC u0 s u) (hw : RM v0 s tk wn p w) : zK1 h u0 v0 (zf_CCCode_carryOut_26 N 194 x u) (zf_MMC_perform_0 N 194 x y w) := by
  rw [show zf_MMC_perform_0 N 194 x y w = zf_MMC_one_0 N 126 126 w from (show zf_MMC_perform_0 N 194 x y w = zbd (zbd (zf_MMC_one_0 N 126 126 w) zI) zI from rfl).trans (by rw [zbdI, zbdI])]
  exact zLine 1 126 126 (by decide) (by omega) hN X H hu (zPl_of hN (by decide +kernel : zPl 60 194 0 = some 185)) (by decide) cLn_185 (mOne 126 126 (by decide) Y H hw)
theorem zPk_195 (hN : 1000 ≤ N) (X : CxC u0 b h lv) (Y : CxM v0 b h lv) (H : zOk h s) (hu : RC u0 s u) (hw : RM v0 s tk wn p w) : zK1 h u0 v0 (zf_CCCode_carryOut_26 N 195 x u) (zf_MMC_perform_0 N 195 x y w) := by
  rw [show zf_MMC_perform_0 N 195 x y w = zf_MMC_one_0 N 126 126 w from (show zf_MMC_perform_0 N 195 x y w = zbd (zbd (zf_MMC_one_0 N 126 126 w) zI) zI from rfl).trans (by rw [zbdI, zbdI])]
  exact zLine 1 126 126 (by decide) (by omega) hN X H hu (zPl_of hN (by decide +kernel : zPl 60 195 0 = some 185)) (by decide) cLn_185 (mOne 126 126 (by decide) Y H hw)
theorem zPk_196 (hN : 1000 ≤ N) (X : CxC u0 b h lv) (Y : CxM v0 b h lv) (H : zOk h s) (hu : RC u0 s u) (hw : RM v0 s tk wn p w) : zK1 h u0 v0 (zf_CCCode_carryOut_26 N 196 x u) (zf_MMC_perform_0 N 196 x y w) := by
  rw [show zf_MMC_perform_0 N 196 x y w = zf_MMC_one_0 N 126 126 w from (show zf_MMC_perform_0 N 196 x y w = zbd (zbd (zf_MMC_one_0 N 126 126 w) zI) zI from rfl).trans (by rw [zbdI, zbdI])]
  exact zLine 1 126 126 (by decide) (by omega) hN X H hu (zPl_of hN (by decide +kernel : zPl 60 196 0 = some 185)) (by decide) cLn_185 (mOne 126 126 (by decide) Y H hw)
theorem zPk_210 (hN : 1000 ≤ N) (X : CxC u0 b h lv) (Y : CxM v0 b h lv) (H : zOk h s) (hu : RC u0 s u) (hw : RM v0 s tk wn p w) : zK1 h u0 v0 (zf_CCCode_carryOut_26 N 210 x u) (zf_MMC_perform_0 N 210 x y w) := by
  rw [show zf_MMC_perform_0 N 210 x y w = zf_MMC_give_0 N 112 w from (show zf_MMC_perform_0 N 210 x y w = zbd (zbd (zf_MMC_give_0 N 112 w) zI) zI from rfl).trans (by rw [zbdI, zbdI])]
  exact zLine 0 0 112 (by decide) (by omega) hN X H hu (zPl_of hN (by decide +kernel : zPl 60 210 0 = some 190)) (by decide) cLn_190 (by obtain ⟨v1, e1, r1⟩ := mGive (N := N) 112 H hw; exact ⟨v1, tk, e1, r1⟩)
theorem zPk_256 (hN : 1000 ≤ N) (X : CxC u0 b h lv) (Y : CxM v0 b h lv) (H : zOk h s) (hu : RC u0 s u) (hw : RM v0 s tk wn p w) : zK1 h u0 v0 (zf_CCCode_carryOut_26 N 256 x u) (zf_MMC_perform_0 N 256 x y w) := by
  rw [show zf_MMC_perform_0 N 256 x y w = zf_MMC_one_0 N 125 127 w from (show zf_MMC_perform_0 N 256 x y w = zbd (zbd (zf_MMC_one_0 N 125 127 w) zI) zI from rfl).trans (by rw [zbdI, zbdI])]
  exact zLine 1 125 127 (by decide) (by omega) hN X H hu (zPl_of hN (by decide +kernel : zPl 60 256 0 = some 195)) (by decide) cLn_195 (mOne 125 127 (by decide) Y H hw)
theorem zPk_257 (hN : 1000 ≤ N) (X : CxC u0 b h lv) (Y : CxM v0 b h lv) (H : zOk h s) (hu : RC u0 s u) (hw : RM v0 s tk wn p w) : zK1 h u0 v0 (zf_CCCode_carryOut_26 N 257 x u) (zf_MMC_perform_0 N 257 x y w) := by
  rw [show zf_MMC_perform_0 N 257 x y w = zf_MMC_one_0 N 125 127 w from (show zf_MMC_perform_0 N 257 x y w = zbd (zbd (zf_MMC_one_0 N 125 127 w) zI) zI from rfl).trans (by rw [zbdI, zbdI])]
  exact zLine 1 125 127 (by decide) (by omega) hN X H hu (zPl_of hN (by decide +kernel : zPl 60 257 0 = some 195)) (by decide) cLn_195 (mOne 125 127 (by decide) Y H hw)
theorem zPk_258 (hN : 1000 ≤ N) (X : CxC u0 b h lv) (Y : CxM v0 b h lv) (H : zOk h s) (hu : RC u0 s u) (hw : RM v0 s tk wn p w) : zK1 h u0 v0 (zf_CCCode_carryOut_26 N 258 x u) (zf_MMC_perform_0 N 258 x y w) := by
  rw [show zf_MMC_perform_0 N 258 x y w = zf_MMC_one_0 N 124 127 w from (show zf_MMC_perform_0 N 258 x y w = zbd (zbd (zf_MMC_one_0 N 124 127 w) zI) zI from rfl).trans (by rw [zbdI, zbdI])]
  exact zLine 1 124 127 (by decide) (by omega) hN X H hu (zPl_of hN (by decide +kernel : zPl 60 258 0 = some 200)) (by decide) cLn_200 (mOne 124 127 (by decide) Y H hw)
theorem zPk_259 (hN : 1000 ≤ N) (X : CxC u0 b h lv) (Y : CxM v0 b h lv) (H : zOk h s) (hu : RC u0 s u) (hw : RM v0 s tk wn p w) : zK1 h u0 v0 (zf_CCCode_carryOut_26 N 259 x u) (zf_MMC_perform_0 N 259 x y w) := by
  rw [show zf_MMC_perform_0 N 259 x y w = zf_MMC_one_0 N 124 127 w from (show zf_MMC_perform_0 N 259 x y w = zbd (zbd (zf_MMC_one_0 N 124 127 w) zI) zI from rfl).trans (by rw [zbdI, zbdI])]
  exact zLine 1 124 127 (by decide) (by omega) hN X H hu (zPl_of hN (by decide +kernel : zPl 60 259 0 = some 200)) (by decide) cLn_200 (mOne 124 127 (by decide) Y H hw)
theorem zPk_260 (hN : 1000 ≤ N) (X : CxC u0 b h lv) (Y : CxM v0 b h lv) (H : zOk h s) (hu : RC u0 s u) (hw : RM v0 s tk wn p w) : zK1 h u0 v0 (zf_CCCode_carryOut_26 N 260 x u) (zf_MMC_perform_0 N 260 x y w) := by
  rw [show zf_MMC_perform_0 N 260 x y w = zf_MMC_one_0 N 125 126 w from (show zf_MMC_perform_0 N 260 x y w = zbd (zbd (zf_MMC_one_0 N 125 126 w) zI) zI from rfl).trans (by rw [zbdI, zbdI])]
  exact zLine 1 125 126 (by decide) (by omega) hN X H hu (zPl_of hN (by decide +kernel : zPl 60 260 0 = some 205)) (by decide) cLn_205 (mOne 125 126 (by decide) Y H hw)
theorem zPk_261 (hN : 1000 ≤ N) (X : CxC u0 b h lv) (Y : CxM v0 b h lv) (H : zOk h s) (hu : RC u0 s u) (hw : RM v0 s tk wn p w) : zK1 h u0 v0 (zf_CCCode_carryOut_26 N 261 x u) (zf_MMC_perform_0 N 261 x y w) := by
  rw [show zf_MMC_perform_0 N 261 x y w = zf_MMC_one_0 N 125 126 w from (show zf_MMC_perform_0 N 261 x y w = zbd (zbd (zf_MMC_one_0 N 125 126 w) zI) zI from rfl).trans (by rw [zbdI, zbdI])]
  exact zLine 1 125 126 (by decide) (by omega) hN X H hu (zPl_of hN (by decide +kernel : zPl 60 261 0 = some 205)) (by decide) cLn_205 (mOne 125 126 (by decide) Y H hw)
theorem zPk_262 (hN : 1000 ≤ N) (X : CxC u0 b h lv) (Y : CxM v0 b h lv) (H : zOk h s) (hu : RC u0 s u) (hw : RM v0 s tk wn p w) : zK1 h u0 v0 (zf_CCCode_carryOut_26 N 262 x u) (zf_MMC_perform_0 N 262 x y w) := by
  rw [show zf_MMC_perform_0 N 262 x y w = zf_MMC_one_0 N 124 126 w from (show zf_MMC_perform_0 N 262 x y w = zbd (zbd (zf_MMC_one_0 N 124 126 w) zI) zI from rfl).trans (by rw [zbdI, zbdI])]
  exact zLine 1 124 126 (by decide) (by omega) hN X H hu (zPl_of hN (by decide +kernel : zPl 60 262 0 = some 210)) (by decide) cLn_210 (mOne 124 126 (by decide) Y H hw)
theorem zPk_263 (hN : 1000 ≤ N) (X : CxC u0 b h lv) (Y : CxM v0 b h lv) (H : zOk h s) (hu : RC u0 s u) (hw : RM v0 s tk wn p w) : zK1 h u0 v0 (zf_CCCode_carryOut_26 N 263 x u) (zf_MMC_perform_0 N 263 x y w) := by
  rw [show zf_MMC_perform_0 N 263 x y w = zf_MMC_one_0 N 124 126 w from (show zf_MMC_perform_0 N 263 x y w = zbd (zbd (zf_MMC_one_0 N 124 126 w) zI) zI from rfl).trans (by rw [zbdI, zbdI])]
  exact zLine 1 124 126 (by decide) (by omega) hN X H hu (zPl_of hN (by decide +kernel : zPl 60 263 0 = some 210)) (by decide) cLn_210 (mOne 124 126 (by decide) Y H hw)
theorem zPk_264 (hN : 1000 ≤ N) (X : CxC u0 b h lv) (Y : CxM v0 b h lv) (H : zOk h s) (hu : RC u0 s u) (hw : RM v0 s tk wn p w) : zK1 h u0 v0 (zf_CCCode_carryOut_26 N 264 x u) (zf_MMC_perform_0 N 264 x y w) := by
  rw [show zf_MMC_perform_0 N 264 x y w = zf_MMC_takeThree_0 N w from (show zf_MMC_perform_0 N 264 x y w = zbd (zbd (zf_MMC_takeThree_0 N w) zI) zI from rfl).trans (by rw [zbdI, zbdI])]
  exact zLine3 3 127 (by omega) hN X H hu (zPl_of hN (by decide +kernel : zPl 60 264 0 = some 215)) (by decide) cLn_215 (mThree Y H hw)
theorem zPk_266 (hN : 1000 ≤ N) (X : CxC u0 b h lv) (Y : CxM v0 b h lv) (H : zOk h s) (hu : RC u0 s u) (hw : RM v0 s tk wn p w) : zK1 h u0 v0 (zf_CCCode_carryOut_26 N 266 x u) (zf_MMC_perform_0 N 266 x y w) := by
  rw [show zf_MMC_perform_0 N 266 x y w = zf_MMC_takeThree_0 N w from (show zf_MMC_perform_0 N 266 x y w = zbd (zbd (zf_MMC_takeThree_0 N w) zI) zI from rfl).trans (by rw [zbdI, zbdI])]
  exact zLine3 3 127 (by omega) hN X H hu (zPl_of hN (by decide +kernel : zPl 60 266 0 = some 220)) (by decide) cLn_220 (mThree Y H hw)
theorem zPk_267 (hN : 1000 ≤ N) (X : CxC u0 b h lv) (Y : CxM v0 b h lv) (H : zOk h s) (hu : RC u0 s u) (hw : RM v0 s tk wn p w) : zK1 h u0 v0 (zf_CCCode_carryOut_26 N 267 x u) (zf_MMC_perform_0 N 267 x y w) := by
  rw [show zf_MMC_perform_0 N 267 x y w = zf_MMC_takeThree_0 N w from (show zf_MMC_perform_0 N 267 x y w = zbd (zbd (zf_MMC_takeThree_0 N w) zI) zI from rfl).trans (by rw [zbdI, zbdI])]
  exact zLine3 3 127 (by omega) hN X H hu (zPl_of hN (by decide +kernel : zPl 60 267 0 = some 220)) (by decide) cLn_220 (mThree Y H hw)
theorem zPk_268 (hN : 1000 ≤ N) (X : CxC u0 b h lv) (Y : CxM v0 b h lv) (H : zOk h s) (hu : RC u0 s u) (hw : RM v0 s tk wn p w) : zK1 h u0 v0 (zf_CCCode_carryOut_26 N 268 x u) (zf_MMC_perform_0 N 268 x y w) := by
  rw [show zf_MMC_perform_0 N 268 x y w = zf_MMC_takeThree_0 N w from (show zf_MMC_perform_0 N 268 x y w = zbd (zbd (zf_MMC_takeThree_0 N w) zI) zI from rfl).trans (by rw [zbdI, zbdI])]
  exact zLine3 3 127 (by omega) hN X H hu (zPl_of hN (by decide +kernel : zPl 60 268 0 = some 220)) (by decide) cLn_220 (mThree Y H hw)
theorem zPk_270 (hN : 1000 ≤ N) (X : CxC u0 b h lv) (Y : CxM v0 b h lv) (H : zOk h s) (hu : RC u0 s u) (hw : RM v0 s tk wn p w) : zK1 h u0 v0 (zf_CCCode_carryOut_26 N 270 x u) (zf_MMC_perform_0 N 270 x y w) := by
  rw [show zf_MMC_perform_0 N 270 x y w = zf_MMC_takeThree_0 N w from (show zf_MMC_perform_0 N 270 x y w = zbd (zbd (zf_MMC_takeThree_0 N w) zI) zI from rfl).trans (by rw [zbdI, zbdI])]
  exact zLine3 3 127 (by omega) hN X H hu (zPl_of hN (by decide +kernel : zPl 60 270 0 = some 225)) (by decide) cLn_225 (mThree Y H hw)
theorem zPk_272 (hN : 1000 ≤ N) (X : CxC u0 b h lv) (Y : CxM v0 b h lv) (H : zOk h s) (hu : RC u0 s u) (hw : RM v0 s tk wn p w) : zK1 h u0 v0 (zf_CCCode_carryOut_26 N 272 x u) (zf_MMC_perform_0 N 272 x y w) := by
  rw [show zf_MMC_perform_0 N 272 x y w = zf_MMC_give_0 N 127 w from (show zf_MMC_perform_0 N 272 x y w = zbd (zbd (zf_MMC_give_0 N 127 w) zI) zI from rfl).trans (by rw [zbdI, zbdI])]
  exact zLine 0 0 127 (by decide) (by omega) hN X H hu (zPl_of hN (by decide +kernel : zPl 60 272 0 = some 230)) (by decide) cLn_230 (by obtain ⟨v1, e1, r1⟩ := mGive (N := N) 127 H hw; exact ⟨v1, tk, e1, r1⟩)
end PK
