/-! pure: a step, whole -/
section ST
variable {N ty b c lb rw' lc : Nat} {n H M : Nat → Nat} {u v u' w' : zU} {s : zS} {tk : Int32} {wn : Nat} {p : Nat → Int32} {x y : Int32}
theorem zRg_40 (hN : 1000 ≤ N) {lv : Bool} (X : CxC u b (H b) lv) (Y : CxM (zB0 v) b (H b) lv) (Ho : zOk (H b) s) (hu : RC u s u') (hw : RM (zB0 v) s tk wn p w') : ∀ j ∈ ([40, 41, 42, 43, 44, 45, 46, 47, 48, 49, 50, 51, 52, 53, 54, 55, 56, 57, 58, 59] : List Nat), zK1 (H b) u (zB0 v) (zf_CCCode_carryOut_26 N (nI j) x u') (zf_MMC_perform_0 N (nI j) x y w') :=
  List.forall_mem_cons.mpr ⟨zNk_40 hN X Y Ho hu hw, List.forall_mem_cons.mpr ⟨zNk_41 hN X Y Ho hu hw, List.forall_mem_cons.mpr ⟨zNk_42 hN X Y Ho hu hw, List.forall_mem_cons.mpr ⟨zNk_43 hN X Y Ho hu hw, List.forall_mem_cons.mpr ⟨zNk_44 hN X Y Ho hu hw, List.forall_mem_cons.mpr ⟨zNk_45 hN X Y Ho hu hw, List.forall_mem_cons.mpr ⟨zNk_46 hN X Y Ho hu hw, List.forall_mem_cons.mpr ⟨zNk_47 hN X Y Ho hu hw, List.forall_mem_cons.mpr ⟨zNk_48 hN X Y Ho hu hw, List.forall_mem_cons.mpr ⟨zNk_49 hN X Y Ho hu hw, List.forall_mem_cons.mpr ⟨zNk_50 hN X Y Ho hu hw, List.forall_mem_cons.mpr ⟨zNk_51 hN X Y Ho hu hw, List.forall_mem_cons.mpr ⟨zNk_52 hN X Y Ho hu hw, List.forall_mem_cons.mpr ⟨zNk_53 hN X Y Ho hu hw, List.forall_mem_cons.mpr ⟨zNk_54 hN X Y Ho hu hw, List.forall_mem_cons.mpr ⟨zNk_55 hN X Y Ho hu hw, List.forall_mem_cons.mpr ⟨zNk_56 hN X Y Ho hu hw, List.forall_mem_cons.mpr ⟨zNk_57 hN X Y Ho hu hw, List.forall_mem_cons.mpr ⟨zNk_58 hN X Y Ho hu hw, List.forall_mem_cons.mpr ⟨zNk_59 hN X Y Ho hu hw, fun _ h => absurd h List.not_mem_nil⟩⟩⟩⟩⟩⟩⟩⟩⟩⟩⟩⟩⟩⟩⟩⟩⟩⟩⟩⟩
theorem zRg_60 (hN : 1000 ≤ N) {lv : Bool} (X : CxC u b (H b) lv) (Y : CxM (zB0 v) b (H b) lv) (Ho : zOk (H b) s) (hu : RC u s u') (hw : RM (zB0 v) s tk wn p w') : ∀ j ∈ ([60, 61, 62, 63, 64, 65, 66, 67, 68, 69, 70, 71, 72, 73, 74, 75, 76, 77, 78, 79] : List Nat), zK1 (H b) u (zB0 v) (zf_CCCode_carryOut_26 N (nI j) x u') (zf_MMC_perform_0 N (nI j) x y w') :=
  List.forall_mem_cons.mpr ⟨zNk_60 hN X Y Ho hu hw, List.forall_mem_cons.mpr ⟨zNk_61 hN X Y Ho hu hw, List.forall_mem_cons.mpr ⟨zNk_62 hN X Y Ho hu hw, List.forall_mem_cons.mpr ⟨zPk_63 hN X Y Ho hu hw, List.forall_mem_cons.mpr ⟨zPk_64 hN X Y Ho hu hw, List.forall_mem_cons.mpr ⟨zPk_65 hN X Y Ho hu hw, List.forall_mem_cons.mpr ⟨zPk_66 hN X Y Ho hu hw, List.forall_mem_cons.mpr ⟨zPk_67 hN X Y Ho hu hw, List.forall_mem_cons.mpr ⟨zPk_68 hN X Y Ho hu hw, List.forall_mem_cons.mpr ⟨zPk_69 hN X Y Ho hu hw, List.forall_mem_cons.mpr ⟨zPk_70 hN X Y Ho hu hw, List.forall_mem_cons.mpr ⟨zPk_71 hN X Y Ho hu hw, List.forall_mem_cons.mpr ⟨zPk_72 hN X Y Ho hu hw, List.forall_mem_cons.mpr ⟨zPk_73 hN X Y Ho hu hw, List.forall_mem_cons.mpr ⟨zPk_74 hN X Y Ho hu hw, List.forall_mem_cons.mpr ⟨zPk_75 hN X Y Ho hu hw, List.forall_mem_cons.mpr ⟨zPk_76 hN X Y Ho hu hw, List.forall_mem_cons.mpr ⟨zPk_77 hN X Y Ho hu hw, List.forall_mem_cons.mpr ⟨zPk_78 hN X Y Ho hu hw, List.forall_mem_cons.mpr ⟨zPk_79 hN X Y Ho hu hw, fun _ h => absurd h List.not_mem_nil⟩⟩⟩⟩⟩⟩⟩⟩⟩⟩⟩⟩⟩⟩⟩⟩⟩⟩⟩⟩
theorem zRg_80 (hN : 1000 ≤ N) {lv : Bool} (X : CxC u b (H b) lv) (Y : CxM (zB0 v) b (H b) lv) (Ho : zOk (H b) s) (hu : RC u s u') (hw : RM (zB0 v) s tk wn p w') : ∀ j ∈ ([80, 81, 82, 83, 84, 85, 86, 87, 88, 89, 90, 91, 92, 93, 94, 95, 96, 97, 98, 99] : List Nat), zK1 (H b) u (zB0 v) (zf_CCCode_carryOut_26 N (nI j) x u') (zf_MMC_perform_0 N (nI j) x y w') :=
  List.forall_mem_cons.mpr ⟨zPk_80 hN X Y Ho hu hw, List.forall_mem_cons.mpr ⟨zPk_81 hN X Y Ho hu hw, List.forall_mem_cons.mpr ⟨zPk_82 hN X Y Ho hu hw, List.forall_mem_cons.mpr ⟨zPk_83 hN X Y Ho hu hw, List.forall_mem_cons.mpr ⟨zPk_84 hN X Y Ho hu hw, List.forall_mem_cons.mpr ⟨zPk_85 hN X Y Ho hu hw, List.forall_mem_cons.mpr ⟨zPk_86 hN X Y Ho hu hw, List.forall_mem_cons.mpr ⟨zPk_87 hN X Y Ho hu hw, List.forall_mem_cons.mpr ⟨zPk_88 hN X Y Ho hu hw, List.forall_mem_cons.mpr ⟨zPk_89 hN X Y Ho hu hw, List.forall_mem_cons.mpr ⟨zPk_90 hN X Y Ho hu hw, List.forall_mem_cons.mpr ⟨zPk_91 hN X Y Ho hu hw, List.forall_mem_cons.mpr ⟨zPk_92 hN X Y Ho hu hw, List.forall_mem_cons.mpr ⟨zPk_93 hN X Y Ho hu hw, List.forall_mem_cons.mpr ⟨zPk_94 hN X Y Ho hu hw, List.forall_mem_cons.mpr ⟨zPk_95 hN X Y Ho hu hw, List.forall_mem_cons.mpr ⟨zPk_96 hN X Y Ho hu hw, List.forall_mem_cons.mpr ⟨zPk_97 hN X Y Ho hu hw, List.forall_mem_cons.mpr ⟨zPk_98 hN X Y Ho hu hw, List.forall_mem_cons.mpr ⟨zPk_99 hN X Y Ho hu hw, fun _ h => absurd h List.not_mem_nil⟩⟩⟩⟩⟩⟩⟩⟩⟩⟩⟩⟩⟩⟩⟩⟩⟩⟩⟩⟩
theorem zRg_100 (hN : 1000 ≤ N) {lv : Bool} (X : CxC u b (H b) lv) (Y : CxM (zB0 v) b (H b) lv) (Ho : zOk (H b) s) (hu : RC u s u') (hw : RM (zB0 v) s tk wn p w') : ∀ j ∈ ([100, 101, 102, 103, 104, 105, 106, 107, 108, 109, 110, 111, 112, 113, 114, 115, 116, 117, 118, 119] : List Nat), zK1 (H b) u (zB0 v) (zf_CCCode_carryOut_26 N (nI j) x u') (zf_MMC_perform_0 N (nI j) x y w') :=
  List.forall_mem_cons.mpr ⟨zPk_100 hN X Y Ho hu hw, List.forall_mem_cons.mpr ⟨zPk_101 hN X Y Ho hu hw, List.forall_mem_cons.mpr ⟨zPk_102 hN X Y Ho hu hw, List.forall_mem_cons.mpr ⟨zPk_103 hN X Y Ho hu hw, List.forall_mem_cons.mpr ⟨zPk_104 hN X Y Ho hu hw, List.forall_mem_cons.mpr ⟨zPk_105 hN X Y Ho hu hw, List.forall_mem_cons.mpr ⟨zPk_106 hN X Y Ho hu hw, List.forall_mem_cons.mpr ⟨zPk_107 hN X Y Ho hu hw, List.forall_mem_cons.mpr ⟨zPk_108 hN X Y Ho hu hw, List.forall_mem_cons.mpr ⟨zPk_109 hN X Y Ho hu hw, List.forall_mem_cons.mpr ⟨zPk_110 hN X Y Ho hu hw, List.forall_mem_cons.mpr ⟨zPk_111 hN X Y Ho hu hw, List.forall_mem_cons.mpr ⟨zPk_112 hN X Y Ho hu hw, List.forall_mem_cons.mpr ⟨zPk_113 hN X Y Ho hu hw, List.forall_mem_cons.mpr ⟨zPk_114 hN X Y Ho hu hw, List.forall_mem_cons.mpr ⟨zPk_115 hN X Y Ho hu hw, List.forall_mem_cons.mpr ⟨zPk_116 hN X Y Ho hu hw, List.forall_mem_cons.mpr ⟨zPk_117 hN X Y Ho hu hw, List.forall_mem_cons.mpr ⟨zPk_118 hN X Y Ho hu hw, List.forall_mem_cons.mpr ⟨zPk_119 hN X Y Ho hu hw, fun _ h => absurd h List.not_mem_nil⟩⟩⟩⟩⟩⟩⟩⟩⟩⟩⟩⟩⟩⟩⟩⟩⟩⟩⟩⟩
theorem zRg_120 (hN : 1000 ≤ N) {lv : Bool} (X : CxC u b (H b) lv) (Y : CxM (zB0 v) b (H b) lv) (Ho : zOk (H b) s) (hu : RC u s u') (hw : RM (zB0 v) s tk wn p w') : ∀ j ∈ ([120, 121, 122, 123, 124, 125, 126, 127, 128, 129, 130, 131, 132, 133, 134, 135, 136, 137, 138, 139] : List Nat), zK1 (H b) u (zB0 v) (zf_CCCode_carryOut_26 N (nI j) x u') (zf_MMC_perform_0 N (nI j) x y w') :=
  List.forall_mem_cons.mpr ⟨zPk_120 hN X Y Ho hu hw, List.forall_mem_cons.mpr ⟨zPk_121 hN X Y Ho hu hw, List.forall_mem_cons.mpr ⟨zPk_122 hN X Y Ho hu hw, List.forall_mem_cons.mpr ⟨zPk_123 hN X Y Ho hu hw, List.forall_mem_cons.mpr ⟨zPk_124 hN X Y Ho hu hw, List.forall_mem_cons.mpr ⟨zPk_125 hN X Y Ho hu hw, List.forall_mem_cons.mpr ⟨zPk_126 hN X Y Ho hu hw, List.forall_mem_cons.mpr ⟨zPk_127 hN X Y Ho hu hw, List.forall_mem_cons.mpr ⟨zPk_128 hN X Y Ho hu hw, List.forall_mem_cons.mpr ⟨zPk_129 hN X Y Ho hu hw, List.forall_mem_cons.mpr ⟨zPk_130 hN X Y Ho hu hw, List.forall_mem_cons.mpr ⟨zPk_131 hN X Y Ho hu hw, List.forall_mem_cons.mpr ⟨zPk_132 hN X Y Ho hu hw, List.forall_mem_cons.mpr ⟨zPk_133 hN X Y Ho hu hw, List.forall_mem_cons.mpr ⟨zPk_134 hN X Y Ho hu hw, List.forall_mem_cons.mpr ⟨zPk_135 hN X Y Ho hu hw, List.forall_mem_cons.mpr ⟨zPk_136 hN X Y Ho hu hw, List.forall_mem_cons.mpr ⟨zPk_137 hN X Y Ho hu hw, List.forall_mem_cons.mpr ⟨zPk_138 hN X Y Ho hu hw, List.forall_mem_cons.mpr ⟨zPk_139 hN X Y Ho hu hw, fun _ h => absurd h List.not_mem_nil⟩⟩⟩⟩⟩⟩⟩⟩⟩⟩⟩⟩⟩⟩⟩⟩⟩⟩⟩⟩
theorem zRg_140 (hN : 1000 ≤ N) {lv : Bool} (X : CxC u b (H b) lv) (Y : CxM (zB0 v) b (H b) lv) (Ho : zOk (H b) s) (hu : RC u s u') (hw : RM (zB0 v) s tk wn p w') : ∀ j ∈ ([140, 141, 142, 143, 144, 145, 146, 147, 148, 149, 150, 151, 152, 153, 154, 155, 156, 157, 158, 159] : List Nat), zK1 (H b) u (zB0 v) (zf_CCCode_carryOut_26 N (nI j) x u') (zf_MMC_perform_0 N (nI j) x y w') :=
  List.forall_mem_cons.mpr ⟨zPk_140 hN X Y Ho hu hw, List.forall_mem_cons.mpr ⟨zPk_141 hN X Y Ho hu hw, List.forall_mem_cons.mpr ⟨zPk_142 hN X Y Ho hu hw, List.forall_mem_cons.mpr ⟨zPk_143 hN X Y Ho hu hw, List.forall_mem_cons.mpr ⟨zPk_144 hN X Y Ho hu hw, List.forall_mem_cons.mpr ⟨zPk_145 hN X Y Ho hu hw, List.forall_mem_cons.mpr ⟨zPk_146 hN X Y Ho hu hw, List.forall_mem_cons.mpr ⟨zPk_147 hN X Y Ho hu hw, List.forall_mem_cons.mpr ⟨zPk_148 hN X Y Ho hu hw, List.forall_mem_cons.mpr ⟨zPk_149 hN X Y Ho hu hw, List.forall_mem_cons.mpr ⟨zPk_150 hN X Y Ho hu hw, List.forall_mem_cons.mpr ⟨zPk_151 hN X Y Ho hu hw, List.forall_mem_cons.mpr ⟨zPk_152 hN X Y Ho hu hw, List.forall_mem_cons.mpr ⟨zPk_153 hN X Y Ho hu hw, List.forall_mem_cons.mpr ⟨zPk_154 hN X Y Ho hu hw, List.forall_mem_cons.mpr ⟨zPk_155 hN X Y Ho hu hw, List.forall_mem_cons.mpr ⟨zPk_156 hN X Y Ho hu hw, List.forall_mem_cons.mpr ⟨zPk_157 hN X Y Ho hu hw, List.forall_mem_cons.mpr ⟨zPk_158 hN X Y Ho hu hw, List.forall_mem_cons.mpr ⟨zPk_159 hN X Y Ho hu hw, fun _ h => absurd h List.not_mem_nil⟩⟩⟩⟩⟩⟩⟩⟩⟩⟩⟩⟩⟩⟩⟩⟩⟩⟩⟩⟩
theorem zRg_160 (hN : 1000 ≤ N) {lv : Bool} (X : CxC u b (H b) lv) (Y : CxM (zB0 v) b (H b) lv) (Ho : zOk (H b) s) (hu : RC u s u') (hw : RM (zB0 v) s tk wn p w') : ∀ j ∈ ([160, 161, 162, 163, 164, 165, 166, 167, 168, 169, 170, 171, 172, 173, 174, 175, 176, 177, 178, 179] : List Nat), zK1 (H b) u (zB0 v) (zf_CCCode_carryOut_26 N (nI j) x u') (zf_MMC_perform_0 N (nI j) x y w') :=
  List.forall_mem_cons.mpr ⟨zPk_160 hN X Y Ho hu hw, List.forall_mem_cons.mpr ⟨zPk_161 hN X Y Ho hu hw, List.forall_mem_cons.mpr ⟨zPk_162 hN X Y Ho hu hw, List.forall_mem_cons.mpr ⟨zPk_163 hN X Y Ho hu hw, List.forall_mem_cons.mpr ⟨zPk_164 hN X Y Ho hu hw, List.forall_mem_cons.mpr ⟨zPk_165 hN X Y Ho hu hw, List.forall_mem_cons.mpr ⟨zPk_166 hN X Y Ho hu hw, List.forall_mem_cons.mpr ⟨zPk_167 hN X Y Ho hu hw, List.forall_mem_cons.mpr ⟨zPk_168 hN X Y Ho hu hw, List.forall_mem_cons.mpr ⟨zPk_169 hN X Y Ho hu hw, List.forall_mem_cons.mpr ⟨zPk_170 hN X Y Ho hu hw, List.forall_mem_cons.mpr ⟨zPk_171 hN X Y Ho hu hw, List.forall_mem_cons.mpr ⟨zPk_172 hN X Y Ho hu hw, List.forall_mem_cons.mpr ⟨zPk_173 hN X Y Ho hu hw, List.forall_mem_cons.mpr ⟨zPk_174 hN X Y Ho hu hw, List.forall_mem_cons.mpr ⟨zPk_175 hN X Y Ho hu hw, List.forall_mem_cons.mpr ⟨zPk_176 hN X Y Ho hu hw, List.forall_mem_cons.mpr ⟨zPk_177 hN X Y Ho hu hw, List.forall_mem_cons.mpr ⟨zPk_178 hN X Y Ho hu hw, List.forall_mem_cons.mpr ⟨zPk_179 hN X Y Ho hu hw, fun _ h => absurd h List.not_mem_nil⟩⟩⟩⟩⟩⟩⟩⟩⟩⟩⟩⟩⟩⟩⟩⟩⟩⟩⟩⟩
theorem zRg_180 (hN : 1000 ≤ N) {lv : Bool} (X : CxC u b (H b) lv) (Y : CxM (zB0 v) b (H b) lv) (Ho : zOk (H b) s) (hu : RC u s u') (hw : RM (zB0 v) s tk wn p w') : ∀ j ∈ ([180, 181, 182, 183, 184, 185, 186, 187, 188, 189, 190, 191, 192, 193, 194, 195, 196] : List Nat), zK1 (H b) u (zB0 v) (zf_CCCode_carryOut_26 N (nI j) x u') (zf_MMC_perform_0 N (nI j) x y w') :=
  List.forall_mem_cons.mpr ⟨zPk_180 hN X Y Ho hu hw, List.forall_mem_cons.mpr ⟨zPk_181 hN X Y Ho hu hw, List.forall_mem_cons.mpr ⟨zPk_182 hN X Y Ho hu hw, List.forall_mem_cons.mpr ⟨zPk_183 hN X Y Ho hu hw, List.forall_mem_cons.mpr ⟨zPk_184 hN X Y Ho hu hw, List.forall_mem_cons.mpr ⟨zPk_185 hN X Y Ho hu hw, List.forall_mem_cons.mpr ⟨zPk_186 hN X Y Ho hu hw, List.forall_mem_cons.mpr ⟨zPk_187 hN X Y Ho hu hw, List.forall_mem_cons.mpr ⟨zPk_188 hN X Y Ho hu hw, List.forall_mem_cons.mpr ⟨zPk_189 hN X Y Ho hu hw, List.forall_mem_cons.mpr ⟨zPk_190 hN X Y Ho hu hw, List.forall_mem_cons.mpr ⟨zPk_191 hN X Y Ho hu hw, List.forall_mem_cons.mpr ⟨zPk_192 hN X Y Ho hu hw, List.forall_mem_cons.mpr ⟨zPk_193 hN X Y Ho hu hw, List.forall_mem_cons.mpr ⟨zPk_194 hN X Y Ho hu hw, List.forall_mem_cons.mpr ⟨zPk_195 hN X Y Ho hu hw, List.forall_mem_cons.mpr ⟨zPk_196 hN X Y Ho hu hw, fun _ h => absurd h List.not_mem_nil⟩⟩⟩⟩⟩⟩⟩⟩⟩⟩⟩⟩⟩⟩⟩⟩⟩
theorem zRg (hN : 1000 ≤ N) (hT : RT ty n u v) (hB : RB ty b c H u v) (hL : RL lb rw' lc M u v) (h8 : gi u 8 = gi v 1) (h1 : gi v 1 = 1) (Ho : zOk (H b) s) (hu : RC u s u') (hw : RM (zB0 v) s tk wn p w') {j : Nat} (j1 : 40 ≤ j) (j2 : j ≤ 196) : zGo N (zf_CCCode_carryOut_26 N (nI j) x u') (zf_MMC_perform_0 N (nI j) x y w') := by
  obtain ⟨lv, X, Y⟩ := zCxC hB
  refine zGo1 hN hT hB hL h8 h1 ?_
  by_cases q40 : j < 60
  · exact zRg_40 hN X Y Ho hu hw j (show j ∈ List.range' 40 20 from List.mem_range'_1.mpr ⟨by omega, by omega⟩)
  by_cases q60 : j < 80
  · exact zRg_60 hN X Y Ho hu hw j (show j ∈ List.range' 60 20 from List.mem_range'_1.mpr ⟨by omega, by omega⟩)
  by_cases q80 : j < 100
  · exact zRg_80 hN X Y Ho hu hw j (show j ∈ List.range' 80 20 from List.mem_range'_1.mpr ⟨by omega, by omega⟩)
  by_cases q100 : j < 120
  · exact zRg_100 hN X Y Ho hu hw j (show j ∈ List.range' 100 20 from List.mem_range'_1.mpr ⟨by omega, by omega⟩)
  by_cases q120 : j < 140
  · exact zRg_120 hN X Y Ho hu hw j (show j ∈ List.range' 120 20 from List.mem_range'_1.mpr ⟨by omega, by omega⟩)
  by_cases q140 : j < 160
  · exact zRg_140 hN X Y Ho hu hw j (show j ∈ List.range' 140 20 from List.mem_range'_1.mpr ⟨by omega, by omega⟩)
  by_cases q160 : j < 180
  · exact zRg_160 hN X Y Ho hu hw j (show j ∈ List.range' 160 20 from List.mem_range'_1.mpr ⟨by omega, by omega⟩)
  by_cases q180 : j < 197
  · exact zRg_180 hN X Y Ho hu hw j (show j ∈ List.range' 180 17 from List.mem_range'_1.mpr ⟨by omega, by omega⟩)
  omega
theorem zPerf (hN : 1000 ≤ N) (hT : RT ty n u v) (hB : RB ty b c H u v) (hL : RL lb rw' lc M u v) (h8 : gi u 8 = gi v 1) (h1 : gi v 1 = 1) (Ho : zOk (H b) s) (hu : RC u s u') (hw : RM (zB0 v) s tk wn p w') (he : s.2.2 = 0) {i : Int32} (hF : zFm i x) (hTh : zTh ty n b lb rw' M w' i x y) (hLw : RL lb rw' lc M u w') : zGo N (zf_CCCode_carryOut_26 N i x u') (zf_MMC_perform_0 N i x y w') := by
  obtain ⟨lv, X, Y⟩ := zCxC hB
  have sh := hT.2.2.2.1
  have vs := hT.2.2.2.2.1
  have n1 := (sh 1 (by omega)).1
  have n3 := (sh 3 (by omega)).1
  obtain ⟨T1, T2, T3, T4, T5, T6, T7, T8, T9, T10⟩ := hTh
  obtain ⟨hI, F2, F28, F208⟩ := hF
  have g1 : ∀ {C : Option (Int32 × zU)} {R : Option (Unit × zU)}, zK1 (H b) u (zB0 v) C R → zGo N C R := fun hk => zGo1 hN hT hB hL h8 h1 hk
  by_cases i0 : i = 0
  · subst i0
    exact zGo_0 hN hT hB hL h8 h1 Ho hu hw
  by_cases i1 : i = 1
  · subst i1
    exact g1 (zNk_1 hN Ho hu hw)
  by_cases i2 : i = 2
  · subst i2
    exact zGo_2 hN hT hB hL h8 h1 Ho hu hw (F2 (by decide)) (T1 (by decide)) he
  by_cases i3 : i = 3
  · subst i3
    exact zGo_3 hN hT hB hL h8 h1 Ho hu hw (F2 (by decide)) (T1 (by decide)) he
  by_cases i4 : i = 4
  · subst i4
    exact zGo_4 hN hT hB hL h8 h1 Ho hu hw (F2 (by decide)) (T1 (by decide)) he
  by_cases i5 : i = 5
  · subst i5
    exact zGo_5 hN hT hB hL h8 h1 Ho hu hw he
  by_cases i11 : i = 11
  · subst i11
    exact zGo_11 hN hT hB hL h8 h1 Ho hu hw he
  by_cases i12 : i = 12
  · subst i12
    exact zGo_12 hN hT hB hL h8 h1 Ho hu hw (T2 (by decide))
  by_cases i13 : i = 13
  · subst i13
    exact zGo_13 hN hT hB hL h8 h1 Ho hu hw (T2 (by decide))
  by_cases i14 : i = 14
  · subst i14
    exact zGo_14 hN hT hB hL h8 h1 Ho hu hw (T2 (by decide)) (T3 rfl)
  by_cases i15 : i = 15
  · subst i15
    exact zGo_15 hN hT hB hL h8 h1 Ho hu hw
  by_cases i16 : i = 16
  · subst i16
    exact zGo_16 hN hT hB hL h8 h1 Ho hu hw (T4 (by decide))
  by_cases i17 : i = 17
  · subst i17
    exact zGo_17 hN hT hB hL h8 h1 Ho hu hw (T5 rfl).1
  by_cases i26 : i = 26
  · subst i26
    exact g1 (zNk_26 hN X Y Ho hu hw)
  by_cases i27 : i = 27
  · subst i27
    exact g1 (zNk_27 hN X Y Ho hu hw)
  by_cases i28 : i = 28
  · subst i28
    exact g1 (zNk_28 hN X Y Ho hu hw (F28 rfl))
  by_cases i32 : i = 32
  · subst i32
    obtain ⟨T, a1, a2, a3⟩ := zLocT hN hLw (T6 (by decide))
    exact g1 (zNk_32 hN X Y Ho hu hw a1 a2 a3)
  by_cases i33 : i = 33
  · subst i33
    obtain ⟨T, a1, a2, a3⟩ := zLocT hN hLw (T6 (by decide))
    exact g1 (zNk_33 hN X Y Ho hu hw a1 a2 a3)
  by_cases i34 : i = 34
  · subst i34
    obtain ⟨T, a1, a2, a3⟩ := zLocT hN hLw (T6 (by decide))
    exact g1 (zNk_34 hN X Y Ho hu hw a1 a2 a3)
  by_cases i35 : i = 35
  · subst i35
    obtain ⟨j, hj, ex⟩ := zHs_j (T7 (by decide)) (by omega)
    obtain ⟨v1, -, -, v2⟩ := vs 3 (by omega) (by omega) (by omega) j hj
    exact g1 (zNk_35 hN X Y Ho hu hw ex hj n3 (sh 3 (by omega)).2.1 v1 rfl (v2 rfl))
  by_cases i36 : i = 36
  · subst i36
    obtain ⟨j, hj, ex⟩ := zHs_j (T7 (by decide)) (by omega)
    obtain ⟨v1, -, -, v2⟩ := vs 3 (by omega) (by omega) (by omega) j hj
    exact g1 (zNk_36 hN X Y Ho hu hw ex hj n3 (sh 3 (by omega)).2.1 v1 rfl (v2 rfl))
  by_cases i37 : i = 37
  · subst i37
    obtain ⟨j, hj, ex⟩ := zHs_j (T8 (by decide)) (by omega)
    obtain ⟨v1, -, v2, -⟩ := vs 1 (by omega) (by omega) (by omega) j hj
    exact g1 (zNk_37 hN X Y Ho hu hw ex hj n1 (sh 1 (by omega)).2.1 v1 rfl (zR_V (v2 (Or.inl rfl))))
  by_cases i38 : i = 38
  · subst i38
    obtain ⟨j, hj, ex⟩ := zHs_j (T8 (by decide)) (by omega)
    obtain ⟨v1, -, v2, -⟩ := vs 1 (by omega) (by omega) (by omega) j hj
    exact g1 (zNk_38 hN X Y Ho hu hw ex hj n1 (sh 1 (by omega)).2.1 v1 rfl (zR_V (v2 (Or.inl rfl))))
  by_cases i208 : i = 208
  · subst i208
    exact g1 (zNk_208 hN X Y Ho hu hw)
  by_cases i209 : i = 209
  · subst i209
    exact g1 (zNk_209 hN X Y Ho he hu hw)
  by_cases i210 : i = 210
  · subst i210
    exact g1 (zPk_210 hN X Y Ho hu hw)
  by_cases i256 : i = 256
  · subst i256
    exact g1 (zPk_256 hN X Y Ho hu hw)
  by_cases i257 : i = 257
  · subst i257
    exact g1 (zPk_257 hN X Y Ho hu hw)
  by_cases i258 : i = 258
  · subst i258
    exact g1 (zPk_258 hN X Y Ho hu hw)
  by_cases i259 : i = 259
  · subst i259
    exact g1 (zPk_259 hN X Y Ho hu hw)
  by_cases i260 : i = 260
  · subst i260
    exact g1 (zPk_260 hN X Y Ho hu hw)
  by_cases i261 : i = 261
  · subst i261
    exact g1 (zPk_261 hN X Y Ho hu hw)
  by_cases i262 : i = 262
  · subst i262
    exact g1 (zPk_262 hN X Y Ho hu hw)
  by_cases i263 : i = 263
  · subst i263
    exact g1 (zPk_263 hN X Y Ho hu hw)
  by_cases i264 : i = 264
  · subst i264
    exact g1 (zPk_264 hN X Y Ho hu hw)
  by_cases i265 : i = 265
  · subst i265
    exact g1 (zNk_265 hN X Y Ho hu hw)
  by_cases i266 : i = 266
  · subst i266
    exact g1 (zPk_266 hN X Y Ho hu hw)
  by_cases i267 : i = 267
  · subst i267
    exact g1 (zPk_267 hN X Y Ho hu hw)
  by_cases i268 : i = 268
  · subst i268
    exact g1 (zPk_268 hN X Y Ho hu hw)
  by_cases i269 : i = 269
  · subst i269
    exact g1 (zNk_269 hN X Y Ho hu hw)
  by_cases i270 : i = 270
  · subst i270
    exact g1 (zPk_270 hN X Y Ho hu hw)
  by_cases i271 : i = 271
  · subst i271
    obtain ⟨j, hj, ex⟩ := zHs_j (T8 (by decide)) (by omega)
    obtain ⟨v1, -, v2, -⟩ := vs 1 (by omega) (by omega) (by omega) j hj
    exact g1 (zNk_271 hN X Y Ho hu hw ex hj n1 (sh 1 (by omega)).2.1 v1 rfl (zR_V (v2 (Or.inl rfl))))
  by_cases i272 : i = 272
  · subst i272
    exact g1 (zPk_272 hN X Y Ho hu hw)
  by_cases i273 : i = 273
  · subst i273
    obtain ⟨j, hj, ex⟩ := zHs_j (T8 (by decide)) (by omega)
    obtain ⟨v1, -, v2, -⟩ := vs 1 (by omega) (by omega) (by omega) j hj
    exact g1 (zNk_273 hN X Y Ho hu hw ex hj n1 (sh 1 (by omega)).2.1 v1 rfl (zR_V (v2 (Or.inl rfl))))
  have h0 : ¬ i < 0 := fun q => by
    rcases hI with a | a | a | a | a | a | a <;> exact absurd (Int32.lt_of_le_of_lt a.1 q) (by decide)
  obtain ⟨j, hj, rfl⟩ := nI_of h0
  rcases hI with ⟨a1, a2⟩ | ⟨a1, a2⟩ | ⟨a1, a2⟩ | ⟨a1, a2⟩ | ⟨a1, a2⟩ | ⟨a1, a2⟩ | ⟨a1, a2⟩
  · have b1 : 0 ≤ j := (nI_leI (a := 0) (by omega) hj).mp a1
    have b2 : j ≤ 5 := (nI_leI (b := 5) hj (by omega)).mp a2
    have c : j = 0 ∨ j = 1 ∨ j = 2 ∨ j = 3 ∨ j = 4 ∨ j = 5 := by omega
    rcases c with rfl | rfl | rfl | rfl | rfl | rfl
    · exact absurd rfl i0
    · exact absurd rfl i1
    · exact absurd rfl i2
    · exact absurd rfl i3
    · exact absurd rfl i4
    · exact absurd rfl i5
  · have b1 : 11 ≤ j := (nI_leI (a := 11) (by omega) hj).mp a1
    have b2 : j ≤ 17 := (nI_leI (b := 17) hj (by omega)).mp a2
    have c : j = 11 ∨ j = 12 ∨ j = 13 ∨ j = 14 ∨ j = 15 ∨ j = 16 ∨ j = 17 := by omega
    rcases c with rfl | rfl | rfl | rfl | rfl | rfl | rfl
    · exact absurd rfl i11
    · exact absurd rfl i12
    · exact absurd rfl i13
    · exact absurd rfl i14
    · exact absurd rfl i15
    · exact absurd rfl i16
    · exact absurd rfl i17
  · have b1 : 26 ≤ j := (nI_leI (a := 26) (by omega) hj).mp a1
    have b2 : j ≤ 28 := (nI_leI (b := 28) hj (by omega)).mp a2
    have c : j = 26 ∨ j = 27 ∨ j = 28 := by omega
    rcases c with rfl | rfl | rfl
    · exact absurd rfl i26
    · exact absurd rfl i27
    · exact absurd rfl i28
  · have b1 : 32 ≤ j := (nI_leI (a := 32) (by omega) hj).mp a1
    have b2 : j ≤ 38 := (nI_leI (b := 38) hj (by omega)).mp a2
    have c : j = 32 ∨ j = 33 ∨ j = 34 ∨ j = 35 ∨ j = 36 ∨ j = 37 ∨ j = 38 := by omega
    rcases c with rfl | rfl | rfl | rfl | rfl | rfl | rfl
    · exact absurd rfl i32
    · exact absurd rfl i33
    · exact absurd rfl i34
    · exact absurd rfl i35
    · exact absurd rfl i36
    · exact absurd rfl i37
    · exact absurd rfl i38
  · have b1 : 40 ≤ j := (nI_leI (a := 40) (by omega) hj).mp a1
    have b2 : j ≤ 196 := (nI_leI (b := 196) hj (by omega)).mp a2
    exact zRg hN hT hB hL h8 h1 Ho hu hw b1 b2
  · have b1 : 208 ≤ j := (nI_leI (a := 208) (by omega) hj).mp a1
    have b2 : j ≤ 210 := (nI_leI (b := 210) hj (by omega)).mp a2
    have c : j = 208 ∨ j = 209 ∨ j = 210 := by omega
    rcases c with rfl | rfl | rfl
    · exact absurd rfl i208
    · exact absurd rfl i209
    · exact absurd rfl i210
  · have b1 : 256 ≤ j := (nI_leI (a := 256) (by omega) hj).mp a1
    have b2 : j ≤ 273 := (nI_leI (b := 273) hj (by omega)).mp a2
    have c : j = 256 ∨ j = 257 ∨ j = 258 ∨ j = 259 ∨ j = 260 ∨ j = 261 ∨ j = 262 ∨ j = 263 ∨ j = 264 ∨ j = 265 ∨ j = 266 ∨ j = 267 ∨ j = 268 ∨ j = 269 ∨ j = 270 ∨ j = 271 ∨ j = 272 ∨ j = 273 := by omega
    rcases c with rfl | rfl | rfl | rfl | rfl | rfl | rfl | rfl | rfl | rfl | rfl | rfl | rfl | rfl | rfl | rfl | rfl | rfl
    · exact absurd rfl i256
    · exact absurd rfl i257
    · exact absurd rfl i258
    · exact absurd rfl i259
    · exact absurd rfl i260
    · exact absurd rfl i261
    · exact absurd rfl i262
    · exact absurd rfl i263
    · exact absurd rfl i264
    · exact absurd rfl i265
    · exact absurd rfl i266
    · exact absurd rfl i267
    · exact absurd rfl i268
    · exact absurd rfl i269
    · exact absurd rfl i270
    · exact absurd rfl i271
    · exact absurd rfl i272
    · exact absurd rfl i273
end ST
theorem RL_to {lb rw' lc : Nat} {M : Nat → Nat} {u v v' : zU} (g8 : gi v' 8 = gi v 8) (g3 : gi v' 3 = gi v 3) (g7 : gi v' 7 = gi v 7) (g6 : gi v' 6 = gi v 6) (a9 : v'.2.2.1 9 = v.2.2.1 9) (a8 : v'.2.2.1 8 = v.2.2.1 8) (gl : v'.2.2.2 = v.2.2.2) (h : RL lb rw' lc M u v) : RL lb rw' lc M u v' := by
  unfold RL at h ⊢
  rw [g8, g3, g7, g6, a9, a8, gl]
  exact h
theorem zl_step (N : Nat) (hN : 1000000 ≤ N) (i x y : Int32) {u v : zU} (h : zRel u v) : ∃ r u1 v1, zf_CCC_step_0 N i x y u = some (r, u1) ∧ zf_MMC_step_0 N i x y v = some (r, v1) ∧ zRel u1 v1 := by
  obtain ⟨ty, n, hT, h8, hst, hO⟩ := id h
  have hN1 : 1000 ≤ N := by omega
  by_cases ho : gi v 1 = 1
  · obtain ⟨b, c, H, lb, rw', lc, M, hB, hL⟩ := hO ho
    obtain ⟨⟨a1, a2, a3, a4⟩, ⟨c1, c2, c3, c4⟩, ⟨d1, d2, d3, d4⟩, -⟩ := id hB
    have hu : RC u (c, u.2.2.1 18, 0) u := by have := RC_self u c c2; rw [a1] at this; exact this
    have Ho : zOk (H b) (c, u.2.2.1 18, 0) := ⟨d3, c1, (by decide : (0 : Int32) ≤ 0)⟩
    obtain ⟨w, tk, wn, p, hw, es⟩ := mStart (N := N) (x1 := i) (x2 := x) (x3 := y) (f := u.2.2.1 18) hN1 ho c3 c1 c4
    have mid : ∀ (s : zS) (w : zU), RM (zB0 v) s tk wn p w → RT ty n u w ∧ RB ty b c H u w ∧ RL lb rw' lc M u w := by
      intro s w hw
      refine ⟨RT_to (u := u) (v := v) (fun _ _ => rfl) (fun _ _ => rfl) (zRM_i (by omega) hw) (fun k hk => zRM_a (by omega) hw) hT, ?_, ?_⟩
      · exact RB_to (u := u) (v := v) rfl rfl rfl rfl rfl (fun _ _ _ => rfl) (zRM_i (by omega) hw) (zRM_i (by omega) hw) (zRM_i (by omega) hw) (zRM_i (by omega) hw) (zRM_i (by omega) hw) (by show w.2.1 0 = v.2.1 0; rw [(zRM_j hw).1]) (fun k q1 q2 => zRM_a (by omega) hw) hB
      · exact RL_to (zRM_i (by omega) hw) (zRM_i (by omega) hw) (zRM_i (by omega) hw) (zRM_i (by omega) hw) (zRM_a (by omega) hw) (zRM_a (by omega) hw) (zRM_j hw).2 hL
    obtain ⟨hT1, hB1, hL1⟩ := mid _ w hw
    obtain ⟨k, e1, k0, w', e2, r2, hk⟩ := zExamine (i := i) (x := x) (y := y) hN1 hT1 hB1 hL1 rfl hw
    obtain ⟨hT2, hB2, hL2⟩ := mid _ w' r2
    unfold zf_CCC_step_0
    rw [zbd_eq cIsOpen, h8, if_pos ho, if_neg (show ¬ (1 : Int32) = 0 from by decide), zbd_eq e1, es, zbd_eq e2, RM_11 r2]
    by_cases hk0 : k = 0
    · subst hk0
      have es0 : aStop 0 (c, u.2.2.1 18, (0 : Int32)) = (c, u.2.2.1 18, 0) := rfl
      rw [es0] at r2 ⊢
      rw [if_pos rfl, if_pos (show (c, u.2.2.1 18, (0 : Int32)).2.2 = 0 from rfl)]
      obtain ⟨hF, hTh⟩ := hk rfl
      have e9 : w'.2.2.1 9 = w.2.2.1 9 := by rw [zRM_a (by omega) r2, zRM_a (by omega) hw]
      have hTh2 : zTh ty n b lb rw' M w' i x y := by unfold zTh at hTh ⊢; rw [e9]; exact hTh
      exact zPerf hN1 hT hB hL h8 ho Ho hu r2 rfl hF hTh2 hL2
    · have es1 : (aStop k (c, u.2.2.1 18, (0 : Int32))).2.2 = k := rfl
      rw [es1, if_neg hk0, if_neg hk0]
      obtain ⟨u2, v2, q1, q2, q3⟩ := zStepF (N := N) k0 hk0 hT2 (by rw [RM_11 r2]; exact es1)
      exact ⟨k, u2, v2, q1, q2, q3⟩
  · unfold zf_CCC_step_0 zf_MMC_step_0
    rw [zbd_eq cIsOpen, h8, if_neg ho, if_pos rfl, if_neg ho]
    exact ⟨_, _, _, rfl, rfl, h⟩
