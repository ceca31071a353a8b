theorem zL_of_tables_1_1 {w : Cond} (k : Nat) (h : tables_1_1[k]? = some w) : w ∈ lw_tbl := List.mem_append_right _ (show w ∈ tables_1 from List.mem_append_left _ (List.mem_of_getElem? h))
theorem zL_of_tables_1_2 {w : Cond} (k : Nat) (h : tables_1_2[k]? = some w) : w ∈ lw_tbl := List.mem_append_right _ (show w ∈ tables_1 from List.mem_append_right _ (List.mem_append_left _ (List.mem_of_getElem? h)))
theorem zL_of_tables_1_3 {w : Cond} (k : Nat) (h : tables_1_3[k]? = some w) : w ∈ lw_tbl := List.mem_append_right _ (show w ∈ tables_1 from List.mem_append_right _ (List.mem_append_right _ (List.mem_append_left _ (List.mem_of_getElem? h))))
theorem zL_of_tables_1_4 {w : Cond} (k : Nat) (h : tables_1_4[k]? = some w) : w ∈ lw_tbl := List.mem_append_right _ (show w ∈ tables_1 from List.mem_append_right _ (List.mem_append_right _ (List.mem_append_right _ (List.mem_append_left _ (List.mem_of_getElem? h)))))
theorem zL_of_tables_1_5 {w : Cond} (k : Nat) (h : tables_1_5[k]? = some w) : w ∈ lw_tbl := List.mem_append_right _ (show w ∈ tables_1 from List.mem_append_right _ (List.mem_append_right _ (List.mem_append_right _ (List.mem_append_right _ (List.mem_of_getElem? h)))))
theorem zT_of_tables_1_1 {w : Cond} (k : Nat) (h : tables_1_1[k]? = some w) (g : goodWord w = true) : w ∈ zT := List.mem_filter.mpr ⟨zL_of_tables_1_1 k h, g⟩
theorem zN_of_tables_1_1 {w : Cond} (k : Nat) (h : tables_1_1[k]? = some w) (g : zisN w = true) : w ∈ zN := List.mem_filter.mpr ⟨zL_of_tables_1_1 k h, g⟩
theorem zT_of_tables_1_2 {w : Cond} (k : Nat) (h : tables_1_2[k]? = some w) (g : goodWord w = true) : w ∈ zT := List.mem_filter.mpr ⟨zL_of_tables_1_2 k h, g⟩
theorem zN_of_tables_1_2 {w : Cond} (k : Nat) (h : tables_1_2[k]? = some w) (g : zisN w = true) : w ∈ zN := List.mem_filter.mpr ⟨zL_of_tables_1_2 k h, g⟩
theorem zT_of_tables_1_3 {w : Cond} (k : Nat) (h : tables_1_3[k]? = some w) (g : goodWord w = true) : w ∈ zT := List.mem_filter.mpr ⟨zL_of_tables_1_3 k h, g⟩
theorem zN_of_tables_1_3 {w : Cond} (k : Nat) (h : tables_1_3[k]? = some w) (g : zisN w = true) : w ∈ zN := List.mem_filter.mpr ⟨zL_of_tables_1_3 k h, g⟩
theorem zT_of_tables_1_4 {w : Cond} (k : Nat) (h : tables_1_4[k]? = some w) (g : goodWord w = true) : w ∈ zT := List.mem_filter.mpr ⟨zL_of_tables_1_4 k h, g⟩
theorem zN_of_tables_1_4 {w : Cond} (k : Nat) (h : tables_1_4[k]? = some w) (g : zisN w = true) : w ∈ zN := List.mem_filter.mpr ⟨zL_of_tables_1_4 k h, g⟩
theorem zT_of_tables_1_5 {w : Cond} (k : Nat) (h : tables_1_5[k]? = some w) (g : goodWord w = true) : w ∈ zT := List.mem_filter.mpr ⟨zL_of_tables_1_5 k h, g⟩
theorem zN_of_tables_1_5 {w : Cond} (k : Nat) (h : tables_1_5[k]? = some w) (g : zisN w = true) : w ∈ zN := List.mem_filter.mpr ⟨zL_of_tables_1_5 k h, g⟩
theorem zT_of_sels {q : MethodName × Nat} (k : Nat) (h : lw_privs[k]? = some q) : Cond.selects q.1.cls q.1 q.1 ∈ zT := List.mem_filter.mpr ⟨List.mem_append_left _ (List.mem_map.mpr ⟨q, List.mem_of_getElem? h, rfl⟩), rfl⟩
theorem hin0_CC : ∀ w ∈ u_ws R_CC F_CC 2, w ∈ lw_tbl ∧ goodWord w = true := by decide +kernel
theorem hin_CC : ∀ w ∈ u_ws R_CC F_CC 2, w ∈ zT := fun w h => List.mem_filter.mpr (hin0_CC w h)
theorem hin0_CCode : ∀ w ∈ u_ws R_CCode F_CCode 10, w ∈ lw_tbl ∧ goodWord w = true := by decide +kernel
theorem hin_CCode : ∀ w ∈ u_ws R_CCode F_CCode 10, w ∈ zT := fun w h => List.mem_filter.mpr (hin0_CCode w h)
theorem hin0_CLocals : ∀ w ∈ u_ws R_CLocals F_CLocals 4, w ∈ lw_tbl ∧ goodWord w = true := by decide +kernel
theorem hin_CLocals : ∀ w ∈ u_ws R_CLocals F_CLocals 4, w ∈ zT := fun w h => List.mem_filter.mpr (hin0_CLocals w h)
theorem hin0_CRows : ∀ w ∈ u_ws R_CRows F_CRows 3, w ∈ lw_tbl ∧ goodWord w = true := by decide +kernel
theorem hin_CRows : ∀ w ∈ u_ws R_CRows F_CRows 3, w ∈ zT := fun w h => List.mem_filter.mpr (hin0_CRows w h)
theorem hin0_CShelf : ∀ w ∈ u_ws R_CShelf F_CShelf 3, w ∈ lw_tbl ∧ goodWord w = true := by decide +kernel
theorem hin_CShelf : ∀ w ∈ u_ws R_CShelf F_CShelf 3, w ∈ zT := fun w h => List.mem_filter.mpr (hin0_CShelf w h)
theorem hin0_CStack : ∀ w ∈ u_ws R_CStack F_CStack 10, w ∈ lw_tbl ∧ goodWord w = true := by decide +kernel
theorem hin_CStack : ∀ w ∈ u_ws R_CStack F_CStack 10, w ∈ zT := fun w h => List.mem_filter.mpr (hin0_CStack w h)
theorem hin0_CThings : ∀ w ∈ u_ws R_CThings F_CThings 9, w ∈ lw_tbl ∧ goodWord w = true := by decide +kernel
theorem hin_CThings : ∀ w ∈ u_ws R_CThings F_CThings 9, w ∈ zT := fun w h => List.mem_filter.mpr (hin0_CThings w h)
theorem hin0_MC : ∀ w ∈ u_ws R_MC F_MC 39, w ∈ lw_tbl ∧ goodWord w = true := by decide +kernel
theorem hin_MC : ∀ w ∈ u_ws R_MC F_MC 39, w ∈ zT := fun w h => List.mem_filter.mpr (hin0_MC w h)
