set_option maxHeartbeats 4000000 in
set_option maxRecDepth 100000 in
theorem zc_CCShelf_typeOf_20 (l : Launch) (D : va_G) (z : zZ) (a : Nat → Nat) (N : Nat) (x1 : Int32) (u : zU) (r : Int32) (u1 : zU) (hf : zf_CCShelf_typeOf_20 N x1 u = some (r, u1)) : zMet l D z y_CShelf_typeOf (.code y_CShelf_typeOf b_CShelf_typeOf 2 (some (.int))) { frames := 1, cells := 0, slots := 0, locals := 21 } [.ref (a 20), .int x1] (wC a z u) (zQi D r (wC a z u1)) := by
  refine zM_i (own := R_CShelf) [.ref (a 20), .int x1] (wC a z u) r (wC a z u1) (by decide) rfl (Nat.le_of_ble_eq_true rfl) ?_
  intro p e s m args below meth c A ls B hr hlk hI hl
  have hl : lv_has ls 2 [(0, .ref (a 20)), (1, .int x1)] := hl
  revert hf
  revert hI hl
  have hb27 : ∀ (s0 : Int32) (u : zU) (H : Heap) (locs : List Loc) (ls : Array Slot), zf_CCShelf_typeOf_20_b27 N  s0 u = some (r, u1) → iw D A s (wC a z u) H locs → lv_has ls 2 [] → W p l e ({ frames := 1, cells := 0, slots := 0, locals := 21 } : Room) s m args below meth c H locs 0 0 (MQ below (zQi D r (wC a z u1) A) args s 0 0 A) (F0 m 27 ls [.int s0]) := by
    intro s0 u H locs ls hf hI hl
    unfold zf_CCShelf_typeOf_20_b27 at hf
    obtain ⟨e1, e2⟩ := zrt hf
    exact zr_i (wC a z) B hI hr hlk e1 e2 d_CShelf_typeOf_27
  have hb26 : ∀  (u : zU) (H : Heap) (locs : List Loc) (ls : Array Slot), zf_CCShelf_typeOf_20_b26 N   u = some (r, u1) → iw D A s (wC a z u) H locs → lv_has ls 2 [] → W p l e ({ frames := 1, cells := 0, slots := 0, locals := 21 } : Room) s m args below meth c H locs 0 0 (MQ below (zQi D r (wC a z u1) A) args s 0 0 A) (F0 m 26 ls []) := by
    intro  u H locs ls hf hI hl
    unfold zf_CCShelf_typeOf_20_b26 at hf
    refine lv_iconst (v := 0) B.1 B.2.1 d_CShelf_typeOf_26 (by decide) ?_
    exact hb27 0 u _ _ _ hf hI (lv_sub hl [] rfl)
  intro hI hl hf
  unfold zf_CCShelf_typeOf_20 at hf
  refine lv_aload_n B.1 B.2.1 d_CShelf_typeOf_0 rfl (lv_at hl 0 rfl) ?_
  refine lv_iload_n B.1 B.2.1 d_CShelf_typeOf_1 rfl (lv_at hl 1 rfl) ?_
  obtain ⟨r1, u2, h3, hf⟩ := zbd_some hf
  refine rx_Vi (n := 1) (As := [.int x1]) (rest := []) B hI hl.1 (zc_CCShelf_has_20 l D z a N x1 u r1 u2 h3) zw_64 zw_66 zw_67 zw_44 zw_65 (by decide +kernel) 20 (wC_at_20 a z u) hcl_CShelf rfl rfl (Nat.le_of_ble_eq_true rfl) d_CShelf_typeOf_2 ⟨Nat.le_of_ble_eq_true rfl, Nat.le_of_ble_eq_true rfl⟩ rfl rfl ⟨Nat.zero_le _, Nat.zero_le _⟩ (fun H locs hI => ?_)
  refine lv_if_eq (tgt := 26) B.1 B.2.1 d_CShelf_typeOf_5 (by decide) (fun hc4 => ?_) (fun hc4 => ?_)
  · rw [if_pos hc4] at hf
    exact hb26  u2 _ _ _ hf hI (lv_sub hl [] rfl)
  · rw [if_neg hc4] at hf
    refine lv_iload_n B.1 B.2.1 d_CShelf_typeOf_8 rfl (lv_at hl 1 rfl) ?_
    refine lv_aload_n B.1 B.2.1 d_CShelf_typeOf_9 rfl (lv_at hl 0 rfl) ?_
    refine rx_get (v := .ref (a 21)) B hI hcl_CShelf hin_CShelf 20 (wC_at_20 a z u2) 0 (by decide) hf_CShelf_0 zw_41 rfl d_CShelf_typeOf_10 ?_
    refine rx_alen (v := 40) B hI 21 0 (wC_at_21 a z u2) rfl rfl d_CShelf_typeOf_13 ?_
    refine lv_icmp_ge (tgt := 26) B.1 B.2.1 d_CShelf_typeOf_14 (by decide) (fun hc5 => ?_) (fun hc5 => ?_)
    · rw [if_pos hc5] at hf
      exact hb26  u2 _ _ _ hf hI (lv_sub hl [] rfl)
    · rw [if_neg hc5] at hf
      refine lv_aload_n B.1 B.2.1 d_CShelf_typeOf_17 rfl (lv_at hl 0 rfl) ?_
      refine rx_get (v := .ref (a 21)) B hI hcl_CShelf hin_CShelf 20 (wC_at_20 a z u2) 0 (by decide) hf_CShelf_0 zw_41 rfl d_CShelf_typeOf_18 ?_
      refine lv_iload_n B.1 B.2.1 d_CShelf_typeOf_21 rfl (lv_at hl 1 rfl) ?_
      obtain ⟨hi6, hf⟩ := zck_some hf
      refine rx_iald B hI 21 (wC_at_21 a z u2) hi6 d_CShelf_typeOf_22 ?_
      refine lv_goto (tgt := 27) B.1 B.2.1 d_CShelf_typeOf_23 (by decide) ?_
      exact hb27 (ga u2 12 x1) u2 _ _ _ hf hI (lv_sub hl [] rfl)
set_option maxHeartbeats 4000000 in
set_option maxRecDepth 100000 in
theorem zc_CCShelf_isMarked_8 (l : Launch) (D : va_G) (z : zZ) (a : Nat → Nat) (N : Nat) (x1 : Int32) (u : zU) (r : Int32) (u1 : zU) (hf : zf_CCShelf_isMarked_8 N x1 u = some (r, u1)) : zMet l D z y_CShelf_isMarked (.code y_CShelf_isMarked b_CShelf_isMarked 2 (some (.boolean))) { frames := 1, cells := 0, slots := 0, locals := 21 } [.ref (a 8), .int x1] (wC a z u) (zQi D r (wC a z u1)) := by
  refine zM_i (own := R_CShelf) [.ref (a 8), .int x1] (wC a z u) r (wC a z u1) (by decide) rfl (Nat.le_of_ble_eq_true rfl) ?_
  intro p e s m args below meth c A ls B hr hlk hI hl
  have hl : lv_has ls 2 [(0, .ref (a 8)), (1, .int x1)] := hl
  revert hf
  revert hI hl
  have hb31 : ∀ (s0 : Int32) (u : zU) (H : Heap) (locs : List Loc) (ls : Array Slot), zf_CCShelf_isMarked_8_b31 N  s0 u = some (r, u1) → iw D A s (wC a z u) H locs → lv_has ls 2 [] → W p l e ({ frames := 1, cells := 0, slots := 0, locals := 21 } : Room) s m args below meth c H locs 0 0 (MQ below (zQi D r (wC a z u1) A) args s 0 0 A) (F0 m 31 ls [.int s0]) := by
    intro s0 u H locs ls hf hI hl
    unfold zf_CCShelf_isMarked_8_b31 at hf
    obtain ⟨hz3, hf⟩ := zck_some hf
    obtain ⟨e1, e2⟩ := zrt hf
    exact zr_z (wC a z) B hI hr hlk hz3 e1 e2 d_CShelf_isMarked_31
  have hb30 : ∀  (u : zU) (H : Heap) (locs : List Loc) (ls : Array Slot), zf_CCShelf_isMarked_8_b30 N   u = some (r, u1) → iw D A s (wC a z u) H locs → lv_has ls 2 [] → W p l e ({ frames := 1, cells := 0, slots := 0, locals := 21 } : Room) s m args below meth c H locs 0 0 (MQ below (zQi D r (wC a z u1) A) args s 0 0 A) (F0 m 30 ls []) := by
    intro  u H locs ls hf hI hl
    unfold zf_CCShelf_isMarked_8_b30 at hf
    refine lv_iconst (v := 0) B.1 B.2.1 d_CShelf_isMarked_30 (by decide) ?_
    exact hb31 0 u _ _ _ hf hI (lv_sub hl [] rfl)
  intro hI hl hf
  unfold zf_CCShelf_isMarked_8 at hf
  refine lv_aload_n B.1 B.2.1 d_CShelf_isMarked_0 rfl (lv_at hl 0 rfl) ?_
  refine lv_iload_n B.1 B.2.1 d_CShelf_isMarked_1 rfl (lv_at hl 1 rfl) ?_
  obtain ⟨r1, u2, h3, hf⟩ := zbd_some hf
  refine rx_Vi (n := 1) (As := [.int x1]) (rest := []) B hI hl.1 (zc_CCShelf_has_8 l D z a N x1 u r1 u2 h3) zw_64 zw_66 zw_67 zw_44 zw_65 (by decide +kernel) 8 (wC_at_8 a z u) hcl_CShelf rfl rfl (Nat.le_of_ble_eq_true rfl) d_CShelf_isMarked_2 ⟨Nat.le_of_ble_eq_true rfl, Nat.le_of_ble_eq_true rfl⟩ rfl rfl ⟨Nat.zero_le _, Nat.zero_le _⟩ (fun H locs hI => ?_)
  refine lv_if_eq (tgt := 30) B.1 B.2.1 d_CShelf_isMarked_5 (by decide) (fun hc4 => ?_) (fun hc4 => ?_)
  · rw [if_pos hc4] at hf
    exact hb30  u2 _ _ _ hf hI (lv_sub hl [] rfl)
  · rw [if_neg hc4] at hf
    refine lv_iload_n B.1 B.2.1 d_CShelf_isMarked_8 rfl (lv_at hl 1 rfl) ?_
    refine lv_aload_n B.1 B.2.1 d_CShelf_isMarked_9 rfl (lv_at hl 0 rfl) ?_
    refine rx_get (v := .ref (a 10)) B hI hcl_CShelf hin_CShelf 8 (wC_at_8 a z u2) 1 (by decide) hf_CShelf_1 zw_42 rfl d_CShelf_isMarked_10 ?_
    refine rx_alen (v := 40) B hI 10 1 (wC_at_10 a z u2) rfl rfl d_CShelf_isMarked_13 ?_
    refine lv_icmp_ge (tgt := 30) B.1 B.2.1 d_CShelf_isMarked_14 (by decide) (fun hc5 => ?_) (fun hc5 => ?_)
    · rw [if_pos hc5] at hf
      exact hb30  u2 _ _ _ hf hI (lv_sub hl [] rfl)
    · rw [if_neg hc5] at hf
      refine lv_aload_n B.1 B.2.1 d_CShelf_isMarked_17 rfl (lv_at hl 0 rfl) ?_
      refine rx_get (v := .ref (a 10)) B hI hcl_CShelf hin_CShelf 8 (wC_at_8 a z u2) 1 (by decide) hf_CShelf_1 zw_42 rfl d_CShelf_isMarked_18 ?_
      refine lv_iload_n B.1 B.2.1 d_CShelf_isMarked_21 rfl (lv_at hl 1 rfl) ?_
      obtain ⟨hi6, hf⟩ := zck_some hf
      refine rx_zald B hI 10 (wC_at_10 a z u2) hi6 d_CShelf_isMarked_22 ?_
      refine lv_if_eq (tgt := 30) B.1 B.2.1 d_CShelf_isMarked_23 (by decide) (fun hc7 => ?_) (fun hc7 => ?_)
      · rw [if_pos hc7] at hf
        exact hb30  u2 _ _ _ hf hI (lv_sub hl [] rfl)
      · rw [if_neg hc7] at hf
        refine lv_iconst (v := 1) B.1 B.2.1 d_CShelf_isMarked_26 (by decide) ?_
        refine lv_goto (tgt := 31) B.1 B.2.1 d_CShelf_isMarked_27 (by decide) ?_
        exact hb31 1 u2 _ _ _ hf hI (lv_sub hl [] rfl)
set_option maxHeartbeats 4000000 in
set_option maxRecDepth 100000 in
theorem zc_CCCode_misfit_26 (l : Launch) (D : va_G) (z : zZ) (a : Nat → Nat) (N : Nat) (x1 : Int32) (x2 : Int32) (x3 : Int32) (u : zU) (r : Int32) (u1 : zU) (hf : zf_CCCode_misfit_26 N x1 x2 x3 u = some (r, u1)) : zMet l D z y_CCode_misfit (.code y_CCode_misfit b_CCode_misfit 4 (some (.int))) { frames := 3, cells := 0, slots := 0, locals := 66 } [.ref (a 26), .int x1, .int x2, .int x3] (wC a z u) (zQi D r (wC a z u1)) := by
  refine zM_i (own := R_CCode) [.ref (a 26), .int x1, .int x2, .int x3] (wC a z u) r (wC a z u1) (by decide) rfl (Nat.le_of_ble_eq_true rfl) ?_
  intro p e s m args below meth c A ls B hr hlk hI hl
  have hl : lv_has ls 4 [(0, .ref (a 26)), (1, .int x1), (2, .int x2), (3, .int x3)] := hl
  revert hf
  revert hI hl
  have hb134 : ∀ (s0 : Int32) (u : zU) (H : Heap) (locs : List Loc) (ls : Array Slot), zf_CCCode_misfit_26_b134 N  s0 u = some (r, u1) → iw D A s (wC a z u) H locs → lv_has ls 4 [] → W p l e ({ frames := 3, cells := 0, slots := 0, locals := 66 } : Room) s m args below meth c H locs 0 0 (MQ below (zQi D r (wC a z u1) A) args s 0 0 A) (F0 m 134 ls [.int s0]) := by
    intro s0 u H locs ls hf hI hl
    unfold zf_CCCode_misfit_26_b134 at hf
    obtain ⟨e1, e2⟩ := zrt hf
    exact zr_i (wC a z) B hI hr hlk e1 e2 d_CCode_misfit_134
  have hb155 : ∀ (s0 : Int32) (u : zU) (H : Heap) (locs : List Loc) (ls : Array Slot), zf_CCCode_misfit_26_b155 N  s0 u = some (r, u1) → iw D A s (wC a z u) H locs → lv_has ls 4 [] → W p l e ({ frames := 3, cells := 0, slots := 0, locals := 66 } : Room) s m args below meth c H locs 0 0 (MQ below (zQi D r (wC a z u1) A) args s 0 0 A) (F0 m 155 ls [.int s0]) := by
    intro s0 u H locs ls hf hI hl
    unfold zf_CCCode_misfit_26_b155 at hf
    obtain ⟨e1, e2⟩ := zrt hf
    exact zr_i (wC a z) B hI hr hlk e1 e2 d_CCode_misfit_155
  have hb172 : ∀ (s0 : Int32) (u : zU) (H : Heap) (locs : List Loc) (ls : Array Slot), zf_CCCode_misfit_26_b172 N  s0 u = some (r, u1) → iw D A s (wC a z u) H locs → lv_has ls 4 [] → W p l e ({ frames := 3, cells := 0, slots := 0, locals := 66 } : Room) s m args below meth c H locs 0 0 (MQ below (zQi D r (wC a z u1) A) args s 0 0 A) (F0 m 172 ls [.int s0]) := by
    intro s0 u H locs ls hf hI hl
    unfold zf_CCCode_misfit_26_b172 at hf
    obtain ⟨e1, e2⟩ := zrt hf
    exact zr_i (wC a z) B hI hr hlk e1 e2 d_CCode_misfit_172
  have hb156 : ∀  (u : zU) (H : Heap) (locs : List Loc) (ls : Array Slot), zf_CCCode_misfit_26_b156 N   u = some (r, u1) → iw D A s (wC a z u) H locs → lv_has ls 4 [(0, .ref (a 26))] → W p l e ({ frames := 3, cells := 0, slots := 0, locals := 66 } : Room) s m args below meth c H locs 0 0 (MQ below (zQi D r (wC a z u1) A) args s 0 0 A) (F0 m 156 ls []) := by
    intro  u H locs ls hf hI hl
    unfold zf_CCCode_misfit_26_b156 at hf
    refine lv_aload_n B.1 B.2.1 d_CCode_misfit_156 rfl (lv_at hl 0 rfl) ?_
    refine rx_get (v := .ref (a 1)) B hI hcl_CCode hin_CCode 26 (wC_at_26 a z u) 0 (by decide) hf_CCode_0 zw_106 rfl d_CCode_misfit_157 ?_
    obtain ⟨r1, u2, h3, hf⟩ := zbd_some hf
    refine rx_Vi (n := 0) (As := []) (rest := []) B hI hl.1 (zc_CCThings_hasMemory_1 l D z a N  u r1 u2 h3) zw_188 zw_190 zw_191 zw_3 zw_189 (by decide +kernel) 1 (wC_at_1 a z u) hcl_CThings rfl rfl (Nat.le_of_ble_eq_true rfl) d_CCode_misfit_160 ⟨Nat.le_of_ble_eq_true rfl, Nat.le_of_ble_eq_true rfl⟩ rfl rfl ⟨Nat.zero_le _, Nat.zero_le _⟩ (fun H locs hI => ?_)
    refine lv_if_eq (tgt := 170) B.1 B.2.1 d_CCode_misfit_163 (by decide) (fun hc4 => ?_) (fun hc4 => ?_)
    · rw [if_pos hc4] at hf
      refine lv_bipush (v := 9) B.1 B.2.1 d_CCode_misfit_170 (by decide) ?_
      exact hb172 9 u2 _ _ _ hf hI (lv_sub hl [] rfl)
    · rw [if_neg hc4] at hf
      refine lv_iconst (v := 0) B.1 B.2.1 d_CCode_misfit_166 (by decide) ?_
      refine lv_goto (tgt := 172) B.1 B.2.1 d_CCode_misfit_167 (by decide) ?_
      exact hb172 0 u2 _ _ _ hf hI (lv_sub hl [] rfl)
  have hb193 : ∀ (s0 : Int32) (u : zU) (H : Heap) (locs : List Loc) (ls : Array Slot), zf_CCCode_misfit_26_b193 N  s0 u = some (r, u1) → iw D A s (wC a z u) H locs → lv_has ls 4 [] → W p l e ({ frames := 3, cells := 0, slots := 0, locals := 66 } : Room) s m args below meth c H locs 0 0 (MQ below (zQi D r (wC a z u1) A) args s 0 0 A) (F0 m 193 ls [.int s0]) := by
    intro s0 u H locs ls hf hI hl
    unfold zf_CCCode_misfit_26_b193 at hf
    obtain ⟨e1, e2⟩ := zrt hf
    exact zr_i (wC a z) B hI hr hlk e1 e2 d_CCode_misfit_193
  have hb225 : ∀ (s0 : Int32) (u : zU) (H : Heap) (locs : List Loc) (ls : Array Slot), zf_CCCode_misfit_26_b225 N  s0 u = some (r, u1) → iw D A s (wC a z u) H locs → lv_has ls 4 [] → W p l e ({ frames := 3, cells := 0, slots := 0, locals := 66 } : Room) s m args below meth c H locs 0 0 (MQ below (zQi D r (wC a z u1) A) args s 0 0 A) (F0 m 225 ls [.int s0]) := by
    intro s0 u H locs ls hf hI hl
    unfold zf_CCCode_misfit_26_b225 at hf
    obtain ⟨e1, e2⟩ := zrt hf
    exact zr_i (wC a z) B hI hr hlk e1 e2 d_CCode_misfit_225
  have hb257 : ∀ (s0 : Int32) (u : zU) (H : Heap) (locs : List Loc) (ls : Array Slot), zf_CCCode_misfit_26_b257 N  s0 u = some (r, u1) → iw D A s (wC a z u) H locs → lv_has ls 4 [] → W p l e ({ frames := 3, cells := 0, slots := 0, locals := 66 } : Room) s m args below meth c H locs 0 0 (MQ below (zQi D r (wC a z u1) A) args s 0 0 A) (F0 m 257 ls [.int s0]) := by
    intro s0 u H locs ls hf hI hl
    unfold zf_CCCode_misfit_26_b257 at hf
    obtain ⟨e1, e2⟩ := zrt hf
    exact zr_i (wC a z) B hI hr hlk e1 e2 d_CCode_misfit_257
  have hb19 : ∀ (x1 : Int32) (x2 : Int32) (x3 : Int32) (u : zU) (H : Heap) (locs : List Loc) (ls : Array Slot), zf_CCCode_misfit_26_b19 N  x1 x2 x3 u = some (r, u1) → iw D A s (wC a z u) H locs → lv_has ls 4 [(0, .ref (a 26)), (1, .int x1), (2, .int x2), (3, .int x3)] → W p l e ({ frames := 3, cells := 0, slots := 0, locals := 66 } : Room) s m args below meth c H locs 0 0 (MQ below (zQi D r (wC a z u1) A) args s 0 0 A) (F0 m 19 ls []) := by
    intro x1 x2 x3 u H locs ls hf hI hl
    unfold zf_CCCode_misfit_26_b19 at hf
    refine lv_iload_n B.1 B.2.1 d_CCode_misfit_19 rfl (lv_at hl 1 rfl) ?_
    by_cases hc1 : x1 = 17
    · rw [if_pos hc1] at hf
      refine lv_lookup (off := 92) (tgt := 112) B.1 B.2.1 d_CCode_misfit_20 (by decide +kernel) (by rw [hc1]; decide +kernel) (by decide) ?_
      refine lv_aload_n B.1 B.2.1 d_CCode_misfit_112 rfl (lv_at hl 0 rfl) ?_
      refine rx_get (v := .ref (a 1)) B hI hcl_CCode hin_CCode 26 (wC_at_26 a z u) 0 (by decide) hf_CCode_0 zw_106 rfl d_CCode_misfit_113 ?_
      refine rx_getN (v := .ref (a 11)) B hI hcl_CThings hin_CThings 1 (wC_at_1 a z u) 3 (by decide) hf_CThings_3 zw_165 rfl d_CCode_misfit_116 ?_
      refine lv_iload_n B.1 B.2.1 d_CCode_misfit_119 rfl (lv_at hl 3 rfl) ?_
      obtain ⟨r2, u3, h4, hf⟩ := zbd_some hf
      refine rx_Vi (n := 1) (As := [.int x3]) (rest := []) B hI hl.1 (zc_CCShelf_typeOf_11 l D z a N x3 u r2 u3 h4) zw_197 zw_199 zw_200 zw_44 zw_198 (by decide +kernel) 11 (wC_at_11 a z u) hcl_CShelf rfl rfl (Nat.le_of_ble_eq_true rfl) d_CCode_misfit_120 ⟨Nat.le_of_ble_eq_true rfl, Nat.le_of_ble_eq_true rfl⟩ rfl rfl ⟨Nat.zero_le _, Nat.zero_le _⟩ (fun H locs hI => ?_)
      refine lv_bipush (v := 112) B.1 B.2.1 d_CCode_misfit_123 (by decide) ?_
      refine lv_icmp_ne (tgt := 132) B.1 B.2.1 d_CCode_misfit_125 (by decide) (fun hc5 => ?_) (fun hc5 => ?_)
      · rw [if_neg hc5] at hf
        refine lv_bipush (v := 6) B.1 B.2.1 d_CCode_misfit_132 (by decide) ?_
        exact hb134 6 u3 _ _ _ hf hI (lv_sub hl [] rfl)
      · rw [if_pos hc5] at hf
        refine lv_iconst (v := 0) B.1 B.2.1 d_CCode_misfit_128 (by decide) ?_
        refine lv_goto (tgt := 134) B.1 B.2.1 d_CCode_misfit_129 (by decide) ?_
        exact hb134 0 u3 _ _ _ hf hI (lv_sub hl [] rfl)
    rw [if_neg hc1] at hf
    by_cases hc6 : x1 = 36
    · rw [if_pos hc6] at hf
      refine lv_lookup (off := 115) (tgt := 135) B.1 B.2.1 d_CCode_misfit_20 (by decide +kernel) (by rw [hc6]; decide +kernel) (by decide) ?_
      refine lv_aload_n B.1 B.2.1 d_CCode_misfit_135 rfl (lv_at hl 0 rfl) ?_
      refine rx_get (v := .ref (a 1)) B hI hcl_CCode hin_CCode 26 (wC_at_26 a z u) 0 (by decide) hf_CCode_0 zw_106 rfl d_CCode_misfit_136 ?_
      refine rx_getN (v := .ref (a 17)) B hI hcl_CThings hin_CThings 1 (wC_at_1 a z u) 5 (by decide) hf_CThings_5 zw_155 rfl d_CCode_misfit_139 ?_
      refine lv_iload_n B.1 B.2.1 d_CCode_misfit_142 rfl (lv_at hl 2 rfl) ?_
      obtain ⟨r7, u8, h9, hf⟩ := zbd_some hf
      refine rx_Vi (n := 1) (As := [.int x2]) (rest := []) B hI hl.1 (zc_CCShelf_isMarked_17 l D z a N x2 u r7 u8 h9) zw_157 zw_159 zw_160 zw_44 zw_158 (by decide +kernel) 17 (wC_at_17 a z u) hcl_CShelf rfl rfl (Nat.le_of_ble_eq_true rfl) d_CCode_misfit_143 ⟨Nat.le_of_ble_eq_true rfl, Nat.le_of_ble_eq_true rfl⟩ rfl rfl ⟨Nat.zero_le _, Nat.zero_le _⟩ (fun H locs hI => ?_)
      refine lv_if_eq (tgt := 153) B.1 B.2.1 d_CCode_misfit_146 (by decide) (fun hc10 => ?_) (fun hc10 => ?_)
      · rw [if_pos hc10] at hf
        refine lv_bipush (v := 8) B.1 B.2.1 d_CCode_misfit_153 (by decide) ?_
        exact hb155 8 u8 _ _ _ hf hI (lv_sub hl [] rfl)
      · rw [if_neg hc10] at hf
        refine lv_iconst (v := 0) B.1 B.2.1 d_CCode_misfit_149 (by decide) ?_
        refine lv_goto (tgt := 155) B.1 B.2.1 d_CCode_misfit_150 (by decide) ?_
        exact hb155 0 u8 _ _ _ hf hI (lv_sub hl [] rfl)
    rw [if_neg hc6] at hf
    by_cases hc11 : x1 = 63
    · rw [if_pos hc11] at hf
      refine lv_lookup (off := 136) (tgt := 156) B.1 B.2.1 d_CCode_misfit_20 (by decide +kernel) (by rw [hc11]; decide +kernel) (by decide) ?_
      exact hb156  u _ _ _ hf hI (lv_sub hl [0] rfl)
    rw [if_neg hc11] at hf
    by_cases hc12 : x1 = 64
    · rw [if_pos hc12] at hf
      refine lv_lookup (off := 136) (tgt := 156) B.1 B.2.1 d_CCode_misfit_20 (by decide +kernel) (by rw [hc12]; decide +kernel) (by decide) ?_
      exact hb156  u _ _ _ hf hI (lv_sub hl [0] rfl)
    rw [if_neg hc12] at hf
    by_cases hc13 : x1 = 210
    · rw [if_pos hc13] at hf
      refine lv_lookup (off := 153) (tgt := 173) B.1 B.2.1 d_CCode_misfit_20 (by decide +kernel) (by rw [hc13]; decide +kernel) (by decide) ?_
      refine lv_aload_n B.1 B.2.1 d_CCode_misfit_173 rfl (lv_at hl 0 rfl) ?_
      refine rx_get (v := .ref (a 1)) B hI hcl_CCode hin_CCode 26 (wC_at_26 a z u) 0 (by decide) hf_CCode_0 zw_106 rfl d_CCode_misfit_174 ?_
      refine rx_getN (v := .ref (a 8)) B hI hcl_CThings hin_CThings 1 (wC_at_1 a z u) 2 (by decide) hf_CThings_2 zw_174 rfl d_CCode_misfit_177 ?_
      refine lv_iload_n B.1 B.2.1 d_CCode_misfit_180 rfl (lv_at hl 2 rfl) ?_
      obtain ⟨r14, u15, h16, hf⟩ := zbd_some hf
      refine rx_Vi (n := 1) (As := [.int x2]) (rest := []) B hI hl.1 (zc_CCShelf_isMarked_8 l D z a N x2 u r14 u15 h16) zw_157 zw_159 zw_160 zw_44 zw_158 (by decide +kernel) 8 (wC_at_8 a z u) hcl_CShelf rfl rfl (Nat.le_of_ble_eq_true rfl) d_CCode_misfit_181 ⟨Nat.le_of_ble_eq_true rfl, Nat.le_of_ble_eq_true rfl⟩ rfl rfl ⟨Nat.zero_le _, Nat.zero_le _⟩ (fun H locs hI => ?_)
      refine lv_if_eq (tgt := 191) B.1 B.2.1 d_CCode_misfit_184 (by decide) (fun hc17 => ?_) (fun hc17 => ?_)
      · rw [if_pos hc17] at hf
        refine lv_bipush (v := 11) B.1 B.2.1 d_CCode_misfit_191 (by decide) ?_
        exact hb193 11 u15 _ _ _ hf hI (lv_sub hl [] rfl)
      · rw [if_neg hc17] at hf
        refine lv_iconst (v := 0) B.1 B.2.1 d_CCode_misfit_187 (by decide) ?_
        refine lv_goto (tgt := 193) B.1 B.2.1 d_CCode_misfit_188 (by decide) ?_
        exact hb193 0 u15 _ _ _ hf hI (lv_sub hl [] rfl)
    rw [if_neg hc13] at hf
    by_cases hc18 : x1 = 264
    · rw [if_pos hc18] at hf
      refine lv_lookup (off := 136) (tgt := 156) B.1 B.2.1 d_CCode_misfit_20 (by decide +kernel) (by rw [hc18]; decide +kernel) (by decide) ?_
      exact hb156  u _ _ _ hf hI (lv_sub hl [0] rfl)
    rw [if_neg hc18] at hf
    by_cases hc19 : x1 = 266
    · rw [if_pos hc19] at hf
      refine lv_lookup (off := 136) (tgt := 156) B.1 B.2.1 d_CCode_misfit_20 (by decide +kernel) (by rw [hc19]; decide +kernel) (by decide) ?_
      exact hb156  u _ _ _ hf hI (lv_sub hl [0] rfl)
    rw [if_neg hc19] at hf
    by_cases hc20 : x1 = 267
    · rw [if_pos hc20] at hf
      refine lv_lookup (off := 136) (tgt := 156) B.1 B.2.1 d_CCode_misfit_20 (by decide +kernel) (by rw [hc20]; decide +kernel) (by decide) ?_
      exact hb156  u _ _ _ hf hI (lv_sub hl [0] rfl)
    rw [if_neg hc20] at hf
    by_cases hc21 : x1 = 268
    · rw [if_pos hc21] at hf
      refine lv_lookup (off := 174) (tgt := 194) B.1 B.2.1 d_CCode_misfit_20 (by decide +kernel) (by rw [hc21]; decide +kernel) (by decide) ?_
      refine lv_aload_n B.1 B.2.1 d_CCode_misfit_194 rfl (lv_at hl 0 rfl) ?_
      refine rx_get (v := .ref (a 1)) B hI hcl_CCode hin_CCode 26 (wC_at_26 a z u) 0 (by decide) hf_CCode_0 zw_106 rfl d_CCode_misfit_195 ?_
      refine rx_getN (v := .ref (a 20)) B hI hcl_CThings hin_CThings 1 (wC_at_1 a z u) 6 (by decide) hf_CThings_6 zw_166 rfl d_CCode_misfit_198 ?_
      refine lv_iload_n B.1 B.2.1 d_CCode_misfit_201 rfl (lv_at hl 2 rfl) ?_
      obtain ⟨r22, u23, h24, hf⟩ := zbd_some hf
      refine rx_Vi (n := 1) (As := [.int x2]) (rest := []) B hI hl.1 (zc_CCShelf_typeOf_20 l D z a N x2 u r22 u23 h24) zw_197 zw_199 zw_200 zw_44 zw_198 (by decide +kernel) 20 (wC_at_20 a z u) hcl_CShelf rfl rfl (Nat.le_of_ble_eq_true rfl) d_CCode_misfit_202 ⟨Nat.le_of_ble_eq_true rfl, Nat.le_of_ble_eq_true rfl⟩ rfl rfl ⟨Nat.zero_le _, Nat.zero_le _⟩ (fun H locs hI => ?_)
      refine lv_aload_n B.1 B.2.1 d_CCode_misfit_205 rfl (lv_at hl 0 rfl) ?_
      refine rx_get (v := .ref (a 1)) B hI hcl_CCode hin_CCode 26 (wC_at_26 a z u23) 0 (by decide) hf_CCode_0 zw_106 rfl d_CCode_misfit_206 ?_
      refine rx_getN (v := .ref (a 11)) B hI hcl_CThings hin_CThings 1 (wC_at_1 a z u23) 3 (by decide) hf_CThings_3 zw_165 rfl d_CCode_misfit_209 ?_
      refine lv_iload_n B.1 B.2.1 d_CCode_misfit_212 rfl (lv_at hl 3 rfl) ?_
      obtain ⟨r25, u26, h27, hf⟩ := zbd_some hf
      refine rx_Vi (n := 1) (As := [.int x3]) (rest := [.int r22]) B hI hl.1 (zc_CCShelf_typeOf_11 l D z a N x3 u23 r25 u26 h27) zw_197 zw_199 zw_200 zw_44 zw_198 (by decide +kernel) 11 (wC_at_11 a z u23) hcl_CShelf rfl rfl (Nat.le_of_ble_eq_true rfl) d_CCode_misfit_213 ⟨Nat.le_of_ble_eq_true rfl, Nat.le_of_ble_eq_true rfl⟩ rfl rfl ⟨Nat.zero_le _, Nat.zero_le _⟩ (fun H locs hI => ?_)
      refine lv_icmp_ne (tgt := 223) B.1 B.2.1 d_CCode_misfit_216 (by decide) (fun hc28 => ?_) (fun hc28 => ?_)
      · rw [if_neg hc28] at hf
        refine lv_bipush (v := 6) B.1 B.2.1 d_CCode_misfit_223 (by decide) ?_
        exact hb225 6 u26 _ _ _ hf hI (lv_sub hl [] rfl)
      · rw [if_pos hc28] at hf
        refine lv_iconst (v := 0) B.1 B.2.1 d_CCode_misfit_219 (by decide) ?_
        refine lv_goto (tgt := 225) B.1 B.2.1 d_CCode_misfit_220 (by decide) ?_
        exact hb225 0 u26 _ _ _ hf hI (lv_sub hl [] rfl)
    rw [if_neg hc21] at hf
    by_cases hc29 : x1 = 270
    · rw [if_pos hc29] at hf
      refine lv_lookup (off := 206) (tgt := 226) B.1 B.2.1 d_CCode_misfit_20 (by decide +kernel) (by rw [hc29]; decide +kernel) (by decide) ?_
      refine lv_aload_n B.1 B.2.1 d_CCode_misfit_226 rfl (lv_at hl 0 rfl) ?_
      refine rx_get (v := .ref (a 1)) B hI hcl_CCode hin_CCode 26 (wC_at_26 a z u) 0 (by decide) hf_CCode_0 zw_106 rfl d_CCode_misfit_227 ?_
      refine rx_getN (v := .ref (a 11)) B hI hcl_CThings hin_CThings 1 (wC_at_1 a z u) 3 (by decide) hf_CThings_3 zw_165 rfl d_CCode_misfit_230 ?_
      refine lv_iload_n B.1 B.2.1 d_CCode_misfit_233 rfl (lv_at hl 2 rfl) ?_
      obtain ⟨r30, u31, h32, hf⟩ := zbd_some hf
      refine rx_Vi (n := 1) (As := [.int x2]) (rest := []) B hI hl.1 (zc_CCShelf_typeOf_11 l D z a N x2 u r30 u31 h32) zw_197 zw_199 zw_200 zw_44 zw_198 (by decide +kernel) 11 (wC_at_11 a z u) hcl_CShelf rfl rfl (Nat.le_of_ble_eq_true rfl) d_CCode_misfit_234 ⟨Nat.le_of_ble_eq_true rfl, Nat.le_of_ble_eq_true rfl⟩ rfl rfl ⟨Nat.zero_le _, Nat.zero_le _⟩ (fun H locs hI => ?_)
      refine lv_aload_n B.1 B.2.1 d_CCode_misfit_237 rfl (lv_at hl 0 rfl) ?_
      refine rx_get (v := .ref (a 1)) B hI hcl_CCode hin_CCode 26 (wC_at_26 a z u31) 0 (by decide) hf_CCode_0 zw_106 rfl d_CCode_misfit_238 ?_
      refine rx_getN (v := .ref (a 11)) B hI hcl_CThings hin_CThings 1 (wC_at_1 a z u31) 3 (by decide) hf_CThings_3 zw_165 rfl d_CCode_misfit_241 ?_
      refine lv_iload_n B.1 B.2.1 d_CCode_misfit_244 rfl (lv_at hl 3 rfl) ?_
      obtain ⟨r33, u34, h35, hf⟩ := zbd_some hf
      refine rx_Vi (n := 1) (As := [.int x3]) (rest := [.int r30]) B hI hl.1 (zc_CCShelf_typeOf_11 l D z a N x3 u31 r33 u34 h35) zw_197 zw_199 zw_200 zw_44 zw_198 (by decide +kernel) 11 (wC_at_11 a z u31) hcl_CShelf rfl rfl (Nat.le_of_ble_eq_true rfl) d_CCode_misfit_245 ⟨Nat.le_of_ble_eq_true rfl, Nat.le_of_ble_eq_true rfl⟩ rfl rfl ⟨Nat.zero_le _, Nat.zero_le _⟩ (fun H locs hI => ?_)
      refine lv_icmp_ne (tgt := 255) B.1 B.2.1 d_CCode_misfit_248 (by decide) (fun hc36 => ?_) (fun hc36 => ?_)
      · rw [if_neg hc36] at hf
        refine lv_bipush (v := 6) B.1 B.2.1 d_CCode_misfit_255 (by decide) ?_
        exact hb257 6 u34 _ _ _ hf hI (lv_sub hl [] rfl)
      · rw [if_pos hc36] at hf
        refine lv_iconst (v := 0) B.1 B.2.1 d_CCode_misfit_251 (by decide) ?_
        refine lv_goto (tgt := 257) B.1 B.2.1 d_CCode_misfit_252 (by decide) ?_
        exact hb257 0 u34 _ _ _ hf hI (lv_sub hl [] rfl)
    rw [if_neg hc29] at hf
    refine lv_lookup (off := 238) (tgt := 258) B.1 B.2.1 d_CCode_misfit_20 (by decide +kernel) ((lv_osw hc1 (by decide)).trans ((lv_osw hc6 (by decide)).trans ((lv_osw hc11 (by decide)).trans ((lv_osw hc12 (by decide)).trans ((lv_osw hc13 (by decide)).trans ((lv_osw hc18 (by decide)).trans ((lv_osw hc19 (by decide)).trans ((lv_osw hc20 (by decide)).trans ((lv_osw hc21 (by decide)).trans ((lv_osw hc29 (by decide)).trans (Op.lookupswitch.offset_nil _ _))))))))))) (by decide) ?_
    refine lv_iconst (v := 0) B.1 B.2.1 d_CCode_misfit_258 (by decide) ?_
    obtain ⟨e37, e38⟩ := zrt hf
    exact zr_i (wC a z) B hI hr hlk e37 e38 d_CCode_misfit_259
  intro hI hl hf
  unfold zf_CCCode_misfit_26 at hf
  refine lv_iload_n B.1 B.2.1 d_CCode_misfit_0 rfl (lv_at hl 1 rfl) ?_
  refine lv_bipush (v := 40) B.1 B.2.1 d_CCode_misfit_1 (by decide) ?_
  refine lv_icmp_lt (tgt := 19) B.1 B.2.1 d_CCode_misfit_3 (by decide) (fun hc1 => ?_) (fun hc1 => ?_)
  · rw [if_pos hc1] at hf
    exact hb19 x1 x2 x3 u _ _ _ hf hI (lv_sub hl [0, 1, 2, 3] rfl)
  · rw [if_neg hc1] at hf
    refine lv_iload_n B.1 B.2.1 d_CCode_misfit_6 rfl (lv_at hl 1 rfl) ?_
    refine lv_bipush (v := 62) B.1 B.2.1 d_CCode_misfit_7 (by decide) ?_
    refine lv_icmp_gt (tgt := 19) B.1 B.2.1 d_CCode_misfit_9 (by decide) (fun hc2 => ?_) (fun hc2 => ?_)
    · rw [if_pos hc2] at hf
      exact hb19 x1 x2 x3 u _ _ _ hf hI (lv_sub hl [0, 1, 2, 3] rfl)
    · rw [if_neg hc2] at hf
      refine lv_aload_n B.1 B.2.1 d_CCode_misfit_12 rfl (lv_at hl 0 rfl) ?_
      refine lv_iload_n B.1 B.2.1 d_CCode_misfit_13 rfl (lv_at hl 1 rfl) ?_
      refine lv_iload_n B.1 B.2.1 d_CCode_misfit_14 rfl (lv_at hl 2 rfl) ?_
      obtain ⟨r3, u4, h5, hf⟩ := zbd_some hf
      refine rx_Vi (n := 2) (As := [.int x1, .int x2]) (rest := []) B hI hl.1 (zc_CCCode_accessFault_26 l D z a N x1 x2 u r3 u4 h5) zw_193 zw_195 zw_196 zw_10 zw_194 (by decide +kernel) 26 (wC_at_26 a z u) hcl_CCode rfl rfl (Nat.le_of_ble_eq_true rfl) d_CCode_misfit_15 ⟨Nat.le_of_ble_eq_true rfl, Nat.le_of_ble_eq_true rfl⟩ rfl rfl ⟨Nat.zero_le _, Nat.zero_le _⟩ (fun H locs hI => ?_)
      obtain ⟨e6, e7⟩ := zrt hf
      exact zr_i (wC a z) B hI hr hlk e6 e7 d_CCode_misfit_18
set_option maxHeartbeats 4000000 in
set_option maxRecDepth 100000 in
theorem zc_CCCode_faultAhead_26 (l : Launch) (D : va_G) (z : zZ) (a : Nat → Nat) (N : Nat) (x1 : Int32) (x2 : Int32) (x3 : Int32) (u : zU) (r : Int32) (u1 : zU) (hf : zf_CCCode_faultAhead_26 N x1 x2 x3 u = some (r, u1)) : zMet l D z y_CCode_faultAhead (.code y_CCode_faultAhead b_CCode_faultAhead 4 (some (.int))) { frames := 4, cells := 0, slots := 0, locals := 89 } [.ref (a 26), .int x1, .int x2, .int x3] (wC a z u) (zQi D r (wC a z u1)) := by
  refine zM_i (own := R_CCode) [.ref (a 26), .int x1, .int x2, .int x3] (wC a z u) r (wC a z u1) (by decide) rfl (Nat.le_of_ble_eq_true rfl) ?_
  intro p e s m args below meth c A ls B hr hlk hI hl
  have hl : lv_has ls 4 [(0, .ref (a 26)), (1, .int x1), (2, .int x2), (3, .int x3)] := hl
  revert hf
  revert hI hl
  have hb31 : ∀ (x1 : Int32) (x2 : Int32) (x3 : Int32) (u : zU) (H : Heap) (locs : List Loc) (ls : Array Slot), zf_CCCode_faultAhead_26_b31 N  x1 x2 x3 u = some (r, u1) → iw D A s (wC a z u) H locs → lv_has ls 4 [(0, .ref (a 26)), (1, .int x1), (2, .int x2), (3, .int x3)] → W p l e ({ frames := 4, cells := 0, slots := 0, locals := 89 } : Room) s m args below meth c H locs 0 0 (MQ below (zQi D r (wC a z u1) A) args s 0 0 A) (F0 m 31 ls []) := by
    intro x1 x2 x3 u H locs ls hf hI hl
    unfold zf_CCCode_faultAhead_26_b31 at hf
    refine lv_aload_n B.1 B.2.1 d_CCode_faultAhead_31 rfl (lv_at hl 0 rfl) ?_
    refine lv_iload_n B.1 B.2.1 d_CCode_faultAhead_32 rfl (lv_at hl 1 rfl) ?_
    refine lv_iload_n B.1 B.2.1 d_CCode_faultAhead_33 rfl (lv_at hl 2 rfl) ?_
    refine lv_iload_n B.1 B.2.1 d_CCode_faultAhead_34 rfl (lv_at hl 3 rfl) ?_
    obtain ⟨r1, u2, h3, hf⟩ := zbd_some hf
    refine rx_Vi (n := 3) (As := [.int x1, .int x2, .int x3]) (rest := []) B hI hl.1 (zc_CCCode_namesWhatIsMissing_26 l D z a N x1 x2 x3 u r1 u2 h3) zw_183 zw_185 zw_186 zw_10 zw_184 (by decide +kernel) 26 (wC_at_26 a z u) hcl_CCode rfl rfl (Nat.le_of_ble_eq_true rfl) d_CCode_faultAhead_35 ⟨Nat.le_of_ble_eq_true rfl, Nat.le_of_ble_eq_true rfl⟩ rfl rfl ⟨Nat.zero_le _, Nat.zero_le _⟩ (fun H locs hI => ?_)
    refine lv_if_eq (tgt := 44) B.1 B.2.1 d_CCode_faultAhead_38 (by decide) (fun hc4 => ?_) (fun hc4 => ?_)
    · rw [if_pos hc4] at hf
      refine lv_aload_n B.1 B.2.1 d_CCode_faultAhead_44 rfl (lv_at hl 0 rfl) ?_
      refine lv_iload_n B.1 B.2.1 d_CCode_faultAhead_45 rfl (lv_at hl 1 rfl) ?_
      refine lv_iload_n B.1 B.2.1 d_CCode_faultAhead_46 rfl (lv_at hl 2 rfl) ?_
      refine lv_iload_n B.1 B.2.1 d_CCode_faultAhead_47 rfl (lv_at hl 3 rfl) ?_
      obtain ⟨r5, u6, h7, hf⟩ := zbd_some hf
      refine rx_Vi (n := 3) (As := [.int x1, .int x2, .int x3]) (rest := []) B hI hl.1 (zc_CCCode_misfit_26 l D z a N x1 x2 x3 u2 r5 u6 h7) zw_201 zw_203 zw_204 zw_10 zw_202 (by decide +kernel) 26 (wC_at_26 a z u2) hcl_CCode rfl rfl (Nat.le_of_ble_eq_true rfl) d_CCode_faultAhead_48 ⟨Nat.le_of_ble_eq_true rfl, Nat.le_of_ble_eq_true rfl⟩ rfl rfl ⟨Nat.zero_le _, Nat.zero_le _⟩ (fun H locs hI => ?_)
      obtain ⟨e8, e9⟩ := zrt hf
      exact zr_i (wC a z) B hI hr hlk e8 e9 d_CCode_faultAhead_51
    · rw [if_neg hc4] at hf
      refine lv_bipush (v := 12) B.1 B.2.1 d_CCode_faultAhead_41 (by decide) ?_
      obtain ⟨e10, e11⟩ := zrt hf
      exact zr_i (wC a z) B hI hr hlk e10 e11 d_CCode_faultAhead_43
  intro hI hl hf
  unfold zf_CCCode_faultAhead_26 at hf
  refine lv_aload_n B.1 B.2.1 d_CCode_faultAhead_0 rfl (lv_at hl 0 rfl) ?_
  refine lv_iload_n B.1 B.2.1 d_CCode_faultAhead_1 rfl (lv_at hl 1 rfl) ?_
  refine lv_iload_n B.1 B.2.1 d_CCode_faultAhead_2 rfl (lv_at hl 2 rfl) ?_
  obtain ⟨r1, u2, h3, hf⟩ := zbd_some hf
  refine rx_Vi (n := 2) (As := [.int x1, .int x2]) (rest := []) B hI hl.1 (zc_CCCode_isMalformed_26 l D z a N x1 x2 u r1 u2 h3) zw_151 zw_153 zw_154 zw_10 zw_152 (by decide +kernel) 26 (wC_at_26 a z u) hcl_CCode rfl rfl (Nat.le_of_ble_eq_true rfl) d_CCode_faultAhead_3 ⟨Nat.le_of_ble_eq_true rfl, Nat.le_of_ble_eq_true rfl⟩ rfl rfl ⟨Nat.zero_le _, Nat.zero_le _⟩ (fun H locs hI => ?_)
  refine lv_if_eq (tgt := 12) B.1 B.2.1 d_CCode_faultAhead_6 (by decide) (fun hc4 => ?_) (fun hc4 => ?_)
  · rw [if_pos hc4] at hf
    refine lv_aload_n B.1 B.2.1 d_CCode_faultAhead_12 rfl (lv_at hl 0 rfl) ?_
    refine rx_get (v := .int (gi u2 9)) B hI hcl_CCode hin_CCode 26 (wC_at_26 a z u2) 6 (by decide) hf_CCode_6 zw_101 rfl d_CCode_faultAhead_13 ?_
    refine lv_if_eq (tgt := 31) B.1 B.2.1 d_CCode_faultAhead_16 (by decide) (fun hc5 => ?_) (fun hc5 => ?_)
    · rw [if_pos hc5] at hf
      exact hb31 x1 x2 x3 u2 _ _ _ hf hI (lv_sub hl [0, 1, 2, 3] rfl)
    · rw [if_neg hc5] at hf
      refine lv_aload_n B.1 B.2.1 d_CCode_faultAhead_19 rfl (lv_at hl 0 rfl) ?_
      refine lv_iload_n B.1 B.2.1 d_CCode_faultAhead_20 rfl (lv_at hl 1 rfl) ?_
      refine lv_iload_n B.1 B.2.1 d_CCode_faultAhead_21 rfl (lv_at hl 2 rfl) ?_
      obtain ⟨r6, u7, h8, hf⟩ := zbd_some hf
      refine rx_Vi (n := 2) (As := [.int x1, .int x2]) (rest := []) B hI hl.1 (zc_CCCode_mayStandInConstant_26 l D z a N x1 x2 u2 r6 u7 h8) zw_161 zw_163 zw_164 zw_10 zw_162 (by decide +kernel) 26 (wC_at_26 a z u2) hcl_CCode rfl rfl (Nat.le_of_ble_eq_true rfl) d_CCode_faultAhead_22 ⟨Nat.le_of_ble_eq_true rfl, Nat.le_of_ble_eq_true rfl⟩ rfl rfl ⟨Nat.zero_le _, Nat.zero_le _⟩ (fun H locs hI => ?_)
      refine lv_if_ne (tgt := 31) B.1 B.2.1 d_CCode_faultAhead_25 (by decide) (fun hc9 => ?_) (fun hc9 => ?_)
      · rw [if_neg hc9] at hf
        exact hb31 x1 x2 x3 u7 _ _ _ hf hI (lv_sub hl [0, 1, 2, 3] rfl)
      · rw [if_pos hc9] at hf
        refine lv_bipush (v := 14) B.1 B.2.1 d_CCode_faultAhead_28 (by decide) ?_
        obtain ⟨e10, e11⟩ := zrt hf
        exact zr_i (wC a z) B hI hr hlk e10 e11 d_CCode_faultAhead_30
  · rw [if_neg hc4] at hf
    refine lv_bipush (v := 13) B.1 B.2.1 d_CCode_faultAhead_9 (by decide) ?_
    obtain ⟨e12, e13⟩ := zrt hf
    exact zr_i (wC a z) B hI hr hlk e12 e13 d_CCode_faultAhead_11
set_option maxHeartbeats 4000000 in
set_option maxRecDepth 100000 in
theorem zc_CCC_plainLine (l : Launch) (D : va_G) (z : zZ) (a : Nat → Nat) (N : Nat) (x0 : Int32) (u : zU) (r : Int32) (u1 : zU) (hf : zf_CCC_plainLine N x0 u = some (r, u1)) : zMet l D z y_CC_plainLine (.code y_CC_plainLine b_CC_plainLine 2 (some (.int))) { frames := 0, cells := 0, slots := 0, locals := 0 } [.int x0] (wC a z u) (zQi D r (wC a z u1)) := by
  refine zM_i (own := R_CC) [.int x0] (wC a z u) r (wC a z u1) (by decide) rfl (Nat.le_of_ble_eq_true rfl) ?_
  intro p e s m args below meth c A ls B hr hlk hI hl
  have hl : lv_has ls 2 [(0, .int x0)] := hl
  revert hf
  revert hI hl
  have hb2 : ∀ (n : Nat) (x0 : Int32) (x1 : Int32) (u : zU) (H : Heap) (locs : List Loc) (ls : Array Slot), zf_CCC_plainLine_b2 N  n x0 x1 u = some (r, u1) → iw D A s (wC a z u) H locs → lv_has ls 2 [(0, .int x0), (1, .int x1)] → W p l e ({ frames := 0, cells := 0, slots := 0, locals := 0 } : Room) s m args below meth c H locs 0 0 (MQ below (zQi D r (wC a z u1) A) args s 0 0 A) (F0 m 2 ls []) := by
    intro n2
    induction n2 with
    | zero => intro x0 x1 u H locs ls hf; exact absurd hf (by rw [zf_CCC_plainLine_b2]; exact fun h => by cases h)
    | succ n2 ih2 =>
      have hb34 : ∀ (x0 : Int32) (x1 : Int32) (u : zU) (H : Heap) (locs : List Loc) (ls : Array Slot), zf_CCC_plainLine_b34 N (zf_CCC_plainLine_b2 N  n2) x0 x1 u = some (r, u1) → iw D A s (wC a z u) H locs → lv_has ls 2 [(0, .int x0), (1, .int x1)] → W p l e ({ frames := 0, cells := 0, slots := 0, locals := 0 } : Room) s m args below meth c H locs 0 0 (MQ below (zQi D r (wC a z u1) A) args s 0 0 A) (F0 m 34 ls []) := by
        intro x0 x1 u H locs ls hf hI hl
        unfold zf_CCC_plainLine_b34 at hf
        refine lv_iinc (v := (x1 + 5)) (lv' := [(1, .int (x1 + 5)), (0, .int x0)]) B.1 B.2.1 d_CC_plainLine_34 hl (k := 1) rfl (by rfl) (by decide) rfl (fun ls hl => ?_)
        refine lv_goto (tgt := 2) B.1 B.2.1 d_CC_plainLine_37 (by decide) ?_
        exact ih2 x0 (x1 + 5) u _ _ _ hf hI (lv_sub hl [1, 0] rfl)
      intro x0 x1 u H locs ls hf hI hl
      rw [zf_CCC_plainLine_b2] at hf
      refine lv_iload_n B.1 B.2.1 d_CC_plainLine_2 rfl (lv_at hl 1 rfl) ?_
      refine lv_iconst (v := 4) B.1 B.2.1 d_CC_plainLine_3 (by decide) ?_
      refine lv_iadd B.1 B.2.1 d_CC_plainLine_4 ?_
      refine rx_gets B hI 2 rfl zw_209 d_CC_plainLine_5 (fun t1 ht1 => ?_)
      refine rx_tlen (v := 235) B hI ht1 (by decide) d_CC_plainLine_8 ?_
      refine lv_icmp_ge (tgt := 40) B.1 B.2.1 d_CC_plainLine_9 (by decide) (fun hc2 => ?_) (fun hc2 => ?_)
      · rw [if_pos hc2] at hf
        refine lv_iconst (v := (-1)) B.1 B.2.1 d_CC_plainLine_40 (by decide) ?_
        obtain ⟨e3, e4⟩ := zrt hf
        exact zr_i (wC a z) B hI hr hlk e3 e4 d_CC_plainLine_41
      · rw [if_neg hc2] at hf
        refine lv_iload_n B.1 B.2.1 d_CC_plainLine_12 rfl (lv_at hl 0 rfl) ?_
        refine rx_gets B hI 2 rfl zw_209 d_CC_plainLine_13 (fun t5 ht5 => ?_)
        refine lv_iload_n B.1 B.2.1 d_CC_plainLine_16 rfl (lv_at hl 1 rfl) ?_
        obtain ⟨hi6, hf⟩ := zck_some hf
        refine rx_ti B hI ht5 rfl hi6 d_CC_plainLine_17 ?_
        refine lv_icmp_lt (tgt := 34) B.1 B.2.1 d_CC_plainLine_18 (by decide) (fun hc7 => ?_) (fun hc7 => ?_)
        · rw [if_pos hc7] at hf
          exact hb34 x0 x1 u _ _ _ hf hI (lv_sub hl [0, 1] rfl)
        · rw [if_neg hc7] at hf
          refine lv_iload_n B.1 B.2.1 d_CC_plainLine_21 rfl (lv_at hl 0 rfl) ?_
          refine rx_gets B hI 2 rfl zw_209 d_CC_plainLine_22 (fun t8 ht8 => ?_)
          refine lv_iload_n B.1 B.2.1 d_CC_plainLine_25 rfl (lv_at hl 1 rfl) ?_
          refine lv_iconst (v := 1) B.1 B.2.1 d_CC_plainLine_26 (by decide) ?_
          refine lv_iadd B.1 B.2.1 d_CC_plainLine_27 ?_
          obtain ⟨hi9, hf⟩ := zck_some hf
          refine rx_ti B hI ht8 rfl hi9 d_CC_plainLine_28 ?_
          refine lv_icmp_gt (tgt := 34) B.1 B.2.1 d_CC_plainLine_29 (by decide) (fun hc10 => ?_) (fun hc10 => ?_)
          · rw [if_pos hc10] at hf
            exact hb34 x0 x1 u _ _ _ hf hI (lv_sub hl [0, 1] rfl)
          · rw [if_neg hc10] at hf
            refine lv_iload_n B.1 B.2.1 d_CC_plainLine_32 rfl (lv_at hl 1 rfl) ?_
            obtain ⟨e11, e12⟩ := zrt hf
            exact zr_i (wC a z) B hI hr hlk e11 e12 d_CC_plainLine_33
  intro hI hl hf
  unfold zf_CCC_plainLine at hf
  refine lv_iconst (v := 0) B.1 B.2.1 d_CC_plainLine_0 (by decide) ?_
  refine lv_istore_n (lv' := [(1, .int 0), (0, .int x0)]) B.1 B.2.1 d_CC_plainLine_1 rfl hl (by decide) rfl (fun ls hl => ?_)
  exact hb2 N x0 0 u _ _ _ hf hI (lv_sub hl [1, 0] rfl)
set_option maxHeartbeats 4000000 in
set_option maxRecDepth 100000 in
theorem zc_CCStack_takeAny_31 (l : Launch) (D : va_G) (z : zZ) (a : Nat → Nat) (N : Nat)  (u : zU) (r : Int32) (u1 : zU) (hf : zf_CCStack_takeAny_31 N  u = some (r, u1)) : zMet l D z y_CStack_takeAny (.code y_CStack_takeAny b_CStack_takeAny 3 (some (.int))) { frames := 0, cells := 0, slots := 0, locals := 0 } [.ref (a 31)] (wC a z u) (zQi D r (wC a z u1)) := by
  refine zM_i (own := R_CStack) [.ref (a 31)] (wC a z u) r (wC a z u1) (by decide) rfl (Nat.le_of_ble_eq_true rfl) ?_
  intro p e s m args below meth c A ls B hr hlk hI hl
  have hl : lv_has ls 3 [(0, .ref (a 31))] := hl
  revert hf
  revert hI hl
  have hb31 : ∀  (u : zU) (H : Heap) (locs : List Loc) (ls : Array Slot), zf_CCStack_takeAny_31_b31 N   u = some (r, u1) → iw D A s (wC a z u) H locs → lv_has ls 3 [] → W p l e ({ frames := 0, cells := 0, slots := 0, locals := 0 } : Room) s m args below meth c H locs 0 0 (MQ below (zQi D r (wC a z u1) A) args s 0 0 A) (F0 m 31 ls []) := by
    intro  u H locs ls hf hI hl
    unfold zf_CCStack_takeAny_31_b31 at hf
    refine lv_iconst (v := 0) B.1 B.2.1 d_CStack_takeAny_31 (by decide) ?_
    obtain ⟨e1, e2⟩ := zrt hf
    exact zr_i (wC a z) B hI hr hlk e1 e2 d_CStack_takeAny_32
  have hb82 : ∀  (u : zU) (H : Heap) (locs : List Loc) (ls : Array Slot), zf_CCStack_takeAny_31_b82 N   u = some (r, u1) → iw D A s (wC a z u) H locs → lv_has ls 3 [] → W p l e ({ frames := 0, cells := 0, slots := 0, locals := 0 } : Room) s m args below meth c H locs 0 0 (MQ below (zQi D r (wC a z u1) A) args s 0 0 A) (F0 m 82 ls []) := by
    intro  u H locs ls hf hI hl
    unfold zf_CCStack_takeAny_31_b82 at hf
    refine lv_iconst (v := 0) B.1 B.2.1 d_CStack_takeAny_82 (by decide) ?_
    obtain ⟨e1, e2⟩ := zrt hf
    exact zr_i (wC a z) B hI hr hlk e1 e2 d_CStack_takeAny_83
  have hb68 : ∀ (x1 : Int32) (u : zU) (H : Heap) (locs : List Loc) (ls : Array Slot), zf_CCStack_takeAny_31_b68 N  x1 u = some (r, u1) → iw D A s (wC a z u) H locs → lv_has ls 3 [(0, .ref (a 31)), (1, .int x1)] → W p l e ({ frames := 0, cells := 0, slots := 0, locals := 0 } : Room) s m args below meth c H locs 0 0 (MQ below (zQi D r (wC a z u1) A) args s 0 0 A) (F0 m 68 ls []) := by
    intro x1 u H locs ls hf hI hl
    unfold zf_CCStack_takeAny_31_b68 at hf
    refine lv_aload_n B.1 B.2.1 d_CStack_takeAny_68 rfl (lv_at hl 0 rfl) ?_
    refine rx_get (v := .ref (a 36)) B hI hcl_CStack hin_CStack 31 (wC_at_31 a z u) 5 (by decide) hf_CStack_5 zw_80 rfl d_CStack_takeAny_69 ?_
    refine lv_iload_n B.1 B.2.1 d_CStack_takeAny_72 rfl (lv_at hl 1 rfl) ?_
    obtain ⟨hi1, hf⟩ := zck_some hf
    refine rx_zald B hI 36 (wC_at_36 a z u) hi1 d_CStack_takeAny_73 ?_
    refine lv_if_eq (tgt := 82) B.1 B.2.1 d_CStack_takeAny_74 (by decide) (fun hc2 => ?_) (fun hc2 => ?_)
    · rw [if_pos hc2] at hf
      exact hb82  u _ _ _ hf hI (lv_sub hl [] rfl)
    · rw [if_neg hc2] at hf
      refine lv_aload_n B.1 B.2.1 d_CStack_takeAny_77 rfl (lv_at hl 0 rfl) ?_
      refine lv_iconst (v := 1) B.1 B.2.1 d_CStack_takeAny_78 (by decide) ?_
      refine rx_put B hI hcl_CStack hin_CStack hty_CStack hnm_CStack 31 (wC_at_31 a z u) 9 (by decide) hf_CStack_9 zw_76 rfl (ty := .int) (by decide +kernel) rfl rfl (Nat.le_of_ble_eq_true rfl) (wC_si_16 a z u 1) d_CStack_takeAny_79 (fun H locs hI => ?_)
      exact hb82  (si u 16 1) _ _ _ hf hI (lv_sub hl [] rfl)
  intro hI hl hf
  unfold zf_CCStack_takeAny_31 at hf
  refine lv_aload_n B.1 B.2.1 d_CStack_takeAny_0 rfl (lv_at hl 0 rfl) ?_
  refine rx_get (v := .int (gi u 15)) B hI hcl_CStack hin_CStack 31 (wC_at_31 a z u) 8 (by decide) hf_CStack_8 zw_75 rfl d_CStack_takeAny_1 ?_
  refine lv_iconst (v := 1) B.1 B.2.1 d_CStack_takeAny_4 (by decide) ?_
  refine lv_isub B.1 B.2.1 d_CStack_takeAny_5 ?_
  refine lv_istore_n (lv' := [(1, .int ((gi u 15) - 1)), (0, .ref (a 31))]) B.1 B.2.1 d_CStack_takeAny_6 rfl hl (by decide) rfl (fun ls hl => ?_)
  refine lv_aload_n B.1 B.2.1 d_CStack_takeAny_7 rfl (lv_at hl 1 rfl) ?_
  refine rx_get (v := .int (gi u 14)) B hI hcl_CStack hin_CStack 31 (wC_at_31 a z u) 7 (by decide) hf_CStack_7 zw_74 rfl d_CStack_takeAny_8 ?_
  refine lv_iconst (v := 1) B.1 B.2.1 d_CStack_takeAny_11 (by decide) ?_
  refine lv_isub B.1 B.2.1 d_CStack_takeAny_12 ?_
  refine lv_istore_n (lv' := [(2, .int ((gi u 14) - 1)), (1, .int ((gi u 15) - 1)), (0, .ref (a 31))]) B.1 B.2.1 d_CStack_takeAny_13 rfl hl (by decide) rfl (fun ls hl => ?_)
  refine lv_aload_n B.1 B.2.1 d_CStack_takeAny_14 rfl (lv_at hl 2 rfl) ?_
  refine rx_get (v := .int (gi u 16)) B hI hcl_CStack hin_CStack 31 (wC_at_31 a z u) 9 (by decide) hf_CStack_9 zw_76 rfl d_CStack_takeAny_15 ?_
  refine lv_if_ne (tgt := 31) B.1 B.2.1 d_CStack_takeAny_18 (by decide) (fun hc1 => ?_) (fun hc1 => ?_)
  · rw [if_neg hc1] at hf
    exact hb31  u _ _ _ hf hI (lv_sub hl [] rfl)
  · rw [if_pos hc1] at hf
    refine lv_iload_n B.1 B.2.1 d_CStack_takeAny_21 rfl (lv_at hl 1 rfl) ?_
    refine lv_if_lt (tgt := 31) B.1 B.2.1 d_CStack_takeAny_22 (by decide) (fun hc2 => ?_) (fun hc2 => ?_)
    · rw [if_pos hc2] at hf
      exact hb31  u _ _ _ hf hI (lv_sub hl [] rfl)
    · rw [if_neg hc2] at hf
      refine lv_iload_n B.1 B.2.1 d_CStack_takeAny_25 rfl (lv_at hl 1 rfl) ?_
      refine lv_bipush (v := 60) B.1 B.2.1 d_CStack_takeAny_26 (by decide) ?_
      refine lv_icmp_lt (tgt := 33) B.1 B.2.1 d_CStack_takeAny_28 (by decide) (fun hc3 => ?_) (fun hc3 => ?_)
      · rw [if_pos hc3] at hf
        refine lv_iload_n B.1 B.2.1 d_CStack_takeAny_33 rfl (lv_at hl 0 rfl) ?_
        refine lv_aload_n B.1 B.2.1 d_CStack_takeAny_34 rfl (lv_at hl 2 rfl) ?_
        refine rx_get (v := .ref (a 34)) B hI hcl_CStack hin_CStack 31 (wC_at_31 a z u) 3 (by decide) hf_CStack_3 zw_78 rfl d_CStack_takeAny_35 ?_
        refine lv_iload_n B.1 B.2.1 d_CStack_takeAny_38 rfl (lv_at hl 1 rfl) ?_
        obtain ⟨hi4, hf⟩ := zck_some hf
        refine rx_iald B hI 34 (wC_at_34 a z u) hi4 d_CStack_takeAny_39 ?_
        refine lv_icmp_lt (tgt := 68) B.1 B.2.1 d_CStack_takeAny_40 (by decide) (fun hc5 => ?_) (fun hc5 => ?_)
        · rw [if_pos hc5] at hf
          exact hb68 ((gi u 15) - 1) u _ _ _ hf hI (lv_sub hl [2, 1] rfl)
        · rw [if_neg hc5] at hf
          refine lv_iload_n B.1 B.2.1 d_CStack_takeAny_43 rfl (lv_at hl 0 rfl) ?_
          refine lv_if_lt (tgt := 68) B.1 B.2.1 d_CStack_takeAny_44 (by decide) (fun hc6 => ?_) (fun hc6 => ?_)
          · rw [if_pos hc6] at hf
            exact hb68 ((gi u 15) - 1) u _ _ _ hf hI (lv_sub hl [2, 1] rfl)
          · rw [if_neg hc6] at hf
            refine lv_iload_n B.1 B.2.1 d_CStack_takeAny_47 rfl (lv_at hl 0 rfl) ?_
            refine lv_aload_n B.1 B.2.1 d_CStack_takeAny_48 rfl (lv_at hl 2 rfl) ?_
            refine rx_get (v := .ref (a 32)) B hI hcl_CStack hin_CStack 31 (wC_at_31 a z u) 1 (by decide) hf_CStack_1 zw_214 rfl d_CStack_takeAny_49 ?_
            refine rx_alen (v := 200) B hI 32 0 (wC_at_32 a z u) rfl rfl d_CStack_takeAny_52 ?_
            refine lv_icmp_ge (tgt := 68) B.1 B.2.1 d_CStack_takeAny_53 (by decide) (fun hc7 => ?_) (fun hc7 => ?_)
            · rw [if_pos hc7] at hf
              exact hb68 ((gi u 15) - 1) u _ _ _ hf hI (lv_sub hl [2, 1] rfl)
            · rw [if_neg hc7] at hf
              refine lv_aload_n B.1 B.2.1 d_CStack_takeAny_56 rfl (lv_at hl 2 rfl) ?_
              refine lv_iload_n B.1 B.2.1 d_CStack_takeAny_57 rfl (lv_at hl 0 rfl) ?_
              refine rx_put B hI hcl_CStack hin_CStack hty_CStack hnm_CStack 31 (wC_at_31 a z u) 7 (by decide) hf_CStack_7 zw_74 rfl (ty := .int) (by decide +kernel) rfl rfl (Nat.le_of_ble_eq_true rfl) (wC_si_14 a z u ((gi u 14) - 1)) d_CStack_takeAny_58 (fun H locs hI => ?_)
              refine lv_aload_n B.1 B.2.1 d_CStack_takeAny_61 rfl (lv_at hl 2 rfl) ?_
              refine rx_get (v := .ref (a 32)) B hI hcl_CStack hin_CStack 31 (wC_at_31 a z (si u 14 ((gi u 14) - 1))) 1 (by decide) hf_CStack_1 zw_214 rfl d_CStack_takeAny_62 ?_
              refine lv_iload_n B.1 B.2.1 d_CStack_takeAny_65 rfl (lv_at hl 0 rfl) ?_
              obtain ⟨hi8, hf⟩ := zck_some hf
              refine rx_iald B hI 32 (wC_at_32 a z (si u 14 ((gi u 14) - 1))) hi8 d_CStack_takeAny_66 ?_
              obtain ⟨e9, e10⟩ := zrt hf
              exact zr_i (wC a z) B hI hr hlk e9 e10 d_CStack_takeAny_67
      · rw [if_neg hc3] at hf
        exact hb31  u _ _ _ hf hI (lv_sub hl [] rfl)
set_option maxHeartbeats 4000000 in
set_option maxRecDepth 100000 in
theorem zc_CCStack_fail_31 (l : Launch) (D : va_G) (z : zZ) (a : Nat → Nat) (N : Nat) (x1 : Int32) (u : zU) (r : Unit) (u1 : zU) (hf : zf_CCStack_fail_31 N x1 u = some (r, u1)) : zMet l D z y_CStack_fail (.code y_CStack_fail b_CStack_fail 2 none) { frames := 0, cells := 0, slots := 0, locals := 0 } [.ref (a 31), .int x1] (wC a z u) (zQv D (wC a z u1)) := by
  refine zM_v (own := R_CStack) [.ref (a 31), .int x1] (wC a z u) (wC a z u1) (by decide) rfl (Nat.le_of_ble_eq_true rfl) ?_
  intro p e s m args below meth c A ls B hr hlk hI hl
  have hl : lv_has ls 2 [(0, .ref (a 31)), (1, .int x1)] := hl
  revert hf
  revert hI hl
  have hb12 : ∀  (u : zU) (H : Heap) (locs : List Loc) (ls : Array Slot), zf_CCStack_fail_31_b12 N   u = some (r, u1) → iw D A s (wC a z u) H locs → lv_has ls 2 [] → W p l e ({ frames := 0, cells := 0, slots := 0, locals := 0 } : Room) s m args below meth c H locs 0 0 (MQ below (zQv D (wC a z u1) A) args s 0 0 A) (F0 m 12 ls []) := by
    intro  u H locs ls hf hI hl
    unfold zf_CCStack_fail_31_b12 at hf
    obtain ⟨e1, e2⟩ := zrt hf
    exact zr_v (wC a z) B hI hr hlk e2 d_CStack_fail_12
  intro hI hl hf
  unfold zf_CCStack_fail_31 at hf
  refine lv_aload_n B.1 B.2.1 d_CStack_fail_0 rfl (lv_at hl 0 rfl) ?_
  refine rx_get (v := .int (gi u 16)) B hI hcl_CStack hin_CStack 31 (wC_at_31 a z u) 9 (by decide) hf_CStack_9 zw_76 rfl d_CStack_fail_1 ?_
  refine lv_if_ne (tgt := 12) B.1 B.2.1 d_CStack_fail_4 (by decide) (fun hc1 => ?_) (fun hc1 => ?_)
  · rw [if_neg hc1] at hf
    exact hb12  u _ _ _ hf hI (lv_sub hl [] rfl)
  · rw [if_pos hc1] at hf
    refine lv_aload_n B.1 B.2.1 d_CStack_fail_7 rfl (lv_at hl 0 rfl) ?_
    refine lv_iload_n B.1 B.2.1 d_CStack_fail_8 rfl (lv_at hl 1 rfl) ?_
    refine rx_put B hI hcl_CStack hin_CStack hty_CStack hnm_CStack 31 (wC_at_31 a z u) 9 (by decide) hf_CStack_9 zw_76 rfl (ty := .int) (by decide +kernel) rfl rfl (Nat.le_of_ble_eq_true rfl) (wC_si_16 a z u x1) d_CStack_fail_9 (fun H locs hI => ?_)
    exact hb12  (si u 16 x1) _ _ _ hf hI (lv_sub hl [] rfl)
set_option maxHeartbeats 4000000 in
set_option maxRecDepth 100000 in
theorem zc_CCStack_take_31 (l : Launch) (D : va_G) (z : zZ) (a : Nat → Nat) (N : Nat) (x1 : Int32) (u : zU) (r : Int32) (u1 : zU) (hf : zf_CCStack_take_31 N x1 u = some (r, u1)) : zMet l D z y_CStack_take (.code y_CStack_take b_CStack_take 3 (some (.int))) { frames := 1, cells := 0, slots := 0, locals := 22 } [.ref (a 31), .int x1] (wC a z u) (zQi D r (wC a z u1)) := by
  refine zM_i (own := R_CStack) [.ref (a 31), .int x1] (wC a z u) r (wC a z u1) (by decide) rfl (Nat.le_of_ble_eq_true rfl) ?_
  intro p e s m args below meth c A ls B hr hlk hI hl
  have hl : lv_has ls 3 [(0, .ref (a 31)), (1, .int x1)] := hl
  revert hf
  revert hI hl
  have hb19 : ∀ (x2 : Int32) (u : zU) (H : Heap) (locs : List Loc) (ls : Array Slot), zf_CCStack_take_31_b19 N  x2 u = some (r, u1) → iw D A s (wC a z u) H locs → lv_has ls 3 [(2, .int x2)] → W p l e ({ frames := 1, cells := 0, slots := 0, locals := 22 } : Room) s m args below meth c H locs 0 0 (MQ below (zQi D r (wC a z u1) A) args s 0 0 A) (F0 m 19 ls []) := by
    intro x2 u H locs ls hf hI hl
    unfold zf_CCStack_take_31_b19 at hf
    refine lv_iload_n B.1 B.2.1 d_CStack_take_19 rfl (lv_at hl 0 rfl) ?_
    obtain ⟨e1, e2⟩ := zrt hf
    exact zr_i (wC a z) B hI hr hlk e1 e2 d_CStack_take_20
  intro hI hl hf
  unfold zf_CCStack_take_31 at hf
  refine lv_aload_n B.1 B.2.1 d_CStack_take_0 rfl (lv_at hl 0 rfl) ?_
  obtain ⟨r1, u2, h3, hf⟩ := zbd_some hf
  refine rx_Vi (n := 0) (As := []) (rest := []) B hI hl.1 (zc_CCStack_takeAny_31 l D z a N  u r1 u2 h3) zw_215 zw_217 zw_218 zw_82 zw_216 (by decide +kernel) 31 (wC_at_31 a z u) hcl_CStack rfl rfl (Nat.le_of_ble_eq_true rfl) d_CStack_take_1 ⟨Nat.le_of_ble_eq_true rfl, Nat.le_of_ble_eq_true rfl⟩ rfl rfl ⟨Nat.zero_le _, Nat.zero_le _⟩ (fun H locs hI => ?_)
  refine lv_istore_n (lv' := [(2, .int r1), (0, .ref (a 31)), (1, .int x1)]) B.1 B.2.1 d_CStack_take_4 rfl hl (by decide) rfl (fun ls hl => ?_)
  refine lv_iload_n B.1 B.2.1 d_CStack_take_5 rfl (lv_at hl 0 rfl) ?_
  refine lv_if_eq (tgt := 19) B.1 B.2.1 d_CStack_take_6 (by decide) (fun hc4 => ?_) (fun hc4 => ?_)
  · rw [if_pos hc4] at hf
    exact hb19 r1 u2 _ _ _ hf hI (lv_sub hl [0] rfl)
  · rw [if_neg hc4] at hf
    refine lv_iload_n B.1 B.2.1 d_CStack_take_9 rfl (lv_at hl 0 rfl) ?_
    refine lv_iload_n B.1 B.2.1 d_CStack_take_10 rfl (lv_at hl 2 rfl) ?_
    refine lv_icmp_eq (tgt := 19) B.1 B.2.1 d_CStack_take_11 (by decide) (fun hc5 => ?_) (fun hc5 => ?_)
    · rw [if_pos hc5] at hf
      exact hb19 r1 u2 _ _ _ hf hI (lv_sub hl [0] rfl)
    · rw [if_neg hc5] at hf
      refine lv_aload_n B.1 B.2.1 d_CStack_take_14 rfl (lv_at hl 1 rfl) ?_
      refine lv_iconst (v := 1) B.1 B.2.1 d_CStack_take_15 (by decide) ?_
      obtain ⟨r6, u7, h8, hf⟩ := zbd_some hf
      refine rx_Vv (n := 1) (As := [.int 1]) (rest := []) B hI hl.1 (zc_CCStack_fail_31 l D z a N 1 u2 r6 u7 h8) zw_219 zw_221 zw_222 zw_82 zw_220 (by decide +kernel) 31 (wC_at_31 a z u2) hcl_CStack rfl rfl (Nat.le_of_ble_eq_true rfl) d_CStack_take_16 ⟨Nat.le_of_ble_eq_true rfl, Nat.le_of_ble_eq_true rfl⟩ rfl rfl ⟨Nat.zero_le _, Nat.zero_le _⟩ (fun H locs hI => ?_)
      exact hb19 r1 u7 _ _ _ hf hI (lv_sub hl [0] rfl)
set_option maxHeartbeats 4000000 in
set_option maxRecDepth 100000 in
theorem zc_CCStack_takeTimes_31 (l : Launch) (D : va_G) (z : zZ) (a : Nat → Nat) (N : Nat) (x1 : Int32) (x2 : Int32) (u : zU) (r : Unit) (u1 : zU) (hf : zf_CCStack_takeTimes_31 N x1 x2 u = some (r, u1)) : zMet l D z y_CStack_takeTimes (.code y_CStack_takeTimes b_CStack_takeTimes 4 none) { frames := 2, cells := 0, slots := 0, locals := 44 } [.ref (a 31), .int x1, .int x2] (wC a z u) (zQv D (wC a z u1)) := by
  refine zM_v (own := R_CStack) [.ref (a 31), .int x1, .int x2] (wC a z u) (wC a z u1) (by decide) rfl (Nat.le_of_ble_eq_true rfl) ?_
  intro p e s m args below meth c A ls B hr hlk hI hl
  have hl : lv_has ls 4 [(0, .ref (a 31)), (1, .int x1), (2, .int x2)] := hl
  revert hf
  revert hI hl
  have hb2 : ∀ (n : Nat) (x1 : Int32) (x2 : Int32) (x3 : Int32) (u : zU) (H : Heap) (locs : List Loc) (ls : Array Slot), zf_CCStack_takeTimes_31_b2 N  n x1 x2 x3 u = some (r, u1) → iw D A s (wC a z u) H locs → lv_has ls 4 [(0, .ref (a 31)), (1, .int x1), (2, .int x2), (3, .int x3)] → W p l e ({ frames := 2, cells := 0, slots := 0, locals := 44 } : Room) s m args below meth c H locs 0 0 (MQ below (zQv D (wC a z u1) A) args s 0 0 A) (F0 m 2 ls []) := by
    intro n2
    induction n2 with
    | zero => intro x1 x2 x3 u H locs ls hf; exact absurd hf (by rw [zf_CCStack_takeTimes_31_b2]; exact fun h => by cases h)
    | succ n2 ih2 =>
      intro x1 x2 x3 u H locs ls hf hI hl
      rw [zf_CCStack_takeTimes_31_b2] at hf
      refine lv_iload_n B.1 B.2.1 d_CStack_takeTimes_2 rfl (lv_at hl 3 rfl) ?_
      refine lv_iload_n B.1 B.2.1 d_CStack_takeTimes_3 rfl (lv_at hl 2 rfl) ?_
      refine lv_icmp_ge (tgt := 19) B.1 B.2.1 d_CStack_takeTimes_4 (by decide) (fun hc1 => ?_) (fun hc1 => ?_)
      · rw [if_pos hc1] at hf
        obtain ⟨e2, e3⟩ := zrt hf
        exact zr_v (wC a z) B hI hr hlk e3 d_CStack_takeTimes_19
      · rw [if_neg hc1] at hf
        refine lv_aload_n B.1 B.2.1 d_CStack_takeTimes_7 rfl (lv_at hl 0 rfl) ?_
        refine lv_iload_n B.1 B.2.1 d_CStack_takeTimes_8 rfl (lv_at hl 1 rfl) ?_
        obtain ⟨r4, u5, h6, hf⟩ := zbd_some hf
        refine rx_Vi (n := 1) (As := [.int x1]) (rest := []) B hI hl.1 (zc_CCStack_take_31 l D z a N x1 u r4 u5 h6) zw_223 zw_225 zw_226 zw_82 zw_224 (by decide +kernel) 31 (wC_at_31 a z u) hcl_CStack rfl rfl (Nat.le_of_ble_eq_true rfl) d_CStack_takeTimes_9 ⟨Nat.le_of_ble_eq_true rfl, Nat.le_of_ble_eq_true rfl⟩ rfl rfl ⟨Nat.zero_le _, Nat.zero_le _⟩ (fun H locs hI => ?_)
        refine lv_pop B.1 B.2.1 d_CStack_takeTimes_12 rfl ?_
        refine lv_iinc (v := (x3 + 1)) (lv' := [(3, .int (x3 + 1)), (0, .ref (a 31)), (1, .int x1), (2, .int x2)]) B.1 B.2.1 d_CStack_takeTimes_13 hl (k := 3) rfl (by rfl) (by decide) rfl (fun ls hl => ?_)
        refine lv_goto (tgt := 2) B.1 B.2.1 d_CStack_takeTimes_16 (by decide) ?_
        exact ih2 x1 x2 (x3 + 1) u5 _ _ _ hf hI (lv_sub hl [1, 2, 3, 0] rfl)
  intro hI hl hf
  unfold zf_CCStack_takeTimes_31 at hf
  refine lv_iconst (v := 0) B.1 B.2.1 d_CStack_takeTimes_0 (by decide) ?_
  refine lv_istore_n (lv' := [(3, .int 0), (0, .ref (a 31)), (1, .int x1), (2, .int x2)]) B.1 B.2.1 d_CStack_takeTimes_1 rfl hl (by decide) rfl (fun ls hl => ?_)
  exact hb2 N x1 x2 0 u _ _ _ hf hI (lv_sub hl [1, 2, 3, 0] rfl)
set_option maxHeartbeats 4000000 in
set_option maxRecDepth 100000 in
theorem zc_CCStack_give_31 (l : Launch) (D : va_G) (z : zZ) (a : Nat → Nat) (N : Nat) (x1 : Int32) (u : zU) (r : Unit) (u1 : zU) (hf : zf_CCStack_give_31 N x1 u = some (r, u1)) : zMet l D z y_CStack_give (.code y_CStack_give b_CStack_give 2 none) { frames := 0, cells := 0, slots := 0, locals := 0 } [.ref (a 31), .int x1] (wC a z u) (zQv D (wC a z u1)) := by
  refine zM_v (own := R_CStack) [.ref (a 31), .int x1] (wC a z u) (wC a z u1) (by decide) rfl (Nat.le_of_ble_eq_true rfl) ?_
  intro p e s m args below meth c A ls B hr hlk hI hl
  have hl : lv_has ls 2 [(0, .ref (a 31)), (1, .int x1)] := hl
  revert hf
  revert hI hl
  have hb27 : ∀  (u : zU) (H : Heap) (locs : List Loc) (ls : Array Slot), zf_CCStack_give_31_b27 N   u = some (r, u1) → iw D A s (wC a z u) H locs → lv_has ls 2 [(0, .ref (a 31))] → W p l e ({ frames := 0, cells := 0, slots := 0, locals := 0 } : Room) s m args below meth c H locs 0 0 (MQ below (zQv D (wC a z u1) A) args s 0 0 A) (F0 m 27 ls []) := by
    intro  u H locs ls hf hI hl
    unfold zf_CCStack_give_31_b27 at hf
    refine lv_aload_n B.1 B.2.1 d_CStack_give_27 rfl (lv_at hl 0 rfl) ?_
    refine lv_bipush (v := 15) B.1 B.2.1 d_CStack_give_28 (by decide) ?_
    refine rx_put B hI hcl_CStack hin_CStack hty_CStack hnm_CStack 31 (wC_at_31 a z u) 9 (by decide) hf_CStack_9 zw_76 rfl (ty := .int) (by decide +kernel) rfl rfl (Nat.le_of_ble_eq_true rfl) (wC_si_16 a z u 15) d_CStack_give_30 (fun H locs hI => ?_)
    obtain ⟨e1, e2⟩ := zrt hf
    exact zr_v (wC a z) B hI hr hlk e2 d_CStack_give_33
  intro hI hl hf
  unfold zf_CCStack_give_31 at hf
  refine lv_aload_n B.1 B.2.1 d_CStack_give_0 rfl (lv_at hl 0 rfl) ?_
  refine rx_get (v := .int (gi u 16)) B hI hcl_CStack hin_CStack 31 (wC_at_31 a z u) 9 (by decide) hf_CStack_9 zw_76 rfl d_CStack_give_1 ?_
  refine lv_if_eq (tgt := 8) B.1 B.2.1 d_CStack_give_4 (by decide) (fun hc1 => ?_) (fun hc1 => ?_)
  · rw [if_pos hc1] at hf
    refine lv_aload_n B.1 B.2.1 d_CStack_give_8 rfl (lv_at hl 0 rfl) ?_
    refine rx_get (v := .int (gi u 14)) B hI hcl_CStack hin_CStack 31 (wC_at_31 a z u) 7 (by decide) hf_CStack_7 zw_74 rfl d_CStack_give_9 ?_
    refine lv_if_lt (tgt := 27) B.1 B.2.1 d_CStack_give_12 (by decide) (fun hc2 => ?_) (fun hc2 => ?_)
    · rw [if_pos hc2] at hf
      exact hb27  u _ _ _ hf hI (lv_sub hl [0] rfl)
    · rw [if_neg hc2] at hf
      refine lv_aload_n B.1 B.2.1 d_CStack_give_15 rfl (lv_at hl 0 rfl) ?_
      refine rx_get (v := .int (gi u 14)) B hI hcl_CStack hin_CStack 31 (wC_at_31 a z u) 7 (by decide) hf_CStack_7 zw_74 rfl d_CStack_give_16 ?_
      refine lv_aload_n B.1 B.2.1 d_CStack_give_19 rfl (lv_at hl 0 rfl) ?_
      refine rx_get (v := .ref (a 32)) B hI hcl_CStack hin_CStack 31 (wC_at_31 a z u) 1 (by decide) hf_CStack_1 zw_214 rfl d_CStack_give_20 ?_
      refine rx_alen (v := 200) B hI 32 0 (wC_at_32 a z u) rfl rfl d_CStack_give_23 ?_
      refine lv_icmp_lt (tgt := 34) B.1 B.2.1 d_CStack_give_24 (by decide) (fun hc3 => ?_) (fun hc3 => ?_)
      · rw [if_pos hc3] at hf
        refine lv_aload_n B.1 B.2.1 d_CStack_give_34 rfl (lv_at hl 0 rfl) ?_
        refine rx_get (v := .ref (a 32)) B hI hcl_CStack hin_CStack 31 (wC_at_31 a z u) 1 (by decide) hf_CStack_1 zw_214 rfl d_CStack_give_35 ?_
        refine lv_aload_n B.1 B.2.1 d_CStack_give_38 rfl (lv_at hl 0 rfl) ?_
        refine rx_get (v := .int (gi u 14)) B hI hcl_CStack hin_CStack 31 (wC_at_31 a z u) 7 (by decide) hf_CStack_7 zw_74 rfl d_CStack_give_39 ?_
        refine lv_iload_n B.1 B.2.1 d_CStack_give_42 rfl (lv_at hl 1 rfl) ?_
        obtain ⟨hi4, hf⟩ := zck_some hf
        refine rx_iast B hI 32 (wC_at_32 a z u) hi4 (wC_sa_18 a z u (gi u 14) x1) d_CStack_give_43 (fun H locs hI => ?_)
        refine lv_aload_n B.1 B.2.1 d_CStack_give_44 rfl (lv_at hl 0 rfl) ?_
        refine lv_dup B.1 B.2.1 d_CStack_give_45 rfl ?_
        refine rx_get (v := .int (gi u 14)) B hI hcl_CStack hin_CStack 31 (wC_at_31 a z (sa u 18 (gi u 14) x1)) 7 (by decide) hf_CStack_7 zw_74 rfl d_CStack_give_46 ?_
        refine lv_iconst (v := 1) B.1 B.2.1 d_CStack_give_49 (by decide) ?_
        refine lv_iadd B.1 B.2.1 d_CStack_give_50 ?_
        refine rx_put B hI hcl_CStack hin_CStack hty_CStack hnm_CStack 31 (wC_at_31 a z (sa u 18 (gi u 14) x1)) 7 (by decide) hf_CStack_7 zw_74 rfl (ty := .int) (by decide +kernel) rfl rfl (Nat.le_of_ble_eq_true rfl) (wC_si_14 a z (sa u 18 (gi u 14) x1) ((gi u 14) + 1)) d_CStack_give_51 (fun H locs hI => ?_)
        obtain ⟨e5, e6⟩ := zrt hf
        exact zr_v (wC a z) B hI hr hlk e6 d_CStack_give_54
      · rw [if_neg hc3] at hf
        exact hb27  u _ _ _ hf hI (lv_sub hl [0] rfl)
  · rw [if_neg hc1] at hf
    obtain ⟨e7, e8⟩ := zrt hf
    exact zr_v (wC a z) B hI hr hlk e8 d_CStack_give_7
