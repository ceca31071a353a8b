set_option maxHeartbeats 4000000 in
set_option maxRecDepth 100000 in
theorem zc_CCCode_namesWhatIsMissing_26 (l : Launch) (D : va_G) (z : zZ) (a : Nat → Nat) (N : Nat) (x1 : Int32) (x2 : Int32) (x3 : Int32) (u : zU) (r : Int32) (u1 : zU) (hf : zf_CCCode_namesWhatIsMissing_26 N x1 x2 x3 u = some (r, u1)) : zMet l D z y_CCode_namesWhatIsMissing (.code y_CCode_namesWhatIsMissing b_CCode_namesWhatIsMissing 4 (some (.boolean))) { frames := 2, cells := 0, slots := 0, locals := 42 } [.ref (a 26), .int x1, .int x2, .int x3] (wC a z u) (zQi D r (wC a z u1)) := by
  refine zM_i (own := R_CCode) [.ref (a 26), .int x1, .int x2, .int x3] (wC a z u) r (wC a z u1) (by decide) rfl (Nat.le_of_ble_eq_true rfl) ?_
  intro p e s m args below meth c A ls B hr hlk hI hl
  have hl : lv_has ls 4 [(0, .ref (a 26)), (1, .int x1), (2, .int x2), (3, .int x3)] := hl
  revert hf
  revert hI hl
  have hb224 : ∀ (s0 : Int32) (u : zU) (H : Heap) (locs : List Loc) (ls : Array Slot), zf_CCCode_namesWhatIsMissing_26_b224 N  s0 u = some (r, u1) → iw D A s (wC a z u) H locs → lv_has ls 4 [] → W p l e ({ frames := 2, cells := 0, slots := 0, locals := 42 } : Room) s m args below meth c H locs 0 0 (MQ below (zQi D r (wC a z u1) A) args s 0 0 A) (F0 m 224 ls [.int s0]) := by
    intro s0 u H locs ls hf hI hl
    unfold zf_CCCode_namesWhatIsMissing_26_b224 at hf
    obtain ⟨hz3, hf⟩ := zck_some hf
    obtain ⟨e1, e2⟩ := zrt hf
    exact zr_z (wC a z) B hI hr hlk hz3 e1 e2 d_CCode_namesWhatIsMissing_224
  have hb223 : ∀  (u : zU) (H : Heap) (locs : List Loc) (ls : Array Slot), zf_CCCode_namesWhatIsMissing_26_b223 N   u = some (r, u1) → iw D A s (wC a z u) H locs → lv_has ls 4 [] → W p l e ({ frames := 2, cells := 0, slots := 0, locals := 42 } : Room) s m args below meth c H locs 0 0 (MQ below (zQi D r (wC a z u1) A) args s 0 0 A) (F0 m 223 ls []) := by
    intro  u H locs ls hf hI hl
    unfold zf_CCCode_namesWhatIsMissing_26_b223 at hf
    refine lv_iconst (v := 0) B.1 B.2.1 d_CCode_namesWhatIsMissing_223 (by decide) ?_
    exact hb224 0 u _ _ _ hf hI (lv_sub hl [] rfl)
  have hb204 : ∀ (x2 : Int32) (u : zU) (H : Heap) (locs : List Loc) (ls : Array Slot), zf_CCCode_namesWhatIsMissing_26_b204 N  x2 u = some (r, u1) → iw D A s (wC a z u) H locs → lv_has ls 4 [(0, .ref (a 26)), (2, .int x2)] → W p l e ({ frames := 2, cells := 0, slots := 0, locals := 42 } : Room) s m args below meth c H locs 0 0 (MQ below (zQi D r (wC a z u1) A) args s 0 0 A) (F0 m 204 ls []) := by
    intro x2 u H locs ls hf hI hl
    unfold zf_CCCode_namesWhatIsMissing_26_b204 at hf
    refine lv_iload_n B.1 B.2.1 d_CCode_namesWhatIsMissing_204 rfl (lv_at hl 1 rfl) ?_
    refine lv_if_lt (tgt := 223) B.1 B.2.1 d_CCode_namesWhatIsMissing_205 (by decide) (fun hc1 => ?_) (fun hc1 => ?_)
    · rw [if_pos hc1] at hf
      exact hb223  u _ _ _ hf hI (lv_sub hl [] rfl)
    · rw [if_neg hc1] at hf
      refine lv_aload_n B.1 B.2.1 d_CCode_namesWhatIsMissing_208 rfl (lv_at hl 0 rfl) ?_
      refine rx_get (v := .ref (a 1)) B hI hcl_CCode hin_CCode 26 (wC_at_26 a z u) 0 (by decide) hf_CCode_0 zw_106 rfl d_CCode_namesWhatIsMissing_209 ?_
      refine lv_iload_n B.1 B.2.1 d_CCode_namesWhatIsMissing_212 rfl (lv_at hl 1 rfl) ?_
      obtain ⟨r2, u3, h4, hf⟩ := zbd_some hf
      refine rx_Vi (n := 1) (As := [.int x2]) (rest := []) B hI hl.1 (zc_CCThings_hasType_1 l D z a N x2 u r2 u3 h4) zw_173 zw_56 zw_57 zw_3 zw_55 (by decide +kernel) 1 (wC_at_1 a z u) hcl_CThings rfl rfl (Nat.le_of_ble_eq_true rfl) d_CCode_namesWhatIsMissing_213 ⟨Nat.le_of_ble_eq_true rfl, Nat.le_of_ble_eq_true rfl⟩ rfl rfl ⟨Nat.zero_le _, Nat.zero_le _⟩ (fun H locs hI => ?_)
      refine lv_if_ne (tgt := 223) B.1 B.2.1 d_CCode_namesWhatIsMissing_216 (by decide) (fun hc5 => ?_) (fun hc5 => ?_)
      · rw [if_neg hc5] at hf
        exact hb223  u3 _ _ _ hf hI (lv_sub hl [] rfl)
      · rw [if_pos hc5] at hf
        refine lv_iconst (v := 1) B.1 B.2.1 d_CCode_namesWhatIsMissing_219 (by decide) ?_
        refine lv_goto (tgt := 224) B.1 B.2.1 d_CCode_namesWhatIsMissing_220 (by decide) ?_
        exact hb224 1 u3 _ _ _ hf hI (lv_sub hl [] rfl)
  have hb241 : ∀ (s0 : Int32) (u : zU) (H : Heap) (locs : List Loc) (ls : Array Slot), zf_CCCode_namesWhatIsMissing_26_b241 N  s0 u = some (r, u1) → iw D A s (wC a z u) H locs → lv_has ls 4 [] → W p l e ({ frames := 2, cells := 0, slots := 0, locals := 42 } : Room) s m args below meth c H locs 0 0 (MQ below (zQi D r (wC a z u1) A) args s 0 0 A) (F0 m 241 ls [.int s0]) := by
    intro s0 u H locs ls hf hI hl
    unfold zf_CCCode_namesWhatIsMissing_26_b241 at hf
    obtain ⟨hz3, hf⟩ := zck_some hf
    obtain ⟨e1, e2⟩ := zrt hf
    exact zr_z (wC a z) B hI hr hlk hz3 e1 e2 d_CCode_namesWhatIsMissing_241
  have hb225 : ∀ (x2 : Int32) (u : zU) (H : Heap) (locs : List Loc) (ls : Array Slot), zf_CCCode_namesWhatIsMissing_26_b225 N  x2 u = some (r, u1) → iw D A s (wC a z u) H locs → lv_has ls 4 [(0, .ref (a 26)), (2, .int x2)] → W p l e ({ frames := 2, cells := 0, slots := 0, locals := 42 } : Room) s m args below meth c H locs 0 0 (MQ below (zQi D r (wC a z u1) A) args s 0 0 A) (F0 m 225 ls []) := by
    intro x2 u H locs ls hf hI hl
    unfold zf_CCCode_namesWhatIsMissing_26_b225 at hf
    refine lv_aload_n B.1 B.2.1 d_CCode_namesWhatIsMissing_225 rfl (lv_at hl 0 rfl) ?_
    refine rx_get (v := .ref (a 31)) B hI hcl_CCode hin_CCode 26 (wC_at_26 a z u) 1 (by decide) hf_CCode_1 zw_73 rfl d_CCode_namesWhatIsMissing_226 ?_
    refine lv_iload_n B.1 B.2.1 d_CCode_namesWhatIsMissing_229 rfl (lv_at hl 1 rfl) ?_
    obtain ⟨r1, u2, h3, hf⟩ := zbd_some hf
    refine rx_Vi (n := 1) (As := [.int x2]) (rest := []) B hI hl.1 (zc_CCStack_hasBlock_31 l D z a N x2 u r1 u2 h3) zw_175 zw_177 zw_178 zw_82 zw_176 (by decide +kernel) 31 (wC_at_31 a z u) hcl_CStack rfl rfl (Nat.le_of_ble_eq_true rfl) d_CCode_namesWhatIsMissing_230 ⟨Nat.le_of_ble_eq_true rfl, Nat.le_of_ble_eq_true rfl⟩ rfl rfl ⟨Nat.zero_le _, Nat.zero_le _⟩ (fun H locs hI => ?_)
    refine lv_if_ne (tgt := 240) B.1 B.2.1 d_CCode_namesWhatIsMissing_233 (by decide) (fun hc4 => ?_) (fun hc4 => ?_)
    · rw [if_neg hc4] at hf
      refine lv_iconst (v := 0) B.1 B.2.1 d_CCode_namesWhatIsMissing_240 (by decide) ?_
      exact hb241 0 u2 _ _ _ hf hI (lv_sub hl [] rfl)
    · rw [if_pos hc4] at hf
      refine lv_iconst (v := 1) B.1 B.2.1 d_CCode_namesWhatIsMissing_236 (by decide) ?_
      refine lv_goto (tgt := 241) B.1 B.2.1 d_CCode_namesWhatIsMissing_237 (by decide) ?_
      exact hb241 1 u2 _ _ _ hf hI (lv_sub hl [] rfl)
  have hb265 : ∀ (s0 : Int32) (u : zU) (H : Heap) (locs : List Loc) (ls : Array Slot), zf_CCCode_namesWhatIsMissing_26_b265 N  s0 u = some (r, u1) → iw D A s (wC a z u) H locs → lv_has ls 4 [] → W p l e ({ frames := 2, cells := 0, slots := 0, locals := 42 } : Room) s m args below meth c H locs 0 0 (MQ below (zQi D r (wC a z u1) A) args s 0 0 A) (F0 m 265 ls [.int s0]) := by
    intro s0 u H locs ls hf hI hl
    unfold zf_CCCode_namesWhatIsMissing_26_b265 at hf
    obtain ⟨hz3, hf⟩ := zck_some hf
    obtain ⟨e1, e2⟩ := zrt hf
    exact zr_z (wC a z) B hI hr hlk hz3 e1 e2 d_CCode_namesWhatIsMissing_265
  have hb260 : ∀  (u : zU) (H : Heap) (locs : List Loc) (ls : Array Slot), zf_CCCode_namesWhatIsMissing_26_b260 N   u = some (r, u1) → iw D A s (wC a z u) H locs → lv_has ls 4 [] → W p l e ({ frames := 2, cells := 0, slots := 0, locals := 42 } : Room) s m args below meth c H locs 0 0 (MQ below (zQi D r (wC a z u1) A) args s 0 0 A) (F0 m 260 ls []) := by
    intro  u H locs ls hf hI hl
    unfold zf_CCCode_namesWhatIsMissing_26_b260 at hf
    refine lv_iconst (v := 1) B.1 B.2.1 d_CCode_namesWhatIsMissing_260 (by decide) ?_
    refine lv_goto (tgt := 265) B.1 B.2.1 d_CCode_namesWhatIsMissing_261 (by decide) ?_
    exact hb265 1 u _ _ _ hf hI (lv_sub hl [] rfl)
  have hb285 : ∀ (s0 : Int32) (u : zU) (H : Heap) (locs : List Loc) (ls : Array Slot), zf_CCCode_namesWhatIsMissing_26_b285 N  s0 u = some (r, u1) → iw D A s (wC a z u) H locs → lv_has ls 4 [] → W p l e ({ frames := 2, cells := 0, slots := 0, locals := 42 } : Room) s m args below meth c H locs 0 0 (MQ below (zQi D r (wC a z u1) A) args s 0 0 A) (F0 m 285 ls [.int s0]) := by
    intro s0 u H locs ls hf hI hl
    unfold zf_CCCode_namesWhatIsMissing_26_b285 at hf
    obtain ⟨hz3, hf⟩ := zck_some hf
    obtain ⟨e1, e2⟩ := zrt hf
    exact zr_z (wC a z) B hI hr hlk hz3 e1 e2 d_CCode_namesWhatIsMissing_285
  have hb266 : ∀ (x2 : Int32) (u : zU) (H : Heap) (locs : List Loc) (ls : Array Slot), zf_CCCode_namesWhatIsMissing_26_b266 N  x2 u = some (r, u1) → iw D A s (wC a z u) H locs → lv_has ls 4 [(0, .ref (a 26)), (2, .int x2)] → W p l e ({ frames := 2, cells := 0, slots := 0, locals := 42 } : Room) s m args below meth c H locs 0 0 (MQ below (zQi D r (wC a z u1) A) args s 0 0 A) (F0 m 266 ls []) := by
    intro x2 u H locs ls hf hI hl
    unfold zf_CCCode_namesWhatIsMissing_26_b266 at hf
    refine lv_aload_n B.1 B.2.1 d_CCode_namesWhatIsMissing_266 rfl (lv_at hl 0 rfl) ?_
    refine rx_get (v := .ref (a 1)) B hI hcl_CCode hin_CCode 26 (wC_at_26 a z u) 0 (by decide) hf_CCode_0 zw_106 rfl d_CCode_namesWhatIsMissing_267 ?_
    refine rx_getN (v := .ref (a 8)) B hI hcl_CThings hin_CThings 1 (wC_at_1 a z u) 2 (by decide) hf_CThings_2 zw_174 rfl d_CCode_namesWhatIsMissing_270 ?_
    refine lv_iload_n B.1 B.2.1 d_CCode_namesWhatIsMissing_273 rfl (lv_at hl 1 rfl) ?_
    obtain ⟨r1, u2, h3, hf⟩ := zbd_some hf
    refine rx_Vi (n := 1) (As := [.int x2]) (rest := []) B hI hl.1 (zc_CCShelf_has_8 l D z a N x2 u r1 u2 h3) zw_156 zw_66 zw_67 zw_44 zw_65 (by decide +kernel) 8 (wC_at_8 a z u) hcl_CShelf rfl rfl (Nat.le_of_ble_eq_true rfl) d_CCode_namesWhatIsMissing_274 ⟨Nat.le_of_ble_eq_true rfl, Nat.le_of_ble_eq_true rfl⟩ rfl rfl ⟨Nat.zero_le _, Nat.zero_le _⟩ (fun H locs hI => ?_)
    refine lv_if_ne (tgt := 284) B.1 B.2.1 d_CCode_namesWhatIsMissing_277 (by decide) (fun hc4 => ?_) (fun hc4 => ?_)
    · rw [if_neg hc4] at hf
      refine lv_iconst (v := 0) B.1 B.2.1 d_CCode_namesWhatIsMissing_284 (by decide) ?_
      exact hb285 0 u2 _ _ _ hf hI (lv_sub hl [] rfl)
    · rw [if_pos hc4] at hf
      refine lv_iconst (v := 1) B.1 B.2.1 d_CCode_namesWhatIsMissing_280 (by decide) ?_
      refine lv_goto (tgt := 285) B.1 B.2.1 d_CCode_namesWhatIsMissing_281 (by decide) ?_
      exact hb285 1 u2 _ _ _ hf hI (lv_sub hl [] rfl)
  have hb316 : ∀ (s0 : Int32) (u : zU) (H : Heap) (locs : List Loc) (ls : Array Slot), zf_CCCode_namesWhatIsMissing_26_b316 N  s0 u = some (r, u1) → iw D A s (wC a z u) H locs → lv_has ls 4 [] → W p l e ({ frames := 2, cells := 0, slots := 0, locals := 42 } : Room) s m args below meth c H locs 0 0 (MQ below (zQi D r (wC a z u1) A) args s 0 0 A) (F0 m 316 ls [.int s0]) := by
    intro s0 u H locs ls hf hI hl
    unfold zf_CCCode_namesWhatIsMissing_26_b316 at hf
    obtain ⟨hz3, hf⟩ := zck_some hf
    obtain ⟨e1, e2⟩ := zrt hf
    exact zr_z (wC a z) B hI hr hlk hz3 e1 e2 d_CCode_namesWhatIsMissing_316
  have hb311 : ∀  (u : zU) (H : Heap) (locs : List Loc) (ls : Array Slot), zf_CCCode_namesWhatIsMissing_26_b311 N   u = some (r, u1) → iw D A s (wC a z u) H locs → lv_has ls 4 [] → W p l e ({ frames := 2, cells := 0, slots := 0, locals := 42 } : Room) s m args below meth c H locs 0 0 (MQ below (zQi D r (wC a z u1) A) args s 0 0 A) (F0 m 311 ls []) := by
    intro  u H locs ls hf hI hl
    unfold zf_CCCode_namesWhatIsMissing_26_b311 at hf
    refine lv_iconst (v := 1) B.1 B.2.1 d_CCode_namesWhatIsMissing_311 (by decide) ?_
    refine lv_goto (tgt := 316) B.1 B.2.1 d_CCode_namesWhatIsMissing_312 (by decide) ?_
    exact hb316 1 u _ _ _ hf hI (lv_sub hl [] rfl)
  have hb333 : ∀ (s0 : Int32) (u : zU) (H : Heap) (locs : List Loc) (ls : Array Slot), zf_CCCode_namesWhatIsMissing_26_b333 N  s0 u = some (r, u1) → iw D A s (wC a z u) H locs → lv_has ls 4 [] → W p l e ({ frames := 2, cells := 0, slots := 0, locals := 42 } : Room) s m args below meth c H locs 0 0 (MQ below (zQi D r (wC a z u1) A) args s 0 0 A) (F0 m 333 ls [.int s0]) := by
    intro s0 u H locs ls hf hI hl
    unfold zf_CCCode_namesWhatIsMissing_26_b333 at hf
    obtain ⟨hz3, hf⟩ := zck_some hf
    obtain ⟨e1, e2⟩ := zrt hf
    exact zr_z (wC a z) B hI hr hlk hz3 e1 e2 d_CCode_namesWhatIsMissing_333
  have hb317 : ∀ (x2 : Int32) (u : zU) (H : Heap) (locs : List Loc) (ls : Array Slot), zf_CCCode_namesWhatIsMissing_26_b317 N  x2 u = some (r, u1) → iw D A s (wC a z u) H locs → lv_has ls 4 [(0, .ref (a 26)), (2, .int x2)] → W p l e ({ frames := 2, cells := 0, slots := 0, locals := 42 } : Room) s m args below meth c H locs 0 0 (MQ below (zQi D r (wC a z u1) A) args s 0 0 A) (F0 m 317 ls []) := by
    intro x2 u H locs ls hf hI hl
    unfold zf_CCCode_namesWhatIsMissing_26_b317 at hf
    refine lv_aload_n B.1 B.2.1 d_CCode_namesWhatIsMissing_317 rfl (lv_at hl 0 rfl) ?_
    refine rx_get (v := .ref (a 27)) B hI hcl_CCode hin_CCode 26 (wC_at_26 a z u) 2 (by decide) hf_CCode_2 zw_90 rfl d_CCode_namesWhatIsMissing_318 ?_
    refine lv_iload_n B.1 B.2.1 d_CCode_namesWhatIsMissing_321 rfl (lv_at hl 1 rfl) ?_
    obtain ⟨r1, u2, h3, hf⟩ := zbd_some hf
    refine rx_Vi (n := 1) (As := [.int x2]) (rest := []) B hI hl.1 (zc_CCLocals_has_27 l D z a N x2 u r1 u2 h3) zw_169 zw_171 zw_172 zw_94 zw_170 (by decide +kernel) 27 (wC_at_27 a z u) hcl_CLocals rfl rfl (Nat.le_of_ble_eq_true rfl) d_CCode_namesWhatIsMissing_322 ⟨Nat.le_of_ble_eq_true rfl, Nat.le_of_ble_eq_true rfl⟩ rfl rfl ⟨Nat.zero_le _, Nat.zero_le _⟩ (fun H locs hI => ?_)
    refine lv_if_ne (tgt := 332) B.1 B.2.1 d_CCode_namesWhatIsMissing_325 (by decide) (fun hc4 => ?_) (fun hc4 => ?_)
    · rw [if_neg hc4] at hf
      refine lv_iconst (v := 0) B.1 B.2.1 d_CCode_namesWhatIsMissing_332 (by decide) ?_
      exact hb333 0 u2 _ _ _ hf hI (lv_sub hl [] rfl)
    · rw [if_pos hc4] at hf
      refine lv_iconst (v := 1) B.1 B.2.1 d_CCode_namesWhatIsMissing_328 (by decide) ?_
      refine lv_goto (tgt := 333) B.1 B.2.1 d_CCode_namesWhatIsMissing_329 (by decide) ?_
      exact hb333 1 u2 _ _ _ hf hI (lv_sub hl [] rfl)
  have hb353 : ∀ (s0 : Int32) (u : zU) (H : Heap) (locs : List Loc) (ls : Array Slot), zf_CCCode_namesWhatIsMissing_26_b353 N  s0 u = some (r, u1) → iw D A s (wC a z u) H locs → lv_has ls 4 [] → W p l e ({ frames := 2, cells := 0, slots := 0, locals := 42 } : Room) s m args below meth c H locs 0 0 (MQ below (zQi D r (wC a z u1) A) args s 0 0 A) (F0 m 353 ls [.int s0]) := by
    intro s0 u H locs ls hf hI hl
    unfold zf_CCCode_namesWhatIsMissing_26_b353 at hf
    obtain ⟨hz3, hf⟩ := zck_some hf
    obtain ⟨e1, e2⟩ := zrt hf
    exact zr_z (wC a z) B hI hr hlk hz3 e1 e2 d_CCode_namesWhatIsMissing_353
  have hb334 : ∀ (x2 : Int32) (u : zU) (H : Heap) (locs : List Loc) (ls : Array Slot), zf_CCCode_namesWhatIsMissing_26_b334 N  x2 u = some (r, u1) → iw D A s (wC a z u) H locs → lv_has ls 4 [(0, .ref (a 26)), (2, .int x2)] → W p l e ({ frames := 2, cells := 0, slots := 0, locals := 42 } : Room) s m args below meth c H locs 0 0 (MQ below (zQi D r (wC a z u1) A) args s 0 0 A) (F0 m 334 ls []) := by
    intro x2 u H locs ls hf hI hl
    unfold zf_CCCode_namesWhatIsMissing_26_b334 at hf
    refine lv_aload_n B.1 B.2.1 d_CCode_namesWhatIsMissing_334 rfl (lv_at hl 0 rfl) ?_
    refine rx_get (v := .ref (a 1)) B hI hcl_CCode hin_CCode 26 (wC_at_26 a z u) 0 (by decide) hf_CCode_0 zw_106 rfl d_CCode_namesWhatIsMissing_335 ?_
    refine rx_getN (v := .ref (a 17)) B hI hcl_CThings hin_CThings 1 (wC_at_1 a z u) 5 (by decide) hf_CThings_5 zw_155 rfl d_CCode_namesWhatIsMissing_338 ?_
    refine lv_iload_n B.1 B.2.1 d_CCode_namesWhatIsMissing_341 rfl (lv_at hl 1 rfl) ?_
    obtain ⟨r1, u2, h3, hf⟩ := zbd_some hf
    refine rx_Vi (n := 1) (As := [.int x2]) (rest := []) B hI hl.1 (zc_CCShelf_has_17 l D z a N x2 u r1 u2 h3) zw_156 zw_66 zw_67 zw_44 zw_65 (by decide +kernel) 17 (wC_at_17 a z u) hcl_CShelf rfl rfl (Nat.le_of_ble_eq_true rfl) d_CCode_namesWhatIsMissing_342 ⟨Nat.le_of_ble_eq_true rfl, Nat.le_of_ble_eq_true rfl⟩ rfl rfl ⟨Nat.zero_le _, Nat.zero_le _⟩ (fun H locs hI => ?_)
    refine lv_if_ne (tgt := 352) B.1 B.2.1 d_CCode_namesWhatIsMissing_345 (by decide) (fun hc4 => ?_) (fun hc4 => ?_)
    · rw [if_neg hc4] at hf
      refine lv_iconst (v := 0) B.1 B.2.1 d_CCode_namesWhatIsMissing_352 (by decide) ?_
      exact hb353 0 u2 _ _ _ hf hI (lv_sub hl [] rfl)
    · rw [if_pos hc4] at hf
      refine lv_iconst (v := 1) B.1 B.2.1 d_CCode_namesWhatIsMissing_348 (by decide) ?_
      refine lv_goto (tgt := 353) B.1 B.2.1 d_CCode_namesWhatIsMissing_349 (by decide) ?_
      exact hb353 1 u2 _ _ _ hf hI (lv_sub hl [] rfl)
  have hb373 : ∀ (s0 : Int32) (u : zU) (H : Heap) (locs : List Loc) (ls : Array Slot), zf_CCCode_namesWhatIsMissing_26_b373 N  s0 u = some (r, u1) → iw D A s (wC a z u) H locs → lv_has ls 4 [] → W p l e ({ frames := 2, cells := 0, slots := 0, locals := 42 } : Room) s m args below meth c H locs 0 0 (MQ below (zQi D r (wC a z u1) A) args s 0 0 A) (F0 m 373 ls [.int s0]) := by
    intro s0 u H locs ls hf hI hl
    unfold zf_CCCode_namesWhatIsMissing_26_b373 at hf
    obtain ⟨hz3, hf⟩ := zck_some hf
    obtain ⟨e1, e2⟩ := zrt hf
    exact zr_z (wC a z) B hI hr hlk hz3 e1 e2 d_CCode_namesWhatIsMissing_373
  have hb354 : ∀ (x2 : Int32) (u : zU) (H : Heap) (locs : List Loc) (ls : Array Slot), zf_CCCode_namesWhatIsMissing_26_b354 N  x2 u = some (r, u1) → iw D A s (wC a z u) H locs → lv_has ls 4 [(0, .ref (a 26)), (2, .int x2)] → W p l e ({ frames := 2, cells := 0, slots := 0, locals := 42 } : Room) s m args below meth c H locs 0 0 (MQ below (zQi D r (wC a z u1) A) args s 0 0 A) (F0 m 354 ls []) := by
    intro x2 u H locs ls hf hI hl
    unfold zf_CCCode_namesWhatIsMissing_26_b354 at hf
    refine lv_aload_n B.1 B.2.1 d_CCode_namesWhatIsMissing_354 rfl (lv_at hl 0 rfl) ?_
    refine rx_get (v := .ref (a 1)) B hI hcl_CCode hin_CCode 26 (wC_at_26 a z u) 0 (by decide) hf_CCode_0 zw_106 rfl d_CCode_namesWhatIsMissing_355 ?_
    refine rx_getN (v := .ref (a 11)) B hI hcl_CThings hin_CThings 1 (wC_at_1 a z u) 3 (by decide) hf_CThings_3 zw_165 rfl d_CCode_namesWhatIsMissing_358 ?_
    refine lv_iload_n B.1 B.2.1 d_CCode_namesWhatIsMissing_361 rfl (lv_at hl 1 rfl) ?_
    obtain ⟨r1, u2, h3, hf⟩ := zbd_some hf
    refine rx_Vi (n := 1) (As := [.int x2]) (rest := []) B hI hl.1 (zc_CCShelf_has_11 l D z a N x2 u r1 u2 h3) zw_156 zw_66 zw_67 zw_44 zw_65 (by decide +kernel) 11 (wC_at_11 a z u) hcl_CShelf rfl rfl (Nat.le_of_ble_eq_true rfl) d_CCode_namesWhatIsMissing_362 ⟨Nat.le_of_ble_eq_true rfl, Nat.le_of_ble_eq_true rfl⟩ rfl rfl ⟨Nat.zero_le _, Nat.zero_le _⟩ (fun H locs hI => ?_)
    refine lv_if_ne (tgt := 372) B.1 B.2.1 d_CCode_namesWhatIsMissing_365 (by decide) (fun hc4 => ?_) (fun hc4 => ?_)
    · rw [if_neg hc4] at hf
      refine lv_iconst (v := 0) B.1 B.2.1 d_CCode_namesWhatIsMissing_372 (by decide) ?_
      exact hb373 0 u2 _ _ _ hf hI (lv_sub hl [] rfl)
    · rw [if_pos hc4] at hf
      refine lv_iconst (v := 1) B.1 B.2.1 d_CCode_namesWhatIsMissing_368 (by decide) ?_
      refine lv_goto (tgt := 373) B.1 B.2.1 d_CCode_namesWhatIsMissing_369 (by decide) ?_
      exact hb373 1 u2 _ _ _ hf hI (lv_sub hl [] rfl)
  have hb393 : ∀ (s0 : Int32) (u : zU) (H : Heap) (locs : List Loc) (ls : Array Slot), zf_CCCode_namesWhatIsMissing_26_b393 N  s0 u = some (r, u1) → iw D A s (wC a z u) H locs → lv_has ls 4 [] → W p l e ({ frames := 2, cells := 0, slots := 0, locals := 42 } : Room) s m args below meth c H locs 0 0 (MQ below (zQi D r (wC a z u1) A) args s 0 0 A) (F0 m 393 ls [.int s0]) := by
    intro s0 u H locs ls hf hI hl
    unfold zf_CCCode_namesWhatIsMissing_26_b393 at hf
    obtain ⟨hz3, hf⟩ := zck_some hf
    obtain ⟨e1, e2⟩ := zrt hf
    exact zr_z (wC a z) B hI hr hlk hz3 e1 e2 d_CCode_namesWhatIsMissing_393
  have hb374 : ∀ (x2 : Int32) (u : zU) (H : Heap) (locs : List Loc) (ls : Array Slot), zf_CCCode_namesWhatIsMissing_26_b374 N  x2 u = some (r, u1) → iw D A s (wC a z u) H locs → lv_has ls 4 [(0, .ref (a 26)), (2, .int x2)] → W p l e ({ frames := 2, cells := 0, slots := 0, locals := 42 } : Room) s m args below meth c H locs 0 0 (MQ below (zQi D r (wC a z u1) A) args s 0 0 A) (F0 m 374 ls []) := by
    intro x2 u H locs ls hf hI hl
    unfold zf_CCCode_namesWhatIsMissing_26_b374 at hf
    refine lv_aload_n B.1 B.2.1 d_CCode_namesWhatIsMissing_374 rfl (lv_at hl 0 rfl) ?_
    refine rx_get (v := .ref (a 1)) B hI hcl_CCode hin_CCode 26 (wC_at_26 a z u) 0 (by decide) hf_CCode_0 zw_106 rfl d_CCode_namesWhatIsMissing_375 ?_
    refine rx_getN (v := .ref (a 23)) B hI hcl_CThings hin_CThings 1 (wC_at_1 a z u) 7 (by decide) hf_CThings_7 zw_167 rfl d_CCode_namesWhatIsMissing_378 ?_
    refine lv_iload_n B.1 B.2.1 d_CCode_namesWhatIsMissing_381 rfl (lv_at hl 1 rfl) ?_
    obtain ⟨r1, u2, h3, hf⟩ := zbd_some hf
    refine rx_Vi (n := 1) (As := [.int x2]) (rest := []) B hI hl.1 (zc_CCShelf_has_23 l D z a N x2 u r1 u2 h3) zw_156 zw_66 zw_67 zw_44 zw_65 (by decide +kernel) 23 (wC_at_23 a z u) hcl_CShelf rfl rfl (Nat.le_of_ble_eq_true rfl) d_CCode_namesWhatIsMissing_382 ⟨Nat.le_of_ble_eq_true rfl, Nat.le_of_ble_eq_true rfl⟩ rfl rfl ⟨Nat.zero_le _, Nat.zero_le _⟩ (fun H locs hI => ?_)
    refine lv_if_ne (tgt := 392) B.1 B.2.1 d_CCode_namesWhatIsMissing_385 (by decide) (fun hc4 => ?_) (fun hc4 => ?_)
    · rw [if_neg hc4] at hf
      refine lv_iconst (v := 0) B.1 B.2.1 d_CCode_namesWhatIsMissing_392 (by decide) ?_
      exact hb393 0 u2 _ _ _ hf hI (lv_sub hl [] rfl)
    · rw [if_pos hc4] at hf
      refine lv_iconst (v := 1) B.1 B.2.1 d_CCode_namesWhatIsMissing_388 (by decide) ?_
      refine lv_goto (tgt := 393) B.1 B.2.1 d_CCode_namesWhatIsMissing_389 (by decide) ?_
      exact hb393 1 u2 _ _ _ hf hI (lv_sub hl [] rfl)
  have hb427 : ∀ (s0 : Int32) (u : zU) (H : Heap) (locs : List Loc) (ls : Array Slot), zf_CCCode_namesWhatIsMissing_26_b427 N  s0 u = some (r, u1) → iw D A s (wC a z u) H locs → lv_has ls 4 [] → W p l e ({ frames := 2, cells := 0, slots := 0, locals := 42 } : Room) s m args below meth c H locs 0 0 (MQ below (zQi D r (wC a z u1) A) args s 0 0 A) (F0 m 427 ls [.int s0]) := by
    intro s0 u H locs ls hf hI hl
    unfold zf_CCCode_namesWhatIsMissing_26_b427 at hf
    obtain ⟨hz3, hf⟩ := zck_some hf
    obtain ⟨e1, e2⟩ := zrt hf
    exact zr_z (wC a z) B hI hr hlk hz3 e1 e2 d_CCode_namesWhatIsMissing_427
  have hb422 : ∀  (u : zU) (H : Heap) (locs : List Loc) (ls : Array Slot), zf_CCCode_namesWhatIsMissing_26_b422 N   u = some (r, u1) → iw D A s (wC a z u) H locs → lv_has ls 4 [] → W p l e ({ frames := 2, cells := 0, slots := 0, locals := 42 } : Room) s m args below meth c H locs 0 0 (MQ below (zQi D r (wC a z u1) A) args s 0 0 A) (F0 m 422 ls []) := by
    intro  u H locs ls hf hI hl
    unfold zf_CCCode_namesWhatIsMissing_26_b422 at hf
    refine lv_iconst (v := 1) B.1 B.2.1 d_CCode_namesWhatIsMissing_422 (by decide) ?_
    refine lv_goto (tgt := 427) B.1 B.2.1 d_CCode_namesWhatIsMissing_423 (by decide) ?_
    exact hb427 1 u _ _ _ hf hI (lv_sub hl [] rfl)
  have hb447 : ∀ (s0 : Int32) (u : zU) (H : Heap) (locs : List Loc) (ls : Array Slot), zf_CCCode_namesWhatIsMissing_26_b447 N  s0 u = some (r, u1) → iw D A s (wC a z u) H locs → lv_has ls 4 [] → W p l e ({ frames := 2, cells := 0, slots := 0, locals := 42 } : Room) s m args below meth c H locs 0 0 (MQ below (zQi D r (wC a z u1) A) args s 0 0 A) (F0 m 447 ls [.int s0]) := by
    intro s0 u H locs ls hf hI hl
    unfold zf_CCCode_namesWhatIsMissing_26_b447 at hf
    obtain ⟨hz3, hf⟩ := zck_some hf
    obtain ⟨e1, e2⟩ := zrt hf
    exact zr_z (wC a z) B hI hr hlk hz3 e1 e2 d_CCode_namesWhatIsMissing_447
  have hb481 : ∀ (s0 : Int32) (u : zU) (H : Heap) (locs : List Loc) (ls : Array Slot), zf_CCCode_namesWhatIsMissing_26_b481 N  s0 u = some (r, u1) → iw D A s (wC a z u) H locs → lv_has ls 4 [] → W p l e ({ frames := 2, cells := 0, slots := 0, locals := 42 } : Room) s m args below meth c H locs 0 0 (MQ below (zQi D r (wC a z u1) A) args s 0 0 A) (F0 m 481 ls [.int s0]) := by
    intro s0 u H locs ls hf hI hl
    unfold zf_CCCode_namesWhatIsMissing_26_b481 at hf
    obtain ⟨hz3, hf⟩ := zck_some hf
    obtain ⟨e1, e2⟩ := zrt hf
    exact zr_z (wC a z) B hI hr hlk hz3 e1 e2 d_CCode_namesWhatIsMissing_481
  have hb476 : ∀  (u : zU) (H : Heap) (locs : List Loc) (ls : Array Slot), zf_CCCode_namesWhatIsMissing_26_b476 N   u = some (r, u1) → iw D A s (wC a z u) H locs → lv_has ls 4 [] → W p l e ({ frames := 2, cells := 0, slots := 0, locals := 42 } : Room) s m args below meth c H locs 0 0 (MQ below (zQi D r (wC a z u1) A) args s 0 0 A) (F0 m 476 ls []) := by
    intro  u H locs ls hf hI hl
    unfold zf_CCCode_namesWhatIsMissing_26_b476 at hf
    refine lv_iconst (v := 1) B.1 B.2.1 d_CCode_namesWhatIsMissing_476 (by decide) ?_
    refine lv_goto (tgt := 481) B.1 B.2.1 d_CCode_namesWhatIsMissing_477 (by decide) ?_
    exact hb481 1 u _ _ _ hf hI (lv_sub hl [] rfl)
  intro hI hl hf
  unfold zf_CCCode_namesWhatIsMissing_26 at hf
  refine lv_iload_n B.1 B.2.1 d_CCode_namesWhatIsMissing_0 rfl (lv_at hl 1 rfl) ?_
  by_cases hc1 : x1 = 2
  · rw [if_pos hc1] at hf
    refine lv_lookup (off := 203) (tgt := 204) B.1 B.2.1 d_CCode_namesWhatIsMissing_1 (by decide +kernel) (by rw [hc1]; decide +kernel) (by decide) ?_
    exact hb204 x2 u _ _ _ hf hI (lv_sub hl [0, 2] rfl)
  rw [if_neg hc1] at hf
  by_cases hc2 : x1 = 3
  · rw [if_pos hc2] at hf
    refine lv_lookup (off := 203) (tgt := 204) B.1 B.2.1 d_CCode_namesWhatIsMissing_1 (by decide +kernel) (by rw [hc2]; decide +kernel) (by decide) ?_
    exact hb204 x2 u _ _ _ hf hI (lv_sub hl [0, 2] rfl)
  rw [if_neg hc2] at hf
  by_cases hc3 : x1 = 4
  · rw [if_pos hc3] at hf
    refine lv_lookup (off := 203) (tgt := 204) B.1 B.2.1 d_CCode_namesWhatIsMissing_1 (by decide +kernel) (by rw [hc3]; decide +kernel) (by decide) ?_
    exact hb204 x2 u _ _ _ hf hI (lv_sub hl [0, 2] rfl)
  rw [if_neg hc3] at hf
  by_cases hc4 : x1 = 12
  · rw [if_pos hc4] at hf
    refine lv_lookup (off := 224) (tgt := 225) B.1 B.2.1 d_CCode_namesWhatIsMissing_1 (by decide +kernel) (by rw [hc4]; decide +kernel) (by decide) ?_
    exact hb225 x2 u _ _ _ hf hI (lv_sub hl [0, 2] rfl)
  rw [if_neg hc4] at hf
  by_cases hc5 : x1 = 13
  · rw [if_pos hc5] at hf
    refine lv_lookup (off := 224) (tgt := 225) B.1 B.2.1 d_CCode_namesWhatIsMissing_1 (by decide +kernel) (by rw [hc5]; decide +kernel) (by decide) ?_
    exact hb225 x2 u _ _ _ hf hI (lv_sub hl [0, 2] rfl)
  rw [if_neg hc5] at hf
  by_cases hc6 : x1 = 14
  · rw [if_pos hc6] at hf
    refine lv_lookup (off := 241) (tgt := 242) B.1 B.2.1 d_CCode_namesWhatIsMissing_1 (by decide +kernel) (by rw [hc6]; decide +kernel) (by decide) ?_
    refine lv_aload_n B.1 B.2.1 d_CCode_namesWhatIsMissing_242 rfl (lv_at hl 0 rfl) ?_
    refine rx_get (v := .ref (a 31)) B hI hcl_CCode hin_CCode 26 (wC_at_26 a z u) 1 (by decide) hf_CCode_1 zw_73 rfl d_CCode_namesWhatIsMissing_243 ?_
    refine lv_iload_n B.1 B.2.1 d_CCode_namesWhatIsMissing_246 rfl (lv_at hl 2 rfl) ?_
    obtain ⟨r7, u8, h9, hf⟩ := zbd_some hf
    refine rx_Vi (n := 1) (As := [.int x2]) (rest := []) B hI hl.1 (zc_CCStack_hasBlock_31 l D z a N x2 u r7 u8 h9) zw_175 zw_177 zw_178 zw_82 zw_176 (by decide +kernel) 31 (wC_at_31 a z u) hcl_CStack rfl rfl (Nat.le_of_ble_eq_true rfl) d_CCode_namesWhatIsMissing_247 ⟨Nat.le_of_ble_eq_true rfl, Nat.le_of_ble_eq_true rfl⟩ rfl rfl ⟨Nat.zero_le _, Nat.zero_le _⟩ (fun H locs hI => ?_)
    refine lv_if_eq (tgt := 260) B.1 B.2.1 d_CCode_namesWhatIsMissing_250 (by decide) (fun hc10 => ?_) (fun hc10 => ?_)
    · rw [if_pos hc10] at hf
      exact hb260  u8 _ _ _ hf hI (lv_sub hl [] rfl)
    · rw [if_neg hc10] at hf
      refine lv_aload_n B.1 B.2.1 d_CCode_namesWhatIsMissing_253 rfl (lv_at hl 0 rfl) ?_
      obtain ⟨r11, u12, h13, hf⟩ := zbd_some hf
      refine rx_Vi (n := 0) (As := []) (rest := []) B hI hl.1 (zc_CCCode_isLabelMissing_26 l D z a N  u8 r11 u12 h13) zw_179 zw_181 zw_182 zw_10 zw_180 (by decide +kernel) 26 (wC_at_26 a z u8) hcl_CCode rfl rfl (Nat.le_of_ble_eq_true rfl) d_CCode_namesWhatIsMissing_254 ⟨Nat.le_of_ble_eq_true rfl, Nat.le_of_ble_eq_true rfl⟩ rfl rfl ⟨Nat.zero_le _, Nat.zero_le _⟩ (fun H locs hI => ?_)
      refine lv_if_eq (tgt := 264) B.1 B.2.1 d_CCode_namesWhatIsMissing_257 (by decide) (fun hc14 => ?_) (fun hc14 => ?_)
      · rw [if_pos hc14] at hf
        refine lv_iconst (v := 0) B.1 B.2.1 d_CCode_namesWhatIsMissing_264 (by decide) ?_
        exact hb265 0 u12 _ _ _ hf hI (lv_sub hl [] rfl)
      · rw [if_neg hc14] at hf
        exact hb260  u12 _ _ _ hf hI (lv_sub hl [] rfl)
  rw [if_neg hc6] at hf
  by_cases hc15 : x1 = 16
  · rw [if_pos hc15] at hf
    refine lv_lookup (off := 265) (tgt := 266) B.1 B.2.1 d_CCode_namesWhatIsMissing_1 (by decide +kernel) (by rw [hc15]; decide +kernel) (by decide) ?_
    exact hb266 x2 u _ _ _ hf hI (lv_sub hl [0, 2] rfl)
  rw [if_neg hc15] at hf
  by_cases hc16 : x1 = 17
  · rw [if_pos hc16] at hf
    refine lv_lookup (off := 285) (tgt := 286) B.1 B.2.1 d_CCode_namesWhatIsMissing_1 (by decide +kernel) (by rw [hc16]; decide +kernel) (by decide) ?_
    refine lv_aload_n B.1 B.2.1 d_CCode_namesWhatIsMissing_286 rfl (lv_at hl 0 rfl) ?_
    refine rx_get (v := .ref (a 1)) B hI hcl_CCode hin_CCode 26 (wC_at_26 a z u) 0 (by decide) hf_CCode_0 zw_106 rfl d_CCode_namesWhatIsMissing_287 ?_
    refine lv_iload_n B.1 B.2.1 d_CCode_namesWhatIsMissing_290 rfl (lv_at hl 2 rfl) ?_
    obtain ⟨r17, u18, h19, hf⟩ := zbd_some hf
    refine rx_Vi (n := 1) (As := [.int x2]) (rest := []) B hI hl.1 (zc_CCThings_hasType_1 l D z a N x2 u r17 u18 h19) zw_173 zw_56 zw_57 zw_3 zw_55 (by decide +kernel) 1 (wC_at_1 a z u) hcl_CThings rfl rfl (Nat.le_of_ble_eq_true rfl) d_CCode_namesWhatIsMissing_291 ⟨Nat.le_of_ble_eq_true rfl, Nat.le_of_ble_eq_true rfl⟩ rfl rfl ⟨Nat.zero_le _, Nat.zero_le _⟩ (fun H locs hI => ?_)
    refine lv_if_eq (tgt := 311) B.1 B.2.1 d_CCode_namesWhatIsMissing_294 (by decide) (fun hc20 => ?_) (fun hc20 => ?_)
    · rw [if_pos hc20] at hf
      exact hb311  u18 _ _ _ hf hI (lv_sub hl [] rfl)
    · rw [if_neg hc20] at hf
      refine lv_aload_n B.1 B.2.1 d_CCode_namesWhatIsMissing_297 rfl (lv_at hl 0 rfl) ?_
      refine rx_get (v := .ref (a 1)) B hI hcl_CCode hin_CCode 26 (wC_at_26 a z u18) 0 (by decide) hf_CCode_0 zw_106 rfl d_CCode_namesWhatIsMissing_298 ?_
      refine rx_getN (v := .ref (a 11)) B hI hcl_CThings hin_CThings 1 (wC_at_1 a z u18) 3 (by decide) hf_CThings_3 zw_165 rfl d_CCode_namesWhatIsMissing_301 ?_
      refine lv_iload_n B.1 B.2.1 d_CCode_namesWhatIsMissing_304 rfl (lv_at hl 3 rfl) ?_
      obtain ⟨r21, u22, h23, hf⟩ := zbd_some hf
      refine rx_Vi (n := 1) (As := [.int x3]) (rest := []) B hI hl.1 (zc_CCShelf_has_11 l D z a N x3 u18 r21 u22 h23) zw_156 zw_66 zw_67 zw_44 zw_65 (by decide +kernel) 11 (wC_at_11 a z u18) hcl_CShelf rfl rfl (Nat.le_of_ble_eq_true rfl) d_CCode_namesWhatIsMissing_305 ⟨Nat.le_of_ble_eq_true rfl, Nat.le_of_ble_eq_true rfl⟩ rfl rfl ⟨Nat.zero_le _, Nat.zero_le _⟩ (fun H locs hI => ?_)
      refine lv_if_ne (tgt := 315) B.1 B.2.1 d_CCode_namesWhatIsMissing_308 (by decide) (fun hc24 => ?_) (fun hc24 => ?_)
      · rw [if_neg hc24] at hf
        refine lv_iconst (v := 0) B.1 B.2.1 d_CCode_namesWhatIsMissing_315 (by decide) ?_
        exact hb316 0 u22 _ _ _ hf hI (lv_sub hl [] rfl)
      · rw [if_pos hc24] at hf
        exact hb311  u22 _ _ _ hf hI (lv_sub hl [] rfl)
  rw [if_neg hc16] at hf
  by_cases hc25 : x1 = 32
  · rw [if_pos hc25] at hf
    refine lv_lookup (off := 316) (tgt := 317) B.1 B.2.1 d_CCode_namesWhatIsMissing_1 (by decide +kernel) (by rw [hc25]; decide +kernel) (by decide) ?_
    exact hb317 x2 u _ _ _ hf hI (lv_sub hl [0, 2] rfl)
  rw [if_neg hc25] at hf
  by_cases hc26 : x1 = 33
  · rw [if_pos hc26] at hf
    refine lv_lookup (off := 316) (tgt := 317) B.1 B.2.1 d_CCode_namesWhatIsMissing_1 (by decide +kernel) (by rw [hc26]; decide +kernel) (by decide) ?_
    exact hb317 x2 u _ _ _ hf hI (lv_sub hl [0, 2] rfl)
  rw [if_neg hc26] at hf
  by_cases hc27 : x1 = 34
  · rw [if_pos hc27] at hf
    refine lv_lookup (off := 316) (tgt := 317) B.1 B.2.1 d_CCode_namesWhatIsMissing_1 (by decide +kernel) (by rw [hc27]; decide +kernel) (by decide) ?_
    exact hb317 x2 u _ _ _ hf hI (lv_sub hl [0, 2] rfl)
  rw [if_neg hc27] at hf
  by_cases hc28 : x1 = 35
  · rw [if_pos hc28] at hf
    refine lv_lookup (off := 333) (tgt := 334) B.1 B.2.1 d_CCode_namesWhatIsMissing_1 (by decide +kernel) (by rw [hc28]; decide +kernel) (by decide) ?_
    exact hb334 x2 u _ _ _ hf hI (lv_sub hl [0, 2] rfl)
  rw [if_neg hc28] at hf
  by_cases hc29 : x1 = 36
  · rw [if_pos hc29] at hf
    refine lv_lookup (off := 333) (tgt := 334) B.1 B.2.1 d_CCode_namesWhatIsMissing_1 (by decide +kernel) (by rw [hc29]; decide +kernel) (by decide) ?_
    exact hb334 x2 u _ _ _ hf hI (lv_sub hl [0, 2] rfl)
  rw [if_neg hc29] at hf
  by_cases hc30 : x1 = 37
  · rw [if_pos hc30] at hf
    refine lv_lookup (off := 353) (tgt := 354) B.1 B.2.1 d_CCode_namesWhatIsMissing_1 (by decide +kernel) (by rw [hc30]; decide +kernel) (by decide) ?_
    exact hb354 x2 u _ _ _ hf hI (lv_sub hl [0, 2] rfl)
  rw [if_neg hc30] at hf
  by_cases hc31 : x1 = 38
  · rw [if_pos hc31] at hf
    refine lv_lookup (off := 353) (tgt := 354) B.1 B.2.1 d_CCode_namesWhatIsMissing_1 (by decide +kernel) (by rw [hc31]; decide +kernel) (by decide) ?_
    exact hb354 x2 u _ _ _ hf hI (lv_sub hl [0, 2] rfl)
  rw [if_neg hc31] at hf
  by_cases hc32 : x1 = 210
  · rw [if_pos hc32] at hf
    refine lv_lookup (off := 265) (tgt := 266) B.1 B.2.1 d_CCode_namesWhatIsMissing_1 (by decide +kernel) (by rw [hc32]; decide +kernel) (by decide) ?_
    exact hb266 x2 u _ _ _ hf hI (lv_sub hl [0, 2] rfl)
  rw [if_neg hc32] at hf
  by_cases hc33 : x1 = 264
  · rw [if_pos hc33] at hf
    refine lv_lookup (off := 373) (tgt := 374) B.1 B.2.1 d_CCode_namesWhatIsMissing_1 (by decide +kernel) (by rw [hc33]; decide +kernel) (by decide) ?_
    exact hb374 x2 u _ _ _ hf hI (lv_sub hl [0, 2] rfl)
  rw [if_neg hc33] at hf
  by_cases hc34 : x1 = 265
  · rw [if_pos hc34] at hf
    refine lv_lookup (off := 373) (tgt := 374) B.1 B.2.1 d_CCode_namesWhatIsMissing_1 (by decide +kernel) (by rw [hc34]; decide +kernel) (by decide) ?_
    exact hb374 x2 u _ _ _ hf hI (lv_sub hl [0, 2] rfl)
  rw [if_neg hc34] at hf
  by_cases hc35 : x1 = 268
  · rw [if_pos hc35] at hf
    refine lv_lookup (off := 393) (tgt := 394) B.1 B.2.1 d_CCode_namesWhatIsMissing_1 (by decide +kernel) (by rw [hc35]; decide +kernel) (by decide) ?_
    refine lv_aload_n B.1 B.2.1 d_CCode_namesWhatIsMissing_394 rfl (lv_at hl 0 rfl) ?_
    refine rx_get (v := .ref (a 1)) B hI hcl_CCode hin_CCode 26 (wC_at_26 a z u) 0 (by decide) hf_CCode_0 zw_106 rfl d_CCode_namesWhatIsMissing_395 ?_
    refine rx_getN (v := .ref (a 20)) B hI hcl_CThings hin_CThings 1 (wC_at_1 a z u) 6 (by decide) hf_CThings_6 zw_166 rfl d_CCode_namesWhatIsMissing_398 ?_
    refine lv_iload_n B.1 B.2.1 d_CCode_namesWhatIsMissing_401 rfl (lv_at hl 2 rfl) ?_
    obtain ⟨r36, u37, h38, hf⟩ := zbd_some hf
    refine rx_Vi (n := 1) (As := [.int x2]) (rest := []) B hI hl.1 (zc_CCShelf_has_20 l D z a N x2 u r36 u37 h38) zw_156 zw_66 zw_67 zw_44 zw_65 (by decide +kernel) 20 (wC_at_20 a z u) hcl_CShelf rfl rfl (Nat.le_of_ble_eq_true rfl) d_CCode_namesWhatIsMissing_402 ⟨Nat.le_of_ble_eq_true rfl, Nat.le_of_ble_eq_true rfl⟩ rfl rfl ⟨Nat.zero_le _, Nat.zero_le _⟩ (fun H locs hI => ?_)
    refine lv_if_eq (tgt := 422) B.1 B.2.1 d_CCode_namesWhatIsMissing_405 (by decide) (fun hc39 => ?_) (fun hc39 => ?_)
    · rw [if_pos hc39] at hf
      exact hb422  u37 _ _ _ hf hI (lv_sub hl [] rfl)
    · rw [if_neg hc39] at hf
      refine lv_aload_n B.1 B.2.1 d_CCode_namesWhatIsMissing_408 rfl (lv_at hl 0 rfl) ?_
      refine rx_get (v := .ref (a 1)) B hI hcl_CCode hin_CCode 26 (wC_at_26 a z u37) 0 (by decide) hf_CCode_0 zw_106 rfl d_CCode_namesWhatIsMissing_409 ?_
      refine rx_getN (v := .ref (a 11)) B hI hcl_CThings hin_CThings 1 (wC_at_1 a z u37) 3 (by decide) hf_CThings_3 zw_165 rfl d_CCode_namesWhatIsMissing_412 ?_
      refine lv_iload_n B.1 B.2.1 d_CCode_namesWhatIsMissing_415 rfl (lv_at hl 3 rfl) ?_
      obtain ⟨r40, u41, h42, hf⟩ := zbd_some hf
      refine rx_Vi (n := 1) (As := [.int x3]) (rest := []) B hI hl.1 (zc_CCShelf_has_11 l D z a N x3 u37 r40 u41 h42) zw_156 zw_66 zw_67 zw_44 zw_65 (by decide +kernel) 11 (wC_at_11 a z u37) hcl_CShelf rfl rfl (Nat.le_of_ble_eq_true rfl) d_CCode_namesWhatIsMissing_416 ⟨Nat.le_of_ble_eq_true rfl, Nat.le_of_ble_eq_true rfl⟩ rfl rfl ⟨Nat.zero_le _, Nat.zero_le _⟩ (fun H locs hI => ?_)
      refine lv_if_ne (tgt := 426) B.1 B.2.1 d_CCode_namesWhatIsMissing_419 (by decide) (fun hc43 => ?_) (fun hc43 => ?_)
      · rw [if_neg hc43] at hf
        refine lv_iconst (v := 0) B.1 B.2.1 d_CCode_namesWhatIsMissing_426 (by decide) ?_
        exact hb427 0 u41 _ _ _ hf hI (lv_sub hl [] rfl)
      · rw [if_pos hc43] at hf
        exact hb422  u41 _ _ _ hf hI (lv_sub hl [] rfl)
  rw [if_neg hc35] at hf
  by_cases hc44 : x1 = 269
  · rw [if_pos hc44] at hf
    refine lv_lookup (off := 427) (tgt := 428) B.1 B.2.1 d_CCode_namesWhatIsMissing_1 (by decide +kernel) (by rw [hc44]; decide +kernel) (by decide) ?_
    refine lv_aload_n B.1 B.2.1 d_CCode_namesWhatIsMissing_428 rfl (lv_at hl 0 rfl) ?_
    refine rx_get (v := .ref (a 1)) B hI hcl_CCode hin_CCode 26 (wC_at_26 a z u) 0 (by decide) hf_CCode_0 zw_106 rfl d_CCode_namesWhatIsMissing_429 ?_
    refine rx_getN (v := .ref (a 20)) B hI hcl_CThings hin_CThings 1 (wC_at_1 a z u) 6 (by decide) hf_CThings_6 zw_166 rfl d_CCode_namesWhatIsMissing_432 ?_
    refine lv_iload_n B.1 B.2.1 d_CCode_namesWhatIsMissing_435 rfl (lv_at hl 2 rfl) ?_
    obtain ⟨r45, u46, h47, hf⟩ := zbd_some hf
    refine rx_Vi (n := 1) (As := [.int x2]) (rest := []) B hI hl.1 (zc_CCShelf_has_20 l D z a N x2 u r45 u46 h47) zw_156 zw_66 zw_67 zw_44 zw_65 (by decide +kernel) 20 (wC_at_20 a z u) hcl_CShelf rfl rfl (Nat.le_of_ble_eq_true rfl) d_CCode_namesWhatIsMissing_436 ⟨Nat.le_of_ble_eq_true rfl, Nat.le_of_ble_eq_true rfl⟩ rfl rfl ⟨Nat.zero_le _, Nat.zero_le _⟩ (fun H locs hI => ?_)
    refine lv_if_ne (tgt := 446) B.1 B.2.1 d_CCode_namesWhatIsMissing_439 (by decide) (fun hc48 => ?_) (fun hc48 => ?_)
    · rw [if_neg hc48] at hf
      refine lv_iconst (v := 0) B.1 B.2.1 d_CCode_namesWhatIsMissing_446 (by decide) ?_
      exact hb447 0 u46 _ _ _ hf hI (lv_sub hl [] rfl)
    · rw [if_pos hc48] at hf
      refine lv_iconst (v := 1) B.1 B.2.1 d_CCode_namesWhatIsMissing_442 (by decide) ?_
      refine lv_goto (tgt := 447) B.1 B.2.1 d_CCode_namesWhatIsMissing_443 (by decide) ?_
      exact hb447 1 u46 _ _ _ hf hI (lv_sub hl [] rfl)
  rw [if_neg hc44] at hf
  by_cases hc49 : x1 = 270
  · rw [if_pos hc49] at hf
    refine lv_lookup (off := 447) (tgt := 448) B.1 B.2.1 d_CCode_namesWhatIsMissing_1 (by decide +kernel) (by rw [hc49]; decide +kernel) (by decide) ?_
    refine lv_aload_n B.1 B.2.1 d_CCode_namesWhatIsMissing_448 rfl (lv_at hl 0 rfl) ?_
    refine rx_get (v := .ref (a 1)) B hI hcl_CCode hin_CCode 26 (wC_at_26 a z u) 0 (by decide) hf_CCode_0 zw_106 rfl d_CCode_namesWhatIsMissing_449 ?_
    refine rx_getN (v := .ref (a 11)) B hI hcl_CThings hin_CThings 1 (wC_at_1 a z u) 3 (by decide) hf_CThings_3 zw_165 rfl d_CCode_namesWhatIsMissing_452 ?_
    refine lv_iload_n B.1 B.2.1 d_CCode_namesWhatIsMissing_455 rfl (lv_at hl 2 rfl) ?_
    obtain ⟨r50, u51, h52, hf⟩ := zbd_some hf
    refine rx_Vi (n := 1) (As := [.int x2]) (rest := []) B hI hl.1 (zc_CCShelf_has_11 l D z a N x2 u r50 u51 h52) zw_156 zw_66 zw_67 zw_44 zw_65 (by decide +kernel) 11 (wC_at_11 a z u) hcl_CShelf rfl rfl (Nat.le_of_ble_eq_true rfl) d_CCode_namesWhatIsMissing_456 ⟨Nat.le_of_ble_eq_true rfl, Nat.le_of_ble_eq_true rfl⟩ rfl rfl ⟨Nat.zero_le _, Nat.zero_le _⟩ (fun H locs hI => ?_)
    refine lv_if_eq (tgt := 476) B.1 B.2.1 d_CCode_namesWhatIsMissing_459 (by decide) (fun hc53 => ?_) (fun hc53 => ?_)
    · rw [if_pos hc53] at hf
      exact hb476  u51 _ _ _ hf hI (lv_sub hl [] rfl)
    · rw [if_neg hc53] at hf
      refine lv_aload_n B.1 B.2.1 d_CCode_namesWhatIsMissing_462 rfl (lv_at hl 0 rfl) ?_
      refine rx_get (v := .ref (a 1)) B hI hcl_CCode hin_CCode 26 (wC_at_26 a z u51) 0 (by decide) hf_CCode_0 zw_106 rfl d_CCode_namesWhatIsMissing_463 ?_
      refine rx_getN (v := .ref (a 11)) B hI hcl_CThings hin_CThings 1 (wC_at_1 a z u51) 3 (by decide) hf_CThings_3 zw_165 rfl d_CCode_namesWhatIsMissing_466 ?_
      refine lv_iload_n B.1 B.2.1 d_CCode_namesWhatIsMissing_469 rfl (lv_at hl 3 rfl) ?_
      obtain ⟨r54, u55, h56, hf⟩ := zbd_some hf
      refine rx_Vi (n := 1) (As := [.int x3]) (rest := []) B hI hl.1 (zc_CCShelf_has_11 l D z a N x3 u51 r54 u55 h56) zw_156 zw_66 zw_67 zw_44 zw_65 (by decide +kernel) 11 (wC_at_11 a z u51) hcl_CShelf rfl rfl (Nat.le_of_ble_eq_true rfl) d_CCode_namesWhatIsMissing_470 ⟨Nat.le_of_ble_eq_true rfl, Nat.le_of_ble_eq_true rfl⟩ rfl rfl ⟨Nat.zero_le _, Nat.zero_le _⟩ (fun H locs hI => ?_)
      refine lv_if_ne (tgt := 480) B.1 B.2.1 d_CCode_namesWhatIsMissing_473 (by decide) (fun hc57 => ?_) (fun hc57 => ?_)
      · rw [if_neg hc57] at hf
        refine lv_iconst (v := 0) B.1 B.2.1 d_CCode_namesWhatIsMissing_480 (by decide) ?_
        exact hb481 0 u55 _ _ _ hf hI (lv_sub hl [] rfl)
      · rw [if_pos hc57] at hf
        exact hb476  u55 _ _ _ hf hI (lv_sub hl [] rfl)
  rw [if_neg hc49] at hf
  by_cases hc58 : x1 = 271
  · rw [if_pos hc58] at hf
    refine lv_lookup (off := 353) (tgt := 354) B.1 B.2.1 d_CCode_namesWhatIsMissing_1 (by decide +kernel) (by rw [hc58]; decide +kernel) (by decide) ?_
    exact hb354 x2 u _ _ _ hf hI (lv_sub hl [0, 2] rfl)
  rw [if_neg hc58] at hf
  by_cases hc59 : x1 = 272
  · rw [if_pos hc59] at hf
    refine lv_lookup (off := 353) (tgt := 354) B.1 B.2.1 d_CCode_namesWhatIsMissing_1 (by decide +kernel) (by rw [hc59]; decide +kernel) (by decide) ?_
    exact hb354 x2 u _ _ _ hf hI (lv_sub hl [0, 2] rfl)
  rw [if_neg hc59] at hf
  by_cases hc60 : x1 = 273
  · rw [if_pos hc60] at hf
    refine lv_lookup (off := 353) (tgt := 354) B.1 B.2.1 d_CCode_namesWhatIsMissing_1 (by decide +kernel) (by rw [hc60]; decide +kernel) (by decide) ?_
    exact hb354 x2 u _ _ _ hf hI (lv_sub hl [0, 2] rfl)
  rw [if_neg hc60] at hf
  refine lv_lookup (off := 481) (tgt := 482) B.1 B.2.1 d_CCode_namesWhatIsMissing_1 (by decide +kernel) ((lv_osw hc1 (by decide)).trans ((lv_osw hc2 (by decide)).trans ((lv_osw hc3 (by decide)).trans ((lv_osw hc4 (by decide)).trans ((lv_osw hc5 (by decide)).trans ((lv_osw hc6 (by decide)).trans ((lv_osw hc15 (by decide)).trans ((lv_osw hc16 (by decide)).trans ((lv_osw hc25 (by decide)).trans ((lv_osw hc26 (by decide)).trans ((lv_osw hc27 (by decide)).trans ((lv_osw hc28 (by decide)).trans ((lv_osw hc29 (by decide)).trans ((lv_osw hc30 (by decide)).trans ((lv_osw hc31 (by decide)).trans ((lv_osw hc32 (by decide)).trans ((lv_osw hc33 (by decide)).trans ((lv_osw hc34 (by decide)).trans ((lv_osw hc35 (by decide)).trans ((lv_osw hc44 (by decide)).trans ((lv_osw hc49 (by decide)).trans ((lv_osw hc58 (by decide)).trans ((lv_osw hc59 (by decide)).trans ((lv_osw hc60 (by decide)).trans (Op.lookupswitch.offset_nil _ _))))))))))))))))))))))))) (by decide) ?_
  refine lv_iconst (v := 0) B.1 B.2.1 d_CCode_namesWhatIsMissing_482 (by decide) ?_
  obtain ⟨e61, e62⟩ := zrt hf
  exact zr_z (wC a z) B hI hr hlk (by decide) e61 e62 d_CCode_namesWhatIsMissing_483
set_option maxHeartbeats 4000000 in
set_option maxRecDepth 100000 in
theorem zc_CCShelf_has_14 (l : Launch) (D : va_G) (z : zZ) (a : Nat → Nat) (N : Nat) (x1 : Int32) (u : zU) (r : Int32) (u1 : zU) (hf : zf_CCShelf_has_14 N x1 u = some (r, u1)) : zMet l D z y_CShelf_has (.code y_CShelf_has b_CShelf_has 2 (some (.boolean))) { frames := 0, cells := 0, slots := 0, locals := 0 } [.ref (a 14), .int x1] (wC a z u) (zQi D r (wC a z u1)) := by
  refine zM_i (own := R_CShelf) [.ref (a 14), .int x1] (wC a z u) r (wC a z u1) (by decide) rfl (Nat.le_of_ble_eq_true rfl) ?_
  intro p e s m args below meth c A ls B hr hlk hI hl
  have hl : lv_has ls 2 [(0, .ref (a 14)), (1, .int x1)] := hl
  revert hf
  revert hI hl
  have hb17 : ∀ (s0 : Int32) (u : zU) (H : Heap) (locs : List Loc) (ls : Array Slot), zf_CCShelf_has_14_b17 N  s0 u = some (r, u1) → iw D A s (wC a z u) H locs → lv_has ls 2 [] → W p l e ({ frames := 0, cells := 0, slots := 0, locals := 0 } : Room) s m args below meth c H locs 0 0 (MQ below (zQi D r (wC a z u1) A) args s 0 0 A) (F0 m 17 ls [.int s0]) := by
    intro s0 u H locs ls hf hI hl
    unfold zf_CCShelf_has_14_b17 at hf
    obtain ⟨hz3, hf⟩ := zck_some hf
    obtain ⟨e1, e2⟩ := zrt hf
    exact zr_z (wC a z) B hI hr hlk hz3 e1 e2 d_CShelf_has_17
  have hb16 : ∀  (u : zU) (H : Heap) (locs : List Loc) (ls : Array Slot), zf_CCShelf_has_14_b16 N   u = some (r, u1) → iw D A s (wC a z u) H locs → lv_has ls 2 [] → W p l e ({ frames := 0, cells := 0, slots := 0, locals := 0 } : Room) s m args below meth c H locs 0 0 (MQ below (zQi D r (wC a z u1) A) args s 0 0 A) (F0 m 16 ls []) := by
    intro  u H locs ls hf hI hl
    unfold zf_CCShelf_has_14_b16 at hf
    refine lv_iconst (v := 0) B.1 B.2.1 d_CShelf_has_16 (by decide) ?_
    exact hb17 0 u _ _ _ hf hI (lv_sub hl [] rfl)
  intro hI hl hf
  unfold zf_CCShelf_has_14 at hf
  refine lv_iload_n B.1 B.2.1 d_CShelf_has_0 rfl (lv_at hl 1 rfl) ?_
  refine lv_if_lt (tgt := 16) B.1 B.2.1 d_CShelf_has_1 (by decide) (fun hc1 => ?_) (fun hc1 => ?_)
  · rw [if_pos hc1] at hf
    exact hb16  u _ _ _ hf hI (lv_sub hl [] rfl)
  · rw [if_neg hc1] at hf
    refine lv_iload_n B.1 B.2.1 d_CShelf_has_4 rfl (lv_at hl 1 rfl) ?_
    refine lv_aload_n B.1 B.2.1 d_CShelf_has_5 rfl (lv_at hl 0 rfl) ?_
    refine rx_get (v := .int (gi u 3)) B hI hcl_CShelf hin_CShelf 14 (wC_at_14 a z u) 2 (by decide) hf_CShelf_2 zw_40 rfl d_CShelf_has_6 ?_
    refine lv_icmp_ge (tgt := 16) B.1 B.2.1 d_CShelf_has_9 (by decide) (fun hc2 => ?_) (fun hc2 => ?_)
    · rw [if_pos hc2] at hf
      exact hb16  u _ _ _ hf hI (lv_sub hl [] rfl)
    · rw [if_neg hc2] at hf
      refine lv_iconst (v := 1) B.1 B.2.1 d_CShelf_has_12 (by decide) ?_
      refine lv_goto (tgt := 17) B.1 B.2.1 d_CShelf_has_13 (by decide) ?_
      exact hb17 1 u _ _ _ hf hI (lv_sub hl [] rfl)
set_option maxHeartbeats 4000000 in
set_option maxRecDepth 100000 in
theorem zc_CCThings_hasMemory_1 (l : Launch) (D : va_G) (z : zZ) (a : Nat → Nat) (N : Nat)  (u : zU) (r : Int32) (u1 : zU) (hf : zf_CCThings_hasMemory_1 N  u = some (r, u1)) : zMet l D z y_CThings_hasMemory (.code y_CThings_hasMemory b_CThings_hasMemory 1 (some (.boolean))) { frames := 1, cells := 0, slots := 0, locals := 21 } [.ref (a 1)] (wC a z u) (zQi D r (wC a z u1)) := by
  refine zM_i (own := R_CThings) [.ref (a 1)] (wC a z u) r (wC a z u1) (by decide) rfl (Nat.le_of_ble_eq_true rfl) ?_
  intro p e s m args below meth c A ls B hr hlk hI hl
  have hl : lv_has ls 1 [(0, .ref (a 1))] := hl
  revert hf
  revert hI hl
  intro hI hl hf
  unfold zf_CCThings_hasMemory_1 at hf
  refine lv_aload_n B.1 B.2.1 d_CThings_hasMemory_0 rfl (lv_at hl 0 rfl) ?_
  refine rx_get (v := .ref (a 14)) B hI hcl_CThings hin_CThings 1 (wC_at_1 a z u) 4 (by decide) hf_CThings_4 zw_52 rfl d_CThings_hasMemory_1 ?_
  refine lv_iconst (v := 0) B.1 B.2.1 d_CThings_hasMemory_4 (by decide) ?_
  obtain ⟨r1, u2, h3, hf⟩ := zbd_some hf
  refine rx_Vi (n := 1) (As := [.int 0]) (rest := []) B hI hl.1 (zc_CCShelf_has_14 l D z a N 0 u r1 u2 h3) zw_187 zw_66 zw_67 zw_44 zw_65 (by decide +kernel) 14 (wC_at_14 a z u) hcl_CShelf rfl rfl (Nat.le_of_ble_eq_true rfl) d_CThings_hasMemory_5 ⟨Nat.le_of_ble_eq_true rfl, Nat.le_of_ble_eq_true rfl⟩ rfl rfl ⟨Nat.zero_le _, Nat.zero_le _⟩ (fun H locs hI => ?_)
  obtain ⟨hz6, hf⟩ := zck_some hf
  obtain ⟨e4, e5⟩ := zrt hf
  exact zr_z (wC a z) B hI hr hlk hz6 e4 e5 d_CThings_hasMemory_8
set_option maxHeartbeats 4000000 in
set_option maxRecDepth 100000 in
theorem zc_CCCode_accessFault_26 (l : Launch) (D : va_G) (z : zZ) (a : Nat → Nat) (N : Nat) (x1 : Int32) (x2 : Int32) (u : zU) (r : Int32) (u1 : zU) (hf : zf_CCCode_accessFault_26 N x1 x2 u = some (r, u1)) : zMet l D z y_CCode_accessFault (.code y_CCode_accessFault b_CCode_accessFault 6 (some (.int))) { frames := 2, cells := 0, slots := 0, locals := 41 } [.ref (a 26), .int x1, .int x2] (wC a z u) (zQi D r (wC a z u1)) := by
  refine zM_i (own := R_CCode) [.ref (a 26), .int x1, .int x2] (wC a z u) r (wC a z u1) (by decide) rfl (Nat.le_of_ble_eq_true rfl) ?_
  intro p e s m args below meth c A ls B hr hlk hI hl
  have hl : lv_has ls 6 [(0, .ref (a 26)), (1, .int x1), (2, .int x2)] := hl
  revert hf
  revert hI hl
  have hb77 : ∀ (s0 : Int32) (u : zU) (H : Heap) (locs : List Loc) (ls : Array Slot), zf_CCCode_accessFault_26_b77 N  s0 u = some (r, u1) → iw D A s (wC a z u) H locs → lv_has ls 6 [] → W p l e ({ frames := 2, cells := 0, slots := 0, locals := 41 } : Room) s m args below meth c H locs 0 0 (MQ below (zQi D r (wC a z u1) A) args s 0 0 A) (F0 m 77 ls [.int s0]) := by
    intro s0 u H locs ls hf hI hl
    unfold zf_CCCode_accessFault_26_b77 at hf
    obtain ⟨e1, e2⟩ := zrt hf
    exact zr_i (wC a z) B hI hr hlk e1 e2 d_CCode_accessFault_77
  have hb64 : ∀ (s0 : Int32) (u : zU) (H : Heap) (locs : List Loc) (ls : Array Slot), zf_CCCode_accessFault_26_b64 N  s0 u = some (r, u1) → iw D A s (wC a z u) H locs → lv_has ls 6 [] → W p l e ({ frames := 2, cells := 0, slots := 0, locals := 41 } : Room) s m args below meth c H locs 0 0 (MQ below (zQi D r (wC a z u1) A) args s 0 0 A) (F0 m 64 ls [.int s0]) := by
    intro s0 u H locs ls hf hI hl
    unfold zf_CCCode_accessFault_26_b64 at hf
    refine lv_istore (lv' := [(5, .int s0)]) B.1 B.2.1 d_CCode_accessFault_64 hl (by decide) rfl (fun ls hl => ?_)
    refine lv_iload B.1 B.2.1 d_CCode_accessFault_66 (lv_at hl 0 rfl) ?_
    refine lv_if_eq (tgt := 75) B.1 B.2.1 d_CCode_accessFault_68 (by decide) (fun hc1 => ?_) (fun hc1 => ?_)
    · rw [if_pos hc1] at hf
      refine lv_bipush (v := 10) B.1 B.2.1 d_CCode_accessFault_75 (by decide) ?_
      exact hb77 10 u _ _ _ hf hI (lv_sub hl [] rfl)
    · rw [if_neg hc1] at hf
      refine lv_iconst (v := 0) B.1 B.2.1 d_CCode_accessFault_71 (by decide) ?_
      refine lv_goto (tgt := 77) B.1 B.2.1 d_CCode_accessFault_72 (by decide) ?_
      exact hb77 0 u _ _ _ hf hI (lv_sub hl [] rfl)
  have hb63 : ∀  (u : zU) (H : Heap) (locs : List Loc) (ls : Array Slot), zf_CCCode_accessFault_26_b63 N   u = some (r, u1) → iw D A s (wC a z u) H locs → lv_has ls 6 [] → W p l e ({ frames := 2, cells := 0, slots := 0, locals := 41 } : Room) s m args below meth c H locs 0 0 (MQ below (zQi D r (wC a z u1) A) args s 0 0 A) (F0 m 63 ls []) := by
    intro  u H locs ls hf hI hl
    unfold zf_CCCode_accessFault_26_b63 at hf
    refine lv_iconst (v := 0) B.1 B.2.1 d_CCode_accessFault_63 (by decide) ?_
    exact hb64 0 u _ _ _ hf hI (lv_sub hl [] rfl)
  have hb39 : ∀ (x2 : Int32) (s0 : Int32) (u : zU) (H : Heap) (locs : List Loc) (ls : Array Slot), zf_CCCode_accessFault_26_b39 N  x2 s0 u = some (r, u1) → iw D A s (wC a z u) H locs → lv_has ls 6 [(2, .int x2)] → W p l e ({ frames := 2, cells := 0, slots := 0, locals := 41 } : Room) s m args below meth c H locs 0 0 (MQ below (zQi D r (wC a z u1) A) args s 0 0 A) (F0 m 39 ls [.int s0]) := by
    intro x2 s0 u H locs ls hf hI hl
    unfold zf_CCCode_accessFault_26_b39 at hf
    refine lv_istore (lv' := [(4, .int s0), (2, .int x2)]) B.1 B.2.1 d_CCode_accessFault_39 hl (by decide) rfl (fun ls hl => ?_)
    refine lv_iload_n B.1 B.2.1 d_CCode_accessFault_41 rfl (lv_at hl 1 rfl) ?_
    refine lv_if_lt (tgt := 63) B.1 B.2.1 d_CCode_accessFault_42 (by decide) (fun hc1 => ?_) (fun hc1 => ?_)
    · rw [if_pos hc1] at hf
      exact hb63  u _ _ _ hf hI (lv_sub hl [] rfl)
    · rw [if_neg hc1] at hf
      refine lv_iload_n B.1 B.2.1 d_CCode_accessFault_45 rfl (lv_at hl 1 rfl) ?_
      refine lv_bipush (v := 31) B.1 B.2.1 d_CCode_accessFault_46 (by decide) ?_
      refine lv_icmp_ge (tgt := 63) B.1 B.2.1 d_CCode_accessFault_48 (by decide) (fun hc2 => ?_) (fun hc2 => ?_)
      · rw [if_pos hc2] at hf
        exact hb63  u _ _ _ hf hI (lv_sub hl [] rfl)
      · rw [if_neg hc2] at hf
        refine lv_iconst (v := 1) B.1 B.2.1 d_CCode_accessFault_51 (by decide) ?_
        refine lv_iload_n B.1 B.2.1 d_CCode_accessFault_52 rfl (lv_at hl 1 rfl) ?_
        refine lv_ishl B.1 B.2.1 d_CCode_accessFault_53 ?_
        refine lv_iload B.1 B.2.1 d_CCode_accessFault_54 (lv_at hl 0 rfl) ?_
        refine lv_icmp_gt (tgt := 63) B.1 B.2.1 d_CCode_accessFault_56 (by decide) (fun hc3 => ?_) (fun hc3 => ?_)
        · rw [if_pos hc3] at hf
          exact hb63  u _ _ _ hf hI (lv_sub hl [] rfl)
        · rw [if_neg hc3] at hf
          refine lv_iconst (v := 1) B.1 B.2.1 d_CCode_accessFault_59 (by decide) ?_
          refine lv_goto (tgt := 64) B.1 B.2.1 d_CCode_accessFault_60 (by decide) ?_
          exact hb64 1 u _ _ _ hf hI (lv_sub hl [] rfl)
  have hb38 : ∀ (x2 : Int32) (u : zU) (H : Heap) (locs : List Loc) (ls : Array Slot), zf_CCCode_accessFault_26_b38 N  x2 u = some (r, u1) → iw D A s (wC a z u) H locs → lv_has ls 6 [(2, .int x2)] → W p l e ({ frames := 2, cells := 0, slots := 0, locals := 41 } : Room) s m args below meth c H locs 0 0 (MQ below (zQi D r (wC a z u1) A) args s 0 0 A) (F0 m 38 ls []) := by
    intro x2 u H locs ls hf hI hl
    unfold zf_CCCode_accessFault_26_b38 at hf
    refine lv_iconst (v := 0) B.1 B.2.1 d_CCode_accessFault_38 (by decide) ?_
    exact hb39 x2 0 u _ _ _ hf hI (lv_sub hl [0] rfl)
  intro hI hl hf
  unfold zf_CCCode_accessFault_26 at hf
  refine lv_aload_n B.1 B.2.1 d_CCode_accessFault_0 rfl (lv_at hl 0 rfl) ?_
  refine rx_get (v := .ref (a 1)) B hI hcl_CCode hin_CCode 26 (wC_at_26 a z u) 0 (by decide) hf_CCode_0 zw_106 rfl d_CCode_accessFault_1 ?_
  obtain ⟨r1, u2, h3, hf⟩ := zbd_some hf
  refine rx_Vi (n := 0) (As := []) (rest := []) B hI hl.1 (zc_CCThings_hasMemory_1 l D z a N  u r1 u2 h3) zw_188 zw_190 zw_191 zw_3 zw_189 (by decide +kernel) 1 (wC_at_1 a z u) hcl_CThings rfl rfl (Nat.le_of_ble_eq_true rfl) d_CCode_accessFault_4 ⟨Nat.le_of_ble_eq_true rfl, Nat.le_of_ble_eq_true rfl⟩ rfl rfl ⟨Nat.zero_le _, Nat.zero_le _⟩ (fun H locs hI => ?_)
  refine lv_if_ne (tgt := 13) B.1 B.2.1 d_CCode_accessFault_7 (by decide) (fun hc4 => ?_) (fun hc4 => ?_)
  · rw [if_neg hc4] at hf
    refine lv_iload_n B.1 B.2.1 d_CCode_accessFault_13 rfl (lv_at hl 1 rfl) ?_
    refine lv_bipush (v := 40) B.1 B.2.1 d_CCode_accessFault_14 (by decide) ?_
    refine lv_isub B.1 B.2.1 d_CCode_accessFault_16 ?_
    refine lv_istore_n (lv' := [(3, .int (x1 - 40)), (0, .ref (a 26)), (1, .int x1), (2, .int x2)]) B.1 B.2.1 d_CCode_accessFault_17 rfl hl (by decide) rfl (fun ls hl => ?_)
    refine lv_iload_n B.1 B.2.1 d_CCode_accessFault_18 rfl (lv_at hl 0 rfl) ?_
    refine lv_if_lt (tgt := 38) B.1 B.2.1 d_CCode_accessFault_19 (by decide) (fun hc5 => ?_) (fun hc5 => ?_)
    · rw [if_pos hc5] at hf
      exact hb38 x2 u2 _ _ _ hf hI (lv_sub hl [3] rfl)
    · rw [if_neg hc5] at hf
      refine lv_iload_n B.1 B.2.1 d_CCode_accessFault_22 rfl (lv_at hl 0 rfl) ?_
      refine rx_getsN B hI 1 rfl zw_192 d_CCode_accessFault_23 (fun t6 ht6 => ?_)
      refine rx_tlen (v := 23) B hI ht6 (by decide) d_CCode_accessFault_26 ?_
      refine lv_icmp_ge (tgt := 38) B.1 B.2.1 d_CCode_accessFault_27 (by decide) (fun hc7 => ?_) (fun hc7 => ?_)
      · rw [if_pos hc7] at hf
        exact hb38 x2 u2 _ _ _ hf hI (lv_sub hl [3] rfl)
      · rw [if_neg hc7] at hf
        refine rx_getsN B hI 1 rfl zw_192 d_CCode_accessFault_30 (fun t8 ht8 => ?_)
        refine lv_iload_n B.1 B.2.1 d_CCode_accessFault_33 rfl (lv_at hl 0 rfl) ?_
        obtain ⟨hi9, hf⟩ := zck_some hf
        refine rx_ti B hI ht8 rfl hi9 d_CCode_accessFault_34 ?_
        refine lv_goto (tgt := 39) B.1 B.2.1 d_CCode_accessFault_35 (by decide) ?_
        exact hb39 x2 (t_X_MOVED_BYTES.getD (x1 - 40).toNatClampNeg 0) u2 _ _ _ hf hI (lv_sub hl [3] rfl)
  · rw [if_pos hc4] at hf
    refine lv_bipush (v := 9) B.1 B.2.1 d_CCode_accessFault_10 (by decide) ?_
    obtain ⟨e10, e11⟩ := zrt hf
    exact zr_i (wC a z) B hI hr hlk e10 e11 d_CCode_accessFault_12
set_option maxHeartbeats 4000000 in
set_option maxRecDepth 100000 in
theorem zc_CCShelf_typeOf_11 (l : Launch) (D : va_G) (z : zZ) (a : Nat → Nat) (N : Nat) (x1 : Int32) (u : zU) (r : Int32) (u1 : zU) (hf : zf_CCShelf_typeOf_11 N x1 u = some (r, u1)) : zMet l D z y_CShelf_typeOf (.code y_CShelf_typeOf b_CShelf_typeOf 2 (some (.int))) { frames := 1, cells := 0, slots := 0, locals := 21 } [.ref (a 11), .int x1] (wC a z u) (zQi D r (wC a z u1)) := by
  refine zM_i (own := R_CShelf) [.ref (a 11), .int x1] (wC a z u) r (wC a z u1) (by decide) rfl (Nat.le_of_ble_eq_true rfl) ?_
  intro p e s m args below meth c A ls B hr hlk hI hl
  have hl : lv_has ls 2 [(0, .ref (a 11)), (1, .int x1)] := hl
  revert hf
  revert hI hl
  have hb27 : ∀ (s0 : Int32) (u : zU) (H : Heap) (locs : List Loc) (ls : Array Slot), zf_CCShelf_typeOf_11_b27 N  s0 u = some (r, u1) → iw D A s (wC a z u) H locs → lv_has ls 2 [] → W p l e ({ frames := 1, cells := 0, slots := 0, locals := 21 } : Room) s m args below meth c H locs 0 0 (MQ below (zQi D r (wC a z u1) A) args s 0 0 A) (F0 m 27 ls [.int s0]) := by
    intro s0 u H locs ls hf hI hl
    unfold zf_CCShelf_typeOf_11_b27 at hf
    obtain ⟨e1, e2⟩ := zrt hf
    exact zr_i (wC a z) B hI hr hlk e1 e2 d_CShelf_typeOf_27
  have hb26 : ∀  (u : zU) (H : Heap) (locs : List Loc) (ls : Array Slot), zf_CCShelf_typeOf_11_b26 N   u = some (r, u1) → iw D A s (wC a z u) H locs → lv_has ls 2 [] → W p l e ({ frames := 1, cells := 0, slots := 0, locals := 21 } : Room) s m args below meth c H locs 0 0 (MQ below (zQi D r (wC a z u1) A) args s 0 0 A) (F0 m 26 ls []) := by
    intro  u H locs ls hf hI hl
    unfold zf_CCShelf_typeOf_11_b26 at hf
    refine lv_iconst (v := 0) B.1 B.2.1 d_CShelf_typeOf_26 (by decide) ?_
    exact hb27 0 u _ _ _ hf hI (lv_sub hl [] rfl)
  intro hI hl hf
  unfold zf_CCShelf_typeOf_11 at hf
  refine lv_aload_n B.1 B.2.1 d_CShelf_typeOf_0 rfl (lv_at hl 0 rfl) ?_
  refine lv_iload_n B.1 B.2.1 d_CShelf_typeOf_1 rfl (lv_at hl 1 rfl) ?_
  obtain ⟨r1, u2, h3, hf⟩ := zbd_some hf
  refine rx_Vi (n := 1) (As := [.int x1]) (rest := []) B hI hl.1 (zc_CCShelf_has_11 l D z a N x1 u r1 u2 h3) zw_64 zw_66 zw_67 zw_44 zw_65 (by decide +kernel) 11 (wC_at_11 a z u) hcl_CShelf rfl rfl (Nat.le_of_ble_eq_true rfl) d_CShelf_typeOf_2 ⟨Nat.le_of_ble_eq_true rfl, Nat.le_of_ble_eq_true rfl⟩ rfl rfl ⟨Nat.zero_le _, Nat.zero_le _⟩ (fun H locs hI => ?_)
  refine lv_if_eq (tgt := 26) B.1 B.2.1 d_CShelf_typeOf_5 (by decide) (fun hc4 => ?_) (fun hc4 => ?_)
  · rw [if_pos hc4] at hf
    exact hb26  u2 _ _ _ hf hI (lv_sub hl [] rfl)
  · rw [if_neg hc4] at hf
    refine lv_iload_n B.1 B.2.1 d_CShelf_typeOf_8 rfl (lv_at hl 1 rfl) ?_
    refine lv_aload_n B.1 B.2.1 d_CShelf_typeOf_9 rfl (lv_at hl 0 rfl) ?_
    refine rx_get (v := .ref (a 12)) B hI hcl_CShelf hin_CShelf 11 (wC_at_11 a z u2) 0 (by decide) hf_CShelf_0 zw_41 rfl d_CShelf_typeOf_10 ?_
    refine rx_alen (v := 40) B hI 12 0 (wC_at_12 a z u2) rfl rfl d_CShelf_typeOf_13 ?_
    refine lv_icmp_ge (tgt := 26) B.1 B.2.1 d_CShelf_typeOf_14 (by decide) (fun hc5 => ?_) (fun hc5 => ?_)
    · rw [if_pos hc5] at hf
      exact hb26  u2 _ _ _ hf hI (lv_sub hl [] rfl)
    · rw [if_neg hc5] at hf
      refine lv_aload_n B.1 B.2.1 d_CShelf_typeOf_17 rfl (lv_at hl 0 rfl) ?_
      refine rx_get (v := .ref (a 12)) B hI hcl_CShelf hin_CShelf 11 (wC_at_11 a z u2) 0 (by decide) hf_CShelf_0 zw_41 rfl d_CShelf_typeOf_18 ?_
      refine lv_iload_n B.1 B.2.1 d_CShelf_typeOf_21 rfl (lv_at hl 1 rfl) ?_
      obtain ⟨hi6, hf⟩ := zck_some hf
      refine rx_iald B hI 12 (wC_at_12 a z u2) hi6 d_CShelf_typeOf_22 ?_
      refine lv_goto (tgt := 27) B.1 B.2.1 d_CShelf_typeOf_23 (by decide) ?_
      exact hb27 (ga u2 6 x1) u2 _ _ _ hf hI (lv_sub hl [] rfl)
