set_option maxHeartbeats 4000000 in
set_option maxRecDepth 100000 in
theorem zc_MMC_isThere_0 (l : Launch) (D : va_G) (z : zZ) (a : Nat → Nat) (N : Nat) (x1 : Int32) (x2 : Int32) (x3 : Int32) (u : zU) (r : Int32) (u1 : zU) (hf : zf_MMC_isThere_0 N x1 x2 x3 u = some (r, u1)) : zMet l D z y_MC_isThere (.code y_MC_isThere b_MC_isThere 6 (some (.boolean))) { frames := 1, cells := 0, slots := 0, locals := 24 } [.ref (a 0), .int x1, .int x2, .int x3] (wM a z u) (zQi D r (wM a z u1)) := by
  refine zM_i (own := R_MC) [.ref (a 0), .int x1, .int x2, .int x3] (wM a z u) r (wM a z u1) (by decide) rfl (Nat.le_of_ble_eq_true rfl) ?_
  intro p e s m args below meth c A ls B hr hlk hI hl
  have hl : lv_has ls 6 [(0, .ref (a 0)), (1, .int x1), (2, .int x2), (3, .int x3)] := hl
  revert hf
  revert hI hl
  have hb217 : ∀ (s0 : Int32) (u : zU) (H : Heap) (locs : List Loc) (ls : Array Slot), zf_MMC_isThere_0_b217 N  s0 u = some (r, u1) → iw D A s (wM a z u) H locs → lv_has ls 6 [] → W p l e ({ frames := 1, cells := 0, slots := 0, locals := 24 } : Room) s m args below meth c H locs 0 0 (MQ below (zQi D r (wM a z u1) A) args s 0 0 A) (F0 m 217 ls [.int s0]) := by
    intro s0 u H locs ls hf hI hl
    unfold zf_MMC_isThere_0_b217 at hf
    obtain ⟨hz3, hf⟩ := zck_some hf
    obtain ⟨e1, e2⟩ := zrt hf
    exact zr_z (wM a z) B hI hr hlk hz3 e1 e2 d_MC_isThere_217
  have hb204 : ∀ (x2 : Int32) (u : zU) (H : Heap) (locs : List Loc) (ls : Array Slot), zf_MMC_isThere_0_b204 N  x2 u = some (r, u1) → iw D A s (wM a z u) H locs → lv_has ls 6 [(0, .ref (a 0)), (2, .int x2)] → W p l e ({ frames := 1, cells := 0, slots := 0, locals := 24 } : Room) s m args below meth c H locs 0 0 (MQ below (zQi D r (wM a z u1) A) args s 0 0 A) (F0 m 204 ls []) := by
    intro x2 u H locs ls hf hI hl
    unfold zf_MMC_isThere_0_b204 at hf
    refine lv_iload_n B.1 B.2.1 d_MC_isThere_204 rfl (lv_at hl 1 rfl) ?_
    refine lv_aload_n B.1 B.2.1 d_MC_isThere_205 rfl (lv_at hl 0 rfl) ?_
    refine rx_get (v := .int (gi u 0)) B hI hcl_MC hin_MC 0 (wM_at_0 a z u) 0 (by decide) hf_MC_0 zw_397 rfl d_MC_isThere_206 ?_
    refine lv_icmp_ge (tgt := 216) B.1 B.2.1 d_MC_isThere_209 (by decide) (fun hc1 => ?_) (fun hc1 => ?_)
    · rw [if_pos hc1] at hf
      refine lv_iconst (v := 0) B.1 B.2.1 d_MC_isThere_216 (by decide) ?_
      exact hb217 0 u _ _ _ hf hI (lv_sub hl [] rfl)
    · rw [if_neg hc1] at hf
      refine lv_iconst (v := 1) B.1 B.2.1 d_MC_isThere_212 (by decide) ?_
      refine lv_goto (tgt := 217) B.1 B.2.1 d_MC_isThere_213 (by decide) ?_
      exact hb217 1 u _ _ _ hf hI (lv_sub hl [] rfl)
  have hb218 : ∀ (x2 : Int32) (u : zU) (H : Heap) (locs : List Loc) (ls : Array Slot), zf_MMC_isThere_0_b218 N  x2 u = some (r, u1) → iw D A s (wM a z u) H locs → lv_has ls 6 [(0, .ref (a 0)), (2, .int x2)] → W p l e ({ frames := 1, cells := 0, slots := 0, locals := 24 } : Room) s m args below meth c H locs 0 0 (MQ below (zQi D r (wM a z u1) A) args s 0 0 A) (F0 m 218 ls []) := by
    intro x2 u H locs ls hf hI hl
    unfold zf_MMC_isThere_0_b218 at hf
    refine lv_aload_n B.1 B.2.1 d_MC_isThere_218 rfl (lv_at hl 0 rfl) ?_
    refine lv_iload_n B.1 B.2.1 d_MC_isThere_219 rfl (lv_at hl 1 rfl) ?_
    obtain ⟨r1, u2, h3, hf⟩ := zbd_some hf
    refine rx_Vi (n := 1) (As := [.int x2]) (rest := []) B hI hl.1 (zc_MMC_isLabel_0 l D z a N x2 u r1 u2 h3) zw_472 zw_474 zw_475 zw_399 zw_473 (by decide +kernel) 0 (wM_at_0 a z u) hcl_MC rfl rfl (Nat.le_of_ble_eq_true rfl) d_MC_isThere_220 ⟨Nat.le_of_ble_eq_true rfl, Nat.le_of_ble_eq_true rfl⟩ rfl rfl ⟨Nat.zero_le _, Nat.zero_le _⟩ (fun H locs hI => ?_)
    obtain ⟨hz6, hf⟩ := zck_some hf
    obtain ⟨e4, e5⟩ := zrt hf
    exact zr_z (wM a z) B hI hr hlk hz6 e4 e5 d_MC_isThere_223
  have hb234 : ∀ (n : Nat) (x4 : Int32) (x5 : Int32) (u : zU) (H : Heap) (locs : List Loc) (ls : Array Slot), zf_MMC_isThere_0_b234 N  n x4 x5 u = some (r, u1) → iw D A s (wM a z u) H locs → lv_has ls 6 [(0, .ref (a 0)), (4, .int x4), (5, .int x5)] → W p l e ({ frames := 1, cells := 0, slots := 0, locals := 24 } : Room) s m args below meth c H locs 0 0 (MQ below (zQi D r (wM a z u1) A) args s 0 0 A) (F0 m 234 ls []) := by
    intro n234
    induction n234 with
    | zero => intro x4 x5 u H locs ls hf; exact absurd hf (by rw [zf_MMC_isThere_0_b234]; exact fun h => by cases h)
    | succ n234 ih234 =>
      have hb267 : ∀ (x5 : Int32) (s0 : Int32) (u : zU) (H : Heap) (locs : List Loc) (ls : Array Slot), zf_MMC_isThere_0_b267 N (zf_MMC_isThere_0_b234 N  n234) x5 s0 u = some (r, u1) → iw D A s (wM a z u) H locs → lv_has ls 6 [(0, .ref (a 0)), (5, .int x5)] → W p l e ({ frames := 1, cells := 0, slots := 0, locals := 24 } : Room) s m args below meth c H locs 0 0 (MQ below (zQi D r (wM a z u1) A) args s 0 0 A) (F0 m 267 ls [.int s0]) := by
        intro x5 s0 u H locs ls hf hI hl
        unfold zf_MMC_isThere_0_b267 at hf
        refine lv_istore (lv' := [(4, .int s0), (0, .ref (a 0)), (5, .int x5)]) B.1 B.2.1 d_MC_isThere_267 hl (by decide) rfl (fun ls hl => ?_)
        refine lv_iinc (v := (x5 + 1)) (lv' := [(5, .int (x5 + 1)), (4, .int s0), (0, .ref (a 0))]) B.1 B.2.1 d_MC_isThere_269 hl (k := 2) rfl (by rfl) (by decide) rfl (fun ls hl => ?_)
        refine lv_goto (tgt := 234) B.1 B.2.1 d_MC_isThere_272 (by decide) ?_
        exact ih234 s0 (x5 + 1) u _ _ _ hf hI (lv_sub hl [2, 1, 0] rfl)
      have hb266 : ∀ (x5 : Int32) (u : zU) (H : Heap) (locs : List Loc) (ls : Array Slot), zf_MMC_isThere_0_b266 N (zf_MMC_isThere_0_b234 N  n234) x5 u = some (r, u1) → iw D A s (wM a z u) H locs → lv_has ls 6 [(0, .ref (a 0)), (5, .int x5)] → W p l e ({ frames := 1, cells := 0, slots := 0, locals := 24 } : Room) s m args below meth c H locs 0 0 (MQ below (zQi D r (wM a z u1) A) args s 0 0 A) (F0 m 266 ls []) := by
        intro x5 u H locs ls hf hI hl
        unfold zf_MMC_isThere_0_b266 at hf
        refine lv_iconst (v := 0) B.1 B.2.1 d_MC_isThere_266 (by decide) ?_
        exact hb267 x5 0 u _ _ _ hf hI (lv_sub hl [0, 1] rfl)
      intro x4 x5 u H locs ls hf hI hl
      rw [zf_MMC_isThere_0_b234] at hf
      refine lv_iload B.1 B.2.1 d_MC_isThere_234 (lv_at hl 2 rfl) ?_
      refine lv_aload_n B.1 B.2.1 d_MC_isThere_236 rfl (lv_at hl 0 rfl) ?_
      refine rx_get (v := .int (gi u 8)) B hI hcl_MC hin_MC 0 (wM_at_0 a z u) 19 (by decide) hf_MC_19 zw_418 rfl d_MC_isThere_237 ?_
      refine lv_icmp_ge (tgt := 275) B.1 B.2.1 d_MC_isThere_240 (by decide) (fun hc1 => ?_) (fun hc1 => ?_)
      · rw [if_pos hc1] at hf
        refine lv_iload B.1 B.2.1 d_MC_isThere_275 (lv_at hl 1 rfl) ?_
        obtain ⟨hz4, hf⟩ := zck_some hf
        obtain ⟨e2, e3⟩ := zrt hf
        exact zr_z (wM a z) B hI hr hlk hz4 e2 e3 d_MC_isThere_277
      · rw [if_neg hc1] at hf
        refine lv_iload B.1 B.2.1 d_MC_isThere_243 (lv_at hl 1 rfl) ?_
        refine lv_if_eq (tgt := 266) B.1 B.2.1 d_MC_isThere_245 (by decide) (fun hc5 => ?_) (fun hc5 => ?_)
        · rw [if_pos hc5] at hf
          exact hb266 x5 u _ _ _ hf hI (lv_sub hl [0, 2] rfl)
        · rw [if_neg hc5] at hf
          refine lv_aload_n B.1 B.2.1 d_MC_isThere_248 rfl (lv_at hl 0 rfl) ?_
          refine lv_aload_n B.1 B.2.1 d_MC_isThere_249 rfl (lv_at hl 0 rfl) ?_
          refine rx_get (v := .ref (a 11)) B hI hcl_MC hin_MC 0 (wM_at_0 a z u) 20 (by decide) hf_MC_20 zw_438 rfl d_MC_isThere_250 ?_
          refine lv_iload B.1 B.2.1 d_MC_isThere_253 (lv_at hl 2 rfl) ?_
          obtain ⟨hi6, hf⟩ := zck_some hf
          refine rx_iald B hI 11 (wM_at_11 a z u) hi6 d_MC_isThere_255 ?_
          obtain ⟨r7, u8, h9, hf⟩ := zbd_some hf
          refine rx_Vi (n := 1) (As := [.int (ga u 9 x5)]) (rest := []) B hI hl.1 (zc_MMC_isLabel_0 l D z a N (ga u 9 x5) u r7 u8 h9) zw_472 zw_474 zw_475 zw_399 zw_473 (by decide +kernel) 0 (wM_at_0 a z u) hcl_MC rfl rfl (Nat.le_of_ble_eq_true rfl) d_MC_isThere_256 ⟨Nat.le_of_ble_eq_true rfl, Nat.le_of_ble_eq_true rfl⟩ rfl rfl ⟨Nat.zero_le _, Nat.zero_le _⟩ (fun H locs hI => ?_)
          refine lv_if_eq (tgt := 266) B.1 B.2.1 d_MC_isThere_259 (by decide) (fun hc10 => ?_) (fun hc10 => ?_)
          · rw [if_pos hc10] at hf
            exact hb266 x5 u8 _ _ _ hf hI (lv_sub hl [0, 2] rfl)
          · rw [if_neg hc10] at hf
            refine lv_iconst (v := 1) B.1 B.2.1 d_MC_isThere_262 (by decide) ?_
            refine lv_goto (tgt := 267) B.1 B.2.1 d_MC_isThere_263 (by decide) ?_
            exact hb267 x5 1 u8 _ _ _ hf hI (lv_sub hl [0, 2] rfl)
  have hb278 : ∀ (x2 : Int32) (u : zU) (H : Heap) (locs : List Loc) (ls : Array Slot), zf_MMC_isThere_0_b278 N  x2 u = some (r, u1) → iw D A s (wM a z u) H locs → lv_has ls 6 [(0, .ref (a 0)), (2, .int x2)] → W p l e ({ frames := 1, cells := 0, slots := 0, locals := 24 } : Room) s m args below meth c H locs 0 0 (MQ below (zQi D r (wM a z u1) A) args s 0 0 A) (F0 m 278 ls []) := by
    intro x2 u H locs ls hf hI hl
    unfold zf_MMC_isThere_0_b278 at hf
    refine lv_aload_n B.1 B.2.1 d_MC_isThere_278 rfl (lv_at hl 0 rfl) ?_
    refine lv_iconst (v := 0) B.1 B.2.1 d_MC_isThere_279 (by decide) ?_
    refine lv_iload_n B.1 B.2.1 d_MC_isThere_280 rfl (lv_at hl 1 rfl) ?_
    obtain ⟨r1, u2, h3, hf⟩ := zbd_some hf
    refine rx_Vi (n := 2) (As := [.int 0, .int x2]) (rest := []) B hI hl.1 (zc_MMC_has_0 l D z a N 0 x2 u r1 u2 h3) zw_460 zw_462 zw_463 zw_399 zw_461 (by decide +kernel) 0 (wM_at_0 a z u) hcl_MC rfl rfl (Nat.le_of_ble_eq_true rfl) d_MC_isThere_281 ⟨Nat.le_of_ble_eq_true rfl, Nat.le_of_ble_eq_true rfl⟩ rfl rfl ⟨Nat.zero_le _, Nat.zero_le _⟩ (fun H locs hI => ?_)
    obtain ⟨hz6, hf⟩ := zck_some hf
    obtain ⟨e4, e5⟩ := zrt hf
    exact zr_z (wM a z) B hI hr hlk hz6 e4 e5 d_MC_isThere_284
  have hb311 : ∀ (s0 : Int32) (u : zU) (H : Heap) (locs : List Loc) (ls : Array Slot), zf_MMC_isThere_0_b311 N  s0 u = some (r, u1) → iw D A s (wM a z u) H locs → lv_has ls 6 [] → W p l e ({ frames := 1, cells := 0, slots := 0, locals := 24 } : Room) s m args below meth c H locs 0 0 (MQ below (zQi D r (wM a z u1) A) args s 0 0 A) (F0 m 311 ls [.int s0]) := by
    intro s0 u H locs ls hf hI hl
    unfold zf_MMC_isThere_0_b311 at hf
    obtain ⟨hz3, hf⟩ := zck_some hf
    obtain ⟨e1, e2⟩ := zrt hf
    exact zr_z (wM a z) B hI hr hlk hz3 e1 e2 d_MC_isThere_311
  have hb310 : ∀  (u : zU) (H : Heap) (locs : List Loc) (ls : Array Slot), zf_MMC_isThere_0_b310 N   u = some (r, u1) → iw D A s (wM a z u) H locs → lv_has ls 6 [] → W p l e ({ frames := 1, cells := 0, slots := 0, locals := 24 } : Room) s m args below meth c H locs 0 0 (MQ below (zQi D r (wM a z u1) A) args s 0 0 A) (F0 m 310 ls []) := by
    intro  u H locs ls hf hI hl
    unfold zf_MMC_isThere_0_b310 at hf
    refine lv_iconst (v := 0) B.1 B.2.1 d_MC_isThere_310 (by decide) ?_
    exact hb311 0 u _ _ _ hf hI (lv_sub hl [] rfl)
  have hb326 : ∀ (s0 : Int32) (u : zU) (H : Heap) (locs : List Loc) (ls : Array Slot), zf_MMC_isThere_0_b326 N  s0 u = some (r, u1) → iw D A s (wM a z u) H locs → lv_has ls 6 [] → W p l e ({ frames := 1, cells := 0, slots := 0, locals := 24 } : Room) s m args below meth c H locs 0 0 (MQ below (zQi D r (wM a z u1) A) args s 0 0 A) (F0 m 326 ls [.int s0]) := by
    intro s0 u H locs ls hf hI hl
    unfold zf_MMC_isThere_0_b326 at hf
    obtain ⟨hz3, hf⟩ := zck_some hf
    obtain ⟨e1, e2⟩ := zrt hf
    exact zr_z (wM a z) B hI hr hlk hz3 e1 e2 d_MC_isThere_326
  have hb312 : ∀ (x2 : Int32) (u : zU) (H : Heap) (locs : List Loc) (ls : Array Slot), zf_MMC_isThere_0_b312 N  x2 u = some (r, u1) → iw D A s (wM a z u) H locs → lv_has ls 6 [(0, .ref (a 0)), (2, .int x2)] → W p l e ({ frames := 1, cells := 0, slots := 0, locals := 24 } : Room) s m args below meth c H locs 0 0 (MQ below (zQi D r (wM a z u1) A) args s 0 0 A) (F0 m 312 ls []) := by
    intro x2 u H locs ls hf hI hl
    unfold zf_MMC_isThere_0_b312 at hf
    refine lv_aload_n B.1 B.2.1 d_MC_isThere_312 rfl (lv_at hl 0 rfl) ?_
    refine lv_iload_n B.1 B.2.1 d_MC_isThere_313 rfl (lv_at hl 1 rfl) ?_
    obtain ⟨r1, u2, h3, hf⟩ := zbd_some hf
    refine rx_Vi (n := 1) (As := [.int x2]) (rest := []) B hI hl.1 (zc_MMC_localType_0 l D z a N x2 u r1 u2 h3) zw_468 zw_470 zw_471 zw_399 zw_469 (by decide +kernel) 0 (wM_at_0 a z u) hcl_MC rfl rfl (Nat.le_of_ble_eq_true rfl) d_MC_isThere_314 ⟨Nat.le_of_ble_eq_true rfl, Nat.le_of_ble_eq_true rfl⟩ rfl rfl ⟨Nat.zero_le _, Nat.zero_le _⟩ (fun H locs hI => ?_)
    refine lv_iconst (v := (-1)) B.1 B.2.1 d_MC_isThere_317 (by decide) ?_
    refine lv_icmp_eq (tgt := 325) B.1 B.2.1 d_MC_isThere_318 (by decide) (fun hc4 => ?_) (fun hc4 => ?_)
    · rw [if_pos hc4] at hf
      refine lv_iconst (v := 0) B.1 B.2.1 d_MC_isThere_325 (by decide) ?_
      exact hb326 0 u2 _ _ _ hf hI (lv_sub hl [] rfl)
    · rw [if_neg hc4] at hf
      refine lv_iconst (v := 1) B.1 B.2.1 d_MC_isThere_321 (by decide) ?_
      refine lv_goto (tgt := 326) B.1 B.2.1 d_MC_isThere_322 (by decide) ?_
      exact hb326 1 u2 _ _ _ hf hI (lv_sub hl [] rfl)
  have hb327 : ∀ (x2 : Int32) (u : zU) (H : Heap) (locs : List Loc) (ls : Array Slot), zf_MMC_isThere_0_b327 N  x2 u = some (r, u1) → iw D A s (wM a z u) H locs → lv_has ls 6 [(0, .ref (a 0)), (2, .int x2)] → W p l e ({ frames := 1, cells := 0, slots := 0, locals := 24 } : Room) s m args below meth c H locs 0 0 (MQ below (zQi D r (wM a z u1) A) args s 0 0 A) (F0 m 327 ls []) := by
    intro x2 u H locs ls hf hI hl
    unfold zf_MMC_isThere_0_b327 at hf
    refine lv_aload_n B.1 B.2.1 d_MC_isThere_327 rfl (lv_at hl 0 rfl) ?_
    refine lv_iconst (v := 3) B.1 B.2.1 d_MC_isThere_328 (by decide) ?_
    refine lv_iload_n B.1 B.2.1 d_MC_isThere_329 rfl (lv_at hl 1 rfl) ?_
    obtain ⟨r1, u2, h3, hf⟩ := zbd_some hf
    refine rx_Vi (n := 2) (As := [.int 3, .int x2]) (rest := []) B hI hl.1 (zc_MMC_has_0 l D z a N 3 x2 u r1 u2 h3) zw_460 zw_462 zw_463 zw_399 zw_461 (by decide +kernel) 0 (wM_at_0 a z u) hcl_MC rfl rfl (Nat.le_of_ble_eq_true rfl) d_MC_isThere_330 ⟨Nat.le_of_ble_eq_true rfl, Nat.le_of_ble_eq_true rfl⟩ rfl rfl ⟨Nat.zero_le _, Nat.zero_le _⟩ (fun H locs hI => ?_)
    obtain ⟨hz6, hf⟩ := zck_some hf
    obtain ⟨e4, e5⟩ := zrt hf
    exact zr_z (wM a z) B hI hr hlk hz6 e4 e5 d_MC_isThere_333
  have hb334 : ∀ (x2 : Int32) (u : zU) (H : Heap) (locs : List Loc) (ls : Array Slot), zf_MMC_isThere_0_b334 N  x2 u = some (r, u1) → iw D A s (wM a z u) H locs → lv_has ls 6 [(0, .ref (a 0)), (2, .int x2)] → W p l e ({ frames := 1, cells := 0, slots := 0, locals := 24 } : Room) s m args below meth c H locs 0 0 (MQ below (zQi D r (wM a z u1) A) args s 0 0 A) (F0 m 334 ls []) := by
    intro x2 u H locs ls hf hI hl
    unfold zf_MMC_isThere_0_b334 at hf
    refine lv_aload_n B.1 B.2.1 d_MC_isThere_334 rfl (lv_at hl 0 rfl) ?_
    refine lv_iconst (v := 1) B.1 B.2.1 d_MC_isThere_335 (by decide) ?_
    refine lv_iload_n B.1 B.2.1 d_MC_isThere_336 rfl (lv_at hl 1 rfl) ?_
    obtain ⟨r1, u2, h3, hf⟩ := zbd_some hf
    refine rx_Vi (n := 2) (As := [.int 1, .int x2]) (rest := []) B hI hl.1 (zc_MMC_has_0 l D z a N 1 x2 u r1 u2 h3) zw_460 zw_462 zw_463 zw_399 zw_461 (by decide +kernel) 0 (wM_at_0 a z u) hcl_MC rfl rfl (Nat.le_of_ble_eq_true rfl) d_MC_isThere_337 ⟨Nat.le_of_ble_eq_true rfl, Nat.le_of_ble_eq_true rfl⟩ rfl rfl ⟨Nat.zero_le _, Nat.zero_le _⟩ (fun H locs hI => ?_)
    obtain ⟨hz6, hf⟩ := zck_some hf
    obtain ⟨e4, e5⟩ := zrt hf
    exact zr_z (wM a z) B hI hr hlk hz6 e4 e5 d_MC_isThere_340
  have hb341 : ∀ (x2 : Int32) (u : zU) (H : Heap) (locs : List Loc) (ls : Array Slot), zf_MMC_isThere_0_b341 N  x2 u = some (r, u1) → iw D A s (wM a z u) H locs → lv_has ls 6 [(0, .ref (a 0)), (2, .int x2)] → W p l e ({ frames := 1, cells := 0, slots := 0, locals := 24 } : Room) s m args below meth c H locs 0 0 (MQ below (zQi D r (wM a z u1) A) args s 0 0 A) (F0 m 341 ls []) := by
    intro x2 u H locs ls hf hI hl
    unfold zf_MMC_isThere_0_b341 at hf
    refine lv_aload_n B.1 B.2.1 d_MC_isThere_341 rfl (lv_at hl 0 rfl) ?_
    refine lv_iconst (v := 5) B.1 B.2.1 d_MC_isThere_342 (by decide) ?_
    refine lv_iload_n B.1 B.2.1 d_MC_isThere_343 rfl (lv_at hl 1 rfl) ?_
    obtain ⟨r1, u2, h3, hf⟩ := zbd_some hf
    refine rx_Vi (n := 2) (As := [.int 5, .int x2]) (rest := []) B hI hl.1 (zc_MMC_has_0 l D z a N 5 x2 u r1 u2 h3) zw_460 zw_462 zw_463 zw_399 zw_461 (by decide +kernel) 0 (wM_at_0 a z u) hcl_MC rfl rfl (Nat.le_of_ble_eq_true rfl) d_MC_isThere_344 ⟨Nat.le_of_ble_eq_true rfl, Nat.le_of_ble_eq_true rfl⟩ rfl rfl ⟨Nat.zero_le _, Nat.zero_le _⟩ (fun H locs hI => ?_)
    obtain ⟨hz6, hf⟩ := zck_some hf
    obtain ⟨e4, e5⟩ := zrt hf
    exact zr_z (wM a z) B hI hr hlk hz6 e4 e5 d_MC_isThere_347
  have hb371 : ∀ (s0 : Int32) (u : zU) (H : Heap) (locs : List Loc) (ls : Array Slot), zf_MMC_isThere_0_b371 N  s0 u = some (r, u1) → iw D A s (wM a z u) H locs → lv_has ls 6 [] → W p l e ({ frames := 1, cells := 0, slots := 0, locals := 24 } : Room) s m args below meth c H locs 0 0 (MQ below (zQi D r (wM a z u1) A) args s 0 0 A) (F0 m 371 ls [.int s0]) := by
    intro s0 u H locs ls hf hI hl
    unfold zf_MMC_isThere_0_b371 at hf
    obtain ⟨hz3, hf⟩ := zck_some hf
    obtain ⟨e1, e2⟩ := zrt hf
    exact zr_z (wM a z) B hI hr hlk hz3 e1 e2 d_MC_isThere_371
  have hb370 : ∀  (u : zU) (H : Heap) (locs : List Loc) (ls : Array Slot), zf_MMC_isThere_0_b370 N   u = some (r, u1) → iw D A s (wM a z u) H locs → lv_has ls 6 [] → W p l e ({ frames := 1, cells := 0, slots := 0, locals := 24 } : Room) s m args below meth c H locs 0 0 (MQ below (zQi D r (wM a z u1) A) args s 0 0 A) (F0 m 370 ls []) := by
    intro  u H locs ls hf hI hl
    unfold zf_MMC_isThere_0_b370 at hf
    refine lv_iconst (v := 0) B.1 B.2.1 d_MC_isThere_370 (by decide) ?_
    exact hb371 0 u _ _ _ hf hI (lv_sub hl [] rfl)
  have hb402 : ∀ (s0 : Int32) (u : zU) (H : Heap) (locs : List Loc) (ls : Array Slot), zf_MMC_isThere_0_b402 N  s0 u = some (r, u1) → iw D A s (wM a z u) H locs → lv_has ls 6 [] → W p l e ({ frames := 1, cells := 0, slots := 0, locals := 24 } : Room) s m args below meth c H locs 0 0 (MQ below (zQi D r (wM a z u1) A) args s 0 0 A) (F0 m 402 ls [.int s0]) := by
    intro s0 u H locs ls hf hI hl
    unfold zf_MMC_isThere_0_b402 at hf
    obtain ⟨hz3, hf⟩ := zck_some hf
    obtain ⟨e1, e2⟩ := zrt hf
    exact zr_z (wM a z) B hI hr hlk hz3 e1 e2 d_MC_isThere_402
  have hb401 : ∀  (u : zU) (H : Heap) (locs : List Loc) (ls : Array Slot), zf_MMC_isThere_0_b401 N   u = some (r, u1) → iw D A s (wM a z u) H locs → lv_has ls 6 [] → W p l e ({ frames := 1, cells := 0, slots := 0, locals := 24 } : Room) s m args below meth c H locs 0 0 (MQ below (zQi D r (wM a z u1) A) args s 0 0 A) (F0 m 401 ls []) := by
    intro  u H locs ls hf hI hl
    unfold zf_MMC_isThere_0_b401 at hf
    refine lv_iconst (v := 0) B.1 B.2.1 d_MC_isThere_401 (by decide) ?_
    exact hb402 0 u _ _ _ hf hI (lv_sub hl [] rfl)
  intro hI hl hf
  unfold zf_MMC_isThere_0 at hf
  refine lv_iload_n B.1 B.2.1 d_MC_isThere_0 rfl (lv_at hl 1 rfl) ?_
  by_cases hc1 : x1 = 2
  · rw [if_pos hc1] at hf
    refine lv_lookup (off := 203) (tgt := 204) B.1 B.2.1 d_MC_isThere_1 (by decide +kernel) (by rw [hc1]; decide +kernel) (by decide) ?_
    exact hb204 x2 u _ _ _ hf hI (lv_sub hl [0, 2] rfl)
  rw [if_neg hc1] at hf
  by_cases hc2 : x1 = 3
  · rw [if_pos hc2] at hf
    refine lv_lookup (off := 203) (tgt := 204) B.1 B.2.1 d_MC_isThere_1 (by decide +kernel) (by rw [hc2]; decide +kernel) (by decide) ?_
    exact hb204 x2 u _ _ _ hf hI (lv_sub hl [0, 2] rfl)
  rw [if_neg hc2] at hf
  by_cases hc3 : x1 = 4
  · rw [if_pos hc3] at hf
    refine lv_lookup (off := 203) (tgt := 204) B.1 B.2.1 d_MC_isThere_1 (by decide +kernel) (by rw [hc3]; decide +kernel) (by decide) ?_
    exact hb204 x2 u _ _ _ hf hI (lv_sub hl [0, 2] rfl)
  rw [if_neg hc3] at hf
  by_cases hc4 : x1 = 12
  · rw [if_pos hc4] at hf
    refine lv_lookup (off := 217) (tgt := 218) B.1 B.2.1 d_MC_isThere_1 (by decide +kernel) (by rw [hc4]; decide +kernel) (by decide) ?_
    exact hb218 x2 u _ _ _ hf hI (lv_sub hl [0, 2] rfl)
  rw [if_neg hc4] at hf
  by_cases hc5 : x1 = 13
  · rw [if_pos hc5] at hf
    refine lv_lookup (off := 217) (tgt := 218) B.1 B.2.1 d_MC_isThere_1 (by decide +kernel) (by rw [hc5]; decide +kernel) (by decide) ?_
    exact hb218 x2 u _ _ _ hf hI (lv_sub hl [0, 2] rfl)
  rw [if_neg hc5] at hf
  by_cases hc6 : x1 = 14
  · rw [if_pos hc6] at hf
    refine lv_lookup (off := 223) (tgt := 224) B.1 B.2.1 d_MC_isThere_1 (by decide +kernel) (by rw [hc6]; decide +kernel) (by decide) ?_
    refine lv_aload_n B.1 B.2.1 d_MC_isThere_224 rfl (lv_at hl 0 rfl) ?_
    refine lv_iload_n B.1 B.2.1 d_MC_isThere_225 rfl (lv_at hl 2 rfl) ?_
    obtain ⟨r7, u8, h9, hf⟩ := zbd_some hf
    refine rx_Vi (n := 1) (As := [.int x2]) (rest := []) B hI hl.1 (zc_MMC_isLabel_0 l D z a N x2 u r7 u8 h9) zw_472 zw_474 zw_475 zw_399 zw_473 (by decide +kernel) 0 (wM_at_0 a z u) hcl_MC rfl rfl (Nat.le_of_ble_eq_true rfl) d_MC_isThere_226 ⟨Nat.le_of_ble_eq_true rfl, Nat.le_of_ble_eq_true rfl⟩ rfl rfl ⟨Nat.zero_le _, Nat.zero_le _⟩ (fun H locs hI => ?_)
    refine lv_istore (lv' := [(4, .int r7), (0, .ref (a 0)), (1, .int x1), (2, .int x2), (3, .int x3)]) B.1 B.2.1 d_MC_isThere_229 hl (by decide) rfl (fun ls hl => ?_)
    refine lv_iconst (v := 0) B.1 B.2.1 d_MC_isThere_231 (by decide) ?_
    refine lv_istore (lv' := [(5, .int 0), (4, .int r7), (0, .ref (a 0)), (1, .int x1), (2, .int x2), (3, .int x3)]) B.1 B.2.1 d_MC_isThere_232 hl (by decide) rfl (fun ls hl => ?_)
    exact hb234 N r7 0 u8 _ _ _ hf hI (lv_sub hl [2, 1, 0] rfl)
  rw [if_neg hc6] at hf
  by_cases hc10 : x1 = 16
  · rw [if_pos hc10] at hf
    refine lv_lookup (off := 277) (tgt := 278) B.1 B.2.1 d_MC_isThere_1 (by decide +kernel) (by rw [hc10]; decide +kernel) (by decide) ?_
    exact hb278 x2 u _ _ _ hf hI (lv_sub hl [0, 2] rfl)
  rw [if_neg hc10] at hf
  by_cases hc11 : x1 = 17
  · rw [if_pos hc11] at hf
    refine lv_lookup (off := 284) (tgt := 285) B.1 B.2.1 d_MC_isThere_1 (by decide +kernel) (by rw [hc11]; decide +kernel) (by decide) ?_
    refine lv_iload_n B.1 B.2.1 d_MC_isThere_285 rfl (lv_at hl 2 rfl) ?_
    refine lv_if_lt (tgt := 310) B.1 B.2.1 d_MC_isThere_286 (by decide) (fun hc12 => ?_) (fun hc12 => ?_)
    · rw [if_pos hc12] at hf
      exact hb310  u _ _ _ hf hI (lv_sub hl [] rfl)
    · rw [if_neg hc12] at hf
      refine lv_iload_n B.1 B.2.1 d_MC_isThere_289 rfl (lv_at hl 2 rfl) ?_
      refine lv_aload_n B.1 B.2.1 d_MC_isThere_290 rfl (lv_at hl 0 rfl) ?_
      refine rx_get (v := .int (gi u 0)) B hI hcl_MC hin_MC 0 (wM_at_0 a z u) 0 (by decide) hf_MC_0 zw_397 rfl d_MC_isThere_291 ?_
      refine lv_icmp_ge (tgt := 310) B.1 B.2.1 d_MC_isThere_294 (by decide) (fun hc13 => ?_) (fun hc13 => ?_)
      · rw [if_pos hc13] at hf
        exact hb310  u _ _ _ hf hI (lv_sub hl [] rfl)
      · rw [if_neg hc13] at hf
        refine lv_aload_n B.1 B.2.1 d_MC_isThere_297 rfl (lv_at hl 0 rfl) ?_
        refine lv_iconst (v := 1) B.1 B.2.1 d_MC_isThere_298 (by decide) ?_
        refine lv_iload_n B.1 B.2.1 d_MC_isThere_299 rfl (lv_at hl 3 rfl) ?_
        obtain ⟨r14, u15, h16, hf⟩ := zbd_some hf
        refine rx_Vi (n := 2) (As := [.int 1, .int x3]) (rest := []) B hI hl.1 (zc_MMC_has_0 l D z a N 1 x3 u r14 u15 h16) zw_460 zw_462 zw_463 zw_399 zw_461 (by decide +kernel) 0 (wM_at_0 a z u) hcl_MC rfl rfl (Nat.le_of_ble_eq_true rfl) d_MC_isThere_300 ⟨Nat.le_of_ble_eq_true rfl, Nat.le_of_ble_eq_true rfl⟩ rfl rfl ⟨Nat.zero_le _, Nat.zero_le _⟩ (fun H locs hI => ?_)
        refine lv_if_eq (tgt := 310) B.1 B.2.1 d_MC_isThere_303 (by decide) (fun hc17 => ?_) (fun hc17 => ?_)
        · rw [if_pos hc17] at hf
          exact hb310  u15 _ _ _ hf hI (lv_sub hl [] rfl)
        · rw [if_neg hc17] at hf
          refine lv_iconst (v := 1) B.1 B.2.1 d_MC_isThere_306 (by decide) ?_
          refine lv_goto (tgt := 311) B.1 B.2.1 d_MC_isThere_307 (by decide) ?_
          exact hb311 1 u15 _ _ _ hf hI (lv_sub hl [] rfl)
  rw [if_neg hc11] at hf
  by_cases hc18 : x1 = 32
  · rw [if_pos hc18] at hf
    refine lv_lookup (off := 311) (tgt := 312) B.1 B.2.1 d_MC_isThere_1 (by decide +kernel) (by rw [hc18]; decide +kernel) (by decide) ?_
    exact hb312 x2 u _ _ _ hf hI (lv_sub hl [0, 2] rfl)
  rw [if_neg hc18] at hf
  by_cases hc19 : x1 = 33
  · rw [if_pos hc19] at hf
    refine lv_lookup (off := 311) (tgt := 312) B.1 B.2.1 d_MC_isThere_1 (by decide +kernel) (by rw [hc19]; decide +kernel) (by decide) ?_
    exact hb312 x2 u _ _ _ hf hI (lv_sub hl [0, 2] rfl)
  rw [if_neg hc19] at hf
  by_cases hc20 : x1 = 34
  · rw [if_pos hc20] at hf
    refine lv_lookup (off := 311) (tgt := 312) B.1 B.2.1 d_MC_isThere_1 (by decide +kernel) (by rw [hc20]; decide +kernel) (by decide) ?_
    exact hb312 x2 u _ _ _ hf hI (lv_sub hl [0, 2] rfl)
  rw [if_neg hc20] at hf
  by_cases hc21 : x1 = 35
  · rw [if_pos hc21] at hf
    refine lv_lookup (off := 326) (tgt := 327) B.1 B.2.1 d_MC_isThere_1 (by decide +kernel) (by rw [hc21]; decide +kernel) (by decide) ?_
    exact hb327 x2 u _ _ _ hf hI (lv_sub hl [0, 2] rfl)
  rw [if_neg hc21] at hf
  by_cases hc22 : x1 = 36
  · rw [if_pos hc22] at hf
    refine lv_lookup (off := 326) (tgt := 327) B.1 B.2.1 d_MC_isThere_1 (by decide +kernel) (by rw [hc22]; decide +kernel) (by decide) ?_
    exact hb327 x2 u _ _ _ hf hI (lv_sub hl [0, 2] rfl)
  rw [if_neg hc22] at hf
  by_cases hc23 : x1 = 37
  · rw [if_pos hc23] at hf
    refine lv_lookup (off := 333) (tgt := 334) B.1 B.2.1 d_MC_isThere_1 (by decide +kernel) (by rw [hc23]; decide +kernel) (by decide) ?_
    exact hb334 x2 u _ _ _ hf hI (lv_sub hl [0, 2] rfl)
  rw [if_neg hc23] at hf
  by_cases hc24 : x1 = 38
  · rw [if_pos hc24] at hf
    refine lv_lookup (off := 333) (tgt := 334) B.1 B.2.1 d_MC_isThere_1 (by decide +kernel) (by rw [hc24]; decide +kernel) (by decide) ?_
    exact hb334 x2 u _ _ _ hf hI (lv_sub hl [0, 2] rfl)
  rw [if_neg hc24] at hf
  by_cases hc25 : x1 = 210
  · rw [if_pos hc25] at hf
    refine lv_lookup (off := 277) (tgt := 278) B.1 B.2.1 d_MC_isThere_1 (by decide +kernel) (by rw [hc25]; decide +kernel) (by decide) ?_
    exact hb278 x2 u _ _ _ hf hI (lv_sub hl [0, 2] rfl)
  rw [if_neg hc25] at hf
  by_cases hc26 : x1 = 264
  · rw [if_pos hc26] at hf
    refine lv_lookup (off := 340) (tgt := 341) B.1 B.2.1 d_MC_isThere_1 (by decide +kernel) (by rw [hc26]; decide +kernel) (by decide) ?_
    exact hb341 x2 u _ _ _ hf hI (lv_sub hl [0, 2] rfl)
  rw [if_neg hc26] at hf
  by_cases hc27 : x1 = 265
  · rw [if_pos hc27] at hf
    refine lv_lookup (off := 340) (tgt := 341) B.1 B.2.1 d_MC_isThere_1 (by decide +kernel) (by rw [hc27]; decide +kernel) (by decide) ?_
    exact hb341 x2 u _ _ _ hf hI (lv_sub hl [0, 2] rfl)
  rw [if_neg hc27] at hf
  by_cases hc28 : x1 = 268
  · rw [if_pos hc28] at hf
    refine lv_lookup (off := 347) (tgt := 348) B.1 B.2.1 d_MC_isThere_1 (by decide +kernel) (by rw [hc28]; decide +kernel) (by decide) ?_
    refine lv_aload_n B.1 B.2.1 d_MC_isThere_348 rfl (lv_at hl 0 rfl) ?_
    refine lv_iconst (v := 4) B.1 B.2.1 d_MC_isThere_349 (by decide) ?_
    refine lv_iload_n B.1 B.2.1 d_MC_isThere_350 rfl (lv_at hl 2 rfl) ?_
    obtain ⟨r29, u30, h31, hf⟩ := zbd_some hf
    refine rx_Vi (n := 2) (As := [.int 4, .int x2]) (rest := []) B hI hl.1 (zc_MMC_has_0 l D z a N 4 x2 u r29 u30 h31) zw_460 zw_462 zw_463 zw_399 zw_461 (by decide +kernel) 0 (wM_at_0 a z u) hcl_MC rfl rfl (Nat.le_of_ble_eq_true rfl) d_MC_isThere_351 ⟨Nat.le_of_ble_eq_true rfl, Nat.le_of_ble_eq_true rfl⟩ rfl rfl ⟨Nat.zero_le _, Nat.zero_le _⟩ (fun H locs hI => ?_)
    refine lv_if_eq (tgt := 370) B.1 B.2.1 d_MC_isThere_354 (by decide) (fun hc32 => ?_) (fun hc32 => ?_)
    · rw [if_pos hc32] at hf
      exact hb370  u30 _ _ _ hf hI (lv_sub hl [] rfl)
    · rw [if_neg hc32] at hf
      refine lv_aload_n B.1 B.2.1 d_MC_isThere_357 rfl (lv_at hl 0 rfl) ?_
      refine lv_iconst (v := 1) B.1 B.2.1 d_MC_isThere_358 (by decide) ?_
      refine lv_iload_n B.1 B.2.1 d_MC_isThere_359 rfl (lv_at hl 3 rfl) ?_
      obtain ⟨r33, u34, h35, hf⟩ := zbd_some hf
      refine rx_Vi (n := 2) (As := [.int 1, .int x3]) (rest := []) B hI hl.1 (zc_MMC_has_0 l D z a N 1 x3 u30 r33 u34 h35) zw_460 zw_462 zw_463 zw_399 zw_461 (by decide +kernel) 0 (wM_at_0 a z u30) hcl_MC rfl rfl (Nat.le_of_ble_eq_true rfl) d_MC_isThere_360 ⟨Nat.le_of_ble_eq_true rfl, Nat.le_of_ble_eq_true rfl⟩ rfl rfl ⟨Nat.zero_le _, Nat.zero_le _⟩ (fun H locs hI => ?_)
      refine lv_if_eq (tgt := 370) B.1 B.2.1 d_MC_isThere_363 (by decide) (fun hc36 => ?_) (fun hc36 => ?_)
      · rw [if_pos hc36] at hf
        exact hb370  u34 _ _ _ hf hI (lv_sub hl [] rfl)
      · rw [if_neg hc36] at hf
        refine lv_iconst (v := 1) B.1 B.2.1 d_MC_isThere_366 (by decide) ?_
        refine lv_goto (tgt := 371) B.1 B.2.1 d_MC_isThere_367 (by decide) ?_
        exact hb371 1 u34 _ _ _ hf hI (lv_sub hl [] rfl)
  rw [if_neg hc28] at hf
  by_cases hc37 : x1 = 269
  · rw [if_pos hc37] at hf
    refine lv_lookup (off := 371) (tgt := 372) B.1 B.2.1 d_MC_isThere_1 (by decide +kernel) (by rw [hc37]; decide +kernel) (by decide) ?_
    refine lv_aload_n B.1 B.2.1 d_MC_isThere_372 rfl (lv_at hl 0 rfl) ?_
    refine lv_iconst (v := 4) B.1 B.2.1 d_MC_isThere_373 (by decide) ?_
    refine lv_iload_n B.1 B.2.1 d_MC_isThere_374 rfl (lv_at hl 2 rfl) ?_
    obtain ⟨r38, u39, h40, hf⟩ := zbd_some hf
    refine rx_Vi (n := 2) (As := [.int 4, .int x2]) (rest := []) B hI hl.1 (zc_MMC_has_0 l D z a N 4 x2 u r38 u39 h40) zw_460 zw_462 zw_463 zw_399 zw_461 (by decide +kernel) 0 (wM_at_0 a z u) hcl_MC rfl rfl (Nat.le_of_ble_eq_true rfl) d_MC_isThere_375 ⟨Nat.le_of_ble_eq_true rfl, Nat.le_of_ble_eq_true rfl⟩ rfl rfl ⟨Nat.zero_le _, Nat.zero_le _⟩ (fun H locs hI => ?_)
    obtain ⟨hz43, hf⟩ := zck_some hf
    obtain ⟨e41, e42⟩ := zrt hf
    exact zr_z (wM a z) B hI hr hlk hz43 e41 e42 d_MC_isThere_378
  rw [if_neg hc37] at hf
  by_cases hc44 : x1 = 270
  · rw [if_pos hc44] at hf
    refine lv_lookup (off := 378) (tgt := 379) B.1 B.2.1 d_MC_isThere_1 (by decide +kernel) (by rw [hc44]; decide +kernel) (by decide) ?_
    refine lv_aload_n B.1 B.2.1 d_MC_isThere_379 rfl (lv_at hl 0 rfl) ?_
    refine lv_iconst (v := 1) B.1 B.2.1 d_MC_isThere_380 (by decide) ?_
    refine lv_iload_n B.1 B.2.1 d_MC_isThere_381 rfl (lv_at hl 2 rfl) ?_
    obtain ⟨r45, u46, h47, hf⟩ := zbd_some hf
    refine rx_Vi (n := 2) (As := [.int 1, .int x2]) (rest := []) B hI hl.1 (zc_MMC_has_0 l D z a N 1 x2 u r45 u46 h47) zw_460 zw_462 zw_463 zw_399 zw_461 (by decide +kernel) 0 (wM_at_0 a z u) hcl_MC rfl rfl (Nat.le_of_ble_eq_true rfl) d_MC_isThere_382 ⟨Nat.le_of_ble_eq_true rfl, Nat.le_of_ble_eq_true rfl⟩ rfl rfl ⟨Nat.zero_le _, Nat.zero_le _⟩ (fun H locs hI => ?_)
    refine lv_if_eq (tgt := 401) B.1 B.2.1 d_MC_isThere_385 (by decide) (fun hc48 => ?_) (fun hc48 => ?_)
    · rw [if_pos hc48] at hf
      exact hb401  u46 _ _ _ hf hI (lv_sub hl [] rfl)
    · rw [if_neg hc48] at hf
      refine lv_aload_n B.1 B.2.1 d_MC_isThere_388 rfl (lv_at hl 0 rfl) ?_
      refine lv_iconst (v := 1) B.1 B.2.1 d_MC_isThere_389 (by decide) ?_
      refine lv_iload_n B.1 B.2.1 d_MC_isThere_390 rfl (lv_at hl 3 rfl) ?_
      obtain ⟨r49, u50, h51, hf⟩ := zbd_some hf
      refine rx_Vi (n := 2) (As := [.int 1, .int x3]) (rest := []) B hI hl.1 (zc_MMC_has_0 l D z a N 1 x3 u46 r49 u50 h51) zw_460 zw_462 zw_463 zw_399 zw_461 (by decide +kernel) 0 (wM_at_0 a z u46) hcl_MC rfl rfl (Nat.le_of_ble_eq_true rfl) d_MC_isThere_391 ⟨Nat.le_of_ble_eq_true rfl, Nat.le_of_ble_eq_true rfl⟩ rfl rfl ⟨Nat.zero_le _, Nat.zero_le _⟩ (fun H locs hI => ?_)
      refine lv_if_eq (tgt := 401) B.1 B.2.1 d_MC_isThere_394 (by decide) (fun hc52 => ?_) (fun hc52 => ?_)
      · rw [if_pos hc52] at hf
        exact hb401  u50 _ _ _ hf hI (lv_sub hl [] rfl)
      · rw [if_neg hc52] at hf
        refine lv_iconst (v := 1) B.1 B.2.1 d_MC_isThere_397 (by decide) ?_
        refine lv_goto (tgt := 402) B.1 B.2.1 d_MC_isThere_398 (by decide) ?_
        exact hb402 1 u50 _ _ _ hf hI (lv_sub hl [] rfl)
  rw [if_neg hc44] at hf
  by_cases hc53 : x1 = 271
  · rw [if_pos hc53] at hf
    refine lv_lookup (off := 333) (tgt := 334) B.1 B.2.1 d_MC_isThere_1 (by decide +kernel) (by rw [hc53]; decide +kernel) (by decide) ?_
    exact hb334 x2 u _ _ _ hf hI (lv_sub hl [0, 2] rfl)
  rw [if_neg hc53] at hf
  by_cases hc54 : x1 = 272
  · rw [if_pos hc54] at hf
    refine lv_lookup (off := 333) (tgt := 334) B.1 B.2.1 d_MC_isThere_1 (by decide +kernel) (by rw [hc54]; decide +kernel) (by decide) ?_
    exact hb334 x2 u _ _ _ hf hI (lv_sub hl [0, 2] rfl)
  rw [if_neg hc54] at hf
  by_cases hc55 : x1 = 273
  · rw [if_pos hc55] at hf
    refine lv_lookup (off := 333) (tgt := 334) B.1 B.2.1 d_MC_isThere_1 (by decide +kernel) (by rw [hc55]; decide +kernel) (by decide) ?_
    exact hb334 x2 u _ _ _ hf hI (lv_sub hl [0, 2] rfl)
  rw [if_neg hc55] at hf
  refine lv_lookup (off := 402) (tgt := 403) B.1 B.2.1 d_MC_isThere_1 (by decide +kernel) ((lv_osw hc1 (by decide)).trans ((lv_osw hc2 (by decide)).trans ((lv_osw hc3 (by decide)).trans ((lv_osw hc4 (by decide)).trans ((lv_osw hc5 (by decide)).trans ((lv_osw hc6 (by decide)).trans ((lv_osw hc10 (by decide)).trans ((lv_osw hc11 (by decide)).trans ((lv_osw hc18 (by decide)).trans ((lv_osw hc19 (by decide)).trans ((lv_osw hc20 (by decide)).trans ((lv_osw hc21 (by decide)).trans ((lv_osw hc22 (by decide)).trans ((lv_osw hc23 (by decide)).trans ((lv_osw hc24 (by decide)).trans ((lv_osw hc25 (by decide)).trans ((lv_osw hc26 (by decide)).trans ((lv_osw hc27 (by decide)).trans ((lv_osw hc28 (by decide)).trans ((lv_osw hc37 (by decide)).trans ((lv_osw hc44 (by decide)).trans ((lv_osw hc53 (by decide)).trans ((lv_osw hc54 (by decide)).trans ((lv_osw hc55 (by decide)).trans (Op.lookupswitch.offset_nil _ _))))))))))))))))))))))))) (by decide) ?_
  refine lv_iconst (v := 1) B.1 B.2.1 d_MC_isThere_403 (by decide) ?_
  obtain ⟨e56, e57⟩ := zrt hf
  exact zr_z (wM a z) B hI hr hlk (by decide) e56 e57 d_MC_isThere_404
set_option maxHeartbeats 4000000 in
set_option maxRecDepth 100000 in
theorem zc_MMC_attribute_0 (l : Launch) (D : va_G) (z : zZ) (a : Nat → Nat) (N : Nat) (x1 : Int32) (x2 : Int32) (u : zU) (r : Int32) (u1 : zU) (hf : zf_MMC_attribute_0 N x1 x2 u = some (r, u1)) : zMet l D z y_MC_attribute (.code y_MC_attribute b_MC_attribute 3 (some (.int))) { frames := 0, cells := 0, slots := 0, locals := 0 } [.ref (a 0), .int x1, .int x2] (wM a z u) (zQi D r (wM a z u1)) := by
  refine zM_i (own := R_MC) [.ref (a 0), .int x1, .int x2] (wM a z u) r (wM a z u1) (by decide) rfl (Nat.le_of_ble_eq_true rfl) ?_
  intro p e s m args below meth c A ls B hr hlk hI hl
  have hl : lv_has ls 3 [(0, .ref (a 0)), (1, .int x1), (2, .int x2)] := hl
  revert hf
  revert hI hl
  intro hI hl hf
  unfold zf_MMC_attribute_0 at hf
  refine lv_aload_n B.1 B.2.1 d_MC_attribute_0 rfl (lv_at hl 0 rfl) ?_
  refine rx_get (v := .ref (a 6)) B hI hcl_MC hin_MC 0 (wM_at_0 a z u) 6 (by decide) hf_MC_6 zw_411 rfl d_MC_attribute_1 ?_
  refine lv_bipush (v := 40) B.1 B.2.1 d_MC_attribute_4 (by decide) ?_
  refine lv_iload_n B.1 B.2.1 d_MC_attribute_6 rfl (lv_at hl 1 rfl) ?_
  refine lv_imul B.1 B.2.1 d_MC_attribute_7 ?_
  refine lv_iload_n B.1 B.2.1 d_MC_attribute_8 rfl (lv_at hl 2 rfl) ?_
  refine lv_iadd B.1 B.2.1 d_MC_attribute_9 ?_
  obtain ⟨hi1, hf⟩ := zck_some hf
  refine rx_iald B hI 6 (wM_at_6 a z u) hi1 d_MC_attribute_10 ?_
  obtain ⟨e2, e3⟩ := zrt hf
  exact zr_i (wM a z) B hI hr hlk e2 e3 d_MC_attribute_11
set_option maxHeartbeats 4000000 in
set_option maxRecDepth 100000 in
theorem zc_MMC_bytesOf (l : Launch) (D : va_G) (z : zZ) (a : Nat → Nat) (N : Nat) (x0 : Int32) (u : zU) (r : Int32) (u1 : zU) (hf : zf_MMC_bytesOf N x0 u = some (r, u1)) : zMet l D z y_MC_bytesOf (.code y_MC_bytesOf b_MC_bytesOf 1 (some (.int))) { frames := 0, cells := 0, slots := 0, locals := 0 } [.int x0] (wM a z u) (zQi D r (wM a z u1)) := by
  refine zM_i (own := R_MC) [.int x0] (wM a z u) r (wM a z u1) (by decide) rfl (Nat.le_of_ble_eq_true rfl) ?_
  intro p e s m args below meth c A ls B hr hlk hI hl
  have hl : lv_has ls 1 [(0, .int x0)] := hl
  revert hf
  revert hI hl
  have hb24 : ∀  (u : zU) (H : Heap) (locs : List Loc) (ls : Array Slot), zf_MMC_bytesOf_b24 N   u = some (r, u1) → iw D A s (wM a z u) H locs → lv_has ls 1 [] → W p l e ({ frames := 0, cells := 0, slots := 0, locals := 0 } : Room) s m args below meth c H locs 0 0 (MQ below (zQi D r (wM a z u1) A) args s 0 0 A) (F0 m 24 ls []) := by
    intro  u H locs ls hf hI hl
    unfold zf_MMC_bytesOf_b24 at hf
    refine lv_bipush (v := 8) B.1 B.2.1 d_MC_bytesOf_24 (by decide) ?_
    obtain ⟨e1, e2⟩ := zrt hf
    exact zr_i (wM a z) B hI hr hlk e1 e2 d_MC_bytesOf_26
  have hb69 : ∀  (u : zU) (H : Heap) (locs : List Loc) (ls : Array Slot), zf_MMC_bytesOf_b69 N   u = some (r, u1) → iw D A s (wM a z u) H locs → lv_has ls 1 [] → W p l e ({ frames := 0, cells := 0, slots := 0, locals := 0 } : Room) s m args below meth c H locs 0 0 (MQ below (zQi D r (wM a z u1) A) args s 0 0 A) (F0 m 69 ls []) := by
    intro  u H locs ls hf hI hl
    unfold zf_MMC_bytesOf_b69 at hf
    refine lv_iconst (v := 4) B.1 B.2.1 d_MC_bytesOf_69 (by decide) ?_
    obtain ⟨e1, e2⟩ := zrt hf
    exact zr_i (wM a z) B hI hr hlk e1 e2 d_MC_bytesOf_70
  have hb112 : ∀ (s0 : Int32) (u : zU) (H : Heap) (locs : List Loc) (ls : Array Slot), zf_MMC_bytesOf_b112 N  s0 u = some (r, u1) → iw D A s (wM a z u) H locs → lv_has ls 1 [] → W p l e ({ frames := 0, cells := 0, slots := 0, locals := 0 } : Room) s m args below meth c H locs 0 0 (MQ below (zQi D r (wM a z u1) A) args s 0 0 A) (F0 m 112 ls [.int s0]) := by
    intro s0 u H locs ls hf hI hl
    unfold zf_MMC_bytesOf_b112 at hf
    obtain ⟨e1, e2⟩ := zrt hf
    exact zr_i (wM a z) B hI hr hlk e1 e2 d_MC_bytesOf_112
  have hb107 : ∀  (u : zU) (H : Heap) (locs : List Loc) (ls : Array Slot), zf_MMC_bytesOf_b107 N   u = some (r, u1) → iw D A s (wM a z u) H locs → lv_has ls 1 [] → W p l e ({ frames := 0, cells := 0, slots := 0, locals := 0 } : Room) s m args below meth c H locs 0 0 (MQ below (zQi D r (wM a z u1) A) args s 0 0 A) (F0 m 107 ls []) := by
    intro  u H locs ls hf hI hl
    unfold zf_MMC_bytesOf_b107 at hf
    refine lv_iconst (v := 2) B.1 B.2.1 d_MC_bytesOf_107 (by decide) ?_
    refine lv_goto (tgt := 112) B.1 B.2.1 d_MC_bytesOf_108 (by decide) ?_
    exact hb112 2 u _ _ _ hf hI (lv_sub hl [] rfl)
  intro hI hl hf
  unfold zf_MMC_bytesOf at hf
  refine lv_iload_n B.1 B.2.1 d_MC_bytesOf_0 rfl (lv_at hl 0 rfl) ?_
  refine lv_bipush (v := 41) B.1 B.2.1 d_MC_bytesOf_1 (by decide) ?_
  refine lv_icmp_eq (tgt := 24) B.1 B.2.1 d_MC_bytesOf_3 (by decide) (fun hc1 => ?_) (fun hc1 => ?_)
  · rw [if_pos hc1] at hf
    exact hb24  u _ _ _ hf hI (lv_sub hl [] rfl)
  · rw [if_neg hc1] at hf
    refine lv_iload_n B.1 B.2.1 d_MC_bytesOf_6 rfl (lv_at hl 0 rfl) ?_
    refine lv_bipush (v := 43) B.1 B.2.1 d_MC_bytesOf_7 (by decide) ?_
    refine lv_icmp_eq (tgt := 24) B.1 B.2.1 d_MC_bytesOf_9 (by decide) (fun hc2 => ?_) (fun hc2 => ?_)
    · rw [if_pos hc2] at hf
      exact hb24  u _ _ _ hf hI (lv_sub hl [] rfl)
    · rw [if_neg hc2] at hf
      refine lv_iload_n B.1 B.2.1 d_MC_bytesOf_12 rfl (lv_at hl 0 rfl) ?_
      refine lv_bipush (v := 55) B.1 B.2.1 d_MC_bytesOf_13 (by decide) ?_
      refine lv_icmp_eq (tgt := 24) B.1 B.2.1 d_MC_bytesOf_15 (by decide) (fun hc3 => ?_) (fun hc3 => ?_)
      · rw [if_pos hc3] at hf
        exact hb24  u _ _ _ hf hI (lv_sub hl [] rfl)
      · rw [if_neg hc3] at hf
        refine lv_iload_n B.1 B.2.1 d_MC_bytesOf_18 rfl (lv_at hl 0 rfl) ?_
        refine lv_bipush (v := 57) B.1 B.2.1 d_MC_bytesOf_19 (by decide) ?_
        refine lv_icmp_ne (tgt := 27) B.1 B.2.1 d_MC_bytesOf_21 (by decide) (fun hc4 => ?_) (fun hc4 => ?_)
        · rw [if_neg hc4] at hf
          refine lv_iload_n B.1 B.2.1 d_MC_bytesOf_27 rfl (lv_at hl 0 rfl) ?_
          refine lv_bipush (v := 40) B.1 B.2.1 d_MC_bytesOf_28 (by decide) ?_
          refine lv_icmp_eq (tgt := 69) B.1 B.2.1 d_MC_bytesOf_30 (by decide) (fun hc5 => ?_) (fun hc5 => ?_)
          · rw [if_pos hc5] at hf
            exact hb69  u _ _ _ hf hI (lv_sub hl [] rfl)
          · rw [if_neg hc5] at hf
            refine lv_iload_n B.1 B.2.1 d_MC_bytesOf_33 rfl (lv_at hl 0 rfl) ?_
            refine lv_bipush (v := 42) B.1 B.2.1 d_MC_bytesOf_34 (by decide) ?_
            refine lv_icmp_eq (tgt := 69) B.1 B.2.1 d_MC_bytesOf_36 (by decide) (fun hc6 => ?_) (fun hc6 => ?_)
            · rw [if_pos hc6] at hf
              exact hb69  u _ _ _ hf hI (lv_sub hl [] rfl)
            · rw [if_neg hc6] at hf
              refine lv_iload_n B.1 B.2.1 d_MC_bytesOf_39 rfl (lv_at hl 0 rfl) ?_
              refine lv_bipush (v := 52) B.1 B.2.1 d_MC_bytesOf_40 (by decide) ?_
              refine lv_icmp_eq (tgt := 69) B.1 B.2.1 d_MC_bytesOf_42 (by decide) (fun hc7 => ?_) (fun hc7 => ?_)
              · rw [if_pos hc7] at hf
                exact hb69  u _ _ _ hf hI (lv_sub hl [] rfl)
              · rw [if_neg hc7] at hf
                refine lv_iload_n B.1 B.2.1 d_MC_bytesOf_45 rfl (lv_at hl 0 rfl) ?_
                refine lv_bipush (v := 53) B.1 B.2.1 d_MC_bytesOf_46 (by decide) ?_
                refine lv_icmp_eq (tgt := 69) B.1 B.2.1 d_MC_bytesOf_48 (by decide) (fun hc8 => ?_) (fun hc8 => ?_)
                · rw [if_pos hc8] at hf
                  exact hb69  u _ _ _ hf hI (lv_sub hl [] rfl)
                · rw [if_neg hc8] at hf
                  refine lv_iload_n B.1 B.2.1 d_MC_bytesOf_51 rfl (lv_at hl 0 rfl) ?_
                  refine lv_bipush (v := 54) B.1 B.2.1 d_MC_bytesOf_52 (by decide) ?_
                  refine lv_icmp_eq (tgt := 69) B.1 B.2.1 d_MC_bytesOf_54 (by decide) (fun hc9 => ?_) (fun hc9 => ?_)
                  · rw [if_pos hc9] at hf
                    exact hb69  u _ _ _ hf hI (lv_sub hl [] rfl)
                  · rw [if_neg hc9] at hf
                    refine lv_iload_n B.1 B.2.1 d_MC_bytesOf_57 rfl (lv_at hl 0 rfl) ?_
                    refine lv_bipush (v := 56) B.1 B.2.1 d_MC_bytesOf_58 (by decide) ?_
                    refine lv_icmp_eq (tgt := 69) B.1 B.2.1 d_MC_bytesOf_60 (by decide) (fun hc10 => ?_) (fun hc10 => ?_)
                    · rw [if_pos hc10] at hf
                      exact hb69  u _ _ _ hf hI (lv_sub hl [] rfl)
                    · rw [if_neg hc10] at hf
                      refine lv_iload_n B.1 B.2.1 d_MC_bytesOf_63 rfl (lv_at hl 0 rfl) ?_
                      refine lv_bipush (v := 62) B.1 B.2.1 d_MC_bytesOf_64 (by decide) ?_
                      refine lv_icmp_ne (tgt := 71) B.1 B.2.1 d_MC_bytesOf_66 (by decide) (fun hc11 => ?_) (fun hc11 => ?_)
                      · rw [if_neg hc11] at hf
                        refine lv_iload_n B.1 B.2.1 d_MC_bytesOf_71 rfl (lv_at hl 0 rfl) ?_
                        refine lv_bipush (v := 46) B.1 B.2.1 d_MC_bytesOf_72 (by decide) ?_
                        refine lv_icmp_eq (tgt := 107) B.1 B.2.1 d_MC_bytesOf_74 (by decide) (fun hc12 => ?_) (fun hc12 => ?_)
                        · rw [if_pos hc12] at hf
                          exact hb107  u _ _ _ hf hI (lv_sub hl [] rfl)
                        · rw [if_neg hc12] at hf
                          refine lv_iload_n B.1 B.2.1 d_MC_bytesOf_77 rfl (lv_at hl 0 rfl) ?_
                          refine lv_bipush (v := 47) B.1 B.2.1 d_MC_bytesOf_78 (by decide) ?_
                          refine lv_icmp_eq (tgt := 107) B.1 B.2.1 d_MC_bytesOf_80 (by decide) (fun hc13 => ?_) (fun hc13 => ?_)
                          · rw [if_pos hc13] at hf
                            exact hb107  u _ _ _ hf hI (lv_sub hl [] rfl)
                          · rw [if_neg hc13] at hf
                            refine lv_iload_n B.1 B.2.1 d_MC_bytesOf_83 rfl (lv_at hl 0 rfl) ?_
                            refine lv_bipush (v := 50) B.1 B.2.1 d_MC_bytesOf_84 (by decide) ?_
                            refine lv_icmp_eq (tgt := 107) B.1 B.2.1 d_MC_bytesOf_86 (by decide) (fun hc14 => ?_) (fun hc14 => ?_)
                            · rw [if_pos hc14] at hf
                              exact hb107  u _ _ _ hf hI (lv_sub hl [] rfl)
                            · rw [if_neg hc14] at hf
                              refine lv_iload_n B.1 B.2.1 d_MC_bytesOf_89 rfl (lv_at hl 0 rfl) ?_
                              refine lv_bipush (v := 51) B.1 B.2.1 d_MC_bytesOf_90 (by decide) ?_
                              refine lv_icmp_eq (tgt := 107) B.1 B.2.1 d_MC_bytesOf_92 (by decide) (fun hc15 => ?_) (fun hc15 => ?_)
                              · rw [if_pos hc15] at hf
                                exact hb107  u _ _ _ hf hI (lv_sub hl [] rfl)
                              · rw [if_neg hc15] at hf
                                refine lv_iload_n B.1 B.2.1 d_MC_bytesOf_95 rfl (lv_at hl 0 rfl) ?_
                                refine lv_bipush (v := 59) B.1 B.2.1 d_MC_bytesOf_96 (by decide) ?_
                                refine lv_icmp_eq (tgt := 107) B.1 B.2.1 d_MC_bytesOf_98 (by decide) (fun hc16 => ?_) (fun hc16 => ?_)
                                · rw [if_pos hc16] at hf
                                  exact hb107  u _ _ _ hf hI (lv_sub hl [] rfl)
                                · rw [if_neg hc16] at hf
                                  refine lv_iload_n B.1 B.2.1 d_MC_bytesOf_101 rfl (lv_at hl 0 rfl) ?_
                                  refine lv_bipush (v := 61) B.1 B.2.1 d_MC_bytesOf_102 (by decide) ?_
                                  refine lv_icmp_ne (tgt := 111) B.1 B.2.1 d_MC_bytesOf_104 (by decide) (fun hc17 => ?_) (fun hc17 => ?_)
                                  · rw [if_neg hc17] at hf
                                    refine lv_iconst (v := 1) B.1 B.2.1 d_MC_bytesOf_111 (by decide) ?_
                                    exact hb112 1 u _ _ _ hf hI (lv_sub hl [] rfl)
                                  · rw [if_pos hc17] at hf
                                    exact hb107  u _ _ _ hf hI (lv_sub hl [] rfl)
                      · rw [if_pos hc11] at hf
                        exact hb69  u _ _ _ hf hI (lv_sub hl [] rfl)
        · rw [if_pos hc4] at hf
          exact hb24  u _ _ _ hf hI (lv_sub hl [] rfl)
