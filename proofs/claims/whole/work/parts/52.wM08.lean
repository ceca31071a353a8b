set_option maxHeartbeats 4000000 in
set_option maxRecDepth 100000 in
theorem zc_MMC_to (l : Launch) (D : va_G) (z : zZ) (a : Nat → Nat) (N : Nat) (x0 : Int32) (u : zU) (r : Int32) (u1 : zU) (hf : zf_MMC_to N x0 u = some (r, u1)) : zMet l D z y_MC_to (.code y_MC_to b_MC_to 1 (some (.int))) { frames := 0, cells := 0, slots := 0, locals := 0 } [.int x0] (wM a z u) (zQi D r (wM a z u1)) := by
  refine zM_i (own := R_MC) [.int x0] (wM a z u) r (wM a z u1) (by decide) rfl (Nat.le_of_ble_eq_true rfl) ?_
  intro p e s m args below meth c A ls B hr hlk hI hl
  have hl : lv_has ls 1 [(0, .int x0)] := hl
  revert hf
  revert hI hl
  have hb384 : ∀  (u : zU) (H : Heap) (locs : List Loc) (ls : Array Slot), zf_MMC_to_b384 N   u = some (r, u1) → iw D A s (wM a z u) H locs → lv_has ls 1 [] → W p l e ({ frames := 0, cells := 0, slots := 0, locals := 0 } : Room) s m args below meth c H locs 0 0 (MQ below (zQi D r (wM a z u1) A) args s 0 0 A) (F0 m 384 ls []) := by
    intro  u H locs ls hf hI hl
    unfold zf_MMC_to_b384 at hf
    refine lv_bipush (v := 126) B.1 B.2.1 d_MC_to_384 (by decide) ?_
    obtain ⟨e1, e2⟩ := zrt hf
    exact zr_i (wM a z) B hI hr hlk e1 e2 d_MC_to_386
  have hb387 : ∀  (u : zU) (H : Heap) (locs : List Loc) (ls : Array Slot), zf_MMC_to_b387 N   u = some (r, u1) → iw D A s (wM a z u) H locs → lv_has ls 1 [] → W p l e ({ frames := 0, cells := 0, slots := 0, locals := 0 } : Room) s m args below meth c H locs 0 0 (MQ below (zQi D r (wM a z u1) A) args s 0 0 A) (F0 m 387 ls []) := by
    intro  u H locs ls hf hI hl
    unfold zf_MMC_to_b387 at hf
    refine lv_bipush (v := 125) B.1 B.2.1 d_MC_to_387 (by decide) ?_
    obtain ⟨e1, e2⟩ := zrt hf
    exact zr_i (wM a z) B hI hr hlk e1 e2 d_MC_to_389
  have hb390 : ∀  (u : zU) (H : Heap) (locs : List Loc) (ls : Array Slot), zf_MMC_to_b390 N   u = some (r, u1) → iw D A s (wM a z u) H locs → lv_has ls 1 [] → W p l e ({ frames := 0, cells := 0, slots := 0, locals := 0 } : Room) s m args below meth c H locs 0 0 (MQ below (zQi D r (wM a z u1) A) args s 0 0 A) (F0 m 390 ls []) := by
    intro  u H locs ls hf hI hl
    unfold zf_MMC_to_b390 at hf
    refine lv_bipush (v := 124) B.1 B.2.1 d_MC_to_390 (by decide) ?_
    obtain ⟨e1, e2⟩ := zrt hf
    exact zr_i (wM a z) B hI hr hlk e1 e2 d_MC_to_392
  have hb393 : ∀  (u : zU) (H : Heap) (locs : List Loc) (ls : Array Slot), zf_MMC_to_b393 N   u = some (r, u1) → iw D A s (wM a z u) H locs → lv_has ls 1 [] → W p l e ({ frames := 0, cells := 0, slots := 0, locals := 0 } : Room) s m args below meth c H locs 0 0 (MQ below (zQi D r (wM a z u1) A) args s 0 0 A) (F0 m 393 ls []) := by
    intro  u H locs ls hf hI hl
    unfold zf_MMC_to_b393 at hf
    refine lv_bipush (v := 127) B.1 B.2.1 d_MC_to_393 (by decide) ?_
    obtain ⟨e1, e2⟩ := zrt hf
    exact zr_i (wM a z) B hI hr hlk e1 e2 d_MC_to_395
  intro hI hl hf
  unfold zf_MMC_to at hf
  refine lv_iload_n B.1 B.2.1 d_MC_to_0 rfl (lv_at hl 0 rfl) ?_
  by_cases hc1 : x0 = 172
  · rw [if_pos hc1] at hf
    refine lv_tableIn (off := 383) (tgt := 384) B.1 B.2.1 d_MC_to_1 (by rw [hc1]; decide +kernel) (by rw [hc1]; decide +kernel) (by rw [hc1]; decide +kernel) (by decide) ?_
    exact hb384  u _ _ _ hf hI (lv_sub hl [] rfl)
  rw [if_neg hc1] at hf
  by_cases hc2 : x0 = 173
  · rw [if_pos hc2] at hf
    refine lv_tableIn (off := 383) (tgt := 384) B.1 B.2.1 d_MC_to_1 (by rw [hc2]; decide +kernel) (by rw [hc2]; decide +kernel) (by rw [hc2]; decide +kernel) (by decide) ?_
    exact hb384  u _ _ _ hf hI (lv_sub hl [] rfl)
  rw [if_neg hc2] at hf
  by_cases hc3 : x0 = 174
  · rw [if_pos hc3] at hf
    refine lv_tableIn (off := 383) (tgt := 384) B.1 B.2.1 d_MC_to_1 (by rw [hc3]; decide +kernel) (by rw [hc3]; decide +kernel) (by rw [hc3]; decide +kernel) (by decide) ?_
    exact hb384  u _ _ _ hf hI (lv_sub hl [] rfl)
  rw [if_neg hc3] at hf
  by_cases hc4 : x0 = 175
  · rw [if_pos hc4] at hf
    refine lv_tableIn (off := 383) (tgt := 384) B.1 B.2.1 d_MC_to_1 (by rw [hc4]; decide +kernel) (by rw [hc4]; decide +kernel) (by rw [hc4]; decide +kernel) (by decide) ?_
    exact hb384  u _ _ _ hf hI (lv_sub hl [] rfl)
  rw [if_neg hc4] at hf
  by_cases hc5 : x0 = 176
  · rw [if_pos hc5] at hf
    refine lv_tableIn (off := 383) (tgt := 384) B.1 B.2.1 d_MC_to_1 (by rw [hc5]; decide +kernel) (by rw [hc5]; decide +kernel) (by rw [hc5]; decide +kernel) (by decide) ?_
    exact hb384  u _ _ _ hf hI (lv_sub hl [] rfl)
  rw [if_neg hc5] at hf
  by_cases hc6 : x0 = 177
  · rw [if_pos hc6] at hf
    refine lv_tableIn (off := 383) (tgt := 384) B.1 B.2.1 d_MC_to_1 (by rw [hc6]; decide +kernel) (by rw [hc6]; decide +kernel) (by rw [hc6]; decide +kernel) (by decide) ?_
    exact hb384  u _ _ _ hf hI (lv_sub hl [] rfl)
  rw [if_neg hc6] at hf
  by_cases hc7 : x0 = 178
  · rw [if_pos hc7] at hf
    refine lv_tableIn (off := 386) (tgt := 387) B.1 B.2.1 d_MC_to_1 (by rw [hc7]; decide +kernel) (by rw [hc7]; decide +kernel) (by rw [hc7]; decide +kernel) (by decide) ?_
    exact hb387  u _ _ _ hf hI (lv_sub hl [] rfl)
  rw [if_neg hc7] at hf
  by_cases hc8 : x0 = 179
  · rw [if_pos hc8] at hf
    refine lv_tableIn (off := 386) (tgt := 387) B.1 B.2.1 d_MC_to_1 (by rw [hc8]; decide +kernel) (by rw [hc8]; decide +kernel) (by rw [hc8]; decide +kernel) (by decide) ?_
    exact hb387  u _ _ _ hf hI (lv_sub hl [] rfl)
  rw [if_neg hc8] at hf
  by_cases hc9 : x0 = 180
  · rw [if_pos hc9] at hf
    refine lv_tableIn (off := 386) (tgt := 387) B.1 B.2.1 d_MC_to_1 (by rw [hc9]; decide +kernel) (by rw [hc9]; decide +kernel) (by rw [hc9]; decide +kernel) (by decide) ?_
    exact hb387  u _ _ _ hf hI (lv_sub hl [] rfl)
  rw [if_neg hc9] at hf
  by_cases hc10 : x0 = 181
  · rw [if_pos hc10] at hf
    refine lv_tableIn (off := 386) (tgt := 387) B.1 B.2.1 d_MC_to_1 (by rw [hc10]; decide +kernel) (by rw [hc10]; decide +kernel) (by rw [hc10]; decide +kernel) (by decide) ?_
    exact hb387  u _ _ _ hf hI (lv_sub hl [] rfl)
  rw [if_neg hc10] at hf
  by_cases hc11 : x0 = 182
  · rw [if_pos hc11] at hf
    refine lv_tableIn (off := 386) (tgt := 387) B.1 B.2.1 d_MC_to_1 (by rw [hc11]; decide +kernel) (by rw [hc11]; decide +kernel) (by rw [hc11]; decide +kernel) (by decide) ?_
    exact hb387  u _ _ _ hf hI (lv_sub hl [] rfl)
  rw [if_neg hc11] at hf
  by_cases hc12 : x0 = 183
  · rw [if_pos hc12] at hf
    refine lv_tableIn (off := 389) (tgt := 390) B.1 B.2.1 d_MC_to_1 (by rw [hc12]; decide +kernel) (by rw [hc12]; decide +kernel) (by rw [hc12]; decide +kernel) (by decide) ?_
    exact hb390  u _ _ _ hf hI (lv_sub hl [] rfl)
  rw [if_neg hc12] at hf
  by_cases hc13 : x0 = 184
  · rw [if_pos hc13] at hf
    refine lv_tableIn (off := 389) (tgt := 390) B.1 B.2.1 d_MC_to_1 (by rw [hc13]; decide +kernel) (by rw [hc13]; decide +kernel) (by rw [hc13]; decide +kernel) (by decide) ?_
    exact hb390  u _ _ _ hf hI (lv_sub hl [] rfl)
  rw [if_neg hc13] at hf
  by_cases hc14 : x0 = 185
  · rw [if_pos hc14] at hf
    refine lv_tableIn (off := 389) (tgt := 390) B.1 B.2.1 d_MC_to_1 (by rw [hc14]; decide +kernel) (by rw [hc14]; decide +kernel) (by rw [hc14]; decide +kernel) (by decide) ?_
    exact hb390  u _ _ _ hf hI (lv_sub hl [] rfl)
  rw [if_neg hc14] at hf
  by_cases hc15 : x0 = 186
  · rw [if_pos hc15] at hf
    refine lv_tableIn (off := 389) (tgt := 390) B.1 B.2.1 d_MC_to_1 (by rw [hc15]; decide +kernel) (by rw [hc15]; decide +kernel) (by rw [hc15]; decide +kernel) (by decide) ?_
    exact hb390  u _ _ _ hf hI (lv_sub hl [] rfl)
  rw [if_neg hc15] at hf
  by_cases hc16 : x0 = 187
  · rw [if_pos hc16] at hf
    refine lv_tableIn (off := 389) (tgt := 390) B.1 B.2.1 d_MC_to_1 (by rw [hc16]; decide +kernel) (by rw [hc16]; decide +kernel) (by rw [hc16]; decide +kernel) (by decide) ?_
    exact hb390  u _ _ _ hf hI (lv_sub hl [] rfl)
  rw [if_neg hc16] at hf
  by_cases hc17 : x0 = 188
  · rw [if_pos hc17] at hf
    refine lv_tableIn (off := 392) (tgt := 393) B.1 B.2.1 d_MC_to_1 (by rw [hc17]; decide +kernel) (by rw [hc17]; decide +kernel) (by rw [hc17]; decide +kernel) (by decide) ?_
    exact hb393  u _ _ _ hf hI (lv_sub hl [] rfl)
  rw [if_neg hc17] at hf
  by_cases hc18 : x0 = 189
  · rw [if_pos hc18] at hf
    refine lv_tableIn (off := 383) (tgt := 384) B.1 B.2.1 d_MC_to_1 (by rw [hc18]; decide +kernel) (by rw [hc18]; decide +kernel) (by rw [hc18]; decide +kernel) (by decide) ?_
    exact hb384  u _ _ _ hf hI (lv_sub hl [] rfl)
  rw [if_neg hc18] at hf
  by_cases hc19 : x0 = 190
  · rw [if_pos hc19] at hf
    refine lv_tableIn (off := 386) (tgt := 387) B.1 B.2.1 d_MC_to_1 (by rw [hc19]; decide +kernel) (by rw [hc19]; decide +kernel) (by rw [hc19]; decide +kernel) (by decide) ?_
    exact hb387  u _ _ _ hf hI (lv_sub hl [] rfl)
  rw [if_neg hc19] at hf
  by_cases hc20 : x0 = 191
  · rw [if_pos hc20] at hf
    refine lv_tableIn (off := 389) (tgt := 390) B.1 B.2.1 d_MC_to_1 (by rw [hc20]; decide +kernel) (by rw [hc20]; decide +kernel) (by rw [hc20]; decide +kernel) (by decide) ?_
    exact hb390  u _ _ _ hf hI (lv_sub hl [] rfl)
  rw [if_neg hc20] at hf
  by_cases hc21 : x0 = 192
  · rw [if_pos hc21] at hf
    refine lv_tableIn (off := 392) (tgt := 393) B.1 B.2.1 d_MC_to_1 (by rw [hc21]; decide +kernel) (by rw [hc21]; decide +kernel) (by rw [hc21]; decide +kernel) (by decide) ?_
    exact hb393  u _ _ _ hf hI (lv_sub hl [] rfl)
  rw [if_neg hc21] at hf
  by_cases hc22 : x0 = 193
  · rw [if_pos hc22] at hf
    refine lv_tableIn (off := 392) (tgt := 393) B.1 B.2.1 d_MC_to_1 (by rw [hc22]; decide +kernel) (by rw [hc22]; decide +kernel) (by rw [hc22]; decide +kernel) (by decide) ?_
    exact hb393  u _ _ _ hf hI (lv_sub hl [] rfl)
  rw [if_neg hc22] at hf
  by_cases hc23 : x0 = 194
  · rw [if_pos hc23] at hf
    refine lv_tableIn (off := 383) (tgt := 384) B.1 B.2.1 d_MC_to_1 (by rw [hc23]; decide +kernel) (by rw [hc23]; decide +kernel) (by rw [hc23]; decide +kernel) (by decide) ?_
    exact hb384  u _ _ _ hf hI (lv_sub hl [] rfl)
  rw [if_neg hc23] at hf
  by_cases hc24 : x0 = 195
  · rw [if_pos hc24] at hf
    refine lv_tableIn (off := 383) (tgt := 384) B.1 B.2.1 d_MC_to_1 (by rw [hc24]; decide +kernel) (by rw [hc24]; decide +kernel) (by rw [hc24]; decide +kernel) (by decide) ?_
    exact hb384  u _ _ _ hf hI (lv_sub hl [] rfl)
  rw [if_neg hc24] at hf
  by_cases hc25 : x0 = 196
  · rw [if_pos hc25] at hf
    refine lv_tableIn (off := 383) (tgt := 384) B.1 B.2.1 d_MC_to_1 (by rw [hc25]; decide +kernel) (by rw [hc25]; decide +kernel) (by rw [hc25]; decide +kernel) (by decide) ?_
    exact hb384  u _ _ _ hf hI (lv_sub hl [] rfl)
  rw [if_neg hc25] at hf
  by_cases hc26 : x0 = 197
  · rw [if_pos hc26] at hf
    refine lv_tableIn (off := 392) (tgt := 393) B.1 B.2.1 d_MC_to_1 (by rw [hc26]; decide +kernel) (by rw [hc26]; decide +kernel) (by rw [hc26]; decide +kernel) (by decide) ?_
    exact hb393  u _ _ _ hf hI (lv_sub hl [] rfl)
  rw [if_neg hc26] at hf
  by_cases hc27 : x0 = 198
  · rw [if_pos hc27] at hf
    refine lv_tableIn (off := 392) (tgt := 393) B.1 B.2.1 d_MC_to_1 (by rw [hc27]; decide +kernel) (by rw [hc27]; decide +kernel) (by rw [hc27]; decide +kernel) (by decide) ?_
    exact hb393  u _ _ _ hf hI (lv_sub hl [] rfl)
  rw [if_neg hc27] at hf
  by_cases hc28 : x0 = 199
  · rw [if_pos hc28] at hf
    refine lv_tableIn (off := 392) (tgt := 393) B.1 B.2.1 d_MC_to_1 (by rw [hc28]; decide +kernel) (by rw [hc28]; decide +kernel) (by rw [hc28]; decide +kernel) (by decide) ?_
    exact hb393  u _ _ _ hf hI (lv_sub hl [] rfl)
  rw [if_neg hc28] at hf
  by_cases hc29 : x0 = 200
  · rw [if_pos hc29] at hf
    refine lv_tableIn (off := 392) (tgt := 393) B.1 B.2.1 d_MC_to_1 (by rw [hc29]; decide +kernel) (by rw [hc29]; decide +kernel) (by rw [hc29]; decide +kernel) (by decide) ?_
    exact hb393  u _ _ _ hf hI (lv_sub hl [] rfl)
  rw [if_neg hc29] at hf
  by_cases hc30 : x0 = 201
  · rw [if_pos hc30] at hf
    refine lv_tableIn (off := 392) (tgt := 393) B.1 B.2.1 d_MC_to_1 (by rw [hc30]; decide +kernel) (by rw [hc30]; decide +kernel) (by rw [hc30]; decide +kernel) (by decide) ?_
    exact hb393  u _ _ _ hf hI (lv_sub hl [] rfl)
  rw [if_neg hc30] at hf
  by_cases hc31 : x0 = 202
  · rw [if_pos hc31] at hf
    refine lv_tableIn (off := 392) (tgt := 393) B.1 B.2.1 d_MC_to_1 (by rw [hc31]; decide +kernel) (by rw [hc31]; decide +kernel) (by rw [hc31]; decide +kernel) (by decide) ?_
    exact hb393  u _ _ _ hf hI (lv_sub hl [] rfl)
  rw [if_neg hc31] at hf
  by_cases hc32 : x0 = 203
  · rw [if_pos hc32] at hf
    refine lv_tableIn (off := 392) (tgt := 393) B.1 B.2.1 d_MC_to_1 (by rw [hc32]; decide +kernel) (by rw [hc32]; decide +kernel) (by rw [hc32]; decide +kernel) (by decide) ?_
    exact hb393  u _ _ _ hf hI (lv_sub hl [] rfl)
  rw [if_neg hc32] at hf
  by_cases hc33 : x0 = 204
  · rw [if_pos hc33] at hf
    refine lv_tableIn (off := 392) (tgt := 393) B.1 B.2.1 d_MC_to_1 (by rw [hc33]; decide +kernel) (by rw [hc33]; decide +kernel) (by rw [hc33]; decide +kernel) (by decide) ?_
    exact hb393  u _ _ _ hf hI (lv_sub hl [] rfl)
  rw [if_neg hc33] at hf
  by_cases hc34 : x0 = 205
  · rw [if_pos hc34] at hf
    refine lv_tableIn (off := 392) (tgt := 393) B.1 B.2.1 d_MC_to_1 (by rw [hc34]; decide +kernel) (by rw [hc34]; decide +kernel) (by rw [hc34]; decide +kernel) (by decide) ?_
    exact hb393  u _ _ _ hf hI (lv_sub hl [] rfl)
  rw [if_neg hc34] at hf
  by_cases hc35 : x0 = 206
  · rw [if_pos hc35] at hf
    refine lv_tableIn (off := 392) (tgt := 393) B.1 B.2.1 d_MC_to_1 (by rw [hc35]; decide +kernel) (by rw [hc35]; decide +kernel) (by rw [hc35]; decide +kernel) (by decide) ?_
    exact hb393  u _ _ _ hf hI (lv_sub hl [] rfl)
  rw [if_neg hc35] at hf
  by_cases hc36 : x0 = 207
  · rw [if_pos hc36] at hf
    refine lv_tableIn (off := 392) (tgt := 393) B.1 B.2.1 d_MC_to_1 (by rw [hc36]; decide +kernel) (by rw [hc36]; decide +kernel) (by rw [hc36]; decide +kernel) (by decide) ?_
    exact hb393  u _ _ _ hf hI (lv_sub hl [] rfl)
  rw [if_neg hc36] at hf
  by_cases hc37 : x0 = 208
  · rw [if_pos hc37] at hf
    refine lv_tableIn (off := 392) (tgt := 393) B.1 B.2.1 d_MC_to_1 (by rw [hc37]; decide +kernel) (by rw [hc37]; decide +kernel) (by rw [hc37]; decide +kernel) (by decide) ?_
    exact hb393  u _ _ _ hf hI (lv_sub hl [] rfl)
  rw [if_neg hc37] at hf
  by_cases hc38 : x0 = 209
  · rw [if_pos hc38] at hf
    refine lv_tableIn (off := 392) (tgt := 393) B.1 B.2.1 d_MC_to_1 (by rw [hc38]; decide +kernel) (by rw [hc38]; decide +kernel) (by rw [hc38]; decide +kernel) (by decide) ?_
    exact hb393  u _ _ _ hf hI (lv_sub hl [] rfl)
  rw [if_neg hc38] at hf
  by_cases hc39 : x0 = 210
  · rw [if_pos hc39] at hf
    refine lv_tableIn (off := 392) (tgt := 393) B.1 B.2.1 d_MC_to_1 (by rw [hc39]; decide +kernel) (by rw [hc39]; decide +kernel) (by rw [hc39]; decide +kernel) (by decide) ?_
    exact hb393  u _ _ _ hf hI (lv_sub hl [] rfl)
  rw [if_neg hc39] at hf
  by_cases hc40 : x0 = 211
  · rw [if_pos hc40] at hf
    refine lv_tableIn (off := 392) (tgt := 393) B.1 B.2.1 d_MC_to_1 (by rw [hc40]; decide +kernel) (by rw [hc40]; decide +kernel) (by rw [hc40]; decide +kernel) (by decide) ?_
    exact hb393  u _ _ _ hf hI (lv_sub hl [] rfl)
  rw [if_neg hc40] at hf
  by_cases hc41 : x0 = 212
  · rw [if_pos hc41] at hf
    refine lv_tableIn (off := 392) (tgt := 393) B.1 B.2.1 d_MC_to_1 (by rw [hc41]; decide +kernel) (by rw [hc41]; decide +kernel) (by rw [hc41]; decide +kernel) (by decide) ?_
    exact hb393  u _ _ _ hf hI (lv_sub hl [] rfl)
  rw [if_neg hc41] at hf
  by_cases hc42 : x0 = 213
  · rw [if_pos hc42] at hf
    refine lv_tableIn (off := 392) (tgt := 393) B.1 B.2.1 d_MC_to_1 (by rw [hc42]; decide +kernel) (by rw [hc42]; decide +kernel) (by rw [hc42]; decide +kernel) (by decide) ?_
    exact hb393  u _ _ _ hf hI (lv_sub hl [] rfl)
  rw [if_neg hc42] at hf
  by_cases hc43 : x0 = 214
  · rw [if_pos hc43] at hf
    refine lv_tableIn (off := 392) (tgt := 393) B.1 B.2.1 d_MC_to_1 (by rw [hc43]; decide +kernel) (by rw [hc43]; decide +kernel) (by rw [hc43]; decide +kernel) (by decide) ?_
    exact hb393  u _ _ _ hf hI (lv_sub hl [] rfl)
  rw [if_neg hc43] at hf
  by_cases hc44 : x0 = 215
  · rw [if_pos hc44] at hf
    refine lv_tableIn (off := 392) (tgt := 393) B.1 B.2.1 d_MC_to_1 (by rw [hc44]; decide +kernel) (by rw [hc44]; decide +kernel) (by rw [hc44]; decide +kernel) (by decide) ?_
    exact hb393  u _ _ _ hf hI (lv_sub hl [] rfl)
  rw [if_neg hc44] at hf
  by_cases hc45 : x0 = 216
  · rw [if_pos hc45] at hf
    refine lv_tableIn (off := 392) (tgt := 393) B.1 B.2.1 d_MC_to_1 (by rw [hc45]; decide +kernel) (by rw [hc45]; decide +kernel) (by rw [hc45]; decide +kernel) (by decide) ?_
    exact hb393  u _ _ _ hf hI (lv_sub hl [] rfl)
  rw [if_neg hc45] at hf
  by_cases hc46 : x0 = 217
  · rw [if_pos hc46] at hf
    refine lv_tableIn (off := 392) (tgt := 393) B.1 B.2.1 d_MC_to_1 (by rw [hc46]; decide +kernel) (by rw [hc46]; decide +kernel) (by rw [hc46]; decide +kernel) (by decide) ?_
    exact hb393  u _ _ _ hf hI (lv_sub hl [] rfl)
  rw [if_neg hc46] at hf
  by_cases hc47 : x0 = 218
  · rw [if_pos hc47] at hf
    refine lv_tableIn (off := 392) (tgt := 393) B.1 B.2.1 d_MC_to_1 (by rw [hc47]; decide +kernel) (by rw [hc47]; decide +kernel) (by rw [hc47]; decide +kernel) (by decide) ?_
    exact hb393  u _ _ _ hf hI (lv_sub hl [] rfl)
  rw [if_neg hc47] at hf
  by_cases hc48 : x0 = 219
  · rw [if_pos hc48] at hf
    refine lv_tableIn (off := 392) (tgt := 393) B.1 B.2.1 d_MC_to_1 (by rw [hc48]; decide +kernel) (by rw [hc48]; decide +kernel) (by rw [hc48]; decide +kernel) (by decide) ?_
    exact hb393  u _ _ _ hf hI (lv_sub hl [] rfl)
  rw [if_neg hc48] at hf
  by_cases hc49 : x0 = 220
  · rw [if_pos hc49] at hf
    refine lv_tableIn (off := 392) (tgt := 393) B.1 B.2.1 d_MC_to_1 (by rw [hc49]; decide +kernel) (by rw [hc49]; decide +kernel) (by rw [hc49]; decide +kernel) (by decide) ?_
    exact hb393  u _ _ _ hf hI (lv_sub hl [] rfl)
  rw [if_neg hc49] at hf
  by_cases hc50 : x0 = 221
  · rw [if_pos hc50] at hf
    refine lv_tableIn (off := 392) (tgt := 393) B.1 B.2.1 d_MC_to_1 (by rw [hc50]; decide +kernel) (by rw [hc50]; decide +kernel) (by rw [hc50]; decide +kernel) (by decide) ?_
    exact hb393  u _ _ _ hf hI (lv_sub hl [] rfl)
  rw [if_neg hc50] at hf
  by_cases hc51 : x0 = 222
  · rw [if_pos hc51] at hf
    refine lv_tableIn (off := 392) (tgt := 393) B.1 B.2.1 d_MC_to_1 (by rw [hc51]; decide +kernel) (by rw [hc51]; decide +kernel) (by rw [hc51]; decide +kernel) (by decide) ?_
    exact hb393  u _ _ _ hf hI (lv_sub hl [] rfl)
  rw [if_neg hc51] at hf
  by_cases hc52 : x0 = 223
  · rw [if_pos hc52] at hf
    refine lv_tableIn (off := 392) (tgt := 393) B.1 B.2.1 d_MC_to_1 (by rw [hc52]; decide +kernel) (by rw [hc52]; decide +kernel) (by rw [hc52]; decide +kernel) (by decide) ?_
    exact hb393  u _ _ _ hf hI (lv_sub hl [] rfl)
  rw [if_neg hc52] at hf
  by_cases hc53 : x0 = 224
  · rw [if_pos hc53] at hf
    refine lv_tableIn (off := 392) (tgt := 393) B.1 B.2.1 d_MC_to_1 (by rw [hc53]; decide +kernel) (by rw [hc53]; decide +kernel) (by rw [hc53]; decide +kernel) (by decide) ?_
    exact hb393  u _ _ _ hf hI (lv_sub hl [] rfl)
  rw [if_neg hc53] at hf
  by_cases hc54 : x0 = 225
  · rw [if_pos hc54] at hf
    refine lv_tableIn (off := 392) (tgt := 393) B.1 B.2.1 d_MC_to_1 (by rw [hc54]; decide +kernel) (by rw [hc54]; decide +kernel) (by rw [hc54]; decide +kernel) (by decide) ?_
    exact hb393  u _ _ _ hf hI (lv_sub hl [] rfl)
  rw [if_neg hc54] at hf
  by_cases hc55 : x0 = 226
  · rw [if_pos hc55] at hf
    refine lv_tableIn (off := 392) (tgt := 393) B.1 B.2.1 d_MC_to_1 (by rw [hc55]; decide +kernel) (by rw [hc55]; decide +kernel) (by rw [hc55]; decide +kernel) (by decide) ?_
    exact hb393  u _ _ _ hf hI (lv_sub hl [] rfl)
  rw [if_neg hc55] at hf
  by_cases hc56 : x0 = 227
  · rw [if_pos hc56] at hf
    refine lv_tableIn (off := 392) (tgt := 393) B.1 B.2.1 d_MC_to_1 (by rw [hc56]; decide +kernel) (by rw [hc56]; decide +kernel) (by rw [hc56]; decide +kernel) (by decide) ?_
    exact hb393  u _ _ _ hf hI (lv_sub hl [] rfl)
  rw [if_neg hc56] at hf
  by_cases hc57 : x0 = 228
  · rw [if_pos hc57] at hf
    refine lv_tableIn (off := 392) (tgt := 393) B.1 B.2.1 d_MC_to_1 (by rw [hc57]; decide +kernel) (by rw [hc57]; decide +kernel) (by rw [hc57]; decide +kernel) (by decide) ?_
    exact hb393  u _ _ _ hf hI (lv_sub hl [] rfl)
  rw [if_neg hc57] at hf
  by_cases hc58 : x0 = 229
  · rw [if_pos hc58] at hf
    refine lv_tableIn (off := 392) (tgt := 393) B.1 B.2.1 d_MC_to_1 (by rw [hc58]; decide +kernel) (by rw [hc58]; decide +kernel) (by rw [hc58]; decide +kernel) (by decide) ?_
    exact hb393  u _ _ _ hf hI (lv_sub hl [] rfl)
  rw [if_neg hc58] at hf
  by_cases hc59 : x0 = 230
  · rw [if_pos hc59] at hf
    refine lv_tableIn (off := 392) (tgt := 393) B.1 B.2.1 d_MC_to_1 (by rw [hc59]; decide +kernel) (by rw [hc59]; decide +kernel) (by rw [hc59]; decide +kernel) (by decide) ?_
    exact hb393  u _ _ _ hf hI (lv_sub hl [] rfl)
  rw [if_neg hc59] at hf
  by_cases hc60 : x0 = 231
  · rw [if_pos hc60] at hf
    refine lv_tableIn (off := 392) (tgt := 393) B.1 B.2.1 d_MC_to_1 (by rw [hc60]; decide +kernel) (by rw [hc60]; decide +kernel) (by rw [hc60]; decide +kernel) (by decide) ?_
    exact hb393  u _ _ _ hf hI (lv_sub hl [] rfl)
  rw [if_neg hc60] at hf
  by_cases hc61 : x0 = 232
  · rw [if_pos hc61] at hf
    refine lv_tableIn (off := 392) (tgt := 393) B.1 B.2.1 d_MC_to_1 (by rw [hc61]; decide +kernel) (by rw [hc61]; decide +kernel) (by rw [hc61]; decide +kernel) (by decide) ?_
    exact hb393  u _ _ _ hf hI (lv_sub hl [] rfl)
  rw [if_neg hc61] at hf
  by_cases hc62 : x0 = 233
  · rw [if_pos hc62] at hf
    refine lv_tableIn (off := 392) (tgt := 393) B.1 B.2.1 d_MC_to_1 (by rw [hc62]; decide +kernel) (by rw [hc62]; decide +kernel) (by rw [hc62]; decide +kernel) (by decide) ?_
    exact hb393  u _ _ _ hf hI (lv_sub hl [] rfl)
  rw [if_neg hc62] at hf
  by_cases hc63 : x0 = 234
  · rw [if_pos hc63] at hf
    refine lv_tableIn (off := 392) (tgt := 393) B.1 B.2.1 d_MC_to_1 (by rw [hc63]; decide +kernel) (by rw [hc63]; decide +kernel) (by rw [hc63]; decide +kernel) (by decide) ?_
    exact hb393  u _ _ _ hf hI (lv_sub hl [] rfl)
  rw [if_neg hc63] at hf
  by_cases hc64 : x0 = 235
  · rw [if_pos hc64] at hf
    refine lv_tableIn (off := 392) (tgt := 393) B.1 B.2.1 d_MC_to_1 (by rw [hc64]; decide +kernel) (by rw [hc64]; decide +kernel) (by rw [hc64]; decide +kernel) (by decide) ?_
    exact hb393  u _ _ _ hf hI (lv_sub hl [] rfl)
  rw [if_neg hc64] at hf
  by_cases hc65 : x0 = 236
  · rw [if_pos hc65] at hf
    refine lv_tableIn (off := 392) (tgt := 393) B.1 B.2.1 d_MC_to_1 (by rw [hc65]; decide +kernel) (by rw [hc65]; decide +kernel) (by rw [hc65]; decide +kernel) (by decide) ?_
    exact hb393  u _ _ _ hf hI (lv_sub hl [] rfl)
  rw [if_neg hc65] at hf
  by_cases hc66 : x0 = 237
  · rw [if_pos hc66] at hf
    refine lv_tableIn (off := 392) (tgt := 393) B.1 B.2.1 d_MC_to_1 (by rw [hc66]; decide +kernel) (by rw [hc66]; decide +kernel) (by rw [hc66]; decide +kernel) (by decide) ?_
    exact hb393  u _ _ _ hf hI (lv_sub hl [] rfl)
  rw [if_neg hc66] at hf
  by_cases hc67 : x0 = 238
  · rw [if_pos hc67] at hf
    refine lv_tableIn (off := 392) (tgt := 393) B.1 B.2.1 d_MC_to_1 (by rw [hc67]; decide +kernel) (by rw [hc67]; decide +kernel) (by rw [hc67]; decide +kernel) (by decide) ?_
    exact hb393  u _ _ _ hf hI (lv_sub hl [] rfl)
  rw [if_neg hc67] at hf
  by_cases hc68 : x0 = 239
  · rw [if_pos hc68] at hf
    refine lv_tableIn (off := 392) (tgt := 393) B.1 B.2.1 d_MC_to_1 (by rw [hc68]; decide +kernel) (by rw [hc68]; decide +kernel) (by rw [hc68]; decide +kernel) (by decide) ?_
    exact hb393  u _ _ _ hf hI (lv_sub hl [] rfl)
  rw [if_neg hc68] at hf
  by_cases hc69 : x0 = 240
  · rw [if_pos hc69] at hf
    refine lv_tableIn (off := 392) (tgt := 393) B.1 B.2.1 d_MC_to_1 (by rw [hc69]; decide +kernel) (by rw [hc69]; decide +kernel) (by rw [hc69]; decide +kernel) (by decide) ?_
    exact hb393  u _ _ _ hf hI (lv_sub hl [] rfl)
  rw [if_neg hc69] at hf
  by_cases hc70 : x0 = 241
  · rw [if_pos hc70] at hf
    refine lv_tableIn (off := 392) (tgt := 393) B.1 B.2.1 d_MC_to_1 (by rw [hc70]; decide +kernel) (by rw [hc70]; decide +kernel) (by rw [hc70]; decide +kernel) (by decide) ?_
    exact hb393  u _ _ _ hf hI (lv_sub hl [] rfl)
  rw [if_neg hc70] at hf
  by_cases hc71 : x0 = 242
  · rw [if_pos hc71] at hf
    refine lv_tableIn (off := 392) (tgt := 393) B.1 B.2.1 d_MC_to_1 (by rw [hc71]; decide +kernel) (by rw [hc71]; decide +kernel) (by rw [hc71]; decide +kernel) (by decide) ?_
    exact hb393  u _ _ _ hf hI (lv_sub hl [] rfl)
  rw [if_neg hc71] at hf
  by_cases hc72 : x0 = 243
  · rw [if_pos hc72] at hf
    refine lv_tableIn (off := 392) (tgt := 393) B.1 B.2.1 d_MC_to_1 (by rw [hc72]; decide +kernel) (by rw [hc72]; decide +kernel) (by rw [hc72]; decide +kernel) (by decide) ?_
    exact hb393  u _ _ _ hf hI (lv_sub hl [] rfl)
  rw [if_neg hc72] at hf
  by_cases hc73 : x0 = 244
  · rw [if_pos hc73] at hf
    refine lv_tableIn (off := 392) (tgt := 393) B.1 B.2.1 d_MC_to_1 (by rw [hc73]; decide +kernel) (by rw [hc73]; decide +kernel) (by rw [hc73]; decide +kernel) (by decide) ?_
    exact hb393  u _ _ _ hf hI (lv_sub hl [] rfl)
  rw [if_neg hc73] at hf
  by_cases hc74 : x0 = 245
  · rw [if_pos hc74] at hf
    refine lv_tableIn (off := 392) (tgt := 393) B.1 B.2.1 d_MC_to_1 (by rw [hc74]; decide +kernel) (by rw [hc74]; decide +kernel) (by rw [hc74]; decide +kernel) (by decide) ?_
    exact hb393  u _ _ _ hf hI (lv_sub hl [] rfl)
  rw [if_neg hc74] at hf
  by_cases hc75 : x0 = 246
  · rw [if_pos hc75] at hf
    refine lv_tableIn (off := 392) (tgt := 393) B.1 B.2.1 d_MC_to_1 (by rw [hc75]; decide +kernel) (by rw [hc75]; decide +kernel) (by rw [hc75]; decide +kernel) (by decide) ?_
    exact hb393  u _ _ _ hf hI (lv_sub hl [] rfl)
  rw [if_neg hc75] at hf
  by_cases hc76 : x0 = 247
  · rw [if_pos hc76] at hf
    refine lv_tableIn (off := 392) (tgt := 393) B.1 B.2.1 d_MC_to_1 (by rw [hc76]; decide +kernel) (by rw [hc76]; decide +kernel) (by rw [hc76]; decide +kernel) (by decide) ?_
    exact hb393  u _ _ _ hf hI (lv_sub hl [] rfl)
  rw [if_neg hc76] at hf
  by_cases hc77 : x0 = 248
  · rw [if_pos hc77] at hf
    refine lv_tableIn (off := 392) (tgt := 393) B.1 B.2.1 d_MC_to_1 (by rw [hc77]; decide +kernel) (by rw [hc77]; decide +kernel) (by rw [hc77]; decide +kernel) (by decide) ?_
    exact hb393  u _ _ _ hf hI (lv_sub hl [] rfl)
  rw [if_neg hc77] at hf
  by_cases hc78 : x0 = 249
  · rw [if_pos hc78] at hf
    refine lv_tableIn (off := 392) (tgt := 393) B.1 B.2.1 d_MC_to_1 (by rw [hc78]; decide +kernel) (by rw [hc78]; decide +kernel) (by rw [hc78]; decide +kernel) (by decide) ?_
    exact hb393  u _ _ _ hf hI (lv_sub hl [] rfl)
  rw [if_neg hc78] at hf
  by_cases hc79 : x0 = 250
  · rw [if_pos hc79] at hf
    refine lv_tableIn (off := 392) (tgt := 393) B.1 B.2.1 d_MC_to_1 (by rw [hc79]; decide +kernel) (by rw [hc79]; decide +kernel) (by rw [hc79]; decide +kernel) (by decide) ?_
    exact hb393  u _ _ _ hf hI (lv_sub hl [] rfl)
  rw [if_neg hc79] at hf
  by_cases hc80 : x0 = 251
  · rw [if_pos hc80] at hf
    refine lv_tableIn (off := 392) (tgt := 393) B.1 B.2.1 d_MC_to_1 (by rw [hc80]; decide +kernel) (by rw [hc80]; decide +kernel) (by rw [hc80]; decide +kernel) (by decide) ?_
    exact hb393  u _ _ _ hf hI (lv_sub hl [] rfl)
  rw [if_neg hc80] at hf
  by_cases hc81 : x0 = 252
  · rw [if_pos hc81] at hf
    refine lv_tableIn (off := 392) (tgt := 393) B.1 B.2.1 d_MC_to_1 (by rw [hc81]; decide +kernel) (by rw [hc81]; decide +kernel) (by rw [hc81]; decide +kernel) (by decide) ?_
    exact hb393  u _ _ _ hf hI (lv_sub hl [] rfl)
  rw [if_neg hc81] at hf
  by_cases hc82 : x0 = 253
  · rw [if_pos hc82] at hf
    refine lv_tableIn (off := 392) (tgt := 393) B.1 B.2.1 d_MC_to_1 (by rw [hc82]; decide +kernel) (by rw [hc82]; decide +kernel) (by rw [hc82]; decide +kernel) (by decide) ?_
    exact hb393  u _ _ _ hf hI (lv_sub hl [] rfl)
  rw [if_neg hc82] at hf
  by_cases hc83 : x0 = 254
  · rw [if_pos hc83] at hf
    refine lv_tableIn (off := 392) (tgt := 393) B.1 B.2.1 d_MC_to_1 (by rw [hc83]; decide +kernel) (by rw [hc83]; decide +kernel) (by rw [hc83]; decide +kernel) (by decide) ?_
    exact hb393  u _ _ _ hf hI (lv_sub hl [] rfl)
  rw [if_neg hc83] at hf
  by_cases hc84 : x0 = 255
  · rw [if_pos hc84] at hf
    refine lv_tableIn (off := 392) (tgt := 393) B.1 B.2.1 d_MC_to_1 (by rw [hc84]; decide +kernel) (by rw [hc84]; decide +kernel) (by rw [hc84]; decide +kernel) (by decide) ?_
    exact hb393  u _ _ _ hf hI (lv_sub hl [] rfl)
  rw [if_neg hc84] at hf
  by_cases hc85 : x0 = 256
  · rw [if_pos hc85] at hf
    refine lv_tableIn (off := 392) (tgt := 393) B.1 B.2.1 d_MC_to_1 (by rw [hc85]; decide +kernel) (by rw [hc85]; decide +kernel) (by rw [hc85]; decide +kernel) (by decide) ?_
    exact hb393  u _ _ _ hf hI (lv_sub hl [] rfl)
  rw [if_neg hc85] at hf
  by_cases hc86 : x0 = 257
  · rw [if_pos hc86] at hf
    refine lv_tableIn (off := 392) (tgt := 393) B.1 B.2.1 d_MC_to_1 (by rw [hc86]; decide +kernel) (by rw [hc86]; decide +kernel) (by rw [hc86]; decide +kernel) (by decide) ?_
    exact hb393  u _ _ _ hf hI (lv_sub hl [] rfl)
  rw [if_neg hc86] at hf
  by_cases hc87 : x0 = 258
  · rw [if_pos hc87] at hf
    refine lv_tableIn (off := 392) (tgt := 393) B.1 B.2.1 d_MC_to_1 (by rw [hc87]; decide +kernel) (by rw [hc87]; decide +kernel) (by rw [hc87]; decide +kernel) (by decide) ?_
    exact hb393  u _ _ _ hf hI (lv_sub hl [] rfl)
  rw [if_neg hc87] at hf
  by_cases hc88 : x0 = 259
  · rw [if_pos hc88] at hf
    refine lv_tableIn (off := 392) (tgt := 393) B.1 B.2.1 d_MC_to_1 (by rw [hc88]; decide +kernel) (by rw [hc88]; decide +kernel) (by rw [hc88]; decide +kernel) (by decide) ?_
    exact hb393  u _ _ _ hf hI (lv_sub hl [] rfl)
  rw [if_neg hc88] at hf
  by_cases hc89 : x0 = 260
  · rw [if_pos hc89] at hf
    refine lv_tableIn (off := 383) (tgt := 384) B.1 B.2.1 d_MC_to_1 (by rw [hc89]; decide +kernel) (by rw [hc89]; decide +kernel) (by rw [hc89]; decide +kernel) (by decide) ?_
    exact hb384  u _ _ _ hf hI (lv_sub hl [] rfl)
  rw [if_neg hc89] at hf
  by_cases hc90 : x0 = 261
  · rw [if_pos hc90] at hf
    refine lv_tableIn (off := 383) (tgt := 384) B.1 B.2.1 d_MC_to_1 (by rw [hc90]; decide +kernel) (by rw [hc90]; decide +kernel) (by rw [hc90]; decide +kernel) (by decide) ?_
    exact hb384  u _ _ _ hf hI (lv_sub hl [] rfl)
  rw [if_neg hc90] at hf
  by_cases hc91 : x0 = 262
  · rw [if_pos hc91] at hf
    refine lv_tableIn (off := 383) (tgt := 384) B.1 B.2.1 d_MC_to_1 (by rw [hc91]; decide +kernel) (by rw [hc91]; decide +kernel) (by rw [hc91]; decide +kernel) (by decide) ?_
    exact hb384  u _ _ _ hf hI (lv_sub hl [] rfl)
  rw [if_neg hc91] at hf
  by_cases hc92 : x0 = 263
  · rw [if_pos hc92] at hf
    refine lv_tableIn (off := 383) (tgt := 384) B.1 B.2.1 d_MC_to_1 (by rw [hc92]; decide +kernel) (by rw [hc92]; decide +kernel) (by rw [hc92]; decide +kernel) (by decide) ?_
    exact hb384  u _ _ _ hf hI (lv_sub hl [] rfl)
  rw [if_neg hc92] at hf
  have ghc1 := lv_neT (a := 172) hc1 (by decide)
  have ghc2 := lv_neT (a := 173) hc2 (by decide)
  have ghc3 := lv_neT (a := 174) hc3 (by decide)
  have ghc4 := lv_neT (a := 175) hc4 (by decide)
  have ghc5 := lv_neT (a := 176) hc5 (by decide)
  have ghc6 := lv_neT (a := 177) hc6 (by decide)
  have ghc7 := lv_neT (a := 178) hc7 (by decide)
  have ghc8 := lv_neT (a := 179) hc8 (by decide)
  have ghc9 := lv_neT (a := 180) hc9 (by decide)
  have ghc10 := lv_neT (a := 181) hc10 (by decide)
  have ghc11 := lv_neT (a := 182) hc11 (by decide)
  have ghc12 := lv_neT (a := 183) hc12 (by decide)
  have ghc13 := lv_neT (a := 184) hc13 (by decide)
  have ghc14 := lv_neT (a := 185) hc14 (by decide)
  have ghc15 := lv_neT (a := 186) hc15 (by decide)
  have ghc16 := lv_neT (a := 187) hc16 (by decide)
  have ghc17 := lv_neT (a := 188) hc17 (by decide)
  have ghc18 := lv_neT (a := 189) hc18 (by decide)
  have ghc19 := lv_neT (a := 190) hc19 (by decide)
  have ghc20 := lv_neT (a := 191) hc20 (by decide)
  have ghc21 := lv_neT (a := 192) hc21 (by decide)
  have ghc22 := lv_neT (a := 193) hc22 (by decide)
  have ghc23 := lv_neT (a := 194) hc23 (by decide)
  have ghc24 := lv_neT (a := 195) hc24 (by decide)
  have ghc25 := lv_neT (a := 196) hc25 (by decide)
  have ghc26 := lv_neT (a := 197) hc26 (by decide)
  have ghc27 := lv_neT (a := 198) hc27 (by decide)
  have ghc28 := lv_neT (a := 199) hc28 (by decide)
  have ghc29 := lv_neT (a := 200) hc29 (by decide)
  have ghc30 := lv_neT (a := 201) hc30 (by decide)
  have ghc31 := lv_neT (a := 202) hc31 (by decide)
  have ghc32 := lv_neT (a := 203) hc32 (by decide)
  have ghc33 := lv_neT (a := 204) hc33 (by decide)
  have ghc34 := lv_neT (a := 205) hc34 (by decide)
  have ghc35 := lv_neT (a := 206) hc35 (by decide)
  have ghc36 := lv_neT (a := 207) hc36 (by decide)
  have ghc37 := lv_neT (a := 208) hc37 (by decide)
  have ghc38 := lv_neT (a := 209) hc38 (by decide)
  have ghc39 := lv_neT (a := 210) hc39 (by decide)
  have ghc40 := lv_neT (a := 211) hc40 (by decide)
  have ghc41 := lv_neT (a := 212) hc41 (by decide)
  have ghc42 := lv_neT (a := 213) hc42 (by decide)
  have ghc43 := lv_neT (a := 214) hc43 (by decide)
  have ghc44 := lv_neT (a := 215) hc44 (by decide)
  have ghc45 := lv_neT (a := 216) hc45 (by decide)
  have ghc46 := lv_neT (a := 217) hc46 (by decide)
  have ghc47 := lv_neT (a := 218) hc47 (by decide)
  have ghc48 := lv_neT (a := 219) hc48 (by decide)
  have ghc49 := lv_neT (a := 220) hc49 (by decide)
  have ghc50 := lv_neT (a := 221) hc50 (by decide)
  have ghc51 := lv_neT (a := 222) hc51 (by decide)
  have ghc52 := lv_neT (a := 223) hc52 (by decide)
  have ghc53 := lv_neT (a := 224) hc53 (by decide)
  have ghc54 := lv_neT (a := 225) hc54 (by decide)
  have ghc55 := lv_neT (a := 226) hc55 (by decide)
  have ghc56 := lv_neT (a := 227) hc56 (by decide)
  have ghc57 := lv_neT (a := 228) hc57 (by decide)
  have ghc58 := lv_neT (a := 229) hc58 (by decide)
  have ghc59 := lv_neT (a := 230) hc59 (by decide)
  have ghc60 := lv_neT (a := 231) hc60 (by decide)
  have ghc61 := lv_neT (a := 232) hc61 (by decide)
  have ghc62 := lv_neT (a := 233) hc62 (by decide)
  have ghc63 := lv_neT (a := 234) hc63 (by decide)
  have ghc64 := lv_neT (a := 235) hc64 (by decide)
  have ghc65 := lv_neT (a := 236) hc65 (by decide)
  have ghc66 := lv_neT (a := 237) hc66 (by decide)
  have ghc67 := lv_neT (a := 238) hc67 (by decide)
  have ghc68 := lv_neT (a := 239) hc68 (by decide)
  have ghc69 := lv_neT (a := 240) hc69 (by decide)
  have ghc70 := lv_neT (a := 241) hc70 (by decide)
  have ghc71 := lv_neT (a := 242) hc71 (by decide)
  have ghc72 := lv_neT (a := 243) hc72 (by decide)
  have ghc73 := lv_neT (a := 244) hc73 (by decide)
  have ghc74 := lv_neT (a := 245) hc74 (by decide)
  have ghc75 := lv_neT (a := 246) hc75 (by decide)
  have ghc76 := lv_neT (a := 247) hc76 (by decide)
  have ghc77 := lv_neT (a := 248) hc77 (by decide)
  have ghc78 := lv_neT (a := 249) hc78 (by decide)
  have ghc79 := lv_neT (a := 250) hc79 (by decide)
  have ghc80 := lv_neT (a := 251) hc80 (by decide)
  have ghc81 := lv_neT (a := 252) hc81 (by decide)
  have ghc82 := lv_neT (a := 253) hc82 (by decide)
  have ghc83 := lv_neT (a := 254) hc83 (by decide)
  have ghc84 := lv_neT (a := 255) hc84 (by decide)
  have ghc85 := lv_neT (a := 256) hc85 (by decide)
  have ghc86 := lv_neT (a := 257) hc86 (by decide)
  have ghc87 := lv_neT (a := 258) hc87 (by decide)
  have ghc88 := lv_neT (a := 259) hc88 (by decide)
  have ghc89 := lv_neT (a := 260) hc89 (by decide)
  have ghc90 := lv_neT (a := 261) hc90 (by decide)
  have ghc91 := lv_neT (a := 262) hc91 (by decide)
  have ghc92 := lv_neT (a := 263) hc92 (by decide)
  refine lv_tableOut (tgt := 393) B.1 B.2.1 d_MC_to_1 (by omega) (by decide) ?_
  exact hb393  u _ _ _ hf hI (lv_sub hl [] rfl)
set_option maxHeartbeats 4000000 in
set_option maxRecDepth 100000 in
theorem zc_MMC_number_0 (l : Launch) (D : va_G) (z : zZ) (a : Nat → Nat) (N : Nat) (x1 : Int32) (u : zU) (r : Unit) (u1 : zU) (hf : zf_MMC_number_0 N x1 u = some (r, u1)) : zMet l D z y_MC_number (.code y_MC_number b_MC_number 2 none) { frames := 4, cells := 0, slots := 0, locals := 87 } [.ref (a 0), .int x1] (wM a z u) (zQv D (wM a z u1)) := by
  refine zM_v (own := R_MC) [.ref (a 0), .int x1] (wM a z u) (wM a z u1) (by decide) rfl (Nat.le_of_ble_eq_true rfl) ?_
  intro p e s m args below meth c A ls B hr hlk hI hl
  have hl : lv_has ls 2 [(0, .ref (a 0)), (1, .int x1)] := hl
  revert hf
  revert hI hl
  have hb223 : ∀  (u : zU) (H : Heap) (locs : List Loc) (ls : Array Slot), zf_MMC_number_0_b223 N   u = some (r, u1) → iw D A s (wM a z u) H locs → lv_has ls 2 [] → W p l e ({ frames := 4, cells := 0, slots := 0, locals := 87 } : Room) s m args below meth c H locs 0 0 (MQ below (zQv D (wM a z u1) A) args s 0 0 A) (F0 m 223 ls []) := by
    intro  u H locs ls hf hI hl
    unfold zf_MMC_number_0_b223 at hf
    obtain ⟨e1, e2⟩ := zrt hf
    exact zr_v (wM a z) B hI hr hlk e2 d_MC_number_223
  have hb203 : ∀ (s0 : Int32) (u : zU) (H : Heap) (locs : List Loc) (ls : Array Slot), zf_MMC_number_0_b203 N  s0 u = some (r, u1) → iw D A s (wM a z u) H locs → lv_has ls 2 [] → W p l e ({ frames := 4, cells := 0, slots := 0, locals := 87 } : Room) s m args below meth c H locs 0 0 (MQ below (zQv D (wM a z u1) A) args s 0 0 A) (F0 m 203 ls [.int s0, .ref (a 0)]) := by
    intro s0 u H locs ls hf hI hl
    unfold zf_MMC_number_0_b203 at hf
    refine lv_bipush (v := 124) B.1 B.2.1 d_MC_number_203 (by decide) ?_
    obtain ⟨r1, u2, h3, hf⟩ := zbd_some hf
    refine rx_Vv (n := 2) (As := [.int s0, .int 124]) (rest := []) B hI hl.1 (zc_MMC_calculate_0 l D z a N s0 124 u r1 u2 h3) zw_621 zw_623 zw_624 zw_399 zw_622 (by decide +kernel) 0 (wM_at_0 a z u) hcl_MC rfl rfl (Nat.le_of_ble_eq_true rfl) d_MC_number_205 ⟨Nat.le_of_ble_eq_true rfl, Nat.le_of_ble_eq_true rfl⟩ rfl rfl ⟨Nat.zero_le _, Nat.zero_le _⟩ (fun H locs hI => ?_)
    refine lv_goto (tgt := 223) B.1 B.2.1 d_MC_number_208 (by decide) ?_
    exact hb223  u2 _ _ _ hf hI (lv_sub hl [] rfl)
  have hb175 : ∀ (s0 : Int32) (u : zU) (H : Heap) (locs : List Loc) (ls : Array Slot), zf_MMC_number_0_b175 N  s0 u = some (r, u1) → iw D A s (wM a z u) H locs → lv_has ls 2 [] → W p l e ({ frames := 4, cells := 0, slots := 0, locals := 87 } : Room) s m args below meth c H locs 0 0 (MQ below (zQv D (wM a z u1) A) args s 0 0 A) (F0 m 175 ls [.int s0, .ref (a 0)]) := by
    intro s0 u H locs ls hf hI hl
    unfold zf_MMC_number_0_b175 at hf
    refine lv_bipush (v := 125) B.1 B.2.1 d_MC_number_175 (by decide) ?_
    obtain ⟨r1, u2, h3, hf⟩ := zbd_some hf
    refine rx_Vv (n := 2) (As := [.int s0, .int 125]) (rest := []) B hI hl.1 (zc_MMC_calculate_0 l D z a N s0 125 u r1 u2 h3) zw_621 zw_623 zw_624 zw_399 zw_622 (by decide +kernel) 0 (wM_at_0 a z u) hcl_MC rfl rfl (Nat.le_of_ble_eq_true rfl) d_MC_number_177 ⟨Nat.le_of_ble_eq_true rfl, Nat.le_of_ble_eq_true rfl⟩ rfl rfl ⟨Nat.zero_le _, Nat.zero_le _⟩ (fun H locs hI => ?_)
    refine lv_goto (tgt := 223) B.1 B.2.1 d_MC_number_180 (by decide) ?_
    exact hb223  u2 _ _ _ hf hI (lv_sub hl [] rfl)
  have hb147 : ∀ (s0 : Int32) (u : zU) (H : Heap) (locs : List Loc) (ls : Array Slot), zf_MMC_number_0_b147 N  s0 u = some (r, u1) → iw D A s (wM a z u) H locs → lv_has ls 2 [] → W p l e ({ frames := 4, cells := 0, slots := 0, locals := 87 } : Room) s m args below meth c H locs 0 0 (MQ below (zQv D (wM a z u1) A) args s 0 0 A) (F0 m 147 ls [.int s0, .ref (a 0)]) := by
    intro s0 u H locs ls hf hI hl
    unfold zf_MMC_number_0_b147 at hf
    refine lv_bipush (v := 126) B.1 B.2.1 d_MC_number_147 (by decide) ?_
    obtain ⟨r1, u2, h3, hf⟩ := zbd_some hf
    refine rx_Vv (n := 2) (As := [.int s0, .int 126]) (rest := []) B hI hl.1 (zc_MMC_calculate_0 l D z a N s0 126 u r1 u2 h3) zw_621 zw_623 zw_624 zw_399 zw_622 (by decide +kernel) 0 (wM_at_0 a z u) hcl_MC rfl rfl (Nat.le_of_ble_eq_true rfl) d_MC_number_149 ⟨Nat.le_of_ble_eq_true rfl, Nat.le_of_ble_eq_true rfl⟩ rfl rfl ⟨Nat.zero_le _, Nat.zero_le _⟩ (fun H locs hI => ?_)
    refine lv_goto (tgt := 223) B.1 B.2.1 d_MC_number_152 (by decide) ?_
    exact hb223  u2 _ _ _ hf hI (lv_sub hl [] rfl)
  have hb120 : ∀ (s0 : Int32) (u : zU) (H : Heap) (locs : List Loc) (ls : Array Slot), zf_MMC_number_0_b120 N  s0 u = some (r, u1) → iw D A s (wM a z u) H locs → lv_has ls 2 [] → W p l e ({ frames := 4, cells := 0, slots := 0, locals := 87 } : Room) s m args below meth c H locs 0 0 (MQ below (zQv D (wM a z u1) A) args s 0 0 A) (F0 m 120 ls [.int s0, .ref (a 0)]) := by
    intro s0 u H locs ls hf hI hl
    unfold zf_MMC_number_0_b120 at hf
    refine lv_bipush (v := 127) B.1 B.2.1 d_MC_number_120 (by decide) ?_
    obtain ⟨r1, u2, h3, hf⟩ := zbd_some hf
    refine rx_Vv (n := 2) (As := [.int s0, .int 127]) (rest := []) B hI hl.1 (zc_MMC_calculate_0 l D z a N s0 127 u r1 u2 h3) zw_621 zw_623 zw_624 zw_399 zw_622 (by decide +kernel) 0 (wM_at_0 a z u) hcl_MC rfl rfl (Nat.le_of_ble_eq_true rfl) d_MC_number_122 ⟨Nat.le_of_ble_eq_true rfl, Nat.le_of_ble_eq_true rfl⟩ rfl rfl ⟨Nat.zero_le _, Nat.zero_le _⟩ (fun H locs hI => ?_)
    refine lv_goto (tgt := 223) B.1 B.2.1 d_MC_number_125 (by decide) ?_
    exact hb223  u2 _ _ _ hf hI (lv_sub hl [] rfl)
  intro hI hl hf
  unfold zf_MMC_number_0 at hf
  refine lv_iload_n B.1 B.2.1 d_MC_number_0 rfl (lv_at hl 1 rfl) ?_
  refine lv_bipush (v := 69) B.1 B.2.1 d_MC_number_1 (by decide) ?_
  refine lv_icmp_ne (tgt := 17) B.1 B.2.1 d_MC_number_3 (by decide) (fun hc1 => ?_) (fun hc1 => ?_)
  · rw [if_neg hc1] at hf
    refine lv_iload_n B.1 B.2.1 d_MC_number_17 rfl (lv_at hl 1 rfl) ?_
    refine lv_bipush (v := 80) B.1 B.2.1 d_MC_number_18 (by decide) ?_
    refine lv_icmp_ge (tgt := 34) B.1 B.2.1 d_MC_number_20 (by decide) (fun hc2 => ?_) (fun hc2 => ?_)
    · rw [if_pos hc2] at hf
      refine lv_iload_n B.1 B.2.1 d_MC_number_34 rfl (lv_at hl 1 rfl) ?_
      refine lv_bipush (v := 80) B.1 B.2.1 d_MC_number_35 (by decide) ?_
      refine lv_icmp_ne (tgt := 51) B.1 B.2.1 d_MC_number_37 (by decide) (fun hc3 => ?_) (fun hc3 => ?_)
      · rw [if_neg hc3] at hf
        refine lv_iload_n B.1 B.2.1 d_MC_number_51 rfl (lv_at hl 1 rfl) ?_
        refine lv_bipush (v := 91) B.1 B.2.1 d_MC_number_52 (by decide) ?_
        refine lv_icmp_ge (tgt := 68) B.1 B.2.1 d_MC_number_54 (by decide) (fun hc4 => ?_) (fun hc4 => ?_)
        · rw [if_pos hc4] at hf
          refine lv_iload_n B.1 B.2.1 d_MC_number_68 rfl (lv_at hl 1 rfl) ?_
          refine lv_bipush (v := 97) B.1 B.2.1 d_MC_number_69 (by decide) ?_
          refine lv_icmp_ge (tgt := 85) B.1 B.2.1 d_MC_number_71 (by decide) (fun hc5 => ?_) (fun hc5 => ?_)
          · rw [if_pos hc5] at hf
            refine lv_iload_n B.1 B.2.1 d_MC_number_85 rfl (lv_at hl 1 rfl) ?_
            refine lv_bipush (v := 103) B.1 B.2.1 d_MC_number_86 (by decide) ?_
            refine lv_icmp_ge (tgt := 102) B.1 B.2.1 d_MC_number_88 (by decide) (fun hc6 => ?_) (fun hc6 => ?_)
            · rw [if_pos hc6] at hf
              refine lv_iload_n B.1 B.2.1 d_MC_number_102 rfl (lv_at hl 1 rfl) ?_
              refine lv_bipush (v := 121) B.1 B.2.1 d_MC_number_103 (by decide) ?_
              refine lv_icmp_ge (tgt := 128) B.1 B.2.1 d_MC_number_105 (by decide) (fun hc7 => ?_) (fun hc7 => ?_)
              · rw [if_pos hc7] at hf
                refine lv_iload_n B.1 B.2.1 d_MC_number_128 rfl (lv_at hl 1 rfl) ?_
                refine lv_sipush (v := 139) B.1 B.2.1 d_MC_number_129 (by decide) ?_
                refine lv_icmp_ge (tgt := 155) B.1 B.2.1 d_MC_number_132 (by decide) (fun hc8 => ?_) (fun hc8 => ?_)
                · rw [if_pos hc8] at hf
                  refine lv_iload_n B.1 B.2.1 d_MC_number_155 rfl (lv_at hl 1 rfl) ?_
                  refine lv_sipush (v := 153) B.1 B.2.1 d_MC_number_156 (by decide) ?_
                  refine lv_icmp_ge (tgt := 183) B.1 B.2.1 d_MC_number_159 (by decide) (fun hc9 => ?_) (fun hc9 => ?_)
                  · rw [if_pos hc9] at hf
                    refine lv_iload_n B.1 B.2.1 d_MC_number_183 rfl (lv_at hl 1 rfl) ?_
                    refine lv_sipush (v := 167) B.1 B.2.1 d_MC_number_184 (by decide) ?_
                    refine lv_icmp_ge (tgt := 211) B.1 B.2.1 d_MC_number_187 (by decide) (fun hc10 => ?_) (fun hc10 => ?_)
                    · rw [if_pos hc10] at hf
                      refine lv_aload_n B.1 B.2.1 d_MC_number_211 rfl (lv_at hl 0 rfl) ?_
                      refine lv_iload_n B.1 B.2.1 d_MC_number_212 rfl (lv_at hl 1 rfl) ?_
                      obtain ⟨r11, u12, h13, hf⟩ := zbd_some hf
                      refine rx_Si (n := 1) (As := [.int x1]) (rest := [.ref (a 0)]) B hI hl.1 (zc_MMC_from l D z a N x1 u r11 u12 h13) zw_625 zw_627 zw_399 zw_626 (by decide +kernel) rfl rfl (Nat.le_of_ble_eq_true rfl) d_MC_number_213 ⟨Nat.le_of_ble_eq_true rfl, Nat.le_of_ble_eq_true rfl⟩ rfl rfl ⟨Nat.zero_le _, Nat.zero_le _⟩ (fun H locs hI => ?_)
                      refine lv_iload_n B.1 B.2.1 d_MC_number_216 rfl (lv_at hl 1 rfl) ?_
                      obtain ⟨r14, u15, h16, hf⟩ := zbd_some hf
                      refine rx_Si (n := 1) (As := [.int x1]) (rest := [.int r11, .ref (a 0)]) B hI hl.1 (zc_MMC_to l D z a N x1 u12 r14 u15 h16) zw_628 zw_630 zw_399 zw_629 (by decide +kernel) rfl rfl (Nat.le_of_ble_eq_true rfl) d_MC_number_217 ⟨Nat.le_of_ble_eq_true rfl, Nat.le_of_ble_eq_true rfl⟩ rfl rfl ⟨Nat.zero_le _, Nat.zero_le _⟩ (fun H locs hI => ?_)
                      obtain ⟨r17, u18, h19, hf⟩ := zbd_some hf
                      refine rx_Vv (n := 2) (As := [.int r11, .int r14]) (rest := []) B hI hl.1 (zc_MMC_one_0 l D z a N r11 r14 u15 r17 u18 h19) zw_589 zw_591 zw_592 zw_399 zw_590 (by decide +kernel) 0 (wM_at_0 a z u15) hcl_MC rfl rfl (Nat.le_of_ble_eq_true rfl) d_MC_number_220 ⟨Nat.le_of_ble_eq_true rfl, Nat.le_of_ble_eq_true rfl⟩ rfl rfl ⟨Nat.zero_le _, Nat.zero_le _⟩ (fun H locs hI => ?_)
                      exact hb223  u18 _ _ _ hf hI (lv_sub hl [] rfl)
                    · rw [if_neg hc10] at hf
                      refine lv_aload_n B.1 B.2.1 d_MC_number_190 rfl (lv_at hl 0 rfl) ?_
                      refine lv_iload_n B.1 B.2.1 d_MC_number_191 rfl (lv_at hl 1 rfl) ?_
                      refine lv_sipush (v := 160) B.1 B.2.1 d_MC_number_192 (by decide) ?_
                      refine lv_icmp_ge (tgt := 202) B.1 B.2.1 d_MC_number_195 (by decide) (fun hc20 => ?_) (fun hc20 => ?_)
                      · rw [if_pos hc20] at hf
                        refine lv_iconst (v := 0) B.1 B.2.1 d_MC_number_202 (by decide) ?_
                        exact hb203 0 u _ _ _ hf hI (lv_sub hl [] rfl)
                      · rw [if_neg hc20] at hf
                        refine lv_iconst (v := 1) B.1 B.2.1 d_MC_number_198 (by decide) ?_
                        refine lv_goto (tgt := 203) B.1 B.2.1 d_MC_number_199 (by decide) ?_
                        exact hb203 1 u _ _ _ hf hI (lv_sub hl [] rfl)
                  · rw [if_neg hc9] at hf
                    refine lv_aload_n B.1 B.2.1 d_MC_number_162 rfl (lv_at hl 0 rfl) ?_
                    refine lv_iload_n B.1 B.2.1 d_MC_number_163 rfl (lv_at hl 1 rfl) ?_
                    refine lv_sipush (v := 146) B.1 B.2.1 d_MC_number_164 (by decide) ?_
                    refine lv_icmp_ge (tgt := 174) B.1 B.2.1 d_MC_number_167 (by decide) (fun hc21 => ?_) (fun hc21 => ?_)
                    · rw [if_pos hc21] at hf
                      refine lv_iconst (v := 0) B.1 B.2.1 d_MC_number_174 (by decide) ?_
                      exact hb175 0 u _ _ _ hf hI (lv_sub hl [] rfl)
                    · rw [if_neg hc21] at hf
                      refine lv_iconst (v := 1) B.1 B.2.1 d_MC_number_170 (by decide) ?_
                      refine lv_goto (tgt := 175) B.1 B.2.1 d_MC_number_171 (by decide) ?_
                      exact hb175 1 u _ _ _ hf hI (lv_sub hl [] rfl)
                · rw [if_neg hc8] at hf
                  refine lv_aload_n B.1 B.2.1 d_MC_number_135 rfl (lv_at hl 0 rfl) ?_
                  refine lv_iload_n B.1 B.2.1 d_MC_number_136 rfl (lv_at hl 1 rfl) ?_
                  refine lv_bipush (v := 124) B.1 B.2.1 d_MC_number_137 (by decide) ?_
                  refine lv_icmp_ge (tgt := 146) B.1 B.2.1 d_MC_number_139 (by decide) (fun hc22 => ?_) (fun hc22 => ?_)
                  · rw [if_pos hc22] at hf
                    refine lv_iconst (v := 0) B.1 B.2.1 d_MC_number_146 (by decide) ?_
                    exact hb147 0 u _ _ _ hf hI (lv_sub hl [] rfl)
                  · rw [if_neg hc22] at hf
                    refine lv_iconst (v := 1) B.1 B.2.1 d_MC_number_142 (by decide) ?_
                    refine lv_goto (tgt := 147) B.1 B.2.1 d_MC_number_143 (by decide) ?_
                    exact hb147 1 u _ _ _ hf hI (lv_sub hl [] rfl)
              · rw [if_neg hc7] at hf
                refine lv_aload_n B.1 B.2.1 d_MC_number_108 rfl (lv_at hl 0 rfl) ?_
                refine lv_iload_n B.1 B.2.1 d_MC_number_109 rfl (lv_at hl 1 rfl) ?_
                refine lv_bipush (v := 106) B.1 B.2.1 d_MC_number_110 (by decide) ?_
                refine lv_icmp_ge (tgt := 119) B.1 B.2.1 d_MC_number_112 (by decide) (fun hc23 => ?_) (fun hc23 => ?_)
                · rw [if_pos hc23] at hf
                  refine lv_iconst (v := 0) B.1 B.2.1 d_MC_number_119 (by decide) ?_
                  exact hb120 0 u _ _ _ hf hI (lv_sub hl [] rfl)
                · rw [if_neg hc23] at hf
                  refine lv_iconst (v := 1) B.1 B.2.1 d_MC_number_115 (by decide) ?_
                  refine lv_goto (tgt := 120) B.1 B.2.1 d_MC_number_116 (by decide) ?_
                  exact hb120 1 u _ _ _ hf hI (lv_sub hl [] rfl)
            · rw [if_neg hc6] at hf
              refine lv_aload_n B.1 B.2.1 d_MC_number_91 rfl (lv_at hl 0 rfl) ?_
              refine lv_bipush (v := 124) B.1 B.2.1 d_MC_number_92 (by decide) ?_
              refine lv_bipush (v := 127) B.1 B.2.1 d_MC_number_94 (by decide) ?_
              obtain ⟨r24, u25, h26, hf⟩ := zbd_some hf
              refine rx_Vv (n := 2) (As := [.int 124, .int 127]) (rest := []) B hI hl.1 (zc_MMC_two_0 l D z a N 124 127 u r24 u25 h26) zw_597 zw_599 zw_600 zw_399 zw_598 (by decide +kernel) 0 (wM_at_0 a z u) hcl_MC rfl rfl (Nat.le_of_ble_eq_true rfl) d_MC_number_96 ⟨Nat.le_of_ble_eq_true rfl, Nat.le_of_ble_eq_true rfl⟩ rfl rfl ⟨Nat.zero_le _, Nat.zero_le _⟩ (fun H locs hI => ?_)
              refine lv_goto (tgt := 223) B.1 B.2.1 d_MC_number_99 (by decide) ?_
              exact hb223  u25 _ _ _ hf hI (lv_sub hl [] rfl)
          · rw [if_neg hc5] at hf
            refine lv_aload_n B.1 B.2.1 d_MC_number_74 rfl (lv_at hl 0 rfl) ?_
            refine lv_bipush (v := 125) B.1 B.2.1 d_MC_number_75 (by decide) ?_
            refine lv_bipush (v := 127) B.1 B.2.1 d_MC_number_77 (by decide) ?_
            obtain ⟨r27, u28, h29, hf⟩ := zbd_some hf
            refine rx_Vv (n := 2) (As := [.int 125, .int 127]) (rest := []) B hI hl.1 (zc_MMC_two_0 l D z a N 125 127 u r27 u28 h29) zw_597 zw_599 zw_600 zw_399 zw_598 (by decide +kernel) 0 (wM_at_0 a z u) hcl_MC rfl rfl (Nat.le_of_ble_eq_true rfl) d_MC_number_79 ⟨Nat.le_of_ble_eq_true rfl, Nat.le_of_ble_eq_true rfl⟩ rfl rfl ⟨Nat.zero_le _, Nat.zero_le _⟩ (fun H locs hI => ?_)
            refine lv_goto (tgt := 223) B.1 B.2.1 d_MC_number_82 (by decide) ?_
            exact hb223  u28 _ _ _ hf hI (lv_sub hl [] rfl)
        · rw [if_neg hc4] at hf
          refine lv_aload_n B.1 B.2.1 d_MC_number_57 rfl (lv_at hl 0 rfl) ?_
          refine lv_bipush (v := 126) B.1 B.2.1 d_MC_number_58 (by decide) ?_
          refine lv_bipush (v := 127) B.1 B.2.1 d_MC_number_60 (by decide) ?_
          obtain ⟨r30, u31, h32, hf⟩ := zbd_some hf
          refine rx_Vv (n := 2) (As := [.int 126, .int 127]) (rest := []) B hI hl.1 (zc_MMC_two_0 l D z a N 126 127 u r30 u31 h32) zw_597 zw_599 zw_600 zw_399 zw_598 (by decide +kernel) 0 (wM_at_0 a z u) hcl_MC rfl rfl (Nat.le_of_ble_eq_true rfl) d_MC_number_62 ⟨Nat.le_of_ble_eq_true rfl, Nat.le_of_ble_eq_true rfl⟩ rfl rfl ⟨Nat.zero_le _, Nat.zero_le _⟩ (fun H locs hI => ?_)
          refine lv_goto (tgt := 223) B.1 B.2.1 d_MC_number_65 (by decide) ?_
          exact hb223  u31 _ _ _ hf hI (lv_sub hl [] rfl)
      · rw [if_pos hc3] at hf
        refine lv_aload_n B.1 B.2.1 d_MC_number_40 rfl (lv_at hl 0 rfl) ?_
        refine lv_bipush (v := 126) B.1 B.2.1 d_MC_number_41 (by decide) ?_
        refine lv_bipush (v := 127) B.1 B.2.1 d_MC_number_43 (by decide) ?_
        obtain ⟨r33, u34, h35, hf⟩ := zbd_some hf
        refine rx_Vv (n := 2) (As := [.int 126, .int 127]) (rest := []) B hI hl.1 (zc_MMC_one_0 l D z a N 126 127 u r33 u34 h35) zw_589 zw_591 zw_592 zw_399 zw_590 (by decide +kernel) 0 (wM_at_0 a z u) hcl_MC rfl rfl (Nat.le_of_ble_eq_true rfl) d_MC_number_45 ⟨Nat.le_of_ble_eq_true rfl, Nat.le_of_ble_eq_true rfl⟩ rfl rfl ⟨Nat.zero_le _, Nat.zero_le _⟩ (fun H locs hI => ?_)
        refine lv_goto (tgt := 223) B.1 B.2.1 d_MC_number_48 (by decide) ?_
        exact hb223  u34 _ _ _ hf hI (lv_sub hl [] rfl)
    · rw [if_neg hc2] at hf
      refine lv_aload_n B.1 B.2.1 d_MC_number_23 rfl (lv_at hl 0 rfl) ?_
      refine lv_bipush (v := 127) B.1 B.2.1 d_MC_number_24 (by decide) ?_
      refine lv_bipush (v := 127) B.1 B.2.1 d_MC_number_26 (by decide) ?_
      obtain ⟨r36, u37, h38, hf⟩ := zbd_some hf
      refine rx_Vv (n := 2) (As := [.int 127, .int 127]) (rest := []) B hI hl.1 (zc_MMC_two_0 l D z a N 127 127 u r36 u37 h38) zw_597 zw_599 zw_600 zw_399 zw_598 (by decide +kernel) 0 (wM_at_0 a z u) hcl_MC rfl rfl (Nat.le_of_ble_eq_true rfl) d_MC_number_28 ⟨Nat.le_of_ble_eq_true rfl, Nat.le_of_ble_eq_true rfl⟩ rfl rfl ⟨Nat.zero_le _, Nat.zero_le _⟩ (fun H locs hI => ?_)
      refine lv_goto (tgt := 223) B.1 B.2.1 d_MC_number_31 (by decide) ?_
      exact hb223  u37 _ _ _ hf hI (lv_sub hl [] rfl)
  · rw [if_pos hc1] at hf
    refine lv_aload_n B.1 B.2.1 d_MC_number_6 rfl (lv_at hl 0 rfl) ?_
    refine lv_bipush (v := 127) B.1 B.2.1 d_MC_number_7 (by decide) ?_
    refine lv_bipush (v := 127) B.1 B.2.1 d_MC_number_9 (by decide) ?_
    obtain ⟨r39, u40, h41, hf⟩ := zbd_some hf
    refine rx_Vv (n := 2) (As := [.int 127, .int 127]) (rest := []) B hI hl.1 (zc_MMC_one_0 l D z a N 127 127 u r39 u40 h41) zw_589 zw_591 zw_592 zw_399 zw_590 (by decide +kernel) 0 (wM_at_0 a z u) hcl_MC rfl rfl (Nat.le_of_ble_eq_true rfl) d_MC_number_11 ⟨Nat.le_of_ble_eq_true rfl, Nat.le_of_ble_eq_true rfl⟩ rfl rfl ⟨Nat.zero_le _, Nat.zero_le _⟩ (fun H locs hI => ?_)
    refine lv_goto (tgt := 223) B.1 B.2.1 d_MC_number_14 (by decide) ?_
    exact hb223  u40 _ _ _ hf hI (lv_sub hl [] rfl)
