set_option maxHeartbeats 4000000 in
set_option maxRecDepth 100000 in
theorem zc_MMC_require_0 (l : Launch) (D : va_G) (z : zZ) (a : Nat → Nat) (N : Nat) (x1 : Int32) (x2 : Int32) (x3 : Int32) (u : zU) (r : Unit) (u1 : zU) (hf : zf_MMC_require_0 N x1 x2 x3 u = some (r, u1)) : zMet l D z y_MC_require (.code y_MC_require b_MC_require 5 none) { frames := 1, cells := 0, slots := 0, locals := 22 } [.ref (a 0), .int x1, .int x2, .int x3] (wM a z u) (zQv D (wM a z u1)) := by
  refine zM_v (own := R_MC) [.ref (a 0), .int x1, .int x2, .int x3] (wM a z u) (wM a z u1) (by decide) rfl (Nat.le_of_ble_eq_true rfl) ?_
  intro p e s m args below meth c A ls B hr hlk hI hl
  have hl : lv_has ls 5 [(0, .ref (a 0)), (1, .int x1), (2, .int x2), (3, .int x3)] := hl
  revert hf
  revert hI hl
  have hb226 : ∀  (u : zU) (H : Heap) (locs : List Loc) (ls : Array Slot), zf_MMC_require_0_b226 N   u = some (r, u1) → iw D A s (wM a z u) H locs → lv_has ls 5 [] → W p l e ({ frames := 1, cells := 0, slots := 0, locals := 22 } : Room) s m args below meth c H locs 0 0 (MQ below (zQv D (wM a z u1) A) args s 0 0 A) (F0 m 226 ls []) := by
    intro  u H locs ls hf hI hl
    unfold zf_MMC_require_0_b226 at hf
    obtain ⟨e1, e2⟩ := zrt hf
    exact zr_v (wM a z) B hI hr hlk e2 d_MC_require_226
  have hb198 : ∀ (x1 : Int32) (x2 : Int32) (x3 : Int32) (u : zU) (H : Heap) (locs : List Loc) (ls : Array Slot), zf_MMC_require_0_b198 N  x1 x2 x3 u = some (r, u1) → iw D A s (wM a z u) H locs → lv_has ls 5 [(0, .ref (a 0)), (1, .int x1), (2, .int x2), (3, .int x3)] → W p l e ({ frames := 1, cells := 0, slots := 0, locals := 22 } : Room) s m args below meth c H locs 0 0 (MQ below (zQv D (wM a z u1) A) args s 0 0 A) (F0 m 198 ls []) := by
    intro x1 x2 x3 u H locs ls hf hI hl
    unfold zf_MMC_require_0_b198 at hf
    refine lv_iload_n B.1 B.2.1 d_MC_require_198 rfl (lv_at hl 1 rfl) ?_
    refine lv_sipush (v := 270) B.1 B.2.1 d_MC_require_199 (by decide) ?_
    refine lv_icmp_ne (tgt := 226) B.1 B.2.1 d_MC_require_202 (by decide) (fun hc1 => ?_) (fun hc1 => ?_)
    · rw [if_neg hc1] at hf
      exact hb226  u _ _ _ hf hI (lv_sub hl [] rfl)
    · rw [if_pos hc1] at hf
      refine lv_aload_n B.1 B.2.1 d_MC_require_205 rfl (lv_at hl 0 rfl) ?_
      refine lv_iconst (v := 1) B.1 B.2.1 d_MC_require_206 (by decide) ?_
      refine lv_iload_n B.1 B.2.1 d_MC_require_207 rfl (lv_at hl 2 rfl) ?_
      obtain ⟨r2, u3, h4, hf⟩ := zbd_some hf
      refine rx_Vi (n := 2) (As := [.int 1, .int x2]) (rest := []) B hI hl.1 (zc_MMC_attribute_0 l D z a N 1 x2 u r2 u3 h4) zw_480 zw_482 zw_483 zw_399 zw_481 (by decide +kernel) 0 (wM_at_0 a z u) hcl_MC rfl rfl (Nat.le_of_ble_eq_true rfl) d_MC_require_208 ⟨Nat.le_of_ble_eq_true rfl, Nat.le_of_ble_eq_true rfl⟩ rfl rfl ⟨Nat.zero_le _, Nat.zero_le _⟩ (fun H locs hI => ?_)
      refine lv_aload_n B.1 B.2.1 d_MC_require_211 rfl (lv_at hl 0 rfl) ?_
      refine lv_iconst (v := 1) B.1 B.2.1 d_MC_require_212 (by decide) ?_
      refine lv_iload_n B.1 B.2.1 d_MC_require_213 rfl (lv_at hl 3 rfl) ?_
      obtain ⟨r5, u6, h7, hf⟩ := zbd_some hf
      refine rx_Vi (n := 2) (As := [.int 1, .int x3]) (rest := [.int r2]) B hI hl.1 (zc_MMC_attribute_0 l D z a N 1 x3 u3 r5 u6 h7) zw_480 zw_482 zw_483 zw_399 zw_481 (by decide +kernel) 0 (wM_at_0 a z u3) hcl_MC rfl rfl (Nat.le_of_ble_eq_true rfl) d_MC_require_214 ⟨Nat.le_of_ble_eq_true rfl, Nat.le_of_ble_eq_true rfl⟩ rfl rfl ⟨Nat.zero_le _, Nat.zero_le _⟩ (fun H locs hI => ?_)
      refine lv_icmp_eq (tgt := 226) B.1 B.2.1 d_MC_require_217 (by decide) (fun hc8 => ?_) (fun hc8 => ?_)
      · rw [if_pos hc8] at hf
        exact hb226  u6 _ _ _ hf hI (lv_sub hl [] rfl)
      · rw [if_neg hc8] at hf
        refine lv_aload_n B.1 B.2.1 d_MC_require_220 rfl (lv_at hl 0 rfl) ?_
        refine lv_bipush (v := 6) B.1 B.2.1 d_MC_require_221 (by decide) ?_
        obtain ⟨r9, u10, h11, hf⟩ := zbd_some hf
        refine rx_Vv (n := 1) (As := [.int 6]) (rest := []) B hI hl.1 (zc_MMC_stop_0 l D z a N 6 u6 r9 u10 h11) zw_456 zw_458 zw_459 zw_399 zw_457 (by decide +kernel) 0 (wM_at_0 a z u6) hcl_MC rfl rfl (Nat.le_of_ble_eq_true rfl) d_MC_require_223 ⟨Nat.le_of_ble_eq_true rfl, Nat.le_of_ble_eq_true rfl⟩ rfl rfl ⟨Nat.zero_le _, Nat.zero_le _⟩ (fun H locs hI => ?_)
        exact hb226  u10 _ _ _ hf hI (lv_sub hl [] rfl)
  have hb170 : ∀ (x1 : Int32) (x2 : Int32) (x3 : Int32) (u : zU) (H : Heap) (locs : List Loc) (ls : Array Slot), zf_MMC_require_0_b170 N  x1 x2 x3 u = some (r, u1) → iw D A s (wM a z u) H locs → lv_has ls 5 [(0, .ref (a 0)), (1, .int x1), (2, .int x2), (3, .int x3)] → W p l e ({ frames := 1, cells := 0, slots := 0, locals := 22 } : Room) s m args below meth c H locs 0 0 (MQ below (zQv D (wM a z u1) A) args s 0 0 A) (F0 m 170 ls []) := by
    intro x1 x2 x3 u H locs ls hf hI hl
    unfold zf_MMC_require_0_b170 at hf
    refine lv_iload_n B.1 B.2.1 d_MC_require_170 rfl (lv_at hl 1 rfl) ?_
    refine lv_sipush (v := 268) B.1 B.2.1 d_MC_require_171 (by decide) ?_
    refine lv_icmp_ne (tgt := 198) B.1 B.2.1 d_MC_require_174 (by decide) (fun hc1 => ?_) (fun hc1 => ?_)
    · rw [if_neg hc1] at hf
      exact hb198 x1 x2 x3 u _ _ _ hf hI (lv_sub hl [0, 1, 2, 3] rfl)
    · rw [if_pos hc1] at hf
      refine lv_aload_n B.1 B.2.1 d_MC_require_177 rfl (lv_at hl 0 rfl) ?_
      refine lv_iconst (v := 4) B.1 B.2.1 d_MC_require_178 (by decide) ?_
      refine lv_iload_n B.1 B.2.1 d_MC_require_179 rfl (lv_at hl 2 rfl) ?_
      obtain ⟨r2, u3, h4, hf⟩ := zbd_some hf
      refine rx_Vi (n := 2) (As := [.int 4, .int x2]) (rest := []) B hI hl.1 (zc_MMC_attribute_0 l D z a N 4 x2 u r2 u3 h4) zw_480 zw_482 zw_483 zw_399 zw_481 (by decide +kernel) 0 (wM_at_0 a z u) hcl_MC rfl rfl (Nat.le_of_ble_eq_true rfl) d_MC_require_180 ⟨Nat.le_of_ble_eq_true rfl, Nat.le_of_ble_eq_true rfl⟩ rfl rfl ⟨Nat.zero_le _, Nat.zero_le _⟩ (fun H locs hI => ?_)
      refine lv_aload_n B.1 B.2.1 d_MC_require_183 rfl (lv_at hl 0 rfl) ?_
      refine lv_iconst (v := 1) B.1 B.2.1 d_MC_require_184 (by decide) ?_
      refine lv_iload_n B.1 B.2.1 d_MC_require_185 rfl (lv_at hl 3 rfl) ?_
      obtain ⟨r5, u6, h7, hf⟩ := zbd_some hf
      refine rx_Vi (n := 2) (As := [.int 1, .int x3]) (rest := [.int r2]) B hI hl.1 (zc_MMC_attribute_0 l D z a N 1 x3 u3 r5 u6 h7) zw_480 zw_482 zw_483 zw_399 zw_481 (by decide +kernel) 0 (wM_at_0 a z u3) hcl_MC rfl rfl (Nat.le_of_ble_eq_true rfl) d_MC_require_186 ⟨Nat.le_of_ble_eq_true rfl, Nat.le_of_ble_eq_true rfl⟩ rfl rfl ⟨Nat.zero_le _, Nat.zero_le _⟩ (fun H locs hI => ?_)
      refine lv_icmp_eq (tgt := 198) B.1 B.2.1 d_MC_require_189 (by decide) (fun hc8 => ?_) (fun hc8 => ?_)
      · rw [if_pos hc8] at hf
        exact hb198 x1 x2 x3 u6 _ _ _ hf hI (lv_sub hl [0, 1, 2, 3] rfl)
      · rw [if_neg hc8] at hf
        refine lv_aload_n B.1 B.2.1 d_MC_require_192 rfl (lv_at hl 0 rfl) ?_
        refine lv_bipush (v := 6) B.1 B.2.1 d_MC_require_193 (by decide) ?_
        obtain ⟨r9, u10, h11, hf⟩ := zbd_some hf
        refine rx_Vv (n := 1) (As := [.int 6]) (rest := []) B hI hl.1 (zc_MMC_stop_0 l D z a N 6 u6 r9 u10 h11) zw_456 zw_458 zw_459 zw_399 zw_457 (by decide +kernel) 0 (wM_at_0 a z u6) hcl_MC rfl rfl (Nat.le_of_ble_eq_true rfl) d_MC_require_195 ⟨Nat.le_of_ble_eq_true rfl, Nat.le_of_ble_eq_true rfl⟩ rfl rfl ⟨Nat.zero_le _, Nat.zero_le _⟩ (fun H locs hI => ?_)
        exact hb198 x1 x2 x3 u10 _ _ _ hf hI (lv_sub hl [0, 1, 2, 3] rfl)
  have hb148 : ∀ (x1 : Int32) (x2 : Int32) (x3 : Int32) (u : zU) (H : Heap) (locs : List Loc) (ls : Array Slot), zf_MMC_require_0_b148 N  x1 x2 x3 u = some (r, u1) → iw D A s (wM a z u) H locs → lv_has ls 5 [(0, .ref (a 0)), (1, .int x1), (2, .int x2), (3, .int x3)] → W p l e ({ frames := 1, cells := 0, slots := 0, locals := 22 } : Room) s m args below meth c H locs 0 0 (MQ below (zQv D (wM a z u1) A) args s 0 0 A) (F0 m 148 ls []) := by
    intro x1 x2 x3 u H locs ls hf hI hl
    unfold zf_MMC_require_0_b148 at hf
    refine lv_iload_n B.1 B.2.1 d_MC_require_148 rfl (lv_at hl 1 rfl) ?_
    refine lv_sipush (v := 210) B.1 B.2.1 d_MC_require_149 (by decide) ?_
    refine lv_icmp_ne (tgt := 170) B.1 B.2.1 d_MC_require_152 (by decide) (fun hc1 => ?_) (fun hc1 => ?_)
    · rw [if_neg hc1] at hf
      exact hb170 x1 x2 x3 u _ _ _ hf hI (lv_sub hl [0, 1, 2, 3] rfl)
    · rw [if_pos hc1] at hf
      refine lv_aload_n B.1 B.2.1 d_MC_require_155 rfl (lv_at hl 0 rfl) ?_
      refine rx_get (v := .ref (a 8)) B hI hcl_MC hin_MC 0 (wM_at_0 a z u) 8 (by decide) hf_MC_8 zw_413 rfl d_MC_require_156 ?_
      refine lv_iload_n B.1 B.2.1 d_MC_require_159 rfl (lv_at hl 2 rfl) ?_
      obtain ⟨hi2, hf⟩ := zck_some hf
      refine rx_zald B hI 8 (wM_at_8 a z u) hi2 d_MC_require_160 ?_
      refine lv_if_ne (tgt := 170) B.1 B.2.1 d_MC_require_161 (by decide) (fun hc3 => ?_) (fun hc3 => ?_)
      · rw [if_neg hc3] at hf
        exact hb170 x1 x2 x3 u _ _ _ hf hI (lv_sub hl [0, 1, 2, 3] rfl)
      · rw [if_pos hc3] at hf
        refine lv_aload_n B.1 B.2.1 d_MC_require_164 rfl (lv_at hl 0 rfl) ?_
        refine lv_bipush (v := 11) B.1 B.2.1 d_MC_require_165 (by decide) ?_
        obtain ⟨r4, u5, h6, hf⟩ := zbd_some hf
        refine rx_Vv (n := 1) (As := [.int 11]) (rest := []) B hI hl.1 (zc_MMC_stop_0 l D z a N 11 u r4 u5 h6) zw_456 zw_458 zw_459 zw_399 zw_457 (by decide +kernel) 0 (wM_at_0 a z u) hcl_MC rfl rfl (Nat.le_of_ble_eq_true rfl) d_MC_require_167 ⟨Nat.le_of_ble_eq_true rfl, Nat.le_of_ble_eq_true rfl⟩ rfl rfl ⟨Nat.zero_le _, Nat.zero_le _⟩ (fun H locs hI => ?_)
        exact hb170 x1 x2 x3 u5 _ _ _ hf hI (lv_sub hl [0, 1, 2, 3] rfl)
  have hb142 : ∀ (x1 : Int32) (x2 : Int32) (x3 : Int32) (u : zU) (H : Heap) (locs : List Loc) (ls : Array Slot), zf_MMC_require_0_b142 N  x1 x2 x3 u = some (r, u1) → iw D A s (wM a z u) H locs → lv_has ls 5 [(0, .ref (a 0)), (1, .int x1), (2, .int x2), (3, .int x3)] → W p l e ({ frames := 1, cells := 0, slots := 0, locals := 22 } : Room) s m args below meth c H locs 0 0 (MQ below (zQv D (wM a z u1) A) args s 0 0 A) (F0 m 142 ls []) := by
    intro x1 x2 x3 u H locs ls hf hI hl
    unfold zf_MMC_require_0_b142 at hf
    refine lv_aload_n B.1 B.2.1 d_MC_require_142 rfl (lv_at hl 0 rfl) ?_
    refine lv_bipush (v := 10) B.1 B.2.1 d_MC_require_143 (by decide) ?_
    obtain ⟨r1, u2, h3, hf⟩ := zbd_some hf
    refine rx_Vv (n := 1) (As := [.int 10]) (rest := []) B hI hl.1 (zc_MMC_stop_0 l D z a N 10 u r1 u2 h3) zw_456 zw_458 zw_459 zw_399 zw_457 (by decide +kernel) 0 (wM_at_0 a z u) hcl_MC rfl rfl (Nat.le_of_ble_eq_true rfl) d_MC_require_145 ⟨Nat.le_of_ble_eq_true rfl, Nat.le_of_ble_eq_true rfl⟩ rfl rfl ⟨Nat.zero_le _, Nat.zero_le _⟩ (fun H locs hI => ?_)
    exact hb148 x1 x2 x3 u2 _ _ _ hf hI (lv_sub hl [0, 1, 2, 3] rfl)
  have hb107 : ∀ (x1 : Int32) (x2 : Int32) (x3 : Int32) (u : zU) (H : Heap) (locs : List Loc) (ls : Array Slot), zf_MMC_require_0_b107 N  x1 x2 x3 u = some (r, u1) → iw D A s (wM a z u) H locs → lv_has ls 5 [(0, .ref (a 0)), (1, .int x1), (2, .int x2), (3, .int x3)] → W p l e ({ frames := 1, cells := 0, slots := 0, locals := 22 } : Room) s m args below meth c H locs 0 0 (MQ below (zQv D (wM a z u1) A) args s 0 0 A) (F0 m 107 ls []) := by
    intro x1 x2 x3 u H locs ls hf hI hl
    unfold zf_MMC_require_0_b107 at hf
    refine lv_iload_n B.1 B.2.1 d_MC_require_107 rfl (lv_at hl 1 rfl) ?_
    refine lv_bipush (v := 40) B.1 B.2.1 d_MC_require_108 (by decide) ?_
    refine lv_icmp_lt (tgt := 148) B.1 B.2.1 d_MC_require_110 (by decide) (fun hc1 => ?_) (fun hc1 => ?_)
    · rw [if_pos hc1] at hf
      exact hb148 x1 x2 x3 u _ _ _ hf hI (lv_sub hl [0, 1, 2, 3] rfl)
    · rw [if_neg hc1] at hf
      refine lv_iload_n B.1 B.2.1 d_MC_require_113 rfl (lv_at hl 1 rfl) ?_
      refine lv_bipush (v := 62) B.1 B.2.1 d_MC_require_114 (by decide) ?_
      refine lv_icmp_gt (tgt := 148) B.1 B.2.1 d_MC_require_116 (by decide) (fun hc2 => ?_) (fun hc2 => ?_)
      · rw [if_pos hc2] at hf
        exact hb148 x1 x2 x3 u _ _ _ hf hI (lv_sub hl [0, 1, 2, 3] rfl)
      · rw [if_neg hc2] at hf
        refine lv_iload_n B.1 B.2.1 d_MC_require_119 rfl (lv_at hl 2 rfl) ?_
        refine lv_i2l B.1 B.2.1 d_MC_require_120 rfl ?_
        refine lv_ldc2 (v := 4294967295) B.1 B.2.1 B.2.2.2.1 (B.2.2.2.2.1 _ zw_437) d_MC_require_121 ?_
        refine lv_land B.1 B.2.1 d_MC_require_124 ?_
        refine lv_ldc2 (v := 3) B.1 B.2.1 B.2.2.2.1 (B.2.2.2.2.1 _ zw_484) d_MC_require_125 ?_
        refine W.lcmp B.1 B.2.1 d_MC_require_128 ?_
        refine lv_if_gt (tgt := 142) B.1 B.2.1 d_MC_require_129 (by decide) (fun hc3 => ?_) (fun hc3 => ?_)
        · rw [if_pos hc3] at hf
          exact hb142 x1 x2 x3 u _ _ _ hf hI (lv_sub hl [0, 1, 2, 3] rfl)
        · rw [if_neg hc3] at hf
          refine lv_iconst (v := 1) B.1 B.2.1 d_MC_require_132 (by decide) ?_
          refine lv_iload_n B.1 B.2.1 d_MC_require_133 rfl (lv_at hl 2 rfl) ?_
          refine lv_ishl B.1 B.2.1 d_MC_require_134 ?_
          refine lv_iload_n B.1 B.2.1 d_MC_require_135 rfl (lv_at hl 1 rfl) ?_
          obtain ⟨r4, u5, h6, hf⟩ := zbd_some hf
          refine rx_Si (n := 1) (As := [.int x1]) (rest := [.int (1 <<< (x2 &&& 31))]) B hI hl.1 (zc_MMC_bytesOf l D z a N x1 u r4 u5 h6) zw_485 zw_487 zw_399 zw_486 (by decide +kernel) rfl rfl (Nat.le_of_ble_eq_true rfl) d_MC_require_136 ⟨Nat.le_of_ble_eq_true rfl, Nat.le_of_ble_eq_true rfl⟩ rfl rfl ⟨Nat.zero_le _, Nat.zero_le _⟩ (fun H locs hI => ?_)
          refine lv_icmp_le (tgt := 148) B.1 B.2.1 d_MC_require_139 (by decide) (fun hc7 => ?_) (fun hc7 => ?_)
          · rw [if_pos hc7] at hf
            exact hb148 x1 x2 x3 u5 _ _ _ hf hI (lv_sub hl [0, 1, 2, 3] rfl)
          · rw [if_neg hc7] at hf
            exact hb142 x1 x2 x3 u5 _ _ _ hf hI (lv_sub hl [0, 1, 2, 3] rfl)
  have hb85 : ∀ (x1 : Int32) (x2 : Int32) (x3 : Int32) (s0 : Int32) (u : zU) (H : Heap) (locs : List Loc) (ls : Array Slot), zf_MMC_require_0_b85 N  x1 x2 x3 s0 u = some (r, u1) → iw D A s (wM a z u) H locs → lv_has ls 5 [(0, .ref (a 0)), (1, .int x1), (2, .int x2), (3, .int x3)] → W p l e ({ frames := 1, cells := 0, slots := 0, locals := 22 } : Room) s m args below meth c H locs 0 0 (MQ below (zQv D (wM a z u1) A) args s 0 0 A) (F0 m 85 ls [.int s0]) := by
    intro x1 x2 x3 s0 u H locs ls hf hI hl
    unfold zf_MMC_require_0_b85 at hf
    refine lv_istore (lv' := [(4, .int s0), (0, .ref (a 0)), (1, .int x1), (2, .int x2), (3, .int x3)]) B.1 B.2.1 d_MC_require_85 hl (by decide) rfl (fun ls hl => ?_)
    refine lv_iload B.1 B.2.1 d_MC_require_87 (lv_at hl 0 rfl) ?_
    refine lv_if_eq (tgt := 107) B.1 B.2.1 d_MC_require_89 (by decide) (fun hc1 => ?_) (fun hc1 => ?_)
    · rw [if_pos hc1] at hf
      exact hb107 x1 x2 x3 u _ _ _ hf hI (lv_sub hl [1, 2, 3, 4] rfl)
    · rw [if_neg hc1] at hf
      refine lv_aload_n B.1 B.2.1 d_MC_require_92 rfl (lv_at hl 1 rfl) ?_
      refine rx_get (v := .ref (a 5)) B hI hcl_MC hin_MC 0 (wM_at_0 a z u) 5 (by decide) hf_MC_5 zw_410 rfl d_MC_require_93 ?_
      refine lv_iconst (v := 2) B.1 B.2.1 d_MC_require_96 (by decide) ?_
      obtain ⟨hi2, hf⟩ := zck_some hf
      refine rx_iald B hI 5 (wM_at_5 a z u) hi2 d_MC_require_97 ?_
      refine lv_if_ne (tgt := 107) B.1 B.2.1 d_MC_require_98 (by decide) (fun hc3 => ?_) (fun hc3 => ?_)
      · rw [if_neg hc3] at hf
        exact hb107 x1 x2 x3 u _ _ _ hf hI (lv_sub hl [1, 2, 3, 4] rfl)
      · rw [if_pos hc3] at hf
        refine lv_aload_n B.1 B.2.1 d_MC_require_101 rfl (lv_at hl 1 rfl) ?_
        refine lv_bipush (v := 9) B.1 B.2.1 d_MC_require_102 (by decide) ?_
        obtain ⟨r4, u5, h6, hf⟩ := zbd_some hf
        refine rx_Vv (n := 1) (As := [.int 9]) (rest := []) B hI hl.1 (zc_MMC_stop_0 l D z a N 9 u r4 u5 h6) zw_456 zw_458 zw_459 zw_399 zw_457 (by decide +kernel) 0 (wM_at_0 a z u) hcl_MC rfl rfl (Nat.le_of_ble_eq_true rfl) d_MC_require_104 ⟨Nat.le_of_ble_eq_true rfl, Nat.le_of_ble_eq_true rfl⟩ rfl rfl ⟨Nat.zero_le _, Nat.zero_le _⟩ (fun H locs hI => ?_)
        exact hb107 x1 x2 x3 u5 _ _ _ hf hI (lv_sub hl [1, 2, 3, 4] rfl)
  have hb80 : ∀ (x1 : Int32) (x2 : Int32) (x3 : Int32) (u : zU) (H : Heap) (locs : List Loc) (ls : Array Slot), zf_MMC_require_0_b80 N  x1 x2 x3 u = some (r, u1) → iw D A s (wM a z u) H locs → lv_has ls 5 [(0, .ref (a 0)), (1, .int x1), (2, .int x2), (3, .int x3)] → W p l e ({ frames := 1, cells := 0, slots := 0, locals := 22 } : Room) s m args below meth c H locs 0 0 (MQ below (zQv D (wM a z u1) A) args s 0 0 A) (F0 m 80 ls []) := by
    intro x1 x2 x3 u H locs ls hf hI hl
    unfold zf_MMC_require_0_b80 at hf
    refine lv_iconst (v := 1) B.1 B.2.1 d_MC_require_80 (by decide) ?_
    refine lv_goto (tgt := 85) B.1 B.2.1 d_MC_require_81 (by decide) ?_
    exact hb85 x1 x2 x3 1 u _ _ _ hf hI (lv_sub hl [0, 1, 2, 3] rfl)
  have hb59 : ∀ (x1 : Int32) (x2 : Int32) (x3 : Int32) (u : zU) (H : Heap) (locs : List Loc) (ls : Array Slot), zf_MMC_require_0_b59 N  x1 x2 x3 u = some (r, u1) → iw D A s (wM a z u) H locs → lv_has ls 5 [(0, .ref (a 0)), (1, .int x1), (2, .int x2), (3, .int x3)] → W p l e ({ frames := 1, cells := 0, slots := 0, locals := 22 } : Room) s m args below meth c H locs 0 0 (MQ below (zQv D (wM a z u1) A) args s 0 0 A) (F0 m 59 ls []) := by
    intro x1 x2 x3 u H locs ls hf hI hl
    unfold zf_MMC_require_0_b59 at hf
    refine lv_iload_n B.1 B.2.1 d_MC_require_59 rfl (lv_at hl 1 rfl) ?_
    refine lv_sipush (v := 264) B.1 B.2.1 d_MC_require_60 (by decide) ?_
    refine lv_icmp_eq (tgt := 80) B.1 B.2.1 d_MC_require_63 (by decide) (fun hc1 => ?_) (fun hc1 => ?_)
    · rw [if_pos hc1] at hf
      exact hb80 x1 x2 x3 u _ _ _ hf hI (lv_sub hl [0, 1, 2, 3] rfl)
    · rw [if_neg hc1] at hf
      refine lv_iload_n B.1 B.2.1 d_MC_require_66 rfl (lv_at hl 1 rfl) ?_
      refine lv_sipush (v := 266) B.1 B.2.1 d_MC_require_67 (by decide) ?_
      refine lv_icmp_eq (tgt := 80) B.1 B.2.1 d_MC_require_70 (by decide) (fun hc2 => ?_) (fun hc2 => ?_)
      · rw [if_pos hc2] at hf
        exact hb80 x1 x2 x3 u _ _ _ hf hI (lv_sub hl [0, 1, 2, 3] rfl)
      · rw [if_neg hc2] at hf
        refine lv_iload_n B.1 B.2.1 d_MC_require_73 rfl (lv_at hl 1 rfl) ?_
        refine lv_sipush (v := 267) B.1 B.2.1 d_MC_require_74 (by decide) ?_
        refine lv_icmp_ne (tgt := 84) B.1 B.2.1 d_MC_require_77 (by decide) (fun hc3 => ?_) (fun hc3 => ?_)
        · rw [if_neg hc3] at hf
          refine lv_iconst (v := 0) B.1 B.2.1 d_MC_require_84 (by decide) ?_
          exact hb85 x1 x2 x3 0 u _ _ _ hf hI (lv_sub hl [0, 1, 2, 3] rfl)
        · rw [if_pos hc3] at hf
          exact hb80 x1 x2 x3 u _ _ _ hf hI (lv_sub hl [0, 1, 2, 3] rfl)
  have hb47 : ∀ (x1 : Int32) (x2 : Int32) (x3 : Int32) (u : zU) (H : Heap) (locs : List Loc) (ls : Array Slot), zf_MMC_require_0_b47 N  x1 x2 x3 u = some (r, u1) → iw D A s (wM a z u) H locs → lv_has ls 5 [(0, .ref (a 0)), (1, .int x1), (2, .int x2), (3, .int x3)] → W p l e ({ frames := 1, cells := 0, slots := 0, locals := 22 } : Room) s m args below meth c H locs 0 0 (MQ below (zQv D (wM a z u1) A) args s 0 0 A) (F0 m 47 ls []) := by
    intro x1 x2 x3 u H locs ls hf hI hl
    unfold zf_MMC_require_0_b47 at hf
    refine lv_iload_n B.1 B.2.1 d_MC_require_47 rfl (lv_at hl 1 rfl) ?_
    refine lv_bipush (v := 40) B.1 B.2.1 d_MC_require_48 (by decide) ?_
    refine lv_icmp_lt (tgt := 59) B.1 B.2.1 d_MC_require_50 (by decide) (fun hc1 => ?_) (fun hc1 => ?_)
    · rw [if_pos hc1] at hf
      exact hb59 x1 x2 x3 u _ _ _ hf hI (lv_sub hl [0, 1, 2, 3] rfl)
    · rw [if_neg hc1] at hf
      refine lv_iload_n B.1 B.2.1 d_MC_require_53 rfl (lv_at hl 1 rfl) ?_
      refine lv_bipush (v := 64) B.1 B.2.1 d_MC_require_54 (by decide) ?_
      refine lv_icmp_le (tgt := 80) B.1 B.2.1 d_MC_require_56 (by decide) (fun hc2 => ?_) (fun hc2 => ?_)
      · rw [if_pos hc2] at hf
        exact hb80 x1 x2 x3 u _ _ _ hf hI (lv_sub hl [0, 1, 2, 3] rfl)
      · rw [if_neg hc2] at hf
        exact hb59 x1 x2 x3 u _ _ _ hf hI (lv_sub hl [0, 1, 2, 3] rfl)
  have hb23 : ∀ (x1 : Int32) (x2 : Int32) (x3 : Int32) (u : zU) (H : Heap) (locs : List Loc) (ls : Array Slot), zf_MMC_require_0_b23 N  x1 x2 x3 u = some (r, u1) → iw D A s (wM a z u) H locs → lv_has ls 5 [(0, .ref (a 0)), (1, .int x1), (2, .int x2), (3, .int x3)] → W p l e ({ frames := 1, cells := 0, slots := 0, locals := 22 } : Room) s m args below meth c H locs 0 0 (MQ below (zQv D (wM a z u1) A) args s 0 0 A) (F0 m 23 ls []) := by
    intro x1 x2 x3 u H locs ls hf hI hl
    unfold zf_MMC_require_0_b23 at hf
    refine lv_iload_n B.1 B.2.1 d_MC_require_23 rfl (lv_at hl 1 rfl) ?_
    refine lv_bipush (v := 36) B.1 B.2.1 d_MC_require_24 (by decide) ?_
    refine lv_icmp_ne (tgt := 47) B.1 B.2.1 d_MC_require_26 (by decide) (fun hc1 => ?_) (fun hc1 => ?_)
    · rw [if_neg hc1] at hf
      exact hb47 x1 x2 x3 u _ _ _ hf hI (lv_sub hl [0, 1, 2, 3] rfl)
    · rw [if_pos hc1] at hf
      refine lv_aload_n B.1 B.2.1 d_MC_require_29 rfl (lv_at hl 0 rfl) ?_
      refine rx_get (v := .ref (a 7)) B hI hcl_MC hin_MC 0 (wM_at_0 a z u) 7 (by decide) hf_MC_7 zw_412 rfl d_MC_require_30 ?_
      refine lv_bipush (v := 120) B.1 B.2.1 d_MC_require_33 (by decide) ?_
      refine lv_iload_n B.1 B.2.1 d_MC_require_35 rfl (lv_at hl 2 rfl) ?_
      refine lv_iadd B.1 B.2.1 d_MC_require_36 ?_
      obtain ⟨hi2, hf⟩ := zck_some hf
      refine rx_iald B hI 7 (wM_at_7 a z u) hi2 d_MC_require_37 ?_
      refine lv_if_ne (tgt := 47) B.1 B.2.1 d_MC_require_38 (by decide) (fun hc3 => ?_) (fun hc3 => ?_)
      · rw [if_neg hc3] at hf
        exact hb47 x1 x2 x3 u _ _ _ hf hI (lv_sub hl [0, 1, 2, 3] rfl)
      · rw [if_pos hc3] at hf
        refine lv_aload_n B.1 B.2.1 d_MC_require_41 rfl (lv_at hl 0 rfl) ?_
        refine lv_bipush (v := 8) B.1 B.2.1 d_MC_require_42 (by decide) ?_
        obtain ⟨r4, u5, h6, hf⟩ := zbd_some hf
        refine rx_Vv (n := 1) (As := [.int 8]) (rest := []) B hI hl.1 (zc_MMC_stop_0 l D z a N 8 u r4 u5 h6) zw_456 zw_458 zw_459 zw_399 zw_457 (by decide +kernel) 0 (wM_at_0 a z u) hcl_MC rfl rfl (Nat.le_of_ble_eq_true rfl) d_MC_require_44 ⟨Nat.le_of_ble_eq_true rfl, Nat.le_of_ble_eq_true rfl⟩ rfl rfl ⟨Nat.zero_le _, Nat.zero_le _⟩ (fun H locs hI => ?_)
        exact hb47 x1 x2 x3 u5 _ _ _ hf hI (lv_sub hl [0, 1, 2, 3] rfl)
  intro hI hl hf
  unfold zf_MMC_require_0 at hf
  refine lv_iload_n B.1 B.2.1 d_MC_require_0 rfl (lv_at hl 1 rfl) ?_
  refine lv_bipush (v := 17) B.1 B.2.1 d_MC_require_1 (by decide) ?_
  refine lv_icmp_ne (tgt := 23) B.1 B.2.1 d_MC_require_3 (by decide) (fun hc1 => ?_) (fun hc1 => ?_)
  · rw [if_neg hc1] at hf
    exact hb23 x1 x2 x3 u _ _ _ hf hI (lv_sub hl [0, 1, 2, 3] rfl)
  · rw [if_pos hc1] at hf
    refine lv_aload_n B.1 B.2.1 d_MC_require_6 rfl (lv_at hl 0 rfl) ?_
    refine lv_iconst (v := 1) B.1 B.2.1 d_MC_require_7 (by decide) ?_
    refine lv_iload_n B.1 B.2.1 d_MC_require_8 rfl (lv_at hl 3 rfl) ?_
    obtain ⟨r2, u3, h4, hf⟩ := zbd_some hf
    refine rx_Vi (n := 2) (As := [.int 1, .int x3]) (rest := []) B hI hl.1 (zc_MMC_attribute_0 l D z a N 1 x3 u r2 u3 h4) zw_480 zw_482 zw_483 zw_399 zw_481 (by decide +kernel) 0 (wM_at_0 a z u) hcl_MC rfl rfl (Nat.le_of_ble_eq_true rfl) d_MC_require_9 ⟨Nat.le_of_ble_eq_true rfl, Nat.le_of_ble_eq_true rfl⟩ rfl rfl ⟨Nat.zero_le _, Nat.zero_le _⟩ (fun H locs hI => ?_)
    refine lv_bipush (v := 112) B.1 B.2.1 d_MC_require_12 (by decide) ?_
    refine lv_icmp_eq (tgt := 23) B.1 B.2.1 d_MC_require_14 (by decide) (fun hc5 => ?_) (fun hc5 => ?_)
    · rw [if_pos hc5] at hf
      exact hb23 x1 x2 x3 u3 _ _ _ hf hI (lv_sub hl [0, 1, 2, 3] rfl)
    · rw [if_neg hc5] at hf
      refine lv_aload_n B.1 B.2.1 d_MC_require_17 rfl (lv_at hl 0 rfl) ?_
      refine lv_bipush (v := 6) B.1 B.2.1 d_MC_require_18 (by decide) ?_
      obtain ⟨r6, u7, h8, hf⟩ := zbd_some hf
      refine rx_Vv (n := 1) (As := [.int 6]) (rest := []) B hI hl.1 (zc_MMC_stop_0 l D z a N 6 u3 r6 u7 h8) zw_456 zw_458 zw_459 zw_399 zw_457 (by decide +kernel) 0 (wM_at_0 a z u3) hcl_MC rfl rfl (Nat.le_of_ble_eq_true rfl) d_MC_require_20 ⟨Nat.le_of_ble_eq_true rfl, Nat.le_of_ble_eq_true rfl⟩ rfl rfl ⟨Nat.zero_le _, Nat.zero_le _⟩ (fun H locs hI => ?_)
      exact hb23 x1 x2 x3 u7 _ _ _ hf hI (lv_sub hl [0, 1, 2, 3] rfl)
set_option maxHeartbeats 4000000 in
set_option maxRecDepth 100000 in
theorem zc_MMC_examine_0 (l : Launch) (D : va_G) (z : zZ) (a : Nat → Nat) (N : Nat) (x1 : Int32) (x2 : Int32) (x3 : Int32) (u : zU) (r : Unit) (u1 : zU) (hf : zf_MMC_examine_0 N x1 x2 x3 u = some (r, u1)) : zMet l D z y_MC_examine (.code y_MC_examine b_MC_examine 4 none) { frames := 4, cells := 0, slots := 0, locals := 81 } [.ref (a 0), .int x1, .int x2, .int x3] (wM a z u) (zQv D (wM a z u1)) := by
  refine zM_v (own := R_MC) [.ref (a 0), .int x1, .int x2, .int x3] (wM a z u) (wM a z u1) (by decide) rfl (Nat.le_of_ble_eq_true rfl) ?_
  intro p e s m args below meth c A ls B hr hlk hI hl
  have hl : lv_has ls 4 [(0, .ref (a 0)), (1, .int x1), (2, .int x2), (3, .int x3)] := hl
  revert hf
  revert hI hl
  have hb68 : ∀  (u : zU) (H : Heap) (locs : List Loc) (ls : Array Slot), zf_MMC_examine_0_b68 N   u = some (r, u1) → iw D A s (wM a z u) H locs → lv_has ls 4 [] → W p l e ({ frames := 4, cells := 0, slots := 0, locals := 81 } : Room) s m args below meth c H locs 0 0 (MQ below (zQv D (wM a z u1) A) args s 0 0 A) (F0 m 68 ls []) := by
    intro  u H locs ls hf hI hl
    unfold zf_MMC_examine_0_b68 at hf
    obtain ⟨e1, e2⟩ := zrt hf
    exact zr_v (wM a z) B hI hr hlk e2 d_MC_examine_68
  have hb42 : ∀ (x1 : Int32) (x2 : Int32) (x3 : Int32) (u : zU) (H : Heap) (locs : List Loc) (ls : Array Slot), zf_MMC_examine_0_b42 N  x1 x2 x3 u = some (r, u1) → iw D A s (wM a z u) H locs → lv_has ls 4 [(0, .ref (a 0)), (1, .int x1), (2, .int x2), (3, .int x3)] → W p l e ({ frames := 4, cells := 0, slots := 0, locals := 81 } : Room) s m args below meth c H locs 0 0 (MQ below (zQv D (wM a z u1) A) args s 0 0 A) (F0 m 42 ls []) := by
    intro x1 x2 x3 u H locs ls hf hI hl
    unfold zf_MMC_examine_0_b42 at hf
    refine lv_aload_n B.1 B.2.1 d_MC_examine_42 rfl (lv_at hl 0 rfl) ?_
    refine lv_iload_n B.1 B.2.1 d_MC_examine_43 rfl (lv_at hl 1 rfl) ?_
    refine lv_iload_n B.1 B.2.1 d_MC_examine_44 rfl (lv_at hl 2 rfl) ?_
    refine lv_iload_n B.1 B.2.1 d_MC_examine_45 rfl (lv_at hl 3 rfl) ?_
    obtain ⟨r1, u2, h3, hf⟩ := zbd_some hf
    refine rx_Vi (n := 3) (As := [.int x1, .int x2, .int x3]) (rest := []) B hI hl.1 (zc_MMC_isThere_0 l D z a N x1 x2 x3 u r1 u2 h3) zw_476 zw_478 zw_479 zw_399 zw_477 (by decide +kernel) 0 (wM_at_0 a z u) hcl_MC rfl rfl (Nat.le_of_ble_eq_true rfl) d_MC_examine_46 ⟨Nat.le_of_ble_eq_true rfl, Nat.le_of_ble_eq_true rfl⟩ rfl rfl ⟨Nat.zero_le _, Nat.zero_le _⟩ (fun H locs hI => ?_)
    refine lv_if_ne (tgt := 61) B.1 B.2.1 d_MC_examine_49 (by decide) (fun hc4 => ?_) (fun hc4 => ?_)
    · rw [if_neg hc4] at hf
      refine lv_aload_n B.1 B.2.1 d_MC_examine_61 rfl (lv_at hl 0 rfl) ?_
      refine lv_iload_n B.1 B.2.1 d_MC_examine_62 rfl (lv_at hl 1 rfl) ?_
      refine lv_iload_n B.1 B.2.1 d_MC_examine_63 rfl (lv_at hl 2 rfl) ?_
      refine lv_iload_n B.1 B.2.1 d_MC_examine_64 rfl (lv_at hl 3 rfl) ?_
      obtain ⟨r5, u6, h7, hf⟩ := zbd_some hf
      refine rx_Vv (n := 3) (As := [.int x1, .int x2, .int x3]) (rest := []) B hI hl.1 (zc_MMC_require_0 l D z a N x1 x2 x3 u2 r5 u6 h7) zw_488 zw_490 zw_491 zw_399 zw_489 (by decide +kernel) 0 (wM_at_0 a z u2) hcl_MC rfl rfl (Nat.le_of_ble_eq_true rfl) d_MC_examine_65 ⟨Nat.le_of_ble_eq_true rfl, Nat.le_of_ble_eq_true rfl⟩ rfl rfl ⟨Nat.zero_le _, Nat.zero_le _⟩ (fun H locs hI => ?_)
      exact hb68  u6 _ _ _ hf hI (lv_sub hl [] rfl)
    · rw [if_pos hc4] at hf
      refine lv_aload_n B.1 B.2.1 d_MC_examine_52 rfl (lv_at hl 0 rfl) ?_
      refine lv_bipush (v := 12) B.1 B.2.1 d_MC_examine_53 (by decide) ?_
      obtain ⟨r8, u9, h10, hf⟩ := zbd_some hf
      refine rx_Vv (n := 1) (As := [.int 12]) (rest := []) B hI hl.1 (zc_MMC_stop_0 l D z a N 12 u2 r8 u9 h10) zw_456 zw_458 zw_459 zw_399 zw_457 (by decide +kernel) 0 (wM_at_0 a z u2) hcl_MC rfl rfl (Nat.le_of_ble_eq_true rfl) d_MC_examine_55 ⟨Nat.le_of_ble_eq_true rfl, Nat.le_of_ble_eq_true rfl⟩ rfl rfl ⟨Nat.zero_le _, Nat.zero_le _⟩ (fun H locs hI => ?_)
      refine lv_goto (tgt := 68) B.1 B.2.1 d_MC_examine_58 (by decide) ?_
      exact hb68  u9 _ _ _ hf hI (lv_sub hl [] rfl)
  intro hI hl hf
  unfold zf_MMC_examine_0 at hf
  refine lv_iload_n B.1 B.2.1 d_MC_examine_0 rfl (lv_at hl 1 rfl) ?_
  refine lv_iload_n B.1 B.2.1 d_MC_examine_1 rfl (lv_at hl 2 rfl) ?_
  obtain ⟨r1, u2, h3, hf⟩ := zbd_some hf
  refine rx_Si (n := 2) (As := [.int x1, .int x2]) (rest := []) B hI hl.1 (zc_MMC_isFormed l D z a N x1 x2 u r1 u2 h3) zw_453 zw_455 zw_399 zw_454 (by decide +kernel) rfl rfl (Nat.le_of_ble_eq_true rfl) d_MC_examine_2 ⟨Nat.le_of_ble_eq_true rfl, Nat.le_of_ble_eq_true rfl⟩ rfl rfl ⟨Nat.zero_le _, Nat.zero_le _⟩ (fun H locs hI => ?_)
  refine lv_if_ne (tgt := 17) B.1 B.2.1 d_MC_examine_5 (by decide) (fun hc4 => ?_) (fun hc4 => ?_)
  · rw [if_neg hc4] at hf
    refine lv_aload_n B.1 B.2.1 d_MC_examine_17 rfl (lv_at hl 0 rfl) ?_
    refine rx_get (v := .int (gi u2 2)) B hI hcl_MC hin_MC 0 (wM_at_0 a z u2) 10 (by decide) hf_MC_10 zw_414 rfl d_MC_examine_18 ?_
    refine lv_if_ne (tgt := 42) B.1 B.2.1 d_MC_examine_21 (by decide) (fun hc5 => ?_) (fun hc5 => ?_)
    · rw [if_neg hc5] at hf
      exact hb42 x1 x2 x3 u2 _ _ _ hf hI (lv_sub hl [0, 1, 2, 3] rfl)
    · rw [if_pos hc5] at hf
      refine lv_aload_n B.1 B.2.1 d_MC_examine_24 rfl (lv_at hl 0 rfl) ?_
      refine lv_iload_n B.1 B.2.1 d_MC_examine_25 rfl (lv_at hl 1 rfl) ?_
      refine lv_iload_n B.1 B.2.1 d_MC_examine_26 rfl (lv_at hl 2 rfl) ?_
      obtain ⟨r6, u7, h8, hf⟩ := zbd_some hf
      refine rx_Vi (n := 2) (As := [.int x1, .int x2]) (rest := []) B hI hl.1 (zc_MMC_mayBeConstant_0 l D z a N x1 x2 u2 r6 u7 h8) zw_464 zw_466 zw_467 zw_399 zw_465 (by decide +kernel) 0 (wM_at_0 a z u2) hcl_MC rfl rfl (Nat.le_of_ble_eq_true rfl) d_MC_examine_27 ⟨Nat.le_of_ble_eq_true rfl, Nat.le_of_ble_eq_true rfl⟩ rfl rfl ⟨Nat.zero_le _, Nat.zero_le _⟩ (fun H locs hI => ?_)
      refine lv_if_ne (tgt := 42) B.1 B.2.1 d_MC_examine_30 (by decide) (fun hc9 => ?_) (fun hc9 => ?_)
      · rw [if_neg hc9] at hf
        exact hb42 x1 x2 x3 u7 _ _ _ hf hI (lv_sub hl [0, 1, 2, 3] rfl)
      · rw [if_pos hc9] at hf
        refine lv_aload_n B.1 B.2.1 d_MC_examine_33 rfl (lv_at hl 0 rfl) ?_
        refine lv_bipush (v := 14) B.1 B.2.1 d_MC_examine_34 (by decide) ?_
        obtain ⟨r10, u11, h12, hf⟩ := zbd_some hf
        refine rx_Vv (n := 1) (As := [.int 14]) (rest := []) B hI hl.1 (zc_MMC_stop_0 l D z a N 14 u7 r10 u11 h12) zw_456 zw_458 zw_459 zw_399 zw_457 (by decide +kernel) 0 (wM_at_0 a z u7) hcl_MC rfl rfl (Nat.le_of_ble_eq_true rfl) d_MC_examine_36 ⟨Nat.le_of_ble_eq_true rfl, Nat.le_of_ble_eq_true rfl⟩ rfl rfl ⟨Nat.zero_le _, Nat.zero_le _⟩ (fun H locs hI => ?_)
        refine lv_goto (tgt := 68) B.1 B.2.1 d_MC_examine_39 (by decide) ?_
        exact hb68  u11 _ _ _ hf hI (lv_sub hl [] rfl)
  · rw [if_pos hc4] at hf
    refine lv_aload_n B.1 B.2.1 d_MC_examine_8 rfl (lv_at hl 0 rfl) ?_
    refine lv_bipush (v := 13) B.1 B.2.1 d_MC_examine_9 (by decide) ?_
    obtain ⟨r13, u14, h15, hf⟩ := zbd_some hf
    refine rx_Vv (n := 1) (As := [.int 13]) (rest := []) B hI hl.1 (zc_MMC_stop_0 l D z a N 13 u2 r13 u14 h15) zw_456 zw_458 zw_459 zw_399 zw_457 (by decide +kernel) 0 (wM_at_0 a z u2) hcl_MC rfl rfl (Nat.le_of_ble_eq_true rfl) d_MC_examine_11 ⟨Nat.le_of_ble_eq_true rfl, Nat.le_of_ble_eq_true rfl⟩ rfl rfl ⟨Nat.zero_le _, Nat.zero_le _⟩ (fun H locs hI => ?_)
    refine lv_goto (tgt := 68) B.1 B.2.1 d_MC_examine_14 (by decide) ?_
    exact hb68  u14 _ _ _ hf hI (lv_sub hl [] rfl)
set_option maxHeartbeats 4000000 in
set_option maxRecDepth 100000 in
theorem zc_MMC_wantNothing_0 (l : Launch) (D : va_G) (z : zZ) (a : Nat → Nat) (N : Nat)  (u : zU) (r : Unit) (u1 : zU) (hf : zf_MMC_wantNothing_0 N  u = some (r, u1)) : zMet l D z y_MC_wantNothing (.code y_MC_wantNothing b_MC_wantNothing 1 none) { frames := 0, cells := 0, slots := 0, locals := 0 } [.ref (a 0)] (wM a z u) (zQv D (wM a z u1)) := by
  refine zM_v (own := R_MC) [.ref (a 0)] (wM a z u) (wM a z u1) (by decide) rfl (Nat.le_of_ble_eq_true rfl) ?_
  intro p e s m args below meth c A ls B hr hlk hI hl
  have hl : lv_has ls 1 [(0, .ref (a 0))] := hl
  revert hf
  revert hI hl
  intro hI hl hf
  unfold zf_MMC_wantNothing_0 at hf
  refine lv_aload_n B.1 B.2.1 d_MC_wantNothing_0 rfl (lv_at hl 0 rfl) ?_
  refine lv_iconst (v := 0) B.1 B.2.1 d_MC_wantNothing_1 (by decide) ?_
  refine rx_put B hI hcl_MC hin_MC hty_MC hnm_MC 0 (wM_at_0 a z u) 37 (by decide) hf_MC_37 zw_496 rfl (ty := .int) (by decide +kernel) rfl rfl (Nat.le_of_ble_eq_true rfl) (wM_si_18 a z u 0) d_MC_wantNothing_2 (fun H locs hI => ?_)
  obtain ⟨e1, e2⟩ := zrt hf
  exact zr_v (wM a z) B hI hr hlk e2 d_MC_wantNothing_5
set_option maxHeartbeats 4000000 in
set_option maxRecDepth 100000 in
theorem zc_MMC_wantOne_0 (l : Launch) (D : va_G) (z : zZ) (a : Nat → Nat) (N : Nat) (x1 : Int32) (u : zU) (r : Unit) (u1 : zU) (hf : zf_MMC_wantOne_0 N x1 u = some (r, u1)) : zMet l D z y_MC_wantOne (.code y_MC_wantOne b_MC_wantOne 2 none) { frames := 0, cells := 0, slots := 0, locals := 0 } [.ref (a 0), .int x1] (wM a z u) (zQv D (wM a z u1)) := by
  refine zM_v (own := R_MC) [.ref (a 0), .int x1] (wM a z u) (wM a z u1) (by decide) rfl (Nat.le_of_ble_eq_true rfl) ?_
  intro p e s m args below meth c A ls B hr hlk hI hl
  have hl : lv_has ls 2 [(0, .ref (a 0)), (1, .int x1)] := hl
  revert hf
  revert hI hl
  intro hI hl hf
  unfold zf_MMC_wantOne_0 at hf
  refine lv_aload_n B.1 B.2.1 d_MC_wantOne_0 rfl (lv_at hl 0 rfl) ?_
  refine rx_get (v := .ref (a 18)) B hI hcl_MC hin_MC 0 (wM_at_0 a z u) 36 (by decide) hf_MC_36 zw_501 rfl d_MC_wantOne_1 ?_
  refine lv_aload_n B.1 B.2.1 d_MC_wantOne_4 rfl (lv_at hl 0 rfl) ?_
  refine rx_get (v := .int (gi u 18)) B hI hcl_MC hin_MC 0 (wM_at_0 a z u) 37 (by decide) hf_MC_37 zw_496 rfl d_MC_wantOne_5 ?_
  refine lv_iload_n B.1 B.2.1 d_MC_wantOne_8 rfl (lv_at hl 1 rfl) ?_
  obtain ⟨hi1, hf⟩ := zck_some hf
  refine rx_iast B hI 18 (wM_at_18 a z u) hi1 (wM_sa_16 a z u (gi u 18) x1) d_MC_wantOne_9 (fun H locs hI => ?_)
  refine lv_aload_n B.1 B.2.1 d_MC_wantOne_10 rfl (lv_at hl 0 rfl) ?_
  refine lv_dup B.1 B.2.1 d_MC_wantOne_11 rfl ?_
  refine rx_get (v := .int (gi u 18)) B hI hcl_MC hin_MC 0 (wM_at_0 a z (sa u 16 (gi u 18) x1)) 37 (by decide) hf_MC_37 zw_496 rfl d_MC_wantOne_12 ?_
  refine lv_iconst (v := 1) B.1 B.2.1 d_MC_wantOne_15 (by decide) ?_
  refine lv_iadd B.1 B.2.1 d_MC_wantOne_16 ?_
  refine rx_put B hI hcl_MC hin_MC hty_MC hnm_MC 0 (wM_at_0 a z (sa u 16 (gi u 18) x1)) 37 (by decide) hf_MC_37 zw_496 rfl (ty := .int) (by decide +kernel) rfl rfl (Nat.le_of_ble_eq_true rfl) (wM_si_18 a z (sa u 16 (gi u 18) x1) ((gi u 18) + 1)) d_MC_wantOne_17 (fun H locs hI => ?_)
  obtain ⟨e2, e3⟩ := zrt hf
  exact zr_v (wM a z) B hI hr hlk e3 d_MC_wantOne_20
set_option maxHeartbeats 4000000 in
set_option maxRecDepth 100000 in
theorem zc_MMC_wantParts_0 (l : Launch) (D : va_G) (z : zZ) (a : Nat → Nat) (N : Nat) (x1 : Int32) (x2 : Int32) (u : zU) (r : Unit) (u1 : zU) (hf : zf_MMC_wantParts_0 N x1 x2 u = some (r, u1)) : zMet l D z y_MC_wantParts (.code y_MC_wantParts b_MC_wantParts 5 none) { frames := 1, cells := 0, slots := 0, locals := 21 } [.ref (a 0), .int x1, .int x2] (wM a z u) (zQv D (wM a z u1)) := by
  refine zM_v (own := R_MC) [.ref (a 0), .int x1, .int x2] (wM a z u) (wM a z u1) (by decide) rfl (Nat.le_of_ble_eq_true rfl) ?_
  intro p e s m args below meth c A ls B hr hlk hI hl
  have hl : lv_has ls 5 [(0, .ref (a 0)), (1, .int x1), (2, .int x2)] := hl
  revert hf
  revert hI hl
  have hb23 : ∀ (n : Nat) (x1 : Int32) (x2 : Int32) (x3 : Int32) (x4 : Int32) (u : zU) (H : Heap) (locs : List Loc) (ls : Array Slot), zf_MMC_wantParts_0_b23 N  n x1 x2 x3 x4 u = some (r, u1) → iw D A s (wM a z u) H locs → lv_has ls 5 [(0, .ref (a 0)), (1, .int x1), (2, .int x2), (3, .int x3), (4, .int x4)] → W p l e ({ frames := 1, cells := 0, slots := 0, locals := 21 } : Room) s m args below meth c H locs 0 0 (MQ below (zQv D (wM a z u1) A) args s 0 0 A) (F0 m 23 ls []) := by
    intro n23
    induction n23 with
    | zero => intro x1 x2 x3 x4 u H locs ls hf; exact absurd hf (by rw [zf_MMC_wantParts_0_b23]; exact fun h => by cases h)
    | succ n23 ih23 =>
      have hb61 : ∀ (x1 : Int32) (x2 : Int32) (x3 : Int32) (x4 : Int32) (s0 : Int32) (u : zU) (H : Heap) (locs : List Loc) (ls : Array Slot), zf_MMC_wantParts_0_b61 N (zf_MMC_wantParts_0_b23 N  n23) x1 x2 x3 x4 s0 u = some (r, u1) → iw D A s (wM a z u) H locs → lv_has ls 5 [(0, .ref (a 0)), (1, .int x1), (2, .int x2), (3, .int x3), (4, .int x4)] → W p l e ({ frames := 1, cells := 0, slots := 0, locals := 21 } : Room) s m args below meth c H locs 0 0 (MQ below (zQv D (wM a z u1) A) args s 0 0 A) (F0 m 61 ls [.int s0, .ref (a 0)]) := by
        intro x1 x2 x3 x4 s0 u H locs ls hf hI hl
        unfold zf_MMC_wantParts_0_b61 at hf
        obtain ⟨r1, u2, h3, hf⟩ := zbd_some hf
        refine rx_Vv (n := 1) (As := [.int s0]) (rest := []) B hI hl.1 (zc_MMC_wantOne_0 l D z a N s0 u r1 u2 h3) zw_502 zw_504 zw_505 zw_399 zw_503 (by decide +kernel) 0 (wM_at_0 a z u) hcl_MC rfl rfl (Nat.le_of_ble_eq_true rfl) d_MC_wantParts_61 ⟨Nat.le_of_ble_eq_true rfl, Nat.le_of_ble_eq_true rfl⟩ rfl rfl ⟨Nat.zero_le _, Nat.zero_le _⟩ (fun H locs hI => ?_)
        refine lv_iinc (v := (x4 + 1)) (lv' := [(4, .int (x4 + 1)), (0, .ref (a 0)), (1, .int x1), (2, .int x2), (3, .int x3)]) B.1 B.2.1 d_MC_wantParts_64 hl (k := 4) rfl (by rfl) (by decide) rfl (fun ls hl => ?_)
        refine lv_goto (tgt := 23) B.1 B.2.1 d_MC_wantParts_67 (by decide) ?_
        exact ih23 x1 x2 x3 (x4 + 1) u2 _ _ _ hf hI (lv_sub hl [1, 2, 3, 4, 0] rfl)
      intro x1 x2 x3 x4 u H locs ls hf hI hl
      rw [zf_MMC_wantParts_0_b23] at hf
      refine lv_iload B.1 B.2.1 d_MC_wantParts_23 (lv_at hl 4 rfl) ?_
      refine lv_iload_n B.1 B.2.1 d_MC_wantParts_25 rfl (lv_at hl 3 rfl) ?_
      refine lv_icmp_ge (tgt := 70) B.1 B.2.1 d_MC_wantParts_26 (by decide) (fun hc1 => ?_) (fun hc1 => ?_)
      · rw [if_pos hc1] at hf
        obtain ⟨e2, e3⟩ := zrt hf
        exact zr_v (wM a z) B hI hr hlk e3 d_MC_wantParts_70
      · rw [if_neg hc1] at hf
        refine lv_aload_n B.1 B.2.1 d_MC_wantParts_29 rfl (lv_at hl 0 rfl) ?_
        refine lv_iload_n B.1 B.2.1 d_MC_wantParts_30 rfl (lv_at hl 2 rfl) ?_
        refine lv_if_eq (tgt := 49) B.1 B.2.1 d_MC_wantParts_31 (by decide) (fun hc4 => ?_) (fun hc4 => ?_)
        · rw [if_pos hc4] at hf
          refine lv_aload_n B.1 B.2.1 d_MC_wantParts_49 rfl (lv_at hl 0 rfl) ?_
          refine rx_get (v := .ref (a 3)) B hI hcl_MC hin_MC 0 (wM_at_0 a z u) 3 (by decide) hf_MC_3 zw_408 rfl d_MC_wantParts_50 ?_
          refine lv_bipush (v := 12) B.1 B.2.1 d_MC_wantParts_53 (by decide) ?_
          refine lv_iload_n B.1 B.2.1 d_MC_wantParts_55 rfl (lv_at hl 1 rfl) ?_
          refine lv_imul B.1 B.2.1 d_MC_wantParts_56 ?_
          refine lv_iload B.1 B.2.1 d_MC_wantParts_57 (lv_at hl 4 rfl) ?_
          refine lv_iadd B.1 B.2.1 d_MC_wantParts_59 ?_
          obtain ⟨hi5, hf⟩ := zck_some hf
          refine rx_iald B hI 3 (wM_at_3 a z u) hi5 d_MC_wantParts_60 ?_
          exact hb61 x1 x2 x3 x4 (ga u 2 ((12 * x1) + x4)) u _ _ _ hf hI (lv_sub hl [0, 1, 2, 3, 4] rfl)
        · rw [if_neg hc4] at hf
          refine lv_aload_n B.1 B.2.1 d_MC_wantParts_34 rfl (lv_at hl 0 rfl) ?_
          refine rx_get (v := .ref (a 4)) B hI hcl_MC hin_MC 0 (wM_at_0 a z u) 4 (by decide) hf_MC_4 zw_407 rfl d_MC_wantParts_35 ?_
          refine lv_bipush (v := 12) B.1 B.2.1 d_MC_wantParts_38 (by decide) ?_
          refine lv_iload_n B.1 B.2.1 d_MC_wantParts_40 rfl (lv_at hl 1 rfl) ?_
          refine lv_imul B.1 B.2.1 d_MC_wantParts_41 ?_
          refine lv_iload B.1 B.2.1 d_MC_wantParts_42 (lv_at hl 4 rfl) ?_
          refine lv_iadd B.1 B.2.1 d_MC_wantParts_44 ?_
          obtain ⟨hi6, hf⟩ := zck_some hf
          refine rx_iald B hI 4 (wM_at_4 a z u) hi6 d_MC_wantParts_45 ?_
          refine lv_goto (tgt := 61) B.1 B.2.1 d_MC_wantParts_46 (by decide) ?_
          exact hb61 x1 x2 x3 x4 (ga u 3 ((12 * x1) + x4)) u _ _ _ hf hI (lv_sub hl [0, 1, 2, 3, 4] rfl)
  have hb19 : ∀ (x1 : Int32) (x2 : Int32) (s0 : Int32) (u : zU) (H : Heap) (locs : List Loc) (ls : Array Slot), zf_MMC_wantParts_0_b19 N  x1 x2 s0 u = some (r, u1) → iw D A s (wM a z u) H locs → lv_has ls 5 [(0, .ref (a 0)), (1, .int x1), (2, .int x2)] → W p l e ({ frames := 1, cells := 0, slots := 0, locals := 21 } : Room) s m args below meth c H locs 0 0 (MQ below (zQv D (wM a z u1) A) args s 0 0 A) (F0 m 19 ls [.int s0]) := by
    intro x1 x2 s0 u H locs ls hf hI hl
    unfold zf_MMC_wantParts_0_b19 at hf
    refine lv_istore_n (lv' := [(3, .int s0), (0, .ref (a 0)), (1, .int x1), (2, .int x2)]) B.1 B.2.1 d_MC_wantParts_19 rfl hl (by decide) rfl (fun ls hl => ?_)
    refine lv_iconst (v := 0) B.1 B.2.1 d_MC_wantParts_20 (by decide) ?_
    refine lv_istore (lv' := [(4, .int 0), (3, .int s0), (0, .ref (a 0)), (1, .int x1), (2, .int x2)]) B.1 B.2.1 d_MC_wantParts_21 hl (by decide) rfl (fun ls hl => ?_)
    exact hb23 N x1 x2 s0 0 u _ _ _ hf hI (lv_sub hl [2, 3, 4, 1, 0] rfl)
  intro hI hl hf
  unfold zf_MMC_wantParts_0 at hf
  refine lv_iload_n B.1 B.2.1 d_MC_wantParts_0 rfl (lv_at hl 2 rfl) ?_
  refine lv_if_eq (tgt := 13) B.1 B.2.1 d_MC_wantParts_1 (by decide) (fun hc1 => ?_) (fun hc1 => ?_)
  · rw [if_pos hc1] at hf
    refine lv_aload_n B.1 B.2.1 d_MC_wantParts_13 rfl (lv_at hl 0 rfl) ?_
    refine rx_get (v := .ref (a 1)) B hI hcl_MC hin_MC 0 (wM_at_0 a z u) 1 (by decide) hf_MC_1 zw_409 rfl d_MC_wantParts_14 ?_
    refine lv_iload_n B.1 B.2.1 d_MC_wantParts_17 rfl (lv_at hl 1 rfl) ?_
    obtain ⟨hi2, hf⟩ := zck_some hf
    refine rx_iald B hI 1 (wM_at_1 a z u) hi2 d_MC_wantParts_18 ?_
    exact hb19 x1 x2 (ga u 0 x1) u _ _ _ hf hI (lv_sub hl [0, 1, 2] rfl)
  · rw [if_neg hc1] at hf
    refine lv_aload_n B.1 B.2.1 d_MC_wantParts_4 rfl (lv_at hl 0 rfl) ?_
    refine rx_get (v := .ref (a 2)) B hI hcl_MC hin_MC 0 (wM_at_0 a z u) 2 (by decide) hf_MC_2 zw_406 rfl d_MC_wantParts_5 ?_
    refine lv_iload_n B.1 B.2.1 d_MC_wantParts_8 rfl (lv_at hl 1 rfl) ?_
    obtain ⟨hi3, hf⟩ := zck_some hf
    refine rx_iald B hI 2 (wM_at_2 a z u) hi3 d_MC_wantParts_9 ?_
    refine lv_goto (tgt := 19) B.1 B.2.1 d_MC_wantParts_10 (by decide) ?_
    exact hb19 x1 x2 (ga u 1 x1) u _ _ _ hf hI (lv_sub hl [0, 1, 2] rfl)
set_option maxHeartbeats 4000000 in
set_option maxRecDepth 100000 in
theorem zc_MMC_take_0 (l : Launch) (D : va_G) (z : zZ) (a : Nat → Nat) (N : Nat) (x1 : Int32) (u : zU) (r : Unit) (u1 : zU) (hf : zf_MMC_take_0 N x1 u = some (r, u1)) : zMet l D z y_MC_take (.code y_MC_take b_MC_take 3 none) { frames := 1, cells := 0, slots := 0, locals := 21 } [.ref (a 0), .int x1] (wM a z u) (zQv D (wM a z u1)) := by
  refine zM_v (own := R_MC) [.ref (a 0), .int x1] (wM a z u) (wM a z u1) (by decide) rfl (Nat.le_of_ble_eq_true rfl) ?_
  intro p e s m args below meth c A ls B hr hlk hI hl
  have hl : lv_has ls 3 [(0, .ref (a 0)), (1, .int x1)] := hl
  revert hf
  revert hI hl
  have hb96 : ∀  (u : zU) (H : Heap) (locs : List Loc) (ls : Array Slot), zf_MMC_take_0_b96 N   u = some (r, u1) → iw D A s (wM a z u) H locs → lv_has ls 3 [] → W p l e ({ frames := 1, cells := 0, slots := 0, locals := 21 } : Room) s m args below meth c H locs 0 0 (MQ below (zQv D (wM a z u1) A) args s 0 0 A) (F0 m 96 ls []) := by
    intro  u H locs ls hf hI hl
    unfold zf_MMC_take_0_b96 at hf
    obtain ⟨e1, e2⟩ := zrt hf
    exact zr_v (wM a z) B hI hr hlk e2 d_MC_take_96
  have hb47 : ∀  (u : zU) (H : Heap) (locs : List Loc) (ls : Array Slot), zf_MMC_take_0_b47 N   u = some (r, u1) → iw D A s (wM a z u) H locs → lv_has ls 3 [] → W p l e ({ frames := 1, cells := 0, slots := 0, locals := 21 } : Room) s m args below meth c H locs 0 0 (MQ below (zQv D (wM a z u1) A) args s 0 0 A) (F0 m 47 ls []) := by
    intro  u H locs ls hf hI hl
    unfold zf_MMC_take_0_b47 at hf
    obtain ⟨e1, e2⟩ := zrt hf
    exact zr_v (wM a z) B hI hr hlk e2 d_MC_take_47
  intro hI hl hf
  unfold zf_MMC_take_0 at hf
  refine lv_aload_n B.1 B.2.1 d_MC_take_0 rfl (lv_at hl 0 rfl) ?_
  refine rx_get (v := .int (gi u 11)) B hI hcl_MC hin_MC 0 (wM_at_0 a z u) 28 (by decide) hf_MC_28 zw_439 rfl d_MC_take_1 ?_
  refine lv_if_le (tgt := 8) B.1 B.2.1 d_MC_take_4 (by decide) (fun hc1 => ?_) (fun hc1 => ?_)
  · rw [if_pos hc1] at hf
    refine lv_aload_n B.1 B.2.1 d_MC_take_8 rfl (lv_at hl 0 rfl) ?_
    refine rx_get (v := .int (gi u 10)) B hI hcl_MC hin_MC 0 (wM_at_0 a z u) 22 (by decide) hf_MC_22 zw_420 rfl d_MC_take_9 ?_
    refine lv_iconst (v := 1) B.1 B.2.1 d_MC_take_12 (by decide) ?_
    refine lv_isub B.1 B.2.1 d_MC_take_13 ?_
    refine lv_istore_n (lv' := [(2, .int ((gi u 10) - 1)), (0, .ref (a 0)), (1, .int x1)]) B.1 B.2.1 d_MC_take_14 rfl hl (by decide) rfl (fun ls hl => ?_)
    refine lv_aload_n B.1 B.2.1 d_MC_take_15 rfl (lv_at hl 1 rfl) ?_
    refine lv_iconst (v := 0) B.1 B.2.1 d_MC_take_16 (by decide) ?_
    refine rx_put B hI hcl_MC hin_MC hty_MC hnm_MC 0 (wM_at_0 a z u) 29 (by decide) hf_MC_29 zw_510 rfl (ty := .int) (by decide +kernel) rfl rfl (Nat.le_of_ble_eq_true rfl) (wM_si_12 a z u 0) d_MC_take_17 (fun H locs hI => ?_)
    refine lv_aload_n B.1 B.2.1 d_MC_take_20 rfl (lv_at hl 1 rfl) ?_
    refine rx_get (v := .int (gi u 13)) B hI hcl_MC hin_MC 0 (wM_at_0 a z (si u 12 0)) 30 (by decide) hf_MC_30 zw_440 rfl d_MC_take_21 ?_
    refine lv_aload_n B.1 B.2.1 d_MC_take_24 rfl (lv_at hl 1 rfl) ?_
    refine rx_get (v := .ref (a 15)) B hI hcl_MC hin_MC 0 (wM_at_0 a z (si u 12 0)) 26 (by decide) hf_MC_26 zw_422 rfl d_MC_take_25 ?_
    refine lv_iload_n B.1 B.2.1 d_MC_take_28 rfl (lv_at hl 0 rfl) ?_
    obtain ⟨hi2, hf⟩ := zck_some hf
    refine rx_iald B hI 15 (wM_at_15 a z (si u 12 0)) hi2 d_MC_take_29 ?_
    refine lv_icmp_ne (tgt := 48) B.1 B.2.1 d_MC_take_30 (by decide) (fun hc3 => ?_) (fun hc3 => ?_)
    · rw [if_neg hc3] at hf
      refine lv_aload_n B.1 B.2.1 d_MC_take_48 rfl (lv_at hl 1 rfl) ?_
      refine lv_dup B.1 B.2.1 d_MC_take_49 rfl ?_
      refine rx_get (v := .int (gi u 13)) B hI hcl_MC hin_MC 0 (wM_at_0 a z (si u 12 0)) 30 (by decide) hf_MC_30 zw_440 rfl d_MC_take_50 ?_
      refine lv_iconst (v := 1) B.1 B.2.1 d_MC_take_53 (by decide) ?_
      refine lv_isub B.1 B.2.1 d_MC_take_54 ?_
      refine rx_put B hI hcl_MC hin_MC hty_MC hnm_MC 0 (wM_at_0 a z (si u 12 0)) 30 (by decide) hf_MC_30 zw_440 rfl (ty := .int) (by decide +kernel) rfl rfl (Nat.le_of_ble_eq_true rfl) (wM_si_13 a z (si u 12 0) ((gi u 13) - 1)) d_MC_take_55 (fun H locs hI => ?_)
      refine lv_aload_n B.1 B.2.1 d_MC_take_58 rfl (lv_at hl 1 rfl) ?_
      refine lv_aload_n B.1 B.2.1 d_MC_take_59 rfl (lv_at hl 1 rfl) ?_
      refine rx_get (v := .ref (a 17)) B hI hcl_MC hin_MC 0 (wM_at_0 a z (si (si u 12 0) 13 ((gi u 13) - 1))) 31 (by decide) hf_MC_31 zw_441 rfl d_MC_take_60 ?_
      refine lv_aload_n B.1 B.2.1 d_MC_take_63 rfl (lv_at hl 1 rfl) ?_
      refine rx_get (v := .int ((gi u 13) - 1)) B hI hcl_MC hin_MC 0 (wM_at_0 a z (si (si u 12 0) 13 ((gi u 13) - 1))) 30 (by decide) hf_MC_30 zw_440 rfl d_MC_take_64 ?_
      obtain ⟨hi4, hf⟩ := zck_some hf
      refine rx_iald B hI 17 (wM_at_17 a z (si (si u 12 0) 13 ((gi u 13) - 1))) hi4 d_MC_take_67 ?_
      refine rx_put B hI hcl_MC hin_MC hty_MC hnm_MC 0 (wM_at_0 a z (si (si u 12 0) 13 ((gi u 13) - 1))) 29 (by decide) hf_MC_29 zw_510 rfl (ty := .int) (by decide +kernel) rfl rfl (Nat.le_of_ble_eq_true rfl) (wM_si_12 a z (si (si u 12 0) 13 ((gi u 13) - 1)) (ga (si (si u 12 0) 13 ((gi u 13) - 1)) 15 ((gi u 13) - 1))) d_MC_take_68 (fun H locs hI => ?_)
      refine lv_iload_n B.1 B.2.1 d_MC_take_71 rfl (lv_at hl 2 rfl) ?_
      refine lv_iconst (v := (-1)) B.1 B.2.1 d_MC_take_72 (by decide) ?_
      refine lv_icmp_eq (tgt := 96) B.1 B.2.1 d_MC_take_73 (by decide) (fun hc5 => ?_) (fun hc5 => ?_)
      · rw [if_pos hc5] at hf
        exact hb96  (si (si (si u 12 0) 13 ((gi u 13) - 1)) 12 (ga (si (si u 12 0) 13 ((gi u 13) - 1)) 15 ((gi u 13) - 1))) _ _ _ hf hI (lv_sub hl [] rfl)
      · rw [if_neg hc5] at hf
        refine lv_aload_n B.1 B.2.1 d_MC_take_76 rfl (lv_at hl 1 rfl) ?_
        refine rx_get (v := .int (ga (si (si u 12 0) 13 ((gi u 13) - 1)) 15 ((gi u 13) - 1))) B hI hcl_MC hin_MC 0 (wM_at_0 a z (si (si (si u 12 0) 13 ((gi u 13) - 1)) 12 (ga (si (si u 12 0) 13 ((gi u 13) - 1)) 15 ((gi u 13) - 1)))) 29 (by decide) hf_MC_29 zw_510 rfl d_MC_take_77 ?_
        refine lv_if_eq (tgt := 96) B.1 B.2.1 d_MC_take_80 (by decide) (fun hc6 => ?_) (fun hc6 => ?_)
        · rw [if_pos hc6] at hf
          exact hb96  (si (si (si u 12 0) 13 ((gi u 13) - 1)) 12 (ga (si (si u 12 0) 13 ((gi u 13) - 1)) 15 ((gi u 13) - 1))) _ _ _ hf hI (lv_sub hl [] rfl)
        · rw [if_neg hc6] at hf
          refine lv_aload_n B.1 B.2.1 d_MC_take_83 rfl (lv_at hl 1 rfl) ?_
          refine rx_get (v := .int (ga (si (si u 12 0) 13 ((gi u 13) - 1)) 15 ((gi u 13) - 1))) B hI hcl_MC hin_MC 0 (wM_at_0 a z (si (si (si u 12 0) 13 ((gi u 13) - 1)) 12 (ga (si (si u 12 0) 13 ((gi u 13) - 1)) 15 ((gi u 13) - 1)))) 29 (by decide) hf_MC_29 zw_510 rfl d_MC_take_84 ?_
          refine lv_iload_n B.1 B.2.1 d_MC_take_87 rfl (lv_at hl 2 rfl) ?_
          refine lv_icmp_eq (tgt := 96) B.1 B.2.1 d_MC_take_88 (by decide) (fun hc7 => ?_) (fun hc7 => ?_)
          · rw [if_pos hc7] at hf
            exact hb96  (si (si (si u 12 0) 13 ((gi u 13) - 1)) 12 (ga (si (si u 12 0) 13 ((gi u 13) - 1)) 15 ((gi u 13) - 1))) _ _ _ hf hI (lv_sub hl [] rfl)
          · rw [if_neg hc7] at hf
            refine lv_aload_n B.1 B.2.1 d_MC_take_91 rfl (lv_at hl 1 rfl) ?_
            refine lv_iconst (v := 1) B.1 B.2.1 d_MC_take_92 (by decide) ?_
            obtain ⟨r8, u9, h10, hf⟩ := zbd_some hf
            refine rx_Vv (n := 1) (As := [.int 1]) (rest := []) B hI hl.1 (zc_MMC_stop_0 l D z a N 1 (si (si (si u 12 0) 13 ((gi u 13) - 1)) 12 (ga (si (si u 12 0) 13 ((gi u 13) - 1)) 15 ((gi u 13) - 1))) r8 u9 h10) zw_456 zw_458 zw_459 zw_399 zw_457 (by decide +kernel) 0 (wM_at_0 a z (si (si (si u 12 0) 13 ((gi u 13) - 1)) 12 (ga (si (si u 12 0) 13 ((gi u 13) - 1)) 15 ((gi u 13) - 1)))) hcl_MC rfl rfl (Nat.le_of_ble_eq_true rfl) d_MC_take_93 ⟨Nat.le_of_ble_eq_true rfl, Nat.le_of_ble_eq_true rfl⟩ rfl rfl ⟨Nat.zero_le _, Nat.zero_le _⟩ (fun H locs hI => ?_)
            exact hb96  u9 _ _ _ hf hI (lv_sub hl [] rfl)
    · rw [if_pos hc3] at hf
      refine lv_aload_n B.1 B.2.1 d_MC_take_33 rfl (lv_at hl 1 rfl) ?_
      refine rx_get (v := .ref (a 16)) B hI hcl_MC hin_MC 0 (wM_at_0 a z (si u 12 0)) 27 (by decide) hf_MC_27 zw_423 rfl d_MC_take_34 ?_
      refine lv_iload_n B.1 B.2.1 d_MC_take_37 rfl (lv_at hl 0 rfl) ?_
      obtain ⟨hi11, hf⟩ := zck_some hf
      refine rx_zald B hI 16 (wM_at_16 a z (si u 12 0)) hi11 d_MC_take_38 ?_
      refine lv_if_ne (tgt := 47) B.1 B.2.1 d_MC_take_39 (by decide) (fun hc12 => ?_) (fun hc12 => ?_)
      · rw [if_neg hc12] at hf
        exact hb47  (si u 12 0) _ _ _ hf hI (lv_sub hl [] rfl)
      · rw [if_pos hc12] at hf
        refine lv_aload_n B.1 B.2.1 d_MC_take_42 rfl (lv_at hl 1 rfl) ?_
        refine lv_iconst (v := 1) B.1 B.2.1 d_MC_take_43 (by decide) ?_
        obtain ⟨r13, u14, h15, hf⟩ := zbd_some hf
        refine rx_Vv (n := 1) (As := [.int 1]) (rest := []) B hI hl.1 (zc_MMC_stop_0 l D z a N 1 (si u 12 0) r13 u14 h15) zw_456 zw_458 zw_459 zw_399 zw_457 (by decide +kernel) 0 (wM_at_0 a z (si u 12 0)) hcl_MC rfl rfl (Nat.le_of_ble_eq_true rfl) d_MC_take_44 ⟨Nat.le_of_ble_eq_true rfl, Nat.le_of_ble_eq_true rfl⟩ rfl rfl ⟨Nat.zero_le _, Nat.zero_le _⟩ (fun H locs hI => ?_)
        exact hb47  u14 _ _ _ hf hI (lv_sub hl [] rfl)
  · rw [if_neg hc1] at hf
    obtain ⟨e16, e17⟩ := zrt hf
    exact zr_v (wM a z) B hI hr hlk e17 d_MC_take_7
set_option maxHeartbeats 4000000 in
set_option maxRecDepth 100000 in
theorem zc_MMC_takeWanted_0 (l : Launch) (D : va_G) (z : zZ) (a : Nat → Nat) (N : Nat)  (u : zU) (r : Unit) (u1 : zU) (hf : zf_MMC_takeWanted_0 N  u = some (r, u1)) : zMet l D z y_MC_takeWanted (.code y_MC_takeWanted b_MC_takeWanted 2 none) { frames := 2, cells := 0, slots := 0, locals := 43 } [.ref (a 0)] (wM a z u) (zQv D (wM a z u1)) := by
  refine zM_v (own := R_MC) [.ref (a 0)] (wM a z u) (wM a z u1) (by decide) rfl (Nat.le_of_ble_eq_true rfl) ?_
  intro p e s m args below meth c A ls B hr hlk hI hl
  have hl : lv_has ls 2 [(0, .ref (a 0))] := hl
  revert hf
  revert hI hl
  have hb7 : ∀ (n : Nat) (x1 : Int32) (u : zU) (H : Heap) (locs : List Loc) (ls : Array Slot), zf_MMC_takeWanted_0_b7 N  n x1 u = some (r, u1) → iw D A s (wM a z u) H locs → lv_has ls 2 [(0, .ref (a 0)), (1, .int x1)] → W p l e ({ frames := 2, cells := 0, slots := 0, locals := 43 } : Room) s m args below meth c H locs 0 0 (MQ below (zQv D (wM a z u1) A) args s 0 0 A) (F0 m 7 ls []) := by
    intro n7
    induction n7 with
    | zero => intro x1 u H locs ls hf; exact absurd hf (by rw [zf_MMC_takeWanted_0_b7]; exact fun h => by cases h)
    | succ n7 ih7 =>
      intro x1 u H locs ls hf hI hl
      rw [zf_MMC_takeWanted_0_b7] at hf
      refine lv_iload_n B.1 B.2.1 d_MC_takeWanted_7 rfl (lv_at hl 1 rfl) ?_
      refine lv_if_lt (tgt := 27) B.1 B.2.1 d_MC_takeWanted_8 (by decide) (fun hc1 => ?_) (fun hc1 => ?_)
      · rw [if_pos hc1] at hf
        obtain ⟨e2, e3⟩ := zrt hf
        exact zr_v (wM a z) B hI hr hlk e3 d_MC_takeWanted_27
      · rw [if_neg hc1] at hf
        refine lv_aload_n B.1 B.2.1 d_MC_takeWanted_11 rfl (lv_at hl 0 rfl) ?_
        refine lv_aload_n B.1 B.2.1 d_MC_takeWanted_12 rfl (lv_at hl 0 rfl) ?_
        refine rx_get (v := .ref (a 18)) B hI hcl_MC hin_MC 0 (wM_at_0 a z u) 36 (by decide) hf_MC_36 zw_501 rfl d_MC_takeWanted_13 ?_
        refine lv_iload_n B.1 B.2.1 d_MC_takeWanted_16 rfl (lv_at hl 1 rfl) ?_
        obtain ⟨hi4, hf⟩ := zck_some hf
        refine rx_iald B hI 18 (wM_at_18 a z u) hi4 d_MC_takeWanted_17 ?_
        obtain ⟨r5, u6, h7, hf⟩ := zbd_some hf
        refine rx_Vv (n := 1) (As := [.int (ga u 16 x1)]) (rest := []) B hI hl.1 (zc_MMC_take_0 l D z a N (ga u 16 x1) u r5 u6 h7) zw_511 zw_513 zw_514 zw_399 zw_512 (by decide +kernel) 0 (wM_at_0 a z u) hcl_MC rfl rfl (Nat.le_of_ble_eq_true rfl) d_MC_takeWanted_18 ⟨Nat.le_of_ble_eq_true rfl, Nat.le_of_ble_eq_true rfl⟩ rfl rfl ⟨Nat.zero_le _, Nat.zero_le _⟩ (fun H locs hI => ?_)
        refine lv_iinc (v := (x1 + (-1))) (lv' := [(1, .int (x1 + (-1))), (0, .ref (a 0))]) B.1 B.2.1 d_MC_takeWanted_21 hl (k := 1) rfl (by rfl) (by decide) rfl (fun ls hl => ?_)
        refine lv_goto (tgt := 7) B.1 B.2.1 d_MC_takeWanted_24 (by decide) ?_
        exact ih7 (x1 + (-1)) u6 _ _ _ hf hI (lv_sub hl [1, 0] rfl)
  intro hI hl hf
  unfold zf_MMC_takeWanted_0 at hf
  refine lv_aload_n B.1 B.2.1 d_MC_takeWanted_0 rfl (lv_at hl 0 rfl) ?_
  refine rx_get (v := .int (gi u 18)) B hI hcl_MC hin_MC 0 (wM_at_0 a z u) 37 (by decide) hf_MC_37 zw_496 rfl d_MC_takeWanted_1 ?_
  refine lv_iconst (v := 1) B.1 B.2.1 d_MC_takeWanted_4 (by decide) ?_
  refine lv_isub B.1 B.2.1 d_MC_takeWanted_5 ?_
  refine lv_istore_n (lv' := [(1, .int ((gi u 18) - 1)), (0, .ref (a 0))]) B.1 B.2.1 d_MC_takeWanted_6 rfl hl (by decide) rfl (fun ls hl => ?_)
  exact hb7 N ((gi u 18) - 1) u _ _ _ hf hI (lv_sub hl [1, 0] rfl)
set_option maxHeartbeats 4000000 in
set_option maxRecDepth 100000 in
theorem zc_MMC_give_0 (l : Launch) (D : va_G) (z : zZ) (a : Nat → Nat) (N : Nat) (x1 : Int32) (u : zU) (r : Unit) (u1 : zU) (hf : zf_MMC_give_0 N x1 u = some (r, u1)) : zMet l D z y_MC_give (.code y_MC_give b_MC_give 2 none) { frames := 1, cells := 0, slots := 0, locals := 21 } [.ref (a 0), .int x1] (wM a z u) (zQv D (wM a z u1)) := by
  refine zM_v (own := R_MC) [.ref (a 0), .int x1] (wM a z u) (wM a z u1) (by decide) rfl (Nat.le_of_ble_eq_true rfl) ?_
  intro p e s m args below meth c A ls B hr hlk hI hl
  have hl : lv_has ls 2 [(0, .ref (a 0)), (1, .int x1)] := hl
  revert hf
  revert hI hl
  have hb16 : ∀ (x1 : Int32) (u : zU) (H : Heap) (locs : List Loc) (ls : Array Slot), zf_MMC_give_0_b16 N  x1 u = some (r, u1) → iw D A s (wM a z u) H locs → lv_has ls 2 [(0, .ref (a 0)), (1, .int x1)] → W p l e ({ frames := 1, cells := 0, slots := 0, locals := 21 } : Room) s m args below meth c H locs 0 0 (MQ below (zQv D (wM a z u1) A) args s 0 0 A) (F0 m 16 ls []) := by
    intro x1 u H locs ls hf hI hl
    unfold zf_MMC_give_0_b16 at hf
    refine lv_aload_n B.1 B.2.1 d_MC_give_16 rfl (lv_at hl 0 rfl) ?_
    refine rx_get (v := .int (gi u 11)) B hI hcl_MC hin_MC 0 (wM_at_0 a z u) 28 (by decide) hf_MC_28 zw_439 rfl d_MC_give_17 ?_
    refine lv_if_le (tgt := 24) B.1 B.2.1 d_MC_give_20 (by decide) (fun hc1 => ?_) (fun hc1 => ?_)
    · rw [if_pos hc1] at hf
      refine lv_aload_n B.1 B.2.1 d_MC_give_24 rfl (lv_at hl 0 rfl) ?_
      refine rx_get (v := .ref (a 17)) B hI hcl_MC hin_MC 0 (wM_at_0 a z u) 31 (by decide) hf_MC_31 zw_441 rfl d_MC_give_25 ?_
      refine lv_aload_n B.1 B.2.1 d_MC_give_28 rfl (lv_at hl 0 rfl) ?_
      refine rx_get (v := .int (gi u 13)) B hI hcl_MC hin_MC 0 (wM_at_0 a z u) 30 (by decide) hf_MC_30 zw_440 rfl d_MC_give_29 ?_
      refine lv_iload_n B.1 B.2.1 d_MC_give_32 rfl (lv_at hl 1 rfl) ?_
      obtain ⟨hi2, hf⟩ := zck_some hf
      refine rx_iast B hI 17 (wM_at_17 a z u) hi2 (wM_sa_15 a z u (gi u 13) x1) d_MC_give_33 (fun H locs hI => ?_)
      refine lv_aload_n B.1 B.2.1 d_MC_give_34 rfl (lv_at hl 0 rfl) ?_
      refine lv_dup B.1 B.2.1 d_MC_give_35 rfl ?_
      refine rx_get (v := .int (gi u 13)) B hI hcl_MC hin_MC 0 (wM_at_0 a z (sa u 15 (gi u 13) x1)) 30 (by decide) hf_MC_30 zw_440 rfl d_MC_give_36 ?_
      refine lv_iconst (v := 1) B.1 B.2.1 d_MC_give_39 (by decide) ?_
      refine lv_iadd B.1 B.2.1 d_MC_give_40 ?_
      refine rx_put B hI hcl_MC hin_MC hty_MC hnm_MC 0 (wM_at_0 a z (sa u 15 (gi u 13) x1)) 30 (by decide) hf_MC_30 zw_440 rfl (ty := .int) (by decide +kernel) rfl rfl (Nat.le_of_ble_eq_true rfl) (wM_si_13 a z (sa u 15 (gi u 13) x1) ((gi u 13) + 1)) d_MC_give_41 (fun H locs hI => ?_)
      obtain ⟨e3, e4⟩ := zrt hf
      exact zr_v (wM a z) B hI hr hlk e4 d_MC_give_44
    · rw [if_neg hc1] at hf
      obtain ⟨e5, e6⟩ := zrt hf
      exact zr_v (wM a z) B hI hr hlk e6 d_MC_give_23
  intro hI hl hf
  unfold zf_MMC_give_0 at hf
  refine lv_aload_n B.1 B.2.1 d_MC_give_0 rfl (lv_at hl 0 rfl) ?_
  refine rx_get (v := .int (gi u 13)) B hI hcl_MC hin_MC 0 (wM_at_0 a z u) 30 (by decide) hf_MC_30 zw_440 rfl d_MC_give_1 ?_
  refine lv_sipush (v := 200) B.1 B.2.1 d_MC_give_4 (by decide) ?_
  refine lv_icmp_ne (tgt := 16) B.1 B.2.1 d_MC_give_7 (by decide) (fun hc1 => ?_) (fun hc1 => ?_)
  · rw [if_neg hc1] at hf
    exact hb16 x1 u _ _ _ hf hI (lv_sub hl [0, 1] rfl)
  · rw [if_pos hc1] at hf
    refine lv_aload_n B.1 B.2.1 d_MC_give_10 rfl (lv_at hl 0 rfl) ?_
    refine lv_bipush (v := 15) B.1 B.2.1 d_MC_give_11 (by decide) ?_
    obtain ⟨r2, u3, h4, hf⟩ := zbd_some hf
    refine rx_Vv (n := 1) (As := [.int 15]) (rest := []) B hI hl.1 (zc_MMC_stop_0 l D z a N 15 u r2 u3 h4) zw_456 zw_458 zw_459 zw_399 zw_457 (by decide +kernel) 0 (wM_at_0 a z u) hcl_MC rfl rfl (Nat.le_of_ble_eq_true rfl) d_MC_give_13 ⟨Nat.le_of_ble_eq_true rfl, Nat.le_of_ble_eq_true rfl⟩ rfl rfl ⟨Nat.zero_le _, Nat.zero_le _⟩ (fun H locs hI => ?_)
    exact hb16 x1 u3 _ _ _ hf hI (lv_sub hl [0, 1] rfl)
