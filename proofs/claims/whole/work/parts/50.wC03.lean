set_option maxHeartbeats 4000000 in
set_option maxRecDepth 100000 in
theorem zc_CCC_isInstruction (l : Launch) (D : va_G) (z : zZ) (a : Nat → Nat) (N : Nat) (x0 : Int32) (u : zU) (r : Int32) (u1 : zU) (hf : zf_CCC_isInstruction N x0 u = some (r, u1)) : zMet l D z y_CC_isInstruction (.code y_CC_isInstruction b_CC_isInstruction 2 (some (.boolean))) { frames := 0, cells := 0, slots := 0, locals := 0 } [.int x0] (wC a z u) (zQi D r (wC a z u1)) := by
  refine zM_i (own := R_CC) [.int x0] (wC a z u) r (wC a z u1) (by decide) rfl (Nat.le_of_ble_eq_true rfl) ?_
  intro p e s m args below meth c A ls B hr hlk hI hl
  have hl : lv_has ls 2 [(0, .int x0)] := hl
  revert hf
  revert hI hl
  have hb2 : ∀ (n : Nat) (x0 : Int32) (x1 : Int32) (u : zU) (H : Heap) (locs : List Loc) (ls : Array Slot), zf_CCC_isInstruction_b2 N  n x0 x1 u = some (r, u1) → iw D A s (wC a z u) H locs → lv_has ls 2 [(0, .int x0), (1, .int x1)] → W p l e ({ frames := 0, cells := 0, slots := 0, locals := 0 } : Room) s m args below meth c H locs 0 0 (MQ below (zQi D r (wC a z u1) A) args s 0 0 A) (F0 m 2 ls []) := by
    intro n2
    induction n2 with
    | zero => intro x0 x1 u H locs ls hf; exact absurd hf (by rw [zf_CCC_isInstruction_b2]; exact fun h => by cases h)
    | succ n2 ih2 =>
      have hb34 : ∀ (x0 : Int32) (x1 : Int32) (u : zU) (H : Heap) (locs : List Loc) (ls : Array Slot), zf_CCC_isInstruction_b34 N (zf_CCC_isInstruction_b2 N  n2) x0 x1 u = some (r, u1) → iw D A s (wC a z u) H locs → lv_has ls 2 [(0, .int x0), (1, .int x1)] → W p l e ({ frames := 0, cells := 0, slots := 0, locals := 0 } : Room) s m args below meth c H locs 0 0 (MQ below (zQi D r (wC a z u1) A) args s 0 0 A) (F0 m 34 ls []) := by
        intro x0 x1 u H locs ls hf hI hl
        unfold zf_CCC_isInstruction_b34 at hf
        refine lv_iinc (v := (x1 + 2)) (lv' := [(1, .int (x1 + 2)), (0, .int x0)]) B.1 B.2.1 d_CC_isInstruction_34 hl (k := 1) rfl (by rfl) (by decide) rfl (fun ls hl => ?_)
        refine lv_goto (tgt := 2) B.1 B.2.1 d_CC_isInstruction_37 (by decide) ?_
        exact ih2 x0 (x1 + 2) u _ _ _ hf hI (lv_sub hl [1, 0] rfl)
      intro x0 x1 u H locs ls hf hI hl
      rw [zf_CCC_isInstruction_b2] at hf
      refine lv_iload_n B.1 B.2.1 d_CC_isInstruction_2 rfl (lv_at hl 1 rfl) ?_
      refine lv_iconst (v := 1) B.1 B.2.1 d_CC_isInstruction_3 (by decide) ?_
      refine lv_iadd B.1 B.2.1 d_CC_isInstruction_4 ?_
      refine rx_gets B hI 0 rfl zw_143 d_CC_isInstruction_5 (fun t1 ht1 => ?_)
      refine rx_tlen (v := 14) B hI ht1 (by decide) d_CC_isInstruction_8 ?_
      refine lv_icmp_ge (tgt := 40) B.1 B.2.1 d_CC_isInstruction_9 (by decide) (fun hc2 => ?_) (fun hc2 => ?_)
      · rw [if_pos hc2] at hf
        refine lv_iconst (v := 0) B.1 B.2.1 d_CC_isInstruction_40 (by decide) ?_
        obtain ⟨e3, e4⟩ := zrt hf
        exact zr_z (wC a z) B hI hr hlk (by decide) e3 e4 d_CC_isInstruction_41
      · rw [if_neg hc2] at hf
        refine lv_iload_n B.1 B.2.1 d_CC_isInstruction_12 rfl (lv_at hl 0 rfl) ?_
        refine rx_gets B hI 0 rfl zw_143 d_CC_isInstruction_13 (fun t5 ht5 => ?_)
        refine lv_iload_n B.1 B.2.1 d_CC_isInstruction_16 rfl (lv_at hl 1 rfl) ?_
        obtain ⟨hi6, hf⟩ := zck_some hf
        refine rx_ti B hI ht5 rfl hi6 d_CC_isInstruction_17 ?_
        refine lv_icmp_lt (tgt := 34) B.1 B.2.1 d_CC_isInstruction_18 (by decide) (fun hc7 => ?_) (fun hc7 => ?_)
        · rw [if_pos hc7] at hf
          exact hb34 x0 x1 u _ _ _ hf hI (lv_sub hl [0, 1] rfl)
        · rw [if_neg hc7] at hf
          refine lv_iload_n B.1 B.2.1 d_CC_isInstruction_21 rfl (lv_at hl 0 rfl) ?_
          refine rx_gets B hI 0 rfl zw_143 d_CC_isInstruction_22 (fun t8 ht8 => ?_)
          refine lv_iload_n B.1 B.2.1 d_CC_isInstruction_25 rfl (lv_at hl 1 rfl) ?_
          refine lv_iconst (v := 1) B.1 B.2.1 d_CC_isInstruction_26 (by decide) ?_
          refine lv_iadd B.1 B.2.1 d_CC_isInstruction_27 ?_
          obtain ⟨hi9, hf⟩ := zck_some hf
          refine rx_ti B hI ht8 rfl hi9 d_CC_isInstruction_28 ?_
          refine lv_icmp_gt (tgt := 34) B.1 B.2.1 d_CC_isInstruction_29 (by decide) (fun hc10 => ?_) (fun hc10 => ?_)
          · rw [if_pos hc10] at hf
            exact hb34 x0 x1 u _ _ _ hf hI (lv_sub hl [0, 1] rfl)
          · rw [if_neg hc10] at hf
            refine lv_iconst (v := 1) B.1 B.2.1 d_CC_isInstruction_32 (by decide) ?_
            obtain ⟨e11, e12⟩ := zrt hf
            exact zr_z (wC a z) B hI hr hlk (by decide) e11 e12 d_CC_isInstruction_33
  intro hI hl hf
  unfold zf_CCC_isInstruction at hf
  refine lv_iconst (v := 0) B.1 B.2.1 d_CC_isInstruction_0 (by decide) ?_
  refine lv_istore_n (lv' := [(1, .int 0), (0, .int x0)]) B.1 B.2.1 d_CC_isInstruction_1 rfl hl (by decide) rfl (fun ls hl => ?_)
  exact hb2 N x0 0 u _ _ _ hf hI (lv_sub hl [1, 0] rfl)
set_option maxHeartbeats 4000000 in
set_option maxRecDepth 100000 in
theorem zc_CCC_isBlockType (l : Launch) (D : va_G) (z : zZ) (a : Nat → Nat) (N : Nat) (x0 : Int32) (u : zU) (r : Int32) (u1 : zU) (hf : zf_CCC_isBlockType N x0 u = some (r, u1)) : zMet l D z y_CC_isBlockType (.code y_CC_isBlockType b_CC_isBlockType 1 (some (.boolean))) { frames := 2, cells := 0, slots := 0, locals := 40 } [.int x0] (wC a z u) (zQi D r (wC a z u1)) := by
  refine zM_i (own := R_CC) [.int x0] (wC a z u) r (wC a z u1) (by decide) rfl (Nat.le_of_ble_eq_true rfl) ?_
  intro p e s m args below meth c A ls B hr hlk hI hl
  have hl : lv_has ls 1 [(0, .int x0)] := hl
  revert hf
  revert hI hl
  have hb26 : ∀ (s0 : Int32) (u : zU) (H : Heap) (locs : List Loc) (ls : Array Slot), zf_CCC_isBlockType_b26 N  s0 u = some (r, u1) → iw D A s (wC a z u) H locs → lv_has ls 1 [] → W p l e ({ frames := 2, cells := 0, slots := 0, locals := 40 } : Room) s m args below meth c H locs 0 0 (MQ below (zQi D r (wC a z u1) A) args s 0 0 A) (F0 m 26 ls [.int s0]) := by
    intro s0 u H locs ls hf hI hl
    unfold zf_CCC_isBlockType_b26 at hf
    obtain ⟨hz3, hf⟩ := zck_some hf
    obtain ⟨e1, e2⟩ := zrt hf
    exact zr_z (wC a z) B hI hr hlk hz3 e1 e2 d_CC_isBlockType_26
  have hb21 : ∀  (u : zU) (H : Heap) (locs : List Loc) (ls : Array Slot), zf_CCC_isBlockType_b21 N   u = some (r, u1) → iw D A s (wC a z u) H locs → lv_has ls 1 [] → W p l e ({ frames := 2, cells := 0, slots := 0, locals := 40 } : Room) s m args below meth c H locs 0 0 (MQ below (zQi D r (wC a z u1) A) args s 0 0 A) (F0 m 21 ls []) := by
    intro  u H locs ls hf hI hl
    unfold zf_CCC_isBlockType_b21 at hf
    refine lv_iconst (v := 1) B.1 B.2.1 d_CC_isBlockType_21 (by decide) ?_
    refine lv_goto (tgt := 26) B.1 B.2.1 d_CC_isBlockType_22 (by decide) ?_
    exact hb26 1 u _ _ _ hf hI (lv_sub hl [] rfl)
  intro hI hl hf
  unfold zf_CCC_isBlockType at hf
  refine lv_iload_n B.1 B.2.1 d_CC_isBlockType_0 rfl (lv_at hl 0 rfl) ?_
  refine lv_if_ge (tgt := 21) B.1 B.2.1 d_CC_isBlockType_1 (by decide) (fun hc1 => ?_) (fun hc1 => ?_)
  · rw [if_pos hc1] at hf
    exact hb21  u _ _ _ hf hI (lv_sub hl [] rfl)
  · rw [if_neg hc1] at hf
    refine lv_iload_n B.1 B.2.1 d_CC_isBlockType_4 rfl (lv_at hl 0 rfl) ?_
    refine lv_bipush (v := (-64)) B.1 B.2.1 d_CC_isBlockType_5 (by decide) ?_
    refine lv_icmp_eq (tgt := 21) B.1 B.2.1 d_CC_isBlockType_7 (by decide) (fun hc2 => ?_) (fun hc2 => ?_)
    · rw [if_pos hc2] at hf
      exact hb21  u _ _ _ hf hI (lv_sub hl [] rfl)
    · rw [if_neg hc2] at hf
      refine lv_iload_n B.1 B.2.1 d_CC_isBlockType_10 rfl (lv_at hl 0 rfl) ?_
      refine lv_sipush (v := 128) B.1 B.2.1 d_CC_isBlockType_11 (by decide) ?_
      refine lv_iadd B.1 B.2.1 d_CC_isBlockType_14 ?_
      obtain ⟨r3, u4, h5, hf⟩ := zbd_some hf
      refine rx_Si (n := 1) (As := [.int (x0 + 128)]) (rest := []) B hI hl.1 (zc_CCC_isValueType l D z a N (x0 + 128) u r3 u4 h5) zw_18 zw_20 zw_15 zw_19 (by decide +kernel) rfl rfl (Nat.le_of_ble_eq_true rfl) d_CC_isBlockType_15 ⟨Nat.le_of_ble_eq_true rfl, Nat.le_of_ble_eq_true rfl⟩ rfl rfl ⟨Nat.zero_le _, Nat.zero_le _⟩ (fun H locs hI => ?_)
      refine lv_if_eq (tgt := 25) B.1 B.2.1 d_CC_isBlockType_18 (by decide) (fun hc6 => ?_) (fun hc6 => ?_)
      · rw [if_pos hc6] at hf
        refine lv_iconst (v := 0) B.1 B.2.1 d_CC_isBlockType_25 (by decide) ?_
        exact hb26 0 u4 _ _ _ hf hI (lv_sub hl [] rfl)
      · rw [if_neg hc6] at hf
        exact hb21  u4 _ _ _ hf hI (lv_sub hl [] rfl)
set_option maxHeartbeats 4000000 in
set_option maxRecDepth 100000 in
theorem zc_CCCode_isMalformed_26 (l : Launch) (D : va_G) (z : zZ) (a : Nat → Nat) (N : Nat) (x1 : Int32) (x2 : Int32) (u : zU) (r : Int32) (u1 : zU) (hf : zf_CCCode_isMalformed_26 N x1 x2 u = some (r, u1)) : zMet l D z y_CCode_isMalformed (.code y_CCode_isMalformed b_CCode_isMalformed 3 (some (.boolean))) { frames := 3, cells := 0, slots := 0, locals := 60 } [.ref (a 26), .int x1, .int x2] (wC a z u) (zQi D r (wC a z u1)) := by
  refine zM_i (own := R_CCode) [.ref (a 26), .int x1, .int x2] (wC a z u) r (wC a z u1) (by decide) rfl (Nat.le_of_ble_eq_true rfl) ?_
  intro p e s m args below meth c A ls B hr hlk hI hl
  have hl : lv_has ls 3 [(0, .ref (a 26)), (1, .int x1), (2, .int x2)] := hl
  revert hf
  revert hI hl
  have hb64 : ∀ (s0 : Int32) (u : zU) (H : Heap) (locs : List Loc) (ls : Array Slot), zf_CCCode_isMalformed_26_b64 N  s0 u = some (r, u1) → iw D A s (wC a z u) H locs → lv_has ls 3 [] → W p l e ({ frames := 3, cells := 0, slots := 0, locals := 60 } : Room) s m args below meth c H locs 0 0 (MQ below (zQi D r (wC a z u1) A) args s 0 0 A) (F0 m 64 ls [.int s0]) := by
    intro s0 u H locs ls hf hI hl
    unfold zf_CCCode_isMalformed_26_b64 at hf
    obtain ⟨hz3, hf⟩ := zck_some hf
    obtain ⟨e1, e2⟩ := zrt hf
    exact zr_z (wC a z) B hI hr hlk hz3 e1 e2 d_CCode_isMalformed_64
  have hb52 : ∀ (x2 : Int32) (u : zU) (H : Heap) (locs : List Loc) (ls : Array Slot), zf_CCCode_isMalformed_26_b52 N  x2 u = some (r, u1) → iw D A s (wC a z u) H locs → lv_has ls 3 [(2, .int x2)] → W p l e ({ frames := 3, cells := 0, slots := 0, locals := 60 } : Room) s m args below meth c H locs 0 0 (MQ below (zQi D r (wC a z u1) A) args s 0 0 A) (F0 m 52 ls []) := by
    intro x2 u H locs ls hf hI hl
    unfold zf_CCCode_isMalformed_26_b52 at hf
    refine lv_iload_n B.1 B.2.1 d_CCode_isMalformed_52 rfl (lv_at hl 0 rfl) ?_
    obtain ⟨r1, u2, h3, hf⟩ := zbd_some hf
    refine rx_Mi (n := 1) (As := [.int x2]) (rest := []) B hI hl.1 (zc_CCC_isBlockType l D z a N x2 u r1 u2 h3) zw_148 zw_150 zw_15 zw_149 (by decide +kernel) rfl rfl (Nat.le_of_ble_eq_true rfl) d_CCode_isMalformed_53 ⟨Nat.le_of_ble_eq_true rfl, Nat.le_of_ble_eq_true rfl⟩ rfl rfl ⟨Nat.zero_le _, Nat.zero_le _⟩ (fun H locs hI => ?_)
    refine lv_if_ne (tgt := 63) B.1 B.2.1 d_CCode_isMalformed_56 (by decide) (fun hc4 => ?_) (fun hc4 => ?_)
    · rw [if_neg hc4] at hf
      refine lv_iconst (v := 0) B.1 B.2.1 d_CCode_isMalformed_63 (by decide) ?_
      exact hb64 0 u2 _ _ _ hf hI (lv_sub hl [] rfl)
    · rw [if_pos hc4] at hf
      refine lv_iconst (v := 1) B.1 B.2.1 d_CCode_isMalformed_59 (by decide) ?_
      refine lv_goto (tgt := 64) B.1 B.2.1 d_CCode_isMalformed_60 (by decide) ?_
      exact hb64 1 u2 _ _ _ hf hI (lv_sub hl [] rfl)
  have hb77 : ∀ (s0 : Int32) (u : zU) (H : Heap) (locs : List Loc) (ls : Array Slot), zf_CCCode_isMalformed_26_b77 N  s0 u = some (r, u1) → iw D A s (wC a z u) H locs → lv_has ls 3 [] → W p l e ({ frames := 3, cells := 0, slots := 0, locals := 60 } : Room) s m args below meth c H locs 0 0 (MQ below (zQi D r (wC a z u1) A) args s 0 0 A) (F0 m 77 ls [.int s0]) := by
    intro s0 u H locs ls hf hI hl
    unfold zf_CCCode_isMalformed_26_b77 at hf
    obtain ⟨hz3, hf⟩ := zck_some hf
    obtain ⟨e1, e2⟩ := zrt hf
    exact zr_z (wC a z) B hI hr hlk hz3 e1 e2 d_CCode_isMalformed_77
  have hb90 : ∀ (s0 : Int32) (u : zU) (H : Heap) (locs : List Loc) (ls : Array Slot), zf_CCCode_isMalformed_26_b90 N  s0 u = some (r, u1) → iw D A s (wC a z u) H locs → lv_has ls 3 [] → W p l e ({ frames := 3, cells := 0, slots := 0, locals := 60 } : Room) s m args below meth c H locs 0 0 (MQ below (zQi D r (wC a z u1) A) args s 0 0 A) (F0 m 90 ls [.int s0]) := by
    intro s0 u H locs ls hf hI hl
    unfold zf_CCCode_isMalformed_26_b90 at hf
    obtain ⟨hz3, hf⟩ := zck_some hf
    obtain ⟨e1, e2⟩ := zrt hf
    exact zr_z (wC a z) B hI hr hlk hz3 e1 e2 d_CCode_isMalformed_90
  have hb103 : ∀ (s0 : Int32) (u : zU) (H : Heap) (locs : List Loc) (ls : Array Slot), zf_CCCode_isMalformed_26_b103 N  s0 u = some (r, u1) → iw D A s (wC a z u) H locs → lv_has ls 3 [] → W p l e ({ frames := 3, cells := 0, slots := 0, locals := 60 } : Room) s m args below meth c H locs 0 0 (MQ below (zQi D r (wC a z u1) A) args s 0 0 A) (F0 m 103 ls [.int s0]) := by
    intro s0 u H locs ls hf hI hl
    unfold zf_CCCode_isMalformed_26_b103 at hf
    obtain ⟨hz3, hf⟩ := zck_some hf
    obtain ⟨e1, e2⟩ := zrt hf
    exact zr_z (wC a z) B hI hr hlk hz3 e1 e2 d_CCode_isMalformed_103
  intro hI hl hf
  unfold zf_CCCode_isMalformed_26 at hf
  refine lv_iload_n B.1 B.2.1 d_CCode_isMalformed_0 rfl (lv_at hl 1 rfl) ?_
  by_cases hc1 : x1 = 2
  · rw [if_pos hc1] at hf
    refine lv_lookup (off := 51) (tgt := 52) B.1 B.2.1 d_CCode_isMalformed_1 (by decide +kernel) (by rw [hc1]; decide +kernel) (by decide) ?_
    exact hb52 x2 u _ _ _ hf hI (lv_sub hl [2] rfl)
  rw [if_neg hc1] at hf
  by_cases hc2 : x1 = 3
  · rw [if_pos hc2] at hf
    refine lv_lookup (off := 51) (tgt := 52) B.1 B.2.1 d_CCode_isMalformed_1 (by decide +kernel) (by rw [hc2]; decide +kernel) (by decide) ?_
    exact hb52 x2 u _ _ _ hf hI (lv_sub hl [2] rfl)
  rw [if_neg hc2] at hf
  by_cases hc3 : x1 = 4
  · rw [if_pos hc3] at hf
    refine lv_lookup (off := 51) (tgt := 52) B.1 B.2.1 d_CCode_isMalformed_1 (by decide +kernel) (by rw [hc3]; decide +kernel) (by decide) ?_
    exact hb52 x2 u _ _ _ hf hI (lv_sub hl [2] rfl)
  rw [if_neg hc3] at hf
  by_cases hc4 : x1 = 28
  · rw [if_pos hc4] at hf
    refine lv_lookup (off := 64) (tgt := 65) B.1 B.2.1 d_CCode_isMalformed_1 (by decide +kernel) (by rw [hc4]; decide +kernel) (by decide) ?_
    refine lv_iload_n B.1 B.2.1 d_CCode_isMalformed_65 rfl (lv_at hl 2 rfl) ?_
    obtain ⟨r5, u6, h7, hf⟩ := zbd_some hf
    refine rx_Mi (n := 1) (As := [.int x2]) (rest := []) B hI hl.1 (zc_CCC_isValueType l D z a N x2 u r5 u6 h7) zw_129 zw_20 zw_15 zw_19 (by decide +kernel) rfl rfl (Nat.le_of_ble_eq_true rfl) d_CCode_isMalformed_66 ⟨Nat.le_of_ble_eq_true rfl, Nat.le_of_ble_eq_true rfl⟩ rfl rfl ⟨Nat.zero_le _, Nat.zero_le _⟩ (fun H locs hI => ?_)
    refine lv_if_ne (tgt := 76) B.1 B.2.1 d_CCode_isMalformed_69 (by decide) (fun hc8 => ?_) (fun hc8 => ?_)
    · rw [if_neg hc8] at hf
      refine lv_iconst (v := 0) B.1 B.2.1 d_CCode_isMalformed_76 (by decide) ?_
      exact hb77 0 u6 _ _ _ hf hI (lv_sub hl [] rfl)
    · rw [if_pos hc8] at hf
      refine lv_iconst (v := 1) B.1 B.2.1 d_CCode_isMalformed_72 (by decide) ?_
      refine lv_goto (tgt := 77) B.1 B.2.1 d_CCode_isMalformed_73 (by decide) ?_
      exact hb77 1 u6 _ _ _ hf hI (lv_sub hl [] rfl)
  rw [if_neg hc4] at hf
  by_cases hc9 : x1 = 208
  · rw [if_pos hc9] at hf
    refine lv_lookup (off := 77) (tgt := 78) B.1 B.2.1 d_CCode_isMalformed_1 (by decide +kernel) (by rw [hc9]; decide +kernel) (by decide) ?_
    refine lv_iload_n B.1 B.2.1 d_CCode_isMalformed_78 rfl (lv_at hl 2 rfl) ?_
    obtain ⟨r10, u11, h12, hf⟩ := zbd_some hf
    refine rx_Mi (n := 1) (As := [.int x2]) (rest := []) B hI hl.1 (zc_CCC_isReferenceType l D z a N x2 u r10 u11 h12) zw_147 zw_17 zw_15 zw_16 (by decide +kernel) rfl rfl (Nat.le_of_ble_eq_true rfl) d_CCode_isMalformed_79 ⟨Nat.le_of_ble_eq_true rfl, Nat.le_of_ble_eq_true rfl⟩ rfl rfl ⟨Nat.zero_le _, Nat.zero_le _⟩ (fun H locs hI => ?_)
    refine lv_if_ne (tgt := 89) B.1 B.2.1 d_CCode_isMalformed_82 (by decide) (fun hc13 => ?_) (fun hc13 => ?_)
    · rw [if_neg hc13] at hf
      refine lv_iconst (v := 0) B.1 B.2.1 d_CCode_isMalformed_89 (by decide) ?_
      exact hb90 0 u11 _ _ _ hf hI (lv_sub hl [] rfl)
    · rw [if_pos hc13] at hf
      refine lv_iconst (v := 1) B.1 B.2.1 d_CCode_isMalformed_85 (by decide) ?_
      refine lv_goto (tgt := 90) B.1 B.2.1 d_CCode_isMalformed_86 (by decide) ?_
      exact hb90 1 u11 _ _ _ hf hI (lv_sub hl [] rfl)
  rw [if_neg hc9] at hf
  refine lv_lookup (off := 90) (tgt := 91) B.1 B.2.1 d_CCode_isMalformed_1 (by decide +kernel) ((lv_osw hc1 (by decide)).trans ((lv_osw hc2 (by decide)).trans ((lv_osw hc3 (by decide)).trans ((lv_osw hc4 (by decide)).trans ((lv_osw hc9 (by decide)).trans (Op.lookupswitch.offset_nil _ _)))))) (by decide) ?_
  refine lv_iload_n B.1 B.2.1 d_CCode_isMalformed_91 rfl (lv_at hl 1 rfl) ?_
  obtain ⟨r14, u15, h16, hf⟩ := zbd_some hf
  refine rx_Mi (n := 1) (As := [.int x1]) (rest := []) B hI hl.1 (zc_CCC_isInstruction l D z a N x1 u r14 u15 h16) zw_144 zw_146 zw_15 zw_145 (by decide +kernel) rfl rfl (Nat.le_of_ble_eq_true rfl) d_CCode_isMalformed_92 ⟨Nat.le_of_ble_eq_true rfl, Nat.le_of_ble_eq_true rfl⟩ rfl rfl ⟨Nat.zero_le _, Nat.zero_le _⟩ (fun H locs hI => ?_)
  refine lv_if_ne (tgt := 102) B.1 B.2.1 d_CCode_isMalformed_95 (by decide) (fun hc17 => ?_) (fun hc17 => ?_)
  · rw [if_neg hc17] at hf
    refine lv_iconst (v := 0) B.1 B.2.1 d_CCode_isMalformed_102 (by decide) ?_
    exact hb103 0 u15 _ _ _ hf hI (lv_sub hl [] rfl)
  · rw [if_pos hc17] at hf
    refine lv_iconst (v := 1) B.1 B.2.1 d_CCode_isMalformed_98 (by decide) ?_
    refine lv_goto (tgt := 103) B.1 B.2.1 d_CCode_isMalformed_99 (by decide) ?_
    exact hb103 1 u15 _ _ _ hf hI (lv_sub hl [] rfl)
set_option maxHeartbeats 4000000 in
set_option maxRecDepth 100000 in
theorem zc_CCShelf_has_17 (l : Launch) (D : va_G) (z : zZ) (a : Nat → Nat) (N : Nat) (x1 : Int32) (u : zU) (r : Int32) (u1 : zU) (hf : zf_CCShelf_has_17 N x1 u = some (r, u1)) : zMet l D z y_CShelf_has (.code y_CShelf_has b_CShelf_has 2 (some (.boolean))) { frames := 0, cells := 0, slots := 0, locals := 0 } [.ref (a 17), .int x1] (wC a z u) (zQi D r (wC a z u1)) := by
  refine zM_i (own := R_CShelf) [.ref (a 17), .int x1] (wC a z u) r (wC a z u1) (by decide) rfl (Nat.le_of_ble_eq_true rfl) ?_
  intro p e s m args below meth c A ls B hr hlk hI hl
  have hl : lv_has ls 2 [(0, .ref (a 17)), (1, .int x1)] := hl
  revert hf
  revert hI hl
  have hb17 : ∀ (s0 : Int32) (u : zU) (H : Heap) (locs : List Loc) (ls : Array Slot), zf_CCShelf_has_17_b17 N  s0 u = some (r, u1) → iw D A s (wC a z u) H locs → lv_has ls 2 [] → W p l e ({ frames := 0, cells := 0, slots := 0, locals := 0 } : Room) s m args below meth c H locs 0 0 (MQ below (zQi D r (wC a z u1) A) args s 0 0 A) (F0 m 17 ls [.int s0]) := by
    intro s0 u H locs ls hf hI hl
    unfold zf_CCShelf_has_17_b17 at hf
    obtain ⟨hz3, hf⟩ := zck_some hf
    obtain ⟨e1, e2⟩ := zrt hf
    exact zr_z (wC a z) B hI hr hlk hz3 e1 e2 d_CShelf_has_17
  have hb16 : ∀  (u : zU) (H : Heap) (locs : List Loc) (ls : Array Slot), zf_CCShelf_has_17_b16 N   u = some (r, u1) → iw D A s (wC a z u) H locs → lv_has ls 2 [] → W p l e ({ frames := 0, cells := 0, slots := 0, locals := 0 } : Room) s m args below meth c H locs 0 0 (MQ below (zQi D r (wC a z u1) A) args s 0 0 A) (F0 m 16 ls []) := by
    intro  u H locs ls hf hI hl
    unfold zf_CCShelf_has_17_b16 at hf
    refine lv_iconst (v := 0) B.1 B.2.1 d_CShelf_has_16 (by decide) ?_
    exact hb17 0 u _ _ _ hf hI (lv_sub hl [] rfl)
  intro hI hl hf
  unfold zf_CCShelf_has_17 at hf
  refine lv_iload_n B.1 B.2.1 d_CShelf_has_0 rfl (lv_at hl 1 rfl) ?_
  refine lv_if_lt (tgt := 16) B.1 B.2.1 d_CShelf_has_1 (by decide) (fun hc1 => ?_) (fun hc1 => ?_)
  · rw [if_pos hc1] at hf
    exact hb16  u _ _ _ hf hI (lv_sub hl [] rfl)
  · rw [if_neg hc1] at hf
    refine lv_iload_n B.1 B.2.1 d_CShelf_has_4 rfl (lv_at hl 1 rfl) ?_
    refine lv_aload_n B.1 B.2.1 d_CShelf_has_5 rfl (lv_at hl 0 rfl) ?_
    refine rx_get (v := .int (gi u 4)) B hI hcl_CShelf hin_CShelf 17 (wC_at_17 a z u) 2 (by decide) hf_CShelf_2 zw_40 rfl d_CShelf_has_6 ?_
    refine lv_icmp_ge (tgt := 16) B.1 B.2.1 d_CShelf_has_9 (by decide) (fun hc2 => ?_) (fun hc2 => ?_)
    · rw [if_pos hc2] at hf
      exact hb16  u _ _ _ hf hI (lv_sub hl [] rfl)
    · rw [if_neg hc2] at hf
      refine lv_iconst (v := 1) B.1 B.2.1 d_CShelf_has_12 (by decide) ?_
      refine lv_goto (tgt := 17) B.1 B.2.1 d_CShelf_has_13 (by decide) ?_
      exact hb17 1 u _ _ _ hf hI (lv_sub hl [] rfl)
set_option maxHeartbeats 4000000 in
set_option maxRecDepth 100000 in
theorem zc_CCShelf_isMarked_17 (l : Launch) (D : va_G) (z : zZ) (a : Nat → Nat) (N : Nat) (x1 : Int32) (u : zU) (r : Int32) (u1 : zU) (hf : zf_CCShelf_isMarked_17 N x1 u = some (r, u1)) : zMet l D z y_CShelf_isMarked (.code y_CShelf_isMarked b_CShelf_isMarked 2 (some (.boolean))) { frames := 1, cells := 0, slots := 0, locals := 21 } [.ref (a 17), .int x1] (wC a z u) (zQi D r (wC a z u1)) := by
  refine zM_i (own := R_CShelf) [.ref (a 17), .int x1] (wC a z u) r (wC a z u1) (by decide) rfl (Nat.le_of_ble_eq_true rfl) ?_
  intro p e s m args below meth c A ls B hr hlk hI hl
  have hl : lv_has ls 2 [(0, .ref (a 17)), (1, .int x1)] := hl
  revert hf
  revert hI hl
  have hb31 : ∀ (s0 : Int32) (u : zU) (H : Heap) (locs : List Loc) (ls : Array Slot), zf_CCShelf_isMarked_17_b31 N  s0 u = some (r, u1) → iw D A s (wC a z u) H locs → lv_has ls 2 [] → W p l e ({ frames := 1, cells := 0, slots := 0, locals := 21 } : Room) s m args below meth c H locs 0 0 (MQ below (zQi D r (wC a z u1) A) args s 0 0 A) (F0 m 31 ls [.int s0]) := by
    intro s0 u H locs ls hf hI hl
    unfold zf_CCShelf_isMarked_17_b31 at hf
    obtain ⟨hz3, hf⟩ := zck_some hf
    obtain ⟨e1, e2⟩ := zrt hf
    exact zr_z (wC a z) B hI hr hlk hz3 e1 e2 d_CShelf_isMarked_31
  have hb30 : ∀  (u : zU) (H : Heap) (locs : List Loc) (ls : Array Slot), zf_CCShelf_isMarked_17_b30 N   u = some (r, u1) → iw D A s (wC a z u) H locs → lv_has ls 2 [] → W p l e ({ frames := 1, cells := 0, slots := 0, locals := 21 } : Room) s m args below meth c H locs 0 0 (MQ below (zQi D r (wC a z u1) A) args s 0 0 A) (F0 m 30 ls []) := by
    intro  u H locs ls hf hI hl
    unfold zf_CCShelf_isMarked_17_b30 at hf
    refine lv_iconst (v := 0) B.1 B.2.1 d_CShelf_isMarked_30 (by decide) ?_
    exact hb31 0 u _ _ _ hf hI (lv_sub hl [] rfl)
  intro hI hl hf
  unfold zf_CCShelf_isMarked_17 at hf
  refine lv_aload_n B.1 B.2.1 d_CShelf_isMarked_0 rfl (lv_at hl 0 rfl) ?_
  refine lv_iload_n B.1 B.2.1 d_CShelf_isMarked_1 rfl (lv_at hl 1 rfl) ?_
  obtain ⟨r1, u2, h3, hf⟩ := zbd_some hf
  refine rx_Vi (n := 1) (As := [.int x1]) (rest := []) B hI hl.1 (zc_CCShelf_has_17 l D z a N x1 u r1 u2 h3) zw_64 zw_66 zw_67 zw_44 zw_65 (by decide +kernel) 17 (wC_at_17 a z u) hcl_CShelf rfl rfl (Nat.le_of_ble_eq_true rfl) d_CShelf_isMarked_2 ⟨Nat.le_of_ble_eq_true rfl, Nat.le_of_ble_eq_true rfl⟩ rfl rfl ⟨Nat.zero_le _, Nat.zero_le _⟩ (fun H locs hI => ?_)
  refine lv_if_eq (tgt := 30) B.1 B.2.1 d_CShelf_isMarked_5 (by decide) (fun hc4 => ?_) (fun hc4 => ?_)
  · rw [if_pos hc4] at hf
    exact hb30  u2 _ _ _ hf hI (lv_sub hl [] rfl)
  · rw [if_neg hc4] at hf
    refine lv_iload_n B.1 B.2.1 d_CShelf_isMarked_8 rfl (lv_at hl 1 rfl) ?_
    refine lv_aload_n B.1 B.2.1 d_CShelf_isMarked_9 rfl (lv_at hl 0 rfl) ?_
    refine rx_get (v := .ref (a 19)) B hI hcl_CShelf hin_CShelf 17 (wC_at_17 a z u2) 1 (by decide) hf_CShelf_1 zw_42 rfl d_CShelf_isMarked_10 ?_
    refine rx_alen (v := 40) B hI 19 1 (wC_at_19 a z u2) rfl rfl d_CShelf_isMarked_13 ?_
    refine lv_icmp_ge (tgt := 30) B.1 B.2.1 d_CShelf_isMarked_14 (by decide) (fun hc5 => ?_) (fun hc5 => ?_)
    · rw [if_pos hc5] at hf
      exact hb30  u2 _ _ _ hf hI (lv_sub hl [] rfl)
    · rw [if_neg hc5] at hf
      refine lv_aload_n B.1 B.2.1 d_CShelf_isMarked_17 rfl (lv_at hl 0 rfl) ?_
      refine rx_get (v := .ref (a 19)) B hI hcl_CShelf hin_CShelf 17 (wC_at_17 a z u2) 1 (by decide) hf_CShelf_1 zw_42 rfl d_CShelf_isMarked_18 ?_
      refine lv_iload_n B.1 B.2.1 d_CShelf_isMarked_21 rfl (lv_at hl 1 rfl) ?_
      obtain ⟨hi6, hf⟩ := zck_some hf
      refine rx_zald B hI 19 (wC_at_19 a z u2) hi6 d_CShelf_isMarked_22 ?_
      refine lv_if_eq (tgt := 30) B.1 B.2.1 d_CShelf_isMarked_23 (by decide) (fun hc7 => ?_) (fun hc7 => ?_)
      · rw [if_pos hc7] at hf
        exact hb30  u2 _ _ _ hf hI (lv_sub hl [] rfl)
      · rw [if_neg hc7] at hf
        refine lv_iconst (v := 1) B.1 B.2.1 d_CShelf_isMarked_26 (by decide) ?_
        refine lv_goto (tgt := 31) B.1 B.2.1 d_CShelf_isMarked_27 (by decide) ?_
        exact hb31 1 u2 _ _ _ hf hI (lv_sub hl [] rfl)
set_option maxHeartbeats 4000000 in
set_option maxRecDepth 100000 in
theorem zc_CCCode_mayStandInConstant_26 (l : Launch) (D : va_G) (z : zZ) (a : Nat → Nat) (N : Nat) (x1 : Int32) (x2 : Int32) (u : zU) (r : Int32) (u1 : zU) (hf : zf_CCCode_mayStandInConstant_26 N x1 x2 u = some (r, u1)) : zMet l D z y_CCode_mayStandInConstant (.code y_CCode_mayStandInConstant b_CCode_mayStandInConstant 3 (some (.boolean))) { frames := 2, cells := 0, slots := 0, locals := 42 } [.ref (a 26), .int x1, .int x2] (wC a z u) (zQi D r (wC a z u1)) := by
  refine zM_i (own := R_CCode) [.ref (a 26), .int x1, .int x2] (wC a z u) r (wC a z u1) (by decide) rfl (Nat.le_of_ble_eq_true rfl) ?_
  intro p e s m args below meth c A ls B hr hlk hI hl
  have hl : lv_has ls 3 [(0, .ref (a 26)), (1, .int x1), (2, .int x2)] := hl
  revert hf
  revert hI hl
  have hb85 : ∀ (s0 : Int32) (u : zU) (H : Heap) (locs : List Loc) (ls : Array Slot), zf_CCCode_mayStandInConstant_26_b85 N  s0 u = some (r, u1) → iw D A s (wC a z u) H locs → lv_has ls 3 [] → W p l e ({ frames := 2, cells := 0, slots := 0, locals := 42 } : Room) s m args below meth c H locs 0 0 (MQ below (zQi D r (wC a z u1) A) args s 0 0 A) (F0 m 85 ls [.int s0]) := by
    intro s0 u H locs ls hf hI hl
    unfold zf_CCCode_mayStandInConstant_26_b85 at hf
    obtain ⟨hz3, hf⟩ := zck_some hf
    obtain ⟨e1, e2⟩ := zrt hf
    exact zr_z (wC a z) B hI hr hlk hz3 e1 e2 d_CCode_mayStandInConstant_85
  have hb80 : ∀  (u : zU) (H : Heap) (locs : List Loc) (ls : Array Slot), zf_CCCode_mayStandInConstant_26_b80 N   u = some (r, u1) → iw D A s (wC a z u) H locs → lv_has ls 3 [] → W p l e ({ frames := 2, cells := 0, slots := 0, locals := 42 } : Room) s m args below meth c H locs 0 0 (MQ below (zQi D r (wC a z u1) A) args s 0 0 A) (F0 m 80 ls []) := by
    intro  u H locs ls hf hI hl
    unfold zf_CCCode_mayStandInConstant_26_b80 at hf
    refine lv_iconst (v := 1) B.1 B.2.1 d_CCode_mayStandInConstant_80 (by decide) ?_
    refine lv_goto (tgt := 85) B.1 B.2.1 d_CCode_mayStandInConstant_81 (by decide) ?_
    exact hb85 1 u _ _ _ hf hI (lv_sub hl [] rfl)
  have hb66 : ∀ (x1 : Int32) (u : zU) (H : Heap) (locs : List Loc) (ls : Array Slot), zf_CCCode_mayStandInConstant_26_b66 N  x1 u = some (r, u1) → iw D A s (wC a z u) H locs → lv_has ls 3 [(1, .int x1)] → W p l e ({ frames := 2, cells := 0, slots := 0, locals := 42 } : Room) s m args below meth c H locs 0 0 (MQ below (zQi D r (wC a z u1) A) args s 0 0 A) (F0 m 66 ls []) := by
    intro x1 u H locs ls hf hI hl
    unfold zf_CCCode_mayStandInConstant_26_b66 at hf
    refine lv_iload_n B.1 B.2.1 d_CCode_mayStandInConstant_66 rfl (lv_at hl 0 rfl) ?_
    refine lv_sipush (v := 208) B.1 B.2.1 d_CCode_mayStandInConstant_67 (by decide) ?_
    refine lv_icmp_eq (tgt := 80) B.1 B.2.1 d_CCode_mayStandInConstant_70 (by decide) (fun hc1 => ?_) (fun hc1 => ?_)
    · rw [if_pos hc1] at hf
      exact hb80  u _ _ _ hf hI (lv_sub hl [] rfl)
    · rw [if_neg hc1] at hf
      refine lv_iload_n B.1 B.2.1 d_CCode_mayStandInConstant_73 rfl (lv_at hl 0 rfl) ?_
      refine lv_sipush (v := 210) B.1 B.2.1 d_CCode_mayStandInConstant_74 (by decide) ?_
      refine lv_icmp_ne (tgt := 84) B.1 B.2.1 d_CCode_mayStandInConstant_77 (by decide) (fun hc2 => ?_) (fun hc2 => ?_)
      · rw [if_neg hc2] at hf
        refine lv_iconst (v := 0) B.1 B.2.1 d_CCode_mayStandInConstant_84 (by decide) ?_
        exact hb85 0 u _ _ _ hf hI (lv_sub hl [] rfl)
      · rw [if_pos hc2] at hf
        exact hb80  u _ _ _ hf hI (lv_sub hl [] rfl)
  have hb47 : ∀ (s0 : Int32) (u : zU) (H : Heap) (locs : List Loc) (ls : Array Slot), zf_CCCode_mayStandInConstant_26_b47 N  s0 u = some (r, u1) → iw D A s (wC a z u) H locs → lv_has ls 3 [] → W p l e ({ frames := 2, cells := 0, slots := 0, locals := 42 } : Room) s m args below meth c H locs 0 0 (MQ below (zQi D r (wC a z u1) A) args s 0 0 A) (F0 m 47 ls [.int s0]) := by
    intro s0 u H locs ls hf hI hl
    unfold zf_CCCode_mayStandInConstant_26_b47 at hf
    obtain ⟨hz3, hf⟩ := zck_some hf
    obtain ⟨e1, e2⟩ := zrt hf
    exact zr_z (wC a z) B hI hr hlk hz3 e1 e2 d_CCode_mayStandInConstant_47
  have hb46 : ∀  (u : zU) (H : Heap) (locs : List Loc) (ls : Array Slot), zf_CCCode_mayStandInConstant_26_b46 N   u = some (r, u1) → iw D A s (wC a z u) H locs → lv_has ls 3 [] → W p l e ({ frames := 2, cells := 0, slots := 0, locals := 42 } : Room) s m args below meth c H locs 0 0 (MQ below (zQi D r (wC a z u1) A) args s 0 0 A) (F0 m 46 ls []) := by
    intro  u H locs ls hf hI hl
    unfold zf_CCCode_mayStandInConstant_26_b46 at hf
    refine lv_iconst (v := 0) B.1 B.2.1 d_CCode_mayStandInConstant_46 (by decide) ?_
    exact hb47 0 u _ _ _ hf hI (lv_sub hl [] rfl)
  intro hI hl hf
  unfold zf_CCCode_mayStandInConstant_26 at hf
  refine lv_iload_n B.1 B.2.1 d_CCode_mayStandInConstant_0 rfl (lv_at hl 1 rfl) ?_
  refine lv_bipush (v := 35) B.1 B.2.1 d_CCode_mayStandInConstant_1 (by decide) ?_
  refine lv_icmp_ne (tgt := 48) B.1 B.2.1 d_CCode_mayStandInConstant_3 (by decide) (fun hc1 => ?_) (fun hc1 => ?_)
  · rw [if_neg hc1] at hf
    refine lv_iload_n B.1 B.2.1 d_CCode_mayStandInConstant_48 rfl (lv_at hl 1 rfl) ?_
    refine lv_bipush (v := 11) B.1 B.2.1 d_CCode_mayStandInConstant_49 (by decide) ?_
    refine lv_icmp_eq (tgt := 80) B.1 B.2.1 d_CCode_mayStandInConstant_51 (by decide) (fun hc2 => ?_) (fun hc2 => ?_)
    · rw [if_pos hc2] at hf
      exact hb80  u _ _ _ hf hI (lv_sub hl [] rfl)
    · rw [if_neg hc2] at hf
      refine lv_iload_n B.1 B.2.1 d_CCode_mayStandInConstant_54 rfl (lv_at hl 1 rfl) ?_
      refine lv_bipush (v := 65) B.1 B.2.1 d_CCode_mayStandInConstant_55 (by decide) ?_
      refine lv_icmp_lt (tgt := 66) B.1 B.2.1 d_CCode_mayStandInConstant_57 (by decide) (fun hc3 => ?_) (fun hc3 => ?_)
      · rw [if_pos hc3] at hf
        exact hb66 x1 u _ _ _ hf hI (lv_sub hl [1] rfl)
      · rw [if_neg hc3] at hf
        refine lv_iload_n B.1 B.2.1 d_CCode_mayStandInConstant_60 rfl (lv_at hl 1 rfl) ?_
        refine lv_bipush (v := 68) B.1 B.2.1 d_CCode_mayStandInConstant_61 (by decide) ?_
        refine lv_icmp_le (tgt := 80) B.1 B.2.1 d_CCode_mayStandInConstant_63 (by decide) (fun hc4 => ?_) (fun hc4 => ?_)
        · rw [if_pos hc4] at hf
          exact hb80  u _ _ _ hf hI (lv_sub hl [] rfl)
        · rw [if_neg hc4] at hf
          exact hb66 x1 u _ _ _ hf hI (lv_sub hl [1] rfl)
  · rw [if_pos hc1] at hf
    refine lv_aload_n B.1 B.2.1 d_CCode_mayStandInConstant_6 rfl (lv_at hl 0 rfl) ?_
    refine rx_get (v := .ref (a 1)) B hI hcl_CCode hin_CCode 26 (wC_at_26 a z u) 0 (by decide) hf_CCode_0 zw_106 rfl d_CCode_mayStandInConstant_7 ?_
    refine rx_getN (v := .ref (a 17)) B hI hcl_CThings hin_CThings 1 (wC_at_1 a z u) 5 (by decide) hf_CThings_5 zw_155 rfl d_CCode_mayStandInConstant_10 ?_
    refine lv_iload_n B.1 B.2.1 d_CCode_mayStandInConstant_13 rfl (lv_at hl 2 rfl) ?_
    obtain ⟨r5, u6, h7, hf⟩ := zbd_some hf
    refine rx_Vi (n := 1) (As := [.int x2]) (rest := []) B hI hl.1 (zc_CCShelf_has_17 l D z a N x2 u r5 u6 h7) zw_156 zw_66 zw_67 zw_44 zw_65 (by decide +kernel) 17 (wC_at_17 a z u) hcl_CShelf rfl rfl (Nat.le_of_ble_eq_true rfl) d_CCode_mayStandInConstant_14 ⟨Nat.le_of_ble_eq_true rfl, Nat.le_of_ble_eq_true rfl⟩ rfl rfl ⟨Nat.zero_le _, Nat.zero_le _⟩ (fun H locs hI => ?_)
    refine lv_if_eq (tgt := 46) B.1 B.2.1 d_CCode_mayStandInConstant_17 (by decide) (fun hc8 => ?_) (fun hc8 => ?_)
    · rw [if_pos hc8] at hf
      exact hb46  u6 _ _ _ hf hI (lv_sub hl [] rfl)
    · rw [if_neg hc8] at hf
      refine lv_iload_n B.1 B.2.1 d_CCode_mayStandInConstant_20 rfl (lv_at hl 2 rfl) ?_
      refine lv_aload_n B.1 B.2.1 d_CCode_mayStandInConstant_21 rfl (lv_at hl 0 rfl) ?_
      refine rx_get (v := .int (gi u6 11)) B hI hcl_CCode hin_CCode 26 (wC_at_26 a z u6) 8 (by decide) hf_CCode_8 zw_123 rfl d_CCode_mayStandInConstant_22 ?_
      refine lv_icmp_ge (tgt := 46) B.1 B.2.1 d_CCode_mayStandInConstant_25 (by decide) (fun hc9 => ?_) (fun hc9 => ?_)
      · rw [if_pos hc9] at hf
        exact hb46  u6 _ _ _ hf hI (lv_sub hl [] rfl)
      · rw [if_neg hc9] at hf
        refine lv_aload_n B.1 B.2.1 d_CCode_mayStandInConstant_28 rfl (lv_at hl 0 rfl) ?_
        refine rx_get (v := .ref (a 1)) B hI hcl_CCode hin_CCode 26 (wC_at_26 a z u6) 0 (by decide) hf_CCode_0 zw_106 rfl d_CCode_mayStandInConstant_29 ?_
        refine rx_getN (v := .ref (a 17)) B hI hcl_CThings hin_CThings 1 (wC_at_1 a z u6) 5 (by decide) hf_CThings_5 zw_155 rfl d_CCode_mayStandInConstant_32 ?_
        refine lv_iload_n B.1 B.2.1 d_CCode_mayStandInConstant_35 rfl (lv_at hl 2 rfl) ?_
        obtain ⟨r10, u11, h12, hf⟩ := zbd_some hf
        refine rx_Vi (n := 1) (As := [.int x2]) (rest := []) B hI hl.1 (zc_CCShelf_isMarked_17 l D z a N x2 u6 r10 u11 h12) zw_157 zw_159 zw_160 zw_44 zw_158 (by decide +kernel) 17 (wC_at_17 a z u6) hcl_CShelf rfl rfl (Nat.le_of_ble_eq_true rfl) d_CCode_mayStandInConstant_36 ⟨Nat.le_of_ble_eq_true rfl, Nat.le_of_ble_eq_true rfl⟩ rfl rfl ⟨Nat.zero_le _, Nat.zero_le _⟩ (fun H locs hI => ?_)
        refine lv_if_ne (tgt := 46) B.1 B.2.1 d_CCode_mayStandInConstant_39 (by decide) (fun hc13 => ?_) (fun hc13 => ?_)
        · rw [if_neg hc13] at hf
          exact hb46  u11 _ _ _ hf hI (lv_sub hl [] rfl)
        · rw [if_pos hc13] at hf
          refine lv_iconst (v := 1) B.1 B.2.1 d_CCode_mayStandInConstant_42 (by decide) ?_
          refine lv_goto (tgt := 47) B.1 B.2.1 d_CCode_mayStandInConstant_43 (by decide) ?_
          exact hb47 1 u11 _ _ _ hf hI (lv_sub hl [] rfl)
set_option maxHeartbeats 4000000 in
set_option maxRecDepth 100000 in
theorem zc_CCShelf_has_11 (l : Launch) (D : va_G) (z : zZ) (a : Nat → Nat) (N : Nat) (x1 : Int32) (u : zU) (r : Int32) (u1 : zU) (hf : zf_CCShelf_has_11 N x1 u = some (r, u1)) : zMet l D z y_CShelf_has (.code y_CShelf_has b_CShelf_has 2 (some (.boolean))) { frames := 0, cells := 0, slots := 0, locals := 0 } [.ref (a 11), .int x1] (wC a z u) (zQi D r (wC a z u1)) := by
  refine zM_i (own := R_CShelf) [.ref (a 11), .int x1] (wC a z u) r (wC a z u1) (by decide) rfl (Nat.le_of_ble_eq_true rfl) ?_
  intro p e s m args below meth c A ls B hr hlk hI hl
  have hl : lv_has ls 2 [(0, .ref (a 11)), (1, .int x1)] := hl
  revert hf
  revert hI hl
  have hb17 : ∀ (s0 : Int32) (u : zU) (H : Heap) (locs : List Loc) (ls : Array Slot), zf_CCShelf_has_11_b17 N  s0 u = some (r, u1) → iw D A s (wC a z u) H locs → lv_has ls 2 [] → W p l e ({ frames := 0, cells := 0, slots := 0, locals := 0 } : Room) s m args below meth c H locs 0 0 (MQ below (zQi D r (wC a z u1) A) args s 0 0 A) (F0 m 17 ls [.int s0]) := by
    intro s0 u H locs ls hf hI hl
    unfold zf_CCShelf_has_11_b17 at hf
    obtain ⟨hz3, hf⟩ := zck_some hf
    obtain ⟨e1, e2⟩ := zrt hf
    exact zr_z (wC a z) B hI hr hlk hz3 e1 e2 d_CShelf_has_17
  have hb16 : ∀  (u : zU) (H : Heap) (locs : List Loc) (ls : Array Slot), zf_CCShelf_has_11_b16 N   u = some (r, u1) → iw D A s (wC a z u) H locs → lv_has ls 2 [] → W p l e ({ frames := 0, cells := 0, slots := 0, locals := 0 } : Room) s m args below meth c H locs 0 0 (MQ below (zQi D r (wC a z u1) A) args s 0 0 A) (F0 m 16 ls []) := by
    intro  u H locs ls hf hI hl
    unfold zf_CCShelf_has_11_b16 at hf
    refine lv_iconst (v := 0) B.1 B.2.1 d_CShelf_has_16 (by decide) ?_
    exact hb17 0 u _ _ _ hf hI (lv_sub hl [] rfl)
  intro hI hl hf
  unfold zf_CCShelf_has_11 at hf
  refine lv_iload_n B.1 B.2.1 d_CShelf_has_0 rfl (lv_at hl 1 rfl) ?_
  refine lv_if_lt (tgt := 16) B.1 B.2.1 d_CShelf_has_1 (by decide) (fun hc1 => ?_) (fun hc1 => ?_)
  · rw [if_pos hc1] at hf
    exact hb16  u _ _ _ hf hI (lv_sub hl [] rfl)
  · rw [if_neg hc1] at hf
    refine lv_iload_n B.1 B.2.1 d_CShelf_has_4 rfl (lv_at hl 1 rfl) ?_
    refine lv_aload_n B.1 B.2.1 d_CShelf_has_5 rfl (lv_at hl 0 rfl) ?_
    refine rx_get (v := .int (gi u 2)) B hI hcl_CShelf hin_CShelf 11 (wC_at_11 a z u) 2 (by decide) hf_CShelf_2 zw_40 rfl d_CShelf_has_6 ?_
    refine lv_icmp_ge (tgt := 16) B.1 B.2.1 d_CShelf_has_9 (by decide) (fun hc2 => ?_) (fun hc2 => ?_)
    · rw [if_pos hc2] at hf
      exact hb16  u _ _ _ hf hI (lv_sub hl [] rfl)
    · rw [if_neg hc2] at hf
      refine lv_iconst (v := 1) B.1 B.2.1 d_CShelf_has_12 (by decide) ?_
      refine lv_goto (tgt := 17) B.1 B.2.1 d_CShelf_has_13 (by decide) ?_
      exact hb17 1 u _ _ _ hf hI (lv_sub hl [] rfl)
set_option maxHeartbeats 4000000 in
set_option maxRecDepth 100000 in
theorem zc_CCShelf_has_20 (l : Launch) (D : va_G) (z : zZ) (a : Nat → Nat) (N : Nat) (x1 : Int32) (u : zU) (r : Int32) (u1 : zU) (hf : zf_CCShelf_has_20 N x1 u = some (r, u1)) : zMet l D z y_CShelf_has (.code y_CShelf_has b_CShelf_has 2 (some (.boolean))) { frames := 0, cells := 0, slots := 0, locals := 0 } [.ref (a 20), .int x1] (wC a z u) (zQi D r (wC a z u1)) := by
  refine zM_i (own := R_CShelf) [.ref (a 20), .int x1] (wC a z u) r (wC a z u1) (by decide) rfl (Nat.le_of_ble_eq_true rfl) ?_
  intro p e s m args below meth c A ls B hr hlk hI hl
  have hl : lv_has ls 2 [(0, .ref (a 20)), (1, .int x1)] := hl
  revert hf
  revert hI hl
  have hb17 : ∀ (s0 : Int32) (u : zU) (H : Heap) (locs : List Loc) (ls : Array Slot), zf_CCShelf_has_20_b17 N  s0 u = some (r, u1) → iw D A s (wC a z u) H locs → lv_has ls 2 [] → W p l e ({ frames := 0, cells := 0, slots := 0, locals := 0 } : Room) s m args below meth c H locs 0 0 (MQ below (zQi D r (wC a z u1) A) args s 0 0 A) (F0 m 17 ls [.int s0]) := by
    intro s0 u H locs ls hf hI hl
    unfold zf_CCShelf_has_20_b17 at hf
    obtain ⟨hz3, hf⟩ := zck_some hf
    obtain ⟨e1, e2⟩ := zrt hf
    exact zr_z (wC a z) B hI hr hlk hz3 e1 e2 d_CShelf_has_17
  have hb16 : ∀  (u : zU) (H : Heap) (locs : List Loc) (ls : Array Slot), zf_CCShelf_has_20_b16 N   u = some (r, u1) → iw D A s (wC a z u) H locs → lv_has ls 2 [] → W p l e ({ frames := 0, cells := 0, slots := 0, locals := 0 } : Room) s m args below meth c H locs 0 0 (MQ below (zQi D r (wC a z u1) A) args s 0 0 A) (F0 m 16 ls []) := by
    intro  u H locs ls hf hI hl
    unfold zf_CCShelf_has_20_b16 at hf
    refine lv_iconst (v := 0) B.1 B.2.1 d_CShelf_has_16 (by decide) ?_
    exact hb17 0 u _ _ _ hf hI (lv_sub hl [] rfl)
  intro hI hl hf
  unfold zf_CCShelf_has_20 at hf
  refine lv_iload_n B.1 B.2.1 d_CShelf_has_0 rfl (lv_at hl 1 rfl) ?_
  refine lv_if_lt (tgt := 16) B.1 B.2.1 d_CShelf_has_1 (by decide) (fun hc1 => ?_) (fun hc1 => ?_)
  · rw [if_pos hc1] at hf
    exact hb16  u _ _ _ hf hI (lv_sub hl [] rfl)
  · rw [if_neg hc1] at hf
    refine lv_iload_n B.1 B.2.1 d_CShelf_has_4 rfl (lv_at hl 1 rfl) ?_
    refine lv_aload_n B.1 B.2.1 d_CShelf_has_5 rfl (lv_at hl 0 rfl) ?_
    refine rx_get (v := .int (gi u 5)) B hI hcl_CShelf hin_CShelf 20 (wC_at_20 a z u) 2 (by decide) hf_CShelf_2 zw_40 rfl d_CShelf_has_6 ?_
    refine lv_icmp_ge (tgt := 16) B.1 B.2.1 d_CShelf_has_9 (by decide) (fun hc2 => ?_) (fun hc2 => ?_)
    · rw [if_pos hc2] at hf
      exact hb16  u _ _ _ hf hI (lv_sub hl [] rfl)
    · rw [if_neg hc2] at hf
      refine lv_iconst (v := 1) B.1 B.2.1 d_CShelf_has_12 (by decide) ?_
      refine lv_goto (tgt := 17) B.1 B.2.1 d_CShelf_has_13 (by decide) ?_
      exact hb17 1 u _ _ _ hf hI (lv_sub hl [] rfl)
set_option maxHeartbeats 4000000 in
set_option maxRecDepth 100000 in
theorem zc_CCShelf_has_23 (l : Launch) (D : va_G) (z : zZ) (a : Nat → Nat) (N : Nat) (x1 : Int32) (u : zU) (r : Int32) (u1 : zU) (hf : zf_CCShelf_has_23 N x1 u = some (r, u1)) : zMet l D z y_CShelf_has (.code y_CShelf_has b_CShelf_has 2 (some (.boolean))) { frames := 0, cells := 0, slots := 0, locals := 0 } [.ref (a 23), .int x1] (wC a z u) (zQi D r (wC a z u1)) := by
  refine zM_i (own := R_CShelf) [.ref (a 23), .int x1] (wC a z u) r (wC a z u1) (by decide) rfl (Nat.le_of_ble_eq_true rfl) ?_
  intro p e s m args below meth c A ls B hr hlk hI hl
  have hl : lv_has ls 2 [(0, .ref (a 23)), (1, .int x1)] := hl
  revert hf
  revert hI hl
  have hb17 : ∀ (s0 : Int32) (u : zU) (H : Heap) (locs : List Loc) (ls : Array Slot), zf_CCShelf_has_23_b17 N  s0 u = some (r, u1) → iw D A s (wC a z u) H locs → lv_has ls 2 [] → W p l e ({ frames := 0, cells := 0, slots := 0, locals := 0 } : Room) s m args below meth c H locs 0 0 (MQ below (zQi D r (wC a z u1) A) args s 0 0 A) (F0 m 17 ls [.int s0]) := by
    intro s0 u H locs ls hf hI hl
    unfold zf_CCShelf_has_23_b17 at hf
    obtain ⟨hz3, hf⟩ := zck_some hf
    obtain ⟨e1, e2⟩ := zrt hf
    exact zr_z (wC a z) B hI hr hlk hz3 e1 e2 d_CShelf_has_17
  have hb16 : ∀  (u : zU) (H : Heap) (locs : List Loc) (ls : Array Slot), zf_CCShelf_has_23_b16 N   u = some (r, u1) → iw D A s (wC a z u) H locs → lv_has ls 2 [] → W p l e ({ frames := 0, cells := 0, slots := 0, locals := 0 } : Room) s m args below meth c H locs 0 0 (MQ below (zQi D r (wC a z u1) A) args s 0 0 A) (F0 m 16 ls []) := by
    intro  u H locs ls hf hI hl
    unfold zf_CCShelf_has_23_b16 at hf
    refine lv_iconst (v := 0) B.1 B.2.1 d_CShelf_has_16 (by decide) ?_
    exact hb17 0 u _ _ _ hf hI (lv_sub hl [] rfl)
  intro hI hl hf
  unfold zf_CCShelf_has_23 at hf
  refine lv_iload_n B.1 B.2.1 d_CShelf_has_0 rfl (lv_at hl 1 rfl) ?_
  refine lv_if_lt (tgt := 16) B.1 B.2.1 d_CShelf_has_1 (by decide) (fun hc1 => ?_) (fun hc1 => ?_)
  · rw [if_pos hc1] at hf
    exact hb16  u _ _ _ hf hI (lv_sub hl [] rfl)
  · rw [if_neg hc1] at hf
    refine lv_iload_n B.1 B.2.1 d_CShelf_has_4 rfl (lv_at hl 1 rfl) ?_
    refine lv_aload_n B.1 B.2.1 d_CShelf_has_5 rfl (lv_at hl 0 rfl) ?_
    refine rx_get (v := .int (gi u 6)) B hI hcl_CShelf hin_CShelf 23 (wC_at_23 a z u) 2 (by decide) hf_CShelf_2 zw_40 rfl d_CShelf_has_6 ?_
    refine lv_icmp_ge (tgt := 16) B.1 B.2.1 d_CShelf_has_9 (by decide) (fun hc2 => ?_) (fun hc2 => ?_)
    · rw [if_pos hc2] at hf
      exact hb16  u _ _ _ hf hI (lv_sub hl [] rfl)
    · rw [if_neg hc2] at hf
      refine lv_iconst (v := 1) B.1 B.2.1 d_CShelf_has_12 (by decide) ?_
      refine lv_goto (tgt := 17) B.1 B.2.1 d_CShelf_has_13 (by decide) ?_
      exact hb17 1 u _ _ _ hf hI (lv_sub hl [] rfl)
set_option maxHeartbeats 4000000 in
set_option maxRecDepth 100000 in
theorem zc_CCLocals_has_27 (l : Launch) (D : va_G) (z : zZ) (a : Nat → Nat) (N : Nat) (x1 : Int32) (u : zU) (r : Int32) (u1 : zU) (hf : zf_CCLocals_has_27 N x1 u = some (r, u1)) : zMet l D z y_CLocals_has (.code y_CLocals_has b_CLocals_has 2 (some (.boolean))) { frames := 1, cells := 0, slots := 0, locals := 20 } [.ref (a 27), .int x1] (wC a z u) (zQi D r (wC a z u1)) := by
  refine zM_i (own := R_CLocals) [.ref (a 27), .int x1] (wC a z u) r (wC a z u1) (by decide) rfl (Nat.le_of_ble_eq_true rfl) ?_
  intro p e s m args below meth c A ls B hr hlk hI hl
  have hl : lv_has ls 2 [(0, .ref (a 27)), (1, .int x1)] := hl
  revert hf
  revert hI hl
  have hb17 : ∀ (s0 : Int32) (u : zU) (H : Heap) (locs : List Loc) (ls : Array Slot), zf_CCLocals_has_27_b17 N  s0 u = some (r, u1) → iw D A s (wC a z u) H locs → lv_has ls 2 [] → W p l e ({ frames := 1, cells := 0, slots := 0, locals := 20 } : Room) s m args below meth c H locs 0 0 (MQ below (zQi D r (wC a z u1) A) args s 0 0 A) (F0 m 17 ls [.int s0]) := by
    intro s0 u H locs ls hf hI hl
    unfold zf_CCLocals_has_27_b17 at hf
    obtain ⟨hz3, hf⟩ := zck_some hf
    obtain ⟨e1, e2⟩ := zrt hf
    exact zr_z (wC a z) B hI hr hlk hz3 e1 e2 d_CLocals_has_17
  intro hI hl hf
  unfold zf_CCLocals_has_27 at hf
  refine lv_iload_n B.1 B.2.1 d_CLocals_has_0 rfl (lv_at hl 1 rfl) ?_
  obtain ⟨r1, u2, h3, hf⟩ := zbd_some hf
  refine rx_Ml (n := 1) (As := [.int x1]) (rest := []) B hI hl.1 (zc_CCC_withoutSign l D z a N x1 u r1 u2 h3) zw_168 zw_133 zw_15 zw_132 (by decide +kernel) rfl rfl (Nat.le_of_ble_eq_true rfl) d_CLocals_has_1 ⟨Nat.le_of_ble_eq_true rfl, Nat.le_of_ble_eq_true rfl⟩ rfl rfl ⟨Nat.zero_le _, Nat.zero_le _⟩ (fun H locs hI => ?_)
  refine lv_aload_n B.1 B.2.1 d_CLocals_has_4 rfl (lv_at hl 0 rfl) ?_
  refine rx_get (v := .long (gj u2 0)) B hI hcl_CLocals hin_CLocals 27 (wC_at_27 a z u2) 3 (by decide) hf_CLocals_3 zw_92 rfl d_CLocals_has_5 ?_
  refine W.lcmp B.1 B.2.1 d_CLocals_has_8 ?_
  refine lv_if_ge (tgt := 16) B.1 B.2.1 d_CLocals_has_9 (by decide) (fun hc4 => ?_) (fun hc4 => ?_)
  · rw [if_pos hc4] at hf
    refine lv_iconst (v := 0) B.1 B.2.1 d_CLocals_has_16 (by decide) ?_
    exact hb17 0 u2 _ _ _ hf hI (lv_sub hl [] rfl)
  · rw [if_neg hc4] at hf
    refine lv_iconst (v := 1) B.1 B.2.1 d_CLocals_has_12 (by decide) ?_
    refine lv_goto (tgt := 17) B.1 B.2.1 d_CLocals_has_13 (by decide) ?_
    exact hb17 1 u2 _ _ _ hf hI (lv_sub hl [] rfl)
set_option maxHeartbeats 4000000 in
set_option maxRecDepth 100000 in
theorem zc_CCStack_hasBlock_31 (l : Launch) (D : va_G) (z : zZ) (a : Nat → Nat) (N : Nat) (x1 : Int32) (u : zU) (r : Int32) (u1 : zU) (hf : zf_CCStack_hasBlock_31 N x1 u = some (r, u1)) : zMet l D z y_CStack_hasBlock (.code y_CStack_hasBlock b_CStack_hasBlock 2 (some (.boolean))) { frames := 0, cells := 0, slots := 0, locals := 0 } [.ref (a 31), .int x1] (wC a z u) (zQi D r (wC a z u1)) := by
  refine zM_i (own := R_CStack) [.ref (a 31), .int x1] (wC a z u) r (wC a z u1) (by decide) rfl (Nat.le_of_ble_eq_true rfl) ?_
  intro p e s m args below meth c A ls B hr hlk hI hl
  have hl : lv_has ls 2 [(0, .ref (a 31)), (1, .int x1)] := hl
  revert hf
  revert hI hl
  have hb17 : ∀ (s0 : Int32) (u : zU) (H : Heap) (locs : List Loc) (ls : Array Slot), zf_CCStack_hasBlock_31_b17 N  s0 u = some (r, u1) → iw D A s (wC a z u) H locs → lv_has ls 2 [] → W p l e ({ frames := 0, cells := 0, slots := 0, locals := 0 } : Room) s m args below meth c H locs 0 0 (MQ below (zQi D r (wC a z u1) A) args s 0 0 A) (F0 m 17 ls [.int s0]) := by
    intro s0 u H locs ls hf hI hl
    unfold zf_CCStack_hasBlock_31_b17 at hf
    obtain ⟨hz3, hf⟩ := zck_some hf
    obtain ⟨e1, e2⟩ := zrt hf
    exact zr_z (wC a z) B hI hr hlk hz3 e1 e2 d_CStack_hasBlock_17
  have hb16 : ∀  (u : zU) (H : Heap) (locs : List Loc) (ls : Array Slot), zf_CCStack_hasBlock_31_b16 N   u = some (r, u1) → iw D A s (wC a z u) H locs → lv_has ls 2 [] → W p l e ({ frames := 0, cells := 0, slots := 0, locals := 0 } : Room) s m args below meth c H locs 0 0 (MQ below (zQi D r (wC a z u1) A) args s 0 0 A) (F0 m 16 ls []) := by
    intro  u H locs ls hf hI hl
    unfold zf_CCStack_hasBlock_31_b16 at hf
    refine lv_iconst (v := 0) B.1 B.2.1 d_CStack_hasBlock_16 (by decide) ?_
    exact hb17 0 u _ _ _ hf hI (lv_sub hl [] rfl)
  intro hI hl hf
  unfold zf_CCStack_hasBlock_31 at hf
  refine lv_iload_n B.1 B.2.1 d_CStack_hasBlock_0 rfl (lv_at hl 1 rfl) ?_
  refine lv_if_lt (tgt := 16) B.1 B.2.1 d_CStack_hasBlock_1 (by decide) (fun hc1 => ?_) (fun hc1 => ?_)
  · rw [if_pos hc1] at hf
    exact hb16  u _ _ _ hf hI (lv_sub hl [] rfl)
  · rw [if_neg hc1] at hf
    refine lv_iload_n B.1 B.2.1 d_CStack_hasBlock_4 rfl (lv_at hl 1 rfl) ?_
    refine lv_aload_n B.1 B.2.1 d_CStack_hasBlock_5 rfl (lv_at hl 0 rfl) ?_
    refine rx_get (v := .int (gi u 15)) B hI hcl_CStack hin_CStack 31 (wC_at_31 a z u) 8 (by decide) hf_CStack_8 zw_75 rfl d_CStack_hasBlock_6 ?_
    refine lv_icmp_ge (tgt := 16) B.1 B.2.1 d_CStack_hasBlock_9 (by decide) (fun hc2 => ?_) (fun hc2 => ?_)
    · rw [if_pos hc2] at hf
      exact hb16  u _ _ _ hf hI (lv_sub hl [] rfl)
    · rw [if_neg hc2] at hf
      refine lv_iconst (v := 1) B.1 B.2.1 d_CStack_hasBlock_12 (by decide) ?_
      refine lv_goto (tgt := 17) B.1 B.2.1 d_CStack_hasBlock_13 (by decide) ?_
      exact hb17 1 u _ _ _ hf hI (lv_sub hl [] rfl)
set_option maxHeartbeats 4000000 in
set_option maxRecDepth 100000 in
theorem zc_CCCode_isLabelMissing_26 (l : Launch) (D : va_G) (z : zZ) (a : Nat → Nat) (N : Nat)  (u : zU) (r : Int32) (u1 : zU) (hf : zf_CCCode_isLabelMissing_26 N  u = some (r, u1)) : zMet l D z y_CCode_isLabelMissing (.code y_CCode_isLabelMissing b_CCode_isLabelMissing 2 (some (.boolean))) { frames := 1, cells := 0, slots := 0, locals := 21 } [.ref (a 26)] (wC a z u) (zQi D r (wC a z u1)) := by
  refine zM_i (own := R_CCode) [.ref (a 26)] (wC a z u) r (wC a z u1) (by decide) rfl (Nat.le_of_ble_eq_true rfl) ?_
  intro p e s m args below meth c A ls B hr hlk hI hl
  have hl : lv_has ls 2 [(0, .ref (a 26))] := hl
  revert hf
  revert hI hl
  have hb43 : ∀  (u : zU) (H : Heap) (locs : List Loc) (ls : Array Slot), zf_CCCode_isLabelMissing_26_b43 N   u = some (r, u1) → iw D A s (wC a z u) H locs → lv_has ls 2 [] → W p l e ({ frames := 1, cells := 0, slots := 0, locals := 21 } : Room) s m args below meth c H locs 0 0 (MQ below (zQi D r (wC a z u1) A) args s 0 0 A) (F0 m 43 ls []) := by
    intro  u H locs ls hf hI hl
    unfold zf_CCCode_isLabelMissing_26_b43 at hf
    refine lv_iconst (v := 0) B.1 B.2.1 d_CCode_isLabelMissing_43 (by decide) ?_
    obtain ⟨e1, e2⟩ := zrt hf
    exact zr_z (wC a z) B hI hr hlk (by decide) e1 e2 d_CCode_isLabelMissing_44
  have hb2 : ∀ (n : Nat) (x1 : Int32) (u : zU) (H : Heap) (locs : List Loc) (ls : Array Slot), zf_CCCode_isLabelMissing_26_b2 N  n x1 u = some (r, u1) → iw D A s (wC a z u) H locs → lv_has ls 2 [(0, .ref (a 26)), (1, .int x1)] → W p l e ({ frames := 1, cells := 0, slots := 0, locals := 21 } : Room) s m args below meth c H locs 0 0 (MQ below (zQi D r (wC a z u1) A) args s 0 0 A) (F0 m 2 ls []) := by
    intro n2
    induction n2 with
    | zero => intro x1 u H locs ls hf; exact absurd hf (by rw [zf_CCCode_isLabelMissing_26_b2]; exact fun h => by cases h)
    | succ n2 ih2 =>
      intro x1 u H locs ls hf hI hl
      rw [zf_CCCode_isLabelMissing_26_b2] at hf
      refine lv_iload_n B.1 B.2.1 d_CCode_isLabelMissing_2 rfl (lv_at hl 1 rfl) ?_
      refine lv_aload_n B.1 B.2.1 d_CCode_isLabelMissing_3 rfl (lv_at hl 0 rfl) ?_
      refine rx_get (v := .int (gi u 7)) B hI hcl_CCode hin_CCode 26 (wC_at_26 a z u) 4 (by decide) hf_CCode_4 zw_98 rfl d_CCode_isLabelMissing_4 ?_
      refine lv_icmp_ge (tgt := 43) B.1 B.2.1 d_CCode_isLabelMissing_7 (by decide) (fun hc1 => ?_) (fun hc1 => ?_)
      · rw [if_pos hc1] at hf
        exact hb43  u _ _ _ hf hI (lv_sub hl [] rfl)
      · rw [if_neg hc1] at hf
        refine lv_iload_n B.1 B.2.1 d_CCode_isLabelMissing_10 rfl (lv_at hl 1 rfl) ?_
        refine lv_aload_n B.1 B.2.1 d_CCode_isLabelMissing_11 rfl (lv_at hl 0 rfl) ?_
        refine rx_get (v := .ref (a 30)) B hI hcl_CCode hin_CCode 26 (wC_at_26 a z u) 3 (by decide) hf_CCode_3 zw_138 rfl d_CCode_isLabelMissing_12 ?_
        refine rx_alen (v := 20) B hI 30 0 (wC_at_30 a z u) rfl rfl d_CCode_isLabelMissing_15 ?_
        refine lv_icmp_ge (tgt := 43) B.1 B.2.1 d_CCode_isLabelMissing_16 (by decide) (fun hc2 => ?_) (fun hc2 => ?_)
        · rw [if_pos hc2] at hf
          exact hb43  u _ _ _ hf hI (lv_sub hl [] rfl)
        · rw [if_neg hc2] at hf
          refine lv_aload_n B.1 B.2.1 d_CCode_isLabelMissing_19 rfl (lv_at hl 0 rfl) ?_
          refine rx_get (v := .ref (a 31)) B hI hcl_CCode hin_CCode 26 (wC_at_26 a z u) 1 (by decide) hf_CCode_1 zw_73 rfl d_CCode_isLabelMissing_20 ?_
          refine lv_aload_n B.1 B.2.1 d_CCode_isLabelMissing_23 rfl (lv_at hl 0 rfl) ?_
          refine rx_get (v := .ref (a 30)) B hI hcl_CCode hin_CCode 26 (wC_at_26 a z u) 3 (by decide) hf_CCode_3 zw_138 rfl d_CCode_isLabelMissing_24 ?_
          refine lv_iload_n B.1 B.2.1 d_CCode_isLabelMissing_27 rfl (lv_at hl 1 rfl) ?_
          obtain ⟨hi3, hf⟩ := zck_some hf
          refine rx_iald B hI 30 (wC_at_30 a z u) hi3 d_CCode_isLabelMissing_28 ?_
          obtain ⟨r4, u5, h6, hf⟩ := zbd_some hf
          refine rx_Vi (n := 1) (As := [.int (ga u 17 x1)]) (rest := []) B hI hl.1 (zc_CCStack_hasBlock_31 l D z a N (ga u 17 x1) u r4 u5 h6) zw_175 zw_177 zw_178 zw_82 zw_176 (by decide +kernel) 31 (wC_at_31 a z u) hcl_CStack rfl rfl (Nat.le_of_ble_eq_true rfl) d_CCode_isLabelMissing_29 ⟨Nat.le_of_ble_eq_true rfl, Nat.le_of_ble_eq_true rfl⟩ rfl rfl ⟨Nat.zero_le _, Nat.zero_le _⟩ (fun H locs hI => ?_)
          refine lv_if_ne (tgt := 37) B.1 B.2.1 d_CCode_isLabelMissing_32 (by decide) (fun hc7 => ?_) (fun hc7 => ?_)
          · rw [if_neg hc7] at hf
            refine lv_iinc (v := (x1 + 1)) (lv' := [(1, .int (x1 + 1)), (0, .ref (a 26))]) B.1 B.2.1 d_CCode_isLabelMissing_37 hl (k := 1) rfl (by rfl) (by decide) rfl (fun ls hl => ?_)
            refine lv_goto (tgt := 2) B.1 B.2.1 d_CCode_isLabelMissing_40 (by decide) ?_
            exact ih2 (x1 + 1) u5 _ _ _ hf hI (lv_sub hl [1, 0] rfl)
          · rw [if_pos hc7] at hf
            refine lv_iconst (v := 1) B.1 B.2.1 d_CCode_isLabelMissing_35 (by decide) ?_
            obtain ⟨e8, e9⟩ := zrt hf
            exact zr_z (wC a z) B hI hr hlk (by decide) e8 e9 d_CCode_isLabelMissing_36
  intro hI hl hf
  unfold zf_CCCode_isLabelMissing_26 at hf
  refine lv_iconst (v := 0) B.1 B.2.1 d_CCode_isLabelMissing_0 (by decide) ?_
  refine lv_istore_n (lv' := [(1, .int 0), (0, .ref (a 26))]) B.1 B.2.1 d_CCode_isLabelMissing_1 rfl hl (by decide) rfl (fun ls hl => ?_)
  exact hb2 N 0 u _ _ _ hf hI (lv_sub hl [1, 0] rfl)
