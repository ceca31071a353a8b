set_option maxHeartbeats 4000000 in
set_option maxRecDepth 100000 in
theorem zc_CCThings_makeType_1 (l : Launch) (D : va_G) (z : zZ) (a : Nat → Nat) (N : Nat)  (u : zU) (r : Int32) (u1 : zU) (hf : zf_CCThings_makeType_1 N  u = some (r, u1)) : zMet l D z y_CThings_makeType (.code y_CThings_makeType b_CThings_makeType 1 (some (.int))) { frames := 0, cells := 0, slots := 0, locals := 0 } [.ref (a 1)] (wC a z u) (zQi D r (wC a z u1)) := by
  refine zM_i (own := R_CThings) [.ref (a 1)] (wC a z u) r (wC a z u1) (by decide) rfl (Nat.le_of_ble_eq_true rfl) ?_
  intro p e s m args below meth c A ls B hr hlk hI hl
  have hl : lv_has ls 1 [(0, .ref (a 1))] := hl
  revert hf
  revert hI hl
  intro hI hl hf
  unfold zf_CCThings_makeType_1 at hf
  refine lv_aload_n B.1 B.2.1 d_CThings_makeType_0 rfl (lv_at hl 0 rfl) ?_
  refine rx_get (v := .int (gi u 0)) B hI hcl_CThings hin_CThings 1 (wC_at_1 a z u) 8 (by decide) hf_CThings_8 zw_1 rfl d_CThings_makeType_1 ?_
  refine lv_bipush (v := 40) B.1 B.2.1 d_CThings_makeType_4 (by decide) ?_
  refine lv_icmp_lt (tgt := 11) B.1 B.2.1 d_CThings_makeType_6 (by decide) (fun hc1 => ?_) (fun hc1 => ?_)
  · rw [if_pos hc1] at hf
    refine lv_aload_n B.1 B.2.1 d_CThings_makeType_11 rfl (lv_at hl 0 rfl) ?_
    refine lv_dup B.1 B.2.1 d_CThings_makeType_12 rfl ?_
    refine rx_get (v := .int (gi u 0)) B hI hcl_CThings hin_CThings 1 (wC_at_1 a z u) 8 (by decide) hf_CThings_8 zw_1 rfl d_CThings_makeType_13 ?_
    refine lv_iconst (v := 1) B.1 B.2.1 d_CThings_makeType_16 (by decide) ?_
    refine lv_iadd B.1 B.2.1 d_CThings_makeType_17 ?_
    refine rx_put B hI hcl_CThings hin_CThings hty_CThings hnm_CThings 1 (wC_at_1 a z u) 8 (by decide) hf_CThings_8 zw_1 rfl (ty := .int) (by decide +kernel) rfl rfl (Nat.le_of_ble_eq_true rfl) (wC_si_0 a z u ((gi u 0) + 1)) d_CThings_makeType_18 (fun H locs hI => ?_)
    refine lv_aload_n B.1 B.2.1 d_CThings_makeType_21 rfl (lv_at hl 0 rfl) ?_
    refine rx_get (v := .int ((gi u 0) + 1)) B hI hcl_CThings hin_CThings 1 (wC_at_1 a z (si u 0 ((gi u 0) + 1))) 8 (by decide) hf_CThings_8 zw_1 rfl d_CThings_makeType_22 ?_
    refine lv_iconst (v := 1) B.1 B.2.1 d_CThings_makeType_25 (by decide) ?_
    refine lv_isub B.1 B.2.1 d_CThings_makeType_26 ?_
    obtain ⟨e2, e3⟩ := zrt hf
    exact zr_i (wC a z) B hI hr hlk e2 e3 d_CThings_makeType_27
  · rw [if_neg hc1] at hf
    refine lv_iconst (v := (-1)) B.1 B.2.1 d_CThings_makeType_9 (by decide) ?_
    obtain ⟨e4, e5⟩ := zrt hf
    exact zr_i (wC a z) B hI hr hlk e4 e5 d_CThings_makeType_10
set_option maxHeartbeats 4000000 in
set_option maxRecDepth 100000 in
theorem zc_CCC_type_0 (l : Launch) (D : va_G) (z : zZ) (a : Nat → Nat) (N : Nat)  (u : zU) (r : Int32) (u1 : zU) (hf : zf_CCC_type_0 N  u = some (r, u1)) : zMet l D z y_CC_type (.code y_CC_type b_CC_type 1 (some (.int))) { frames := 1, cells := 0, slots := 0, locals := 20 } [.ref (a 0)] (wC a z u) (zQi D r (wC a z u1)) := by
  refine zM_i (own := R_CC) [.ref (a 0)] (wC a z u) r (wC a z u1) (by decide) rfl (Nat.le_of_ble_eq_true rfl) ?_
  intro p e s m args below meth c A ls B hr hlk hI hl
  have hl : lv_has ls 1 [(0, .ref (a 0))] := hl
  revert hf
  revert hI hl
  intro hI hl hf
  unfold zf_CCC_type_0 at hf
  refine lv_aload_n B.1 B.2.1 d_CC_type_0 rfl (lv_at hl 0 rfl) ?_
  refine rx_get (v := .ref (a 1)) B hI hcl_CC hin_CC 0 (wC_at_0 a z u) 0 (by decide) hf_CC_0 zw_0 rfl d_CC_type_1 ?_
  obtain ⟨r1, u2, h3, hf⟩ := zbd_some hf
  refine rx_Vi (n := 0) (As := []) (rest := []) B hI hl.1 (zc_CCThings_makeType_1 l D z a N  u r1 u2 h3) zw_2 zw_5 zw_6 zw_3 zw_4 (by decide +kernel) 1 (wC_at_1 a z u) hcl_CThings rfl rfl (Nat.le_of_ble_eq_true rfl) d_CC_type_4 ⟨Nat.le_of_ble_eq_true rfl, Nat.le_of_ble_eq_true rfl⟩ rfl rfl ⟨Nat.zero_le _, Nat.zero_le _⟩ (fun H locs hI => ?_)
  obtain ⟨e4, e5⟩ := zrt hf
  exact zr_i (wC a z) B hI hr hlk e4 e5 d_CC_type_7
set_option maxHeartbeats 4000000 in
set_option maxRecDepth 100000 in
theorem zc_CCCode_isOpen_26 (l : Launch) (D : va_G) (z : zZ) (a : Nat → Nat) (N : Nat)  (u : zU) (r : Int32) (u1 : zU) (hf : zf_CCCode_isOpen_26 N  u = some (r, u1)) : zMet l D z y_CCode_isOpen (.code y_CCode_isOpen b_CCode_isOpen 1 (some (.boolean))) { frames := 0, cells := 0, slots := 0, locals := 0 } [.ref (a 26)] (wC a z u) (zQi D r (wC a z u1)) := by
  refine zM_i (own := R_CCode) [.ref (a 26)] (wC a z u) r (wC a z u1) (by decide) rfl (Nat.le_of_ble_eq_true rfl) ?_
  intro p e s m args below meth c A ls B hr hlk hI hl
  have hl : lv_has ls 1 [(0, .ref (a 26))] := hl
  revert hf
  revert hI hl
  have hb13 : ∀ (s0 : Int32) (u : zU) (H : Heap) (locs : List Loc) (ls : Array Slot), zf_CCCode_isOpen_26_b13 N  s0 u = some (r, u1) → iw D A s (wC a z u) H locs → lv_has ls 1 [] → W p l e ({ frames := 0, cells := 0, slots := 0, locals := 0 } : Room) s m args below meth c H locs 0 0 (MQ below (zQi D r (wC a z u1) A) args s 0 0 A) (F0 m 13 ls [.int s0]) := by
    intro s0 u H locs ls hf hI hl
    unfold zf_CCCode_isOpen_26_b13 at hf
    obtain ⟨hz3, hf⟩ := zck_some hf
    obtain ⟨e1, e2⟩ := zrt hf
    exact zr_z (wC a z) B hI hr hlk hz3 e1 e2 d_CCode_isOpen_13
  intro hI hl hf
  unfold zf_CCCode_isOpen_26 at hf
  refine lv_aload_n B.1 B.2.1 d_CCode_isOpen_0 rfl (lv_at hl 0 rfl) ?_
  refine rx_get (v := .int (gi u 8)) B hI hcl_CCode hin_CCode 26 (wC_at_26 a z u) 5 (by decide) hf_CCode_5 zw_8 rfl d_CCode_isOpen_1 ?_
  refine lv_iconst (v := 1) B.1 B.2.1 d_CCode_isOpen_4 (by decide) ?_
  refine lv_icmp_ne (tgt := 12) B.1 B.2.1 d_CCode_isOpen_5 (by decide) (fun hc1 => ?_) (fun hc1 => ?_)
  · rw [if_neg hc1] at hf
    refine lv_iconst (v := 0) B.1 B.2.1 d_CCode_isOpen_12 (by decide) ?_
    exact hb13 0 u _ _ _ hf hI (lv_sub hl [] rfl)
  · rw [if_pos hc1] at hf
    refine lv_iconst (v := 1) B.1 B.2.1 d_CCode_isOpen_8 (by decide) ?_
    refine lv_goto (tgt := 13) B.1 B.2.1 d_CCode_isOpen_9 (by decide) ?_
    exact hb13 1 u _ _ _ hf hI (lv_sub hl [] rfl)
set_option maxHeartbeats 4000000 in
set_option maxRecDepth 100000 in
theorem zc_CCC_isReferenceType (l : Launch) (D : va_G) (z : zZ) (a : Nat → Nat) (N : Nat) (x0 : Int32) (u : zU) (r : Int32) (u1 : zU) (hf : zf_CCC_isReferenceType N x0 u = some (r, u1)) : zMet l D z y_CC_isReferenceType (.code y_CC_isReferenceType b_CC_isReferenceType 1 (some (.boolean))) { frames := 0, cells := 0, slots := 0, locals := 0 } [.int x0] (wC a z u) (zQi D r (wC a z u1)) := by
  refine zM_i (own := R_CC) [.int x0] (wC a z u) r (wC a z u1) (by decide) rfl (Nat.le_of_ble_eq_true rfl) ?_
  intro p e s m args below meth c A ls B hr hlk hI hl
  have hl : lv_has ls 1 [(0, .int x0)] := hl
  revert hf
  revert hI hl
  have hb17 : ∀ (s0 : Int32) (u : zU) (H : Heap) (locs : List Loc) (ls : Array Slot), zf_CCC_isReferenceType_b17 N  s0 u = some (r, u1) → iw D A s (wC a z u) H locs → lv_has ls 1 [] → W p l e ({ frames := 0, cells := 0, slots := 0, locals := 0 } : Room) s m args below meth c H locs 0 0 (MQ below (zQi D r (wC a z u1) A) args s 0 0 A) (F0 m 17 ls [.int s0]) := by
    intro s0 u H locs ls hf hI hl
    unfold zf_CCC_isReferenceType_b17 at hf
    obtain ⟨hz3, hf⟩ := zck_some hf
    obtain ⟨e1, e2⟩ := zrt hf
    exact zr_z (wC a z) B hI hr hlk hz3 e1 e2 d_CC_isReferenceType_17
  have hb12 : ∀  (u : zU) (H : Heap) (locs : List Loc) (ls : Array Slot), zf_CCC_isReferenceType_b12 N   u = some (r, u1) → iw D A s (wC a z u) H locs → lv_has ls 1 [] → W p l e ({ frames := 0, cells := 0, slots := 0, locals := 0 } : Room) s m args below meth c H locs 0 0 (MQ below (zQi D r (wC a z u1) A) args s 0 0 A) (F0 m 12 ls []) := by
    intro  u H locs ls hf hI hl
    unfold zf_CCC_isReferenceType_b12 at hf
    refine lv_iconst (v := 1) B.1 B.2.1 d_CC_isReferenceType_12 (by decide) ?_
    refine lv_goto (tgt := 17) B.1 B.2.1 d_CC_isReferenceType_13 (by decide) ?_
    exact hb17 1 u _ _ _ hf hI (lv_sub hl [] rfl)
  intro hI hl hf
  unfold zf_CCC_isReferenceType at hf
  refine lv_iload_n B.1 B.2.1 d_CC_isReferenceType_0 rfl (lv_at hl 0 rfl) ?_
  refine lv_bipush (v := 112) B.1 B.2.1 d_CC_isReferenceType_1 (by decide) ?_
  refine lv_icmp_eq (tgt := 12) B.1 B.2.1 d_CC_isReferenceType_3 (by decide) (fun hc1 => ?_) (fun hc1 => ?_)
  · rw [if_pos hc1] at hf
    exact hb12  u _ _ _ hf hI (lv_sub hl [] rfl)
  · rw [if_neg hc1] at hf
    refine lv_iload_n B.1 B.2.1 d_CC_isReferenceType_6 rfl (lv_at hl 0 rfl) ?_
    refine lv_bipush (v := 111) B.1 B.2.1 d_CC_isReferenceType_7 (by decide) ?_
    refine lv_icmp_ne (tgt := 16) B.1 B.2.1 d_CC_isReferenceType_9 (by decide) (fun hc2 => ?_) (fun hc2 => ?_)
    · rw [if_neg hc2] at hf
      refine lv_iconst (v := 0) B.1 B.2.1 d_CC_isReferenceType_16 (by decide) ?_
      exact hb17 0 u _ _ _ hf hI (lv_sub hl [] rfl)
    · rw [if_pos hc2] at hf
      exact hb12  u _ _ _ hf hI (lv_sub hl [] rfl)
set_option maxHeartbeats 4000000 in
set_option maxRecDepth 100000 in
theorem zc_CCC_isValueType (l : Launch) (D : va_G) (z : zZ) (a : Nat → Nat) (N : Nat) (x0 : Int32) (u : zU) (r : Int32) (u1 : zU) (hf : zf_CCC_isValueType N x0 u = some (r, u1)) : zMet l D z y_CC_isValueType (.code y_CC_isValueType b_CC_isValueType 1 (some (.boolean))) { frames := 1, cells := 0, slots := 0, locals := 20 } [.int x0] (wC a z u) (zQi D r (wC a z u1)) := by
  refine zM_i (own := R_CC) [.int x0] (wC a z u) r (wC a z u1) (by decide) rfl (Nat.le_of_ble_eq_true rfl) ?_
  intro p e s m args below meth c A ls B hr hlk hI hl
  have hl : lv_has ls 1 [(0, .int x0)] := hl
  revert hf
  revert hI hl
  have hb36 : ∀ (s0 : Int32) (u : zU) (H : Heap) (locs : List Loc) (ls : Array Slot), zf_CCC_isValueType_b36 N  s0 u = some (r, u1) → iw D A s (wC a z u) H locs → lv_has ls 1 [] → W p l e ({ frames := 1, cells := 0, slots := 0, locals := 20 } : Room) s m args below meth c H locs 0 0 (MQ below (zQi D r (wC a z u1) A) args s 0 0 A) (F0 m 36 ls [.int s0]) := by
    intro s0 u H locs ls hf hI hl
    unfold zf_CCC_isValueType_b36 at hf
    obtain ⟨hz3, hf⟩ := zck_some hf
    obtain ⟨e1, e2⟩ := zrt hf
    exact zr_z (wC a z) B hI hr hlk hz3 e1 e2 d_CC_isValueType_36
  have hb31 : ∀  (u : zU) (H : Heap) (locs : List Loc) (ls : Array Slot), zf_CCC_isValueType_b31 N   u = some (r, u1) → iw D A s (wC a z u) H locs → lv_has ls 1 [] → W p l e ({ frames := 1, cells := 0, slots := 0, locals := 20 } : Room) s m args below meth c H locs 0 0 (MQ below (zQi D r (wC a z u1) A) args s 0 0 A) (F0 m 31 ls []) := by
    intro  u H locs ls hf hI hl
    unfold zf_CCC_isValueType_b31 at hf
    refine lv_iconst (v := 1) B.1 B.2.1 d_CC_isValueType_31 (by decide) ?_
    refine lv_goto (tgt := 36) B.1 B.2.1 d_CC_isValueType_32 (by decide) ?_
    exact hb36 1 u _ _ _ hf hI (lv_sub hl [] rfl)
  intro hI hl hf
  unfold zf_CCC_isValueType at hf
  refine lv_iload_n B.1 B.2.1 d_CC_isValueType_0 rfl (lv_at hl 0 rfl) ?_
  refine lv_bipush (v := 127) B.1 B.2.1 d_CC_isValueType_1 (by decide) ?_
  refine lv_icmp_eq (tgt := 31) B.1 B.2.1 d_CC_isValueType_3 (by decide) (fun hc1 => ?_) (fun hc1 => ?_)
  · rw [if_pos hc1] at hf
    exact hb31  u _ _ _ hf hI (lv_sub hl [] rfl)
  · rw [if_neg hc1] at hf
    refine lv_iload_n B.1 B.2.1 d_CC_isValueType_6 rfl (lv_at hl 0 rfl) ?_
    refine lv_bipush (v := 126) B.1 B.2.1 d_CC_isValueType_7 (by decide) ?_
    refine lv_icmp_eq (tgt := 31) B.1 B.2.1 d_CC_isValueType_9 (by decide) (fun hc2 => ?_) (fun hc2 => ?_)
    · rw [if_pos hc2] at hf
      exact hb31  u _ _ _ hf hI (lv_sub hl [] rfl)
    · rw [if_neg hc2] at hf
      refine lv_iload_n B.1 B.2.1 d_CC_isValueType_12 rfl (lv_at hl 0 rfl) ?_
      refine lv_bipush (v := 125) B.1 B.2.1 d_CC_isValueType_13 (by decide) ?_
      refine lv_icmp_eq (tgt := 31) B.1 B.2.1 d_CC_isValueType_15 (by decide) (fun hc3 => ?_) (fun hc3 => ?_)
      · rw [if_pos hc3] at hf
        exact hb31  u _ _ _ hf hI (lv_sub hl [] rfl)
      · rw [if_neg hc3] at hf
        refine lv_iload_n B.1 B.2.1 d_CC_isValueType_18 rfl (lv_at hl 0 rfl) ?_
        refine lv_bipush (v := 124) B.1 B.2.1 d_CC_isValueType_19 (by decide) ?_
        refine lv_icmp_eq (tgt := 31) B.1 B.2.1 d_CC_isValueType_21 (by decide) (fun hc4 => ?_) (fun hc4 => ?_)
        · rw [if_pos hc4] at hf
          exact hb31  u _ _ _ hf hI (lv_sub hl [] rfl)
        · rw [if_neg hc4] at hf
          refine lv_iload_n B.1 B.2.1 d_CC_isValueType_24 rfl (lv_at hl 0 rfl) ?_
          obtain ⟨r5, u6, h7, hf⟩ := zbd_some hf
          refine rx_Si (n := 1) (As := [.int x0]) (rest := []) B hI hl.1 (zc_CCC_isReferenceType l D z a N x0 u r5 u6 h7) zw_14 zw_17 zw_15 zw_16 (by decide +kernel) rfl rfl (Nat.le_of_ble_eq_true rfl) d_CC_isValueType_25 ⟨Nat.le_of_ble_eq_true rfl, Nat.le_of_ble_eq_true rfl⟩ rfl rfl ⟨Nat.zero_le _, Nat.zero_le _⟩ (fun H locs hI => ?_)
          refine lv_if_eq (tgt := 35) B.1 B.2.1 d_CC_isValueType_28 (by decide) (fun hc8 => ?_) (fun hc8 => ?_)
          · rw [if_pos hc8] at hf
            refine lv_iconst (v := 0) B.1 B.2.1 d_CC_isValueType_35 (by decide) ?_
            exact hb36 0 u6 _ _ _ hf hI (lv_sub hl [] rfl)
          · rw [if_neg hc8] at hf
            exact hb31  u6 _ _ _ hf hI (lv_sub hl [] rfl)
set_option maxHeartbeats 4000000 in
set_option maxRecDepth 100000 in
theorem zc_CCRows_sizeOf_5 (l : Launch) (D : va_G) (z : zZ) (a : Nat → Nat) (N : Nat) (x1 : Int32) (u : zU) (r : Int32) (u1 : zU) (hf : zf_CCRows_sizeOf_5 N x1 u = some (r, u1)) : zMet l D z y_CRows_sizeOf (.code y_CRows_sizeOf b_CRows_sizeOf 2 (some (.int))) { frames := 0, cells := 0, slots := 0, locals := 0 } [.ref (a 5), .int x1] (wC a z u) (zQi D r (wC a z u1)) := by
  refine zM_i (own := R_CRows) [.ref (a 5), .int x1] (wC a z u) r (wC a z u1) (by decide) rfl (Nat.le_of_ble_eq_true rfl) ?_
  intro p e s m args below meth c A ls B hr hlk hI hl
  have hl : lv_has ls 2 [(0, .ref (a 5)), (1, .int x1)] := hl
  revert hf
  revert hI hl
  have hb42 : ∀ (s0 : Int32) (u : zU) (H : Heap) (locs : List Loc) (ls : Array Slot), zf_CCRows_sizeOf_5_b42 N  s0 u = some (r, u1) → iw D A s (wC a z u) H locs → lv_has ls 2 [] → W p l e ({ frames := 0, cells := 0, slots := 0, locals := 0 } : Room) s m args below meth c H locs 0 0 (MQ below (zQi D r (wC a z u1) A) args s 0 0 A) (F0 m 42 ls [.int s0]) := by
    intro s0 u H locs ls hf hI hl
    unfold zf_CCRows_sizeOf_5_b42 at hf
    obtain ⟨e1, e2⟩ := zrt hf
    exact zr_i (wC a z) B hI hr hlk e1 e2 d_CRows_sizeOf_42
  have hb22 : ∀ (s0 : Int32) (u : zU) (H : Heap) (locs : List Loc) (ls : Array Slot), zf_CCRows_sizeOf_5_b22 N  s0 u = some (r, u1) → iw D A s (wC a z u) H locs → lv_has ls 2 [] → W p l e ({ frames := 0, cells := 0, slots := 0, locals := 0 } : Room) s m args below meth c H locs 0 0 (MQ below (zQi D r (wC a z u1) A) args s 0 0 A) (F0 m 22 ls [.int s0]) := by
    intro s0 u H locs ls hf hI hl
    unfold zf_CCRows_sizeOf_5_b22 at hf
    obtain ⟨e1, e2⟩ := zrt hf
    exact zr_i (wC a z) B hI hr hlk e1 e2 d_CRows_sizeOf_22
  have hb21 : ∀  (u : zU) (H : Heap) (locs : List Loc) (ls : Array Slot), zf_CCRows_sizeOf_5_b21 N   u = some (r, u1) → iw D A s (wC a z u) H locs → lv_has ls 2 [] → W p l e ({ frames := 0, cells := 0, slots := 0, locals := 0 } : Room) s m args below meth c H locs 0 0 (MQ below (zQi D r (wC a z u1) A) args s 0 0 A) (F0 m 21 ls []) := by
    intro  u H locs ls hf hI hl
    unfold zf_CCRows_sizeOf_5_b21 at hf
    refine lv_iconst (v := 0) B.1 B.2.1 d_CRows_sizeOf_21 (by decide) ?_
    exact hb22 0 u _ _ _ hf hI (lv_sub hl [] rfl)
  intro hI hl hf
  unfold zf_CCRows_sizeOf_5 at hf
  refine lv_iload_n B.1 B.2.1 d_CRows_sizeOf_0 rfl (lv_at hl 1 rfl) ?_
  refine lv_if_ge (tgt := 23) B.1 B.2.1 d_CRows_sizeOf_1 (by decide) (fun hc1 => ?_) (fun hc1 => ?_)
  · rw [if_pos hc1] at hf
    refine lv_iload_n B.1 B.2.1 d_CRows_sizeOf_23 rfl (lv_at hl 1 rfl) ?_
    refine lv_aload_n B.1 B.2.1 d_CRows_sizeOf_24 rfl (lv_at hl 0 rfl) ?_
    refine rx_get (v := .ref (a 6)) B hI hcl_CRows hin_CRows 5 (wC_at_5 a z u) 1 (by decide) hf_CRows_1 zw_23 rfl d_CRows_sizeOf_25 ?_
    refine rx_alen (v := 40) B hI 6 0 (wC_at_6 a z u) rfl rfl d_CRows_sizeOf_28 ?_
    refine lv_icmp_ge (tgt := 41) B.1 B.2.1 d_CRows_sizeOf_29 (by decide) (fun hc2 => ?_) (fun hc2 => ?_)
    · rw [if_pos hc2] at hf
      refine lv_iconst (v := 0) B.1 B.2.1 d_CRows_sizeOf_41 (by decide) ?_
      exact hb42 0 u _ _ _ hf hI (lv_sub hl [] rfl)
    · rw [if_neg hc2] at hf
      refine lv_aload_n B.1 B.2.1 d_CRows_sizeOf_32 rfl (lv_at hl 0 rfl) ?_
      refine rx_get (v := .ref (a 6)) B hI hcl_CRows hin_CRows 5 (wC_at_5 a z u) 1 (by decide) hf_CRows_1 zw_23 rfl d_CRows_sizeOf_33 ?_
      refine lv_iload_n B.1 B.2.1 d_CRows_sizeOf_36 rfl (lv_at hl 1 rfl) ?_
      obtain ⟨hi3, hf⟩ := zck_some hf
      refine rx_iald B hI 6 (wC_at_6 a z u) hi3 d_CRows_sizeOf_37 ?_
      refine lv_goto (tgt := 42) B.1 B.2.1 d_CRows_sizeOf_38 (by decide) ?_
      exact hb42 (ga u 2 x1) u _ _ _ hf hI (lv_sub hl [] rfl)
  · rw [if_neg hc1] at hf
    refine lv_aload_n B.1 B.2.1 d_CRows_sizeOf_4 rfl (lv_at hl 0 rfl) ?_
    refine rx_get (v := .int 1) B hI hcl_CRows hin_CRows 5 (wC_at_5 a z u) 0 (by decide) hf_CRows_0 zw_22 rfl d_CRows_sizeOf_5 ?_
    refine lv_if_eq (tgt := 21) B.1 B.2.1 d_CRows_sizeOf_8 (by decide) (fun hc4 => ?_) (fun hc4 => ?_)
    · rw [if_pos hc4] at hf
      exact hb21  u _ _ _ hf hI (lv_sub hl [] rfl)
    · rw [if_neg hc4] at hf
      refine lv_iload_n B.1 B.2.1 d_CRows_sizeOf_11 rfl (lv_at hl 1 rfl) ?_
      refine lv_bipush (v := (-64)) B.1 B.2.1 d_CRows_sizeOf_12 (by decide) ?_
      refine lv_icmp_eq (tgt := 21) B.1 B.2.1 d_CRows_sizeOf_14 (by decide) (fun hc5 => ?_) (fun hc5 => ?_)
      · rw [if_pos hc5] at hf
        exact hb21  u _ _ _ hf hI (lv_sub hl [] rfl)
      · rw [if_neg hc5] at hf
        refine lv_iconst (v := 1) B.1 B.2.1 d_CRows_sizeOf_17 (by decide) ?_
        refine lv_goto (tgt := 22) B.1 B.2.1 d_CRows_sizeOf_18 (by decide) ?_
        exact hb22 1 u _ _ _ hf hI (lv_sub hl [] rfl)
set_option maxHeartbeats 4000000 in
set_option maxRecDepth 100000 in
theorem zc_CCRows_append_5 (l : Launch) (D : va_G) (z : zZ) (a : Nat → Nat) (N : Nat) (x1 : Int32) (x2 : Int32) (u : zU) (r : Int32) (u1 : zU) (hf : zf_CCRows_append_5 N x1 x2 u = some (r, u1)) : zMet l D z y_CRows_append (.code y_CRows_append b_CRows_append 5 (some (.int))) { frames := 1, cells := 0, slots := 0, locals := 21 } [.ref (a 5), .int x1, .int x2] (wC a z u) (zQi D r (wC a z u1)) := by
  refine zM_i (own := R_CRows) [.ref (a 5), .int x1, .int x2] (wC a z u) r (wC a z u1) (by decide) rfl (Nat.le_of_ble_eq_true rfl) ?_
  intro p e s m args below meth c A ls B hr hlk hI hl
  have hl : lv_has ls 5 [(0, .ref (a 5)), (1, .int x1), (2, .int x2)] := hl
  revert hf
  revert hI hl
  have hb45 : ∀  (u : zU) (H : Heap) (locs : List Loc) (ls : Array Slot), zf_CCRows_append_5_b45 N   u = some (r, u1) → iw D A s (wC a z u) H locs → lv_has ls 5 [] → W p l e ({ frames := 1, cells := 0, slots := 0, locals := 21 } : Room) s m args below meth c H locs 0 0 (MQ below (zQi D r (wC a z u1) A) args s 0 0 A) (F0 m 45 ls []) := by
    intro  u H locs ls hf hI hl
    unfold zf_CCRows_append_5_b45 at hf
    refine lv_iconst (v := (-1)) B.1 B.2.1 d_CRows_append_45 (by decide) ?_
    obtain ⟨e1, e2⟩ := zrt hf
    exact zr_i (wC a z) B hI hr hlk e1 e2 d_CRows_append_46
  intro hI hl hf
  unfold zf_CCRows_append_5 at hf
  refine lv_aload_n B.1 B.2.1 d_CRows_append_0 rfl (lv_at hl 0 rfl) ?_
  refine lv_iload_n B.1 B.2.1 d_CRows_append_1 rfl (lv_at hl 1 rfl) ?_
  obtain ⟨r1, u2, h3, hf⟩ := zbd_some hf
  refine rx_Vi (n := 1) (As := [.int x1]) (rest := []) B hI hl.1 (zc_CCRows_sizeOf_5 l D z a N x1 u r1 u2 h3) zw_24 zw_27 zw_28 zw_25 zw_26 (by decide +kernel) 5 (wC_at_5 a z u) hcl_CRows rfl rfl (Nat.le_of_ble_eq_true rfl) d_CRows_append_2 ⟨Nat.le_of_ble_eq_true rfl, Nat.le_of_ble_eq_true rfl⟩ rfl rfl ⟨Nat.zero_le _, Nat.zero_le _⟩ (fun H locs hI => ?_)
  refine lv_istore_n (lv' := [(3, .int r1), (0, .ref (a 5)), (1, .int x1), (2, .int x2)]) B.1 B.2.1 d_CRows_append_5 rfl hl (by decide) rfl (fun ls hl => ?_)
  refine lv_iload_n B.1 B.2.1 d_CRows_append_6 rfl (lv_at hl 2 rfl) ?_
  refine lv_bipush (v := 12) B.1 B.2.1 d_CRows_append_7 (by decide) ?_
  refine lv_imul B.1 B.2.1 d_CRows_append_9 ?_
  refine lv_iload_n B.1 B.2.1 d_CRows_append_10 rfl (lv_at hl 0 rfl) ?_
  refine lv_iadd B.1 B.2.1 d_CRows_append_11 ?_
  refine lv_istore (lv' := [(4, .int ((x1 * 12) + r1)), (3, .int r1), (0, .ref (a 5)), (1, .int x1), (2, .int x2)]) B.1 B.2.1 d_CRows_append_12 hl (by decide) rfl (fun ls hl => ?_)
  refine lv_iload_n B.1 B.2.1 d_CRows_append_14 rfl (lv_at hl 3 rfl) ?_
  refine lv_if_lt (tgt := 45) B.1 B.2.1 d_CRows_append_15 (by decide) (fun hc4 => ?_) (fun hc4 => ?_)
  · rw [if_pos hc4] at hf
    exact hb45  u2 _ _ _ hf hI (lv_sub hl [] rfl)
  · rw [if_neg hc4] at hf
    refine lv_iload_n B.1 B.2.1 d_CRows_append_18 rfl (lv_at hl 3 rfl) ?_
    refine lv_bipush (v := 40) B.1 B.2.1 d_CRows_append_19 (by decide) ?_
    refine lv_icmp_ge (tgt := 45) B.1 B.2.1 d_CRows_append_21 (by decide) (fun hc5 => ?_) (fun hc5 => ?_)
    · rw [if_pos hc5] at hf
      exact hb45  u2 _ _ _ hf hI (lv_sub hl [] rfl)
    · rw [if_neg hc5] at hf
      refine lv_iload_n B.1 B.2.1 d_CRows_append_24 rfl (lv_at hl 1 rfl) ?_
      refine lv_bipush (v := 12) B.1 B.2.1 d_CRows_append_25 (by decide) ?_
      refine lv_icmp_ge (tgt := 45) B.1 B.2.1 d_CRows_append_27 (by decide) (fun hc6 => ?_) (fun hc6 => ?_)
      · rw [if_pos hc6] at hf
        exact hb45  u2 _ _ _ hf hI (lv_sub hl [] rfl)
      · rw [if_neg hc6] at hf
        refine lv_iload B.1 B.2.1 d_CRows_append_30 (lv_at hl 0 rfl) ?_
        refine lv_if_lt (tgt := 45) B.1 B.2.1 d_CRows_append_32 (by decide) (fun hc7 => ?_) (fun hc7 => ?_)
        · rw [if_pos hc7] at hf
          exact hb45  u2 _ _ _ hf hI (lv_sub hl [] rfl)
        · rw [if_neg hc7] at hf
          refine lv_iload B.1 B.2.1 d_CRows_append_35 (lv_at hl 0 rfl) ?_
          refine lv_aload_n B.1 B.2.1 d_CRows_append_37 rfl (lv_at hl 2 rfl) ?_
          refine rx_get (v := .ref (a 7)) B hI hcl_CRows hin_CRows 5 (wC_at_5 a z u2) 2 (by decide) hf_CRows_2 zw_29 rfl d_CRows_append_38 ?_
          refine rx_alen (v := 480) B hI 7 0 (wC_at_7 a z u2) rfl rfl d_CRows_append_41 ?_
          refine lv_icmp_lt (tgt := 47) B.1 B.2.1 d_CRows_append_42 (by decide) (fun hc8 => ?_) (fun hc8 => ?_)
          · rw [if_pos hc8] at hf
            refine lv_aload_n B.1 B.2.1 d_CRows_append_47 rfl (lv_at hl 2 rfl) ?_
            refine rx_get (v := .ref (a 7)) B hI hcl_CRows hin_CRows 5 (wC_at_5 a z u2) 2 (by decide) hf_CRows_2 zw_29 rfl d_CRows_append_48 ?_
            refine lv_iload B.1 B.2.1 d_CRows_append_51 (lv_at hl 0 rfl) ?_
            refine lv_iload_n B.1 B.2.1 d_CRows_append_53 rfl (lv_at hl 4 rfl) ?_
            obtain ⟨hi9, hf⟩ := zck_some hf
            refine rx_iast B hI 7 (wC_at_7 a z u2) hi9 (wC_sa_3 a z u2 ((x1 * 12) + r1) x2) d_CRows_append_54 (fun H locs hI => ?_)
            refine lv_aload_n B.1 B.2.1 d_CRows_append_55 rfl (lv_at hl 2 rfl) ?_
            refine rx_get (v := .ref (a 6)) B hI hcl_CRows hin_CRows 5 (wC_at_5 a z (sa u2 3 ((x1 * 12) + r1) x2)) 1 (by decide) hf_CRows_1 zw_23 rfl d_CRows_append_56 ?_
            refine lv_iload_n B.1 B.2.1 d_CRows_append_59 rfl (lv_at hl 3 rfl) ?_
            refine lv_iload_n B.1 B.2.1 d_CRows_append_60 rfl (lv_at hl 1 rfl) ?_
            refine lv_iconst (v := 1) B.1 B.2.1 d_CRows_append_61 (by decide) ?_
            refine lv_iadd B.1 B.2.1 d_CRows_append_62 ?_
            obtain ⟨hi10, hf⟩ := zck_some hf
            refine rx_iast B hI 6 (wC_at_6 a z (sa u2 3 ((x1 * 12) + r1) x2)) hi10 (wC_sa_2 a z (sa u2 3 ((x1 * 12) + r1) x2) x1 (r1 + 1)) d_CRows_append_63 (fun H locs hI => ?_)
            refine lv_iload_n B.1 B.2.1 d_CRows_append_64 rfl (lv_at hl 1 rfl) ?_
            refine lv_iconst (v := 1) B.1 B.2.1 d_CRows_append_65 (by decide) ?_
            refine lv_iadd B.1 B.2.1 d_CRows_append_66 ?_
            obtain ⟨e11, e12⟩ := zrt hf
            exact zr_i (wC a z) B hI hr hlk e11 e12 d_CRows_append_67
          · rw [if_neg hc8] at hf
            exact hb45  u2 _ _ _ hf hI (lv_sub hl [] rfl)
set_option maxHeartbeats 4000000 in
set_option maxRecDepth 100000 in
theorem zc_CCRows_sizeOf_2 (l : Launch) (D : va_G) (z : zZ) (a : Nat → Nat) (N : Nat) (x1 : Int32) (u : zU) (r : Int32) (u1 : zU) (hf : zf_CCRows_sizeOf_2 N x1 u = some (r, u1)) : zMet l D z y_CRows_sizeOf (.code y_CRows_sizeOf b_CRows_sizeOf 2 (some (.int))) { frames := 0, cells := 0, slots := 0, locals := 0 } [.ref (a 2), .int x1] (wC a z u) (zQi D r (wC a z u1)) := by
  refine zM_i (own := R_CRows) [.ref (a 2), .int x1] (wC a z u) r (wC a z u1) (by decide) rfl (Nat.le_of_ble_eq_true rfl) ?_
  intro p e s m args below meth c A ls B hr hlk hI hl
  have hl : lv_has ls 2 [(0, .ref (a 2)), (1, .int x1)] := hl
  revert hf
  revert hI hl
  have hb42 : ∀ (s0 : Int32) (u : zU) (H : Heap) (locs : List Loc) (ls : Array Slot), zf_CCRows_sizeOf_2_b42 N  s0 u = some (r, u1) → iw D A s (wC a z u) H locs → lv_has ls 2 [] → W p l e ({ frames := 0, cells := 0, slots := 0, locals := 0 } : Room) s m args below meth c H locs 0 0 (MQ below (zQi D r (wC a z u1) A) args s 0 0 A) (F0 m 42 ls [.int s0]) := by
    intro s0 u H locs ls hf hI hl
    unfold zf_CCRows_sizeOf_2_b42 at hf
    obtain ⟨e1, e2⟩ := zrt hf
    exact zr_i (wC a z) B hI hr hlk e1 e2 d_CRows_sizeOf_42
  have hb22 : ∀ (s0 : Int32) (u : zU) (H : Heap) (locs : List Loc) (ls : Array Slot), zf_CCRows_sizeOf_2_b22 N  s0 u = some (r, u1) → iw D A s (wC a z u) H locs → lv_has ls 2 [] → W p l e ({ frames := 0, cells := 0, slots := 0, locals := 0 } : Room) s m args below meth c H locs 0 0 (MQ below (zQi D r (wC a z u1) A) args s 0 0 A) (F0 m 22 ls [.int s0]) := by
    intro s0 u H locs ls hf hI hl
    unfold zf_CCRows_sizeOf_2_b22 at hf
    obtain ⟨e1, e2⟩ := zrt hf
    exact zr_i (wC a z) B hI hr hlk e1 e2 d_CRows_sizeOf_22
  have hb21 : ∀  (u : zU) (H : Heap) (locs : List Loc) (ls : Array Slot), zf_CCRows_sizeOf_2_b21 N   u = some (r, u1) → iw D A s (wC a z u) H locs → lv_has ls 2 [] → W p l e ({ frames := 0, cells := 0, slots := 0, locals := 0 } : Room) s m args below meth c H locs 0 0 (MQ below (zQi D r (wC a z u1) A) args s 0 0 A) (F0 m 21 ls []) := by
    intro  u H locs ls hf hI hl
    unfold zf_CCRows_sizeOf_2_b21 at hf
    refine lv_iconst (v := 0) B.1 B.2.1 d_CRows_sizeOf_21 (by decide) ?_
    exact hb22 0 u _ _ _ hf hI (lv_sub hl [] rfl)
  intro hI hl hf
  unfold zf_CCRows_sizeOf_2 at hf
  refine lv_iload_n B.1 B.2.1 d_CRows_sizeOf_0 rfl (lv_at hl 1 rfl) ?_
  refine lv_if_ge (tgt := 23) B.1 B.2.1 d_CRows_sizeOf_1 (by decide) (fun hc1 => ?_) (fun hc1 => ?_)
  · rw [if_pos hc1] at hf
    refine lv_iload_n B.1 B.2.1 d_CRows_sizeOf_23 rfl (lv_at hl 1 rfl) ?_
    refine lv_aload_n B.1 B.2.1 d_CRows_sizeOf_24 rfl (lv_at hl 0 rfl) ?_
    refine rx_get (v := .ref (a 3)) B hI hcl_CRows hin_CRows 2 (wC_at_2 a z u) 1 (by decide) hf_CRows_1 zw_23 rfl d_CRows_sizeOf_25 ?_
    refine rx_alen (v := 40) B hI 3 0 (wC_at_3 a z u) rfl rfl d_CRows_sizeOf_28 ?_
    refine lv_icmp_ge (tgt := 41) B.1 B.2.1 d_CRows_sizeOf_29 (by decide) (fun hc2 => ?_) (fun hc2 => ?_)
    · rw [if_pos hc2] at hf
      refine lv_iconst (v := 0) B.1 B.2.1 d_CRows_sizeOf_41 (by decide) ?_
      exact hb42 0 u _ _ _ hf hI (lv_sub hl [] rfl)
    · rw [if_neg hc2] at hf
      refine lv_aload_n B.1 B.2.1 d_CRows_sizeOf_32 rfl (lv_at hl 0 rfl) ?_
      refine rx_get (v := .ref (a 3)) B hI hcl_CRows hin_CRows 2 (wC_at_2 a z u) 1 (by decide) hf_CRows_1 zw_23 rfl d_CRows_sizeOf_33 ?_
      refine lv_iload_n B.1 B.2.1 d_CRows_sizeOf_36 rfl (lv_at hl 1 rfl) ?_
      obtain ⟨hi3, hf⟩ := zck_some hf
      refine rx_iald B hI 3 (wC_at_3 a z u) hi3 d_CRows_sizeOf_37 ?_
      refine lv_goto (tgt := 42) B.1 B.2.1 d_CRows_sizeOf_38 (by decide) ?_
      exact hb42 (ga u 0 x1) u _ _ _ hf hI (lv_sub hl [] rfl)
  · rw [if_neg hc1] at hf
    refine lv_aload_n B.1 B.2.1 d_CRows_sizeOf_4 rfl (lv_at hl 0 rfl) ?_
    refine rx_get (v := .int 0) B hI hcl_CRows hin_CRows 2 (wC_at_2 a z u) 0 (by decide) hf_CRows_0 zw_22 rfl d_CRows_sizeOf_5 ?_
    refine lv_if_eq (tgt := 21) B.1 B.2.1 d_CRows_sizeOf_8 (by decide) (fun hc4 => ?_) (fun hc4 => ?_)
    · rw [if_pos hc4] at hf
      exact hb21  u _ _ _ hf hI (lv_sub hl [] rfl)
    · rw [if_neg hc4] at hf
      refine lv_iload_n B.1 B.2.1 d_CRows_sizeOf_11 rfl (lv_at hl 1 rfl) ?_
      refine lv_bipush (v := (-64)) B.1 B.2.1 d_CRows_sizeOf_12 (by decide) ?_
      refine lv_icmp_eq (tgt := 21) B.1 B.2.1 d_CRows_sizeOf_14 (by decide) (fun hc5 => ?_) (fun hc5 => ?_)
      · rw [if_pos hc5] at hf
        exact hb21  u _ _ _ hf hI (lv_sub hl [] rfl)
      · rw [if_neg hc5] at hf
        refine lv_iconst (v := 1) B.1 B.2.1 d_CRows_sizeOf_17 (by decide) ?_
        refine lv_goto (tgt := 22) B.1 B.2.1 d_CRows_sizeOf_18 (by decide) ?_
        exact hb22 1 u _ _ _ hf hI (lv_sub hl [] rfl)
set_option maxHeartbeats 4000000 in
set_option maxRecDepth 100000 in
theorem zc_CCRows_append_2 (l : Launch) (D : va_G) (z : zZ) (a : Nat → Nat) (N : Nat) (x1 : Int32) (x2 : Int32) (u : zU) (r : Int32) (u1 : zU) (hf : zf_CCRows_append_2 N x1 x2 u = some (r, u1)) : zMet l D z y_CRows_append (.code y_CRows_append b_CRows_append 5 (some (.int))) { frames := 1, cells := 0, slots := 0, locals := 21 } [.ref (a 2), .int x1, .int x2] (wC a z u) (zQi D r (wC a z u1)) := by
  refine zM_i (own := R_CRows) [.ref (a 2), .int x1, .int x2] (wC a z u) r (wC a z u1) (by decide) rfl (Nat.le_of_ble_eq_true rfl) ?_
  intro p e s m args below meth c A ls B hr hlk hI hl
  have hl : lv_has ls 5 [(0, .ref (a 2)), (1, .int x1), (2, .int x2)] := hl
  revert hf
  revert hI hl
  have hb45 : ∀  (u : zU) (H : Heap) (locs : List Loc) (ls : Array Slot), zf_CCRows_append_2_b45 N   u = some (r, u1) → iw D A s (wC a z u) H locs → lv_has ls 5 [] → W p l e ({ frames := 1, cells := 0, slots := 0, locals := 21 } : Room) s m args below meth c H locs 0 0 (MQ below (zQi D r (wC a z u1) A) args s 0 0 A) (F0 m 45 ls []) := by
    intro  u H locs ls hf hI hl
    unfold zf_CCRows_append_2_b45 at hf
    refine lv_iconst (v := (-1)) B.1 B.2.1 d_CRows_append_45 (by decide) ?_
    obtain ⟨e1, e2⟩ := zrt hf
    exact zr_i (wC a z) B hI hr hlk e1 e2 d_CRows_append_46
  intro hI hl hf
  unfold zf_CCRows_append_2 at hf
  refine lv_aload_n B.1 B.2.1 d_CRows_append_0 rfl (lv_at hl 0 rfl) ?_
  refine lv_iload_n B.1 B.2.1 d_CRows_append_1 rfl (lv_at hl 1 rfl) ?_
  obtain ⟨r1, u2, h3, hf⟩ := zbd_some hf
  refine rx_Vi (n := 1) (As := [.int x1]) (rest := []) B hI hl.1 (zc_CCRows_sizeOf_2 l D z a N x1 u r1 u2 h3) zw_24 zw_27 zw_28 zw_25 zw_26 (by decide +kernel) 2 (wC_at_2 a z u) hcl_CRows rfl rfl (Nat.le_of_ble_eq_true rfl) d_CRows_append_2 ⟨Nat.le_of_ble_eq_true rfl, Nat.le_of_ble_eq_true rfl⟩ rfl rfl ⟨Nat.zero_le _, Nat.zero_le _⟩ (fun H locs hI => ?_)
  refine lv_istore_n (lv' := [(3, .int r1), (0, .ref (a 2)), (1, .int x1), (2, .int x2)]) B.1 B.2.1 d_CRows_append_5 rfl hl (by decide) rfl (fun ls hl => ?_)
  refine lv_iload_n B.1 B.2.1 d_CRows_append_6 rfl (lv_at hl 2 rfl) ?_
  refine lv_bipush (v := 12) B.1 B.2.1 d_CRows_append_7 (by decide) ?_
  refine lv_imul B.1 B.2.1 d_CRows_append_9 ?_
  refine lv_iload_n B.1 B.2.1 d_CRows_append_10 rfl (lv_at hl 0 rfl) ?_
  refine lv_iadd B.1 B.2.1 d_CRows_append_11 ?_
  refine lv_istore (lv' := [(4, .int ((x1 * 12) + r1)), (3, .int r1), (0, .ref (a 2)), (1, .int x1), (2, .int x2)]) B.1 B.2.1 d_CRows_append_12 hl (by decide) rfl (fun ls hl => ?_)
  refine lv_iload_n B.1 B.2.1 d_CRows_append_14 rfl (lv_at hl 3 rfl) ?_
  refine lv_if_lt (tgt := 45) B.1 B.2.1 d_CRows_append_15 (by decide) (fun hc4 => ?_) (fun hc4 => ?_)
  · rw [if_pos hc4] at hf
    exact hb45  u2 _ _ _ hf hI (lv_sub hl [] rfl)
  · rw [if_neg hc4] at hf
    refine lv_iload_n B.1 B.2.1 d_CRows_append_18 rfl (lv_at hl 3 rfl) ?_
    refine lv_bipush (v := 40) B.1 B.2.1 d_CRows_append_19 (by decide) ?_
    refine lv_icmp_ge (tgt := 45) B.1 B.2.1 d_CRows_append_21 (by decide) (fun hc5 => ?_) (fun hc5 => ?_)
    · rw [if_pos hc5] at hf
      exact hb45  u2 _ _ _ hf hI (lv_sub hl [] rfl)
    · rw [if_neg hc5] at hf
      refine lv_iload_n B.1 B.2.1 d_CRows_append_24 rfl (lv_at hl 1 rfl) ?_
      refine lv_bipush (v := 12) B.1 B.2.1 d_CRows_append_25 (by decide) ?_
      refine lv_icmp_ge (tgt := 45) B.1 B.2.1 d_CRows_append_27 (by decide) (fun hc6 => ?_) (fun hc6 => ?_)
      · rw [if_pos hc6] at hf
        exact hb45  u2 _ _ _ hf hI (lv_sub hl [] rfl)
      · rw [if_neg hc6] at hf
        refine lv_iload B.1 B.2.1 d_CRows_append_30 (lv_at hl 0 rfl) ?_
        refine lv_if_lt (tgt := 45) B.1 B.2.1 d_CRows_append_32 (by decide) (fun hc7 => ?_) (fun hc7 => ?_)
        · rw [if_pos hc7] at hf
          exact hb45  u2 _ _ _ hf hI (lv_sub hl [] rfl)
        · rw [if_neg hc7] at hf
          refine lv_iload B.1 B.2.1 d_CRows_append_35 (lv_at hl 0 rfl) ?_
          refine lv_aload_n B.1 B.2.1 d_CRows_append_37 rfl (lv_at hl 2 rfl) ?_
          refine rx_get (v := .ref (a 4)) B hI hcl_CRows hin_CRows 2 (wC_at_2 a z u2) 2 (by decide) hf_CRows_2 zw_29 rfl d_CRows_append_38 ?_
          refine rx_alen (v := 480) B hI 4 0 (wC_at_4 a z u2) rfl rfl d_CRows_append_41 ?_
          refine lv_icmp_lt (tgt := 47) B.1 B.2.1 d_CRows_append_42 (by decide) (fun hc8 => ?_) (fun hc8 => ?_)
          · rw [if_pos hc8] at hf
            refine lv_aload_n B.1 B.2.1 d_CRows_append_47 rfl (lv_at hl 2 rfl) ?_
            refine rx_get (v := .ref (a 4)) B hI hcl_CRows hin_CRows 2 (wC_at_2 a z u2) 2 (by decide) hf_CRows_2 zw_29 rfl d_CRows_append_48 ?_
            refine lv_iload B.1 B.2.1 d_CRows_append_51 (lv_at hl 0 rfl) ?_
            refine lv_iload_n B.1 B.2.1 d_CRows_append_53 rfl (lv_at hl 4 rfl) ?_
            obtain ⟨hi9, hf⟩ := zck_some hf
            refine rx_iast B hI 4 (wC_at_4 a z u2) hi9 (wC_sa_1 a z u2 ((x1 * 12) + r1) x2) d_CRows_append_54 (fun H locs hI => ?_)
            refine lv_aload_n B.1 B.2.1 d_CRows_append_55 rfl (lv_at hl 2 rfl) ?_
            refine rx_get (v := .ref (a 3)) B hI hcl_CRows hin_CRows 2 (wC_at_2 a z (sa u2 1 ((x1 * 12) + r1) x2)) 1 (by decide) hf_CRows_1 zw_23 rfl d_CRows_append_56 ?_
            refine lv_iload_n B.1 B.2.1 d_CRows_append_59 rfl (lv_at hl 3 rfl) ?_
            refine lv_iload_n B.1 B.2.1 d_CRows_append_60 rfl (lv_at hl 1 rfl) ?_
            refine lv_iconst (v := 1) B.1 B.2.1 d_CRows_append_61 (by decide) ?_
            refine lv_iadd B.1 B.2.1 d_CRows_append_62 ?_
            obtain ⟨hi10, hf⟩ := zck_some hf
            refine rx_iast B hI 3 (wC_at_3 a z (sa u2 1 ((x1 * 12) + r1) x2)) hi10 (wC_sa_0 a z (sa u2 1 ((x1 * 12) + r1) x2) x1 (r1 + 1)) d_CRows_append_63 (fun H locs hI => ?_)
            refine lv_iload_n B.1 B.2.1 d_CRows_append_64 rfl (lv_at hl 1 rfl) ?_
            refine lv_iconst (v := 1) B.1 B.2.1 d_CRows_append_65 (by decide) ?_
            refine lv_iadd B.1 B.2.1 d_CRows_append_66 ?_
            obtain ⟨e11, e12⟩ := zrt hf
            exact zr_i (wC a z) B hI hr hlk e11 e12 d_CRows_append_67
          · rw [if_neg hc8] at hf
            exact hb45  u2 _ _ _ hf hI (lv_sub hl [] rfl)
set_option maxHeartbeats 4000000 in
set_option maxRecDepth 100000 in
theorem zc_CCThings_extendLatestType_1 (l : Launch) (D : va_G) (z : zZ) (a : Nat → Nat) (N : Nat) (x1 : Int32) (x2 : Int32) (u : zU) (r : Int32) (u1 : zU) (hf : zf_CCThings_extendLatestType_1 N x1 x2 u = some (r, u1)) : zMet l D z y_CThings_extendLatestType (.code y_CThings_extendLatestType b_CThings_extendLatestType 4 (some (.int))) { frames := 2, cells := 0, slots := 0, locals := 45 } [.ref (a 1), .int x1, .int x2] (wC a z u) (zQi D r (wC a z u1)) := by
  refine zM_i (own := R_CThings) [.ref (a 1), .int x1, .int x2] (wC a z u) r (wC a z u1) (by decide) rfl (Nat.le_of_ble_eq_true rfl) ?_
  intro p e s m args below meth c A ls B hr hlk hI hl
  have hl : lv_has ls 4 [(0, .ref (a 1)), (1, .int x1), (2, .int x2)] := hl
  revert hf
  revert hI hl
  intro hI hl hf
  unfold zf_CCThings_extendLatestType_1 at hf
  refine lv_iload_n B.1 B.2.1 d_CThings_extendLatestType_0 rfl (lv_at hl 1 rfl) ?_
  refine lv_if_eq (tgt := 11) B.1 B.2.1 d_CThings_extendLatestType_1 (by decide) (fun hc1 => ?_) (fun hc1 => ?_)
  · rw [if_pos hc1] at hf
    refine lv_aload_n B.1 B.2.1 d_CThings_extendLatestType_11 rfl (lv_at hl 0 rfl) ?_
    refine rx_get (v := .ref (a 2)) B hI hcl_CThings hin_CThings 1 (wC_at_1 a z u) 0 (by decide) hf_CThings_0 zw_34 rfl d_CThings_extendLatestType_12 ?_
    refine lv_astore_n (lv' := [(3, .ref (a 2)), (0, .ref (a 1)), (1, .int x1), (2, .int x2)]) B.1 B.2.1 d_CThings_extendLatestType_15 rfl hl (by decide) rfl (fun ls hl => ?_)
    refine lv_aload_n B.1 B.2.1 d_CThings_extendLatestType_16 rfl (lv_at hl 0 rfl) ?_
    refine lv_aload_n B.1 B.2.1 d_CThings_extendLatestType_17 rfl (lv_at hl 1 rfl) ?_
    refine rx_get (v := .int (gi u 0)) B hI hcl_CThings hin_CThings 1 (wC_at_1 a z u) 8 (by decide) hf_CThings_8 zw_1 rfl d_CThings_extendLatestType_18 ?_
    refine lv_iconst (v := 1) B.1 B.2.1 d_CThings_extendLatestType_21 (by decide) ?_
    refine lv_isub B.1 B.2.1 d_CThings_extendLatestType_22 ?_
    refine lv_iload_n B.1 B.2.1 d_CThings_extendLatestType_23 rfl (lv_at hl 3 rfl) ?_
    obtain ⟨r2, u3, h4, hf⟩ := zbd_some hf
    refine rx_Vi (n := 2) (As := [.int ((gi u 0) - 1), .int x2]) (rest := []) B hI hl.1 (zc_CCRows_append_2 l D z a N ((gi u 0) - 1) x2 u r2 u3 h4) zw_30 zw_32 zw_33 zw_25 zw_31 (by decide +kernel) 2 (wC_at_2 a z u) hcl_CRows rfl rfl (Nat.le_of_ble_eq_true rfl) d_CThings_extendLatestType_24 ⟨Nat.le_of_ble_eq_true rfl, Nat.le_of_ble_eq_true rfl⟩ rfl rfl ⟨Nat.zero_le _, Nat.zero_le _⟩ (fun H locs hI => ?_)
    obtain ⟨e5, e6⟩ := zrt hf
    exact zr_i (wC a z) B hI hr hlk e5 e6 d_CThings_extendLatestType_27
  · rw [if_neg hc1] at hf
    refine lv_aload_n B.1 B.2.1 d_CThings_extendLatestType_4 rfl (lv_at hl 0 rfl) ?_
    refine rx_get (v := .ref (a 5)) B hI hcl_CThings hin_CThings 1 (wC_at_1 a z u) 1 (by decide) hf_CThings_1 zw_21 rfl d_CThings_extendLatestType_5 ?_
    refine lv_goto (tgt := 15) B.1 B.2.1 d_CThings_extendLatestType_8 (by decide) ?_
    refine lv_astore_n (lv' := [(3, .ref (a 5)), (0, .ref (a 1)), (1, .int x1), (2, .int x2)]) B.1 B.2.1 d_CThings_extendLatestType_15 rfl hl (by decide) rfl (fun ls hl => ?_)
    refine lv_aload_n B.1 B.2.1 d_CThings_extendLatestType_16 rfl (lv_at hl 0 rfl) ?_
    refine lv_aload_n B.1 B.2.1 d_CThings_extendLatestType_17 rfl (lv_at hl 1 rfl) ?_
    refine rx_get (v := .int (gi u 0)) B hI hcl_CThings hin_CThings 1 (wC_at_1 a z u) 8 (by decide) hf_CThings_8 zw_1 rfl d_CThings_extendLatestType_18 ?_
    refine lv_iconst (v := 1) B.1 B.2.1 d_CThings_extendLatestType_21 (by decide) ?_
    refine lv_isub B.1 B.2.1 d_CThings_extendLatestType_22 ?_
    refine lv_iload_n B.1 B.2.1 d_CThings_extendLatestType_23 rfl (lv_at hl 3 rfl) ?_
    obtain ⟨r7, u8, h9, hf⟩ := zbd_some hf
    refine rx_Vi (n := 2) (As := [.int ((gi u 0) - 1), .int x2]) (rest := []) B hI hl.1 (zc_CCRows_append_5 l D z a N ((gi u 0) - 1) x2 u r7 u8 h9) zw_30 zw_32 zw_33 zw_25 zw_31 (by decide +kernel) 5 (wC_at_5 a z u) hcl_CRows rfl rfl (Nat.le_of_ble_eq_true rfl) d_CThings_extendLatestType_24 ⟨Nat.le_of_ble_eq_true rfl, Nat.le_of_ble_eq_true rfl⟩ rfl rfl ⟨Nat.zero_le _, Nat.zero_le _⟩ (fun H locs hI => ?_)
    obtain ⟨e10, e11⟩ := zrt hf
    exact zr_i (wC a z) B hI hr hlk e10 e11 d_CThings_extendLatestType_27
set_option maxHeartbeats 4000000 in
set_option maxRecDepth 100000 in
theorem zc_CCC_part_0 (l : Launch) (D : va_G) (z : zZ) (a : Nat → Nat) (N : Nat) (x1 : Int32) (x2 : Int32) (u : zU) (r : Int32) (u1 : zU) (hf : zf_CCC_part_0 N x1 x2 u = some (r, u1)) : zMet l D z y_CC_part (.code y_CC_part b_CC_part 3 (some (.int))) { frames := 3, cells := 0, slots := 0, locals := 68 } [.ref (a 0), .int x1, .int x2] (wC a z u) (zQi D r (wC a z u1)) := by
  refine zM_i (own := R_CC) [.ref (a 0), .int x1, .int x2] (wC a z u) r (wC a z u1) (by decide) rfl (Nat.le_of_ble_eq_true rfl) ?_
  intro p e s m args below meth c A ls B hr hlk hI hl
  have hl : lv_has ls 3 [(0, .ref (a 0)), (1, .int x1), (2, .int x2)] := hl
  revert hf
  revert hI hl
  have hb17 : ∀  (u : zU) (H : Heap) (locs : List Loc) (ls : Array Slot), zf_CCC_part_0_b17 N   u = some (r, u1) → iw D A s (wC a z u) H locs → lv_has ls 3 [] → W p l e ({ frames := 3, cells := 0, slots := 0, locals := 68 } : Room) s m args below meth c H locs 0 0 (MQ below (zQi D r (wC a z u1) A) args s 0 0 A) (F0 m 17 ls []) := by
    intro  u H locs ls hf hI hl
    unfold zf_CCC_part_0_b17 at hf
    refine lv_iconst (v := (-1)) B.1 B.2.1 d_CC_part_17 (by decide) ?_
    obtain ⟨e1, e2⟩ := zrt hf
    exact zr_i (wC a z) B hI hr hlk e1 e2 d_CC_part_18
  intro hI hl hf
  unfold zf_CCC_part_0 at hf
  refine lv_aload_n B.1 B.2.1 d_CC_part_0 rfl (lv_at hl 0 rfl) ?_
  refine rx_get (v := .ref (a 26)) B hI hcl_CC hin_CC 0 (wC_at_0 a z u) 1 (by decide) hf_CC_1 zw_7 rfl d_CC_part_1 ?_
  obtain ⟨r1, u2, h3, hf⟩ := zbd_some hf
  refine rx_Vi (n := 0) (As := []) (rest := []) B hI hl.1 (zc_CCCode_isOpen_26 l D z a N  u r1 u2 h3) zw_9 zw_12 zw_13 zw_10 zw_11 (by decide +kernel) 26 (wC_at_26 a z u) hcl_CCode rfl rfl (Nat.le_of_ble_eq_true rfl) d_CC_part_4 ⟨Nat.le_of_ble_eq_true rfl, Nat.le_of_ble_eq_true rfl⟩ rfl rfl ⟨Nat.zero_le _, Nat.zero_le _⟩ (fun H locs hI => ?_)
  refine lv_if_ne (tgt := 17) B.1 B.2.1 d_CC_part_7 (by decide) (fun hc4 => ?_) (fun hc4 => ?_)
  · rw [if_neg hc4] at hf
    exact hb17  u2 _ _ _ hf hI (lv_sub hl [] rfl)
  · rw [if_pos hc4] at hf
    refine lv_iload_n B.1 B.2.1 d_CC_part_10 rfl (lv_at hl 2 rfl) ?_
    obtain ⟨r5, u6, h7, hf⟩ := zbd_some hf
    refine rx_Si (n := 1) (As := [.int x2]) (rest := []) B hI hl.1 (zc_CCC_isValueType l D z a N x2 u2 r5 u6 h7) zw_18 zw_20 zw_15 zw_19 (by decide +kernel) rfl rfl (Nat.le_of_ble_eq_true rfl) d_CC_part_11 ⟨Nat.le_of_ble_eq_true rfl, Nat.le_of_ble_eq_true rfl⟩ rfl rfl ⟨Nat.zero_le _, Nat.zero_le _⟩ (fun H locs hI => ?_)
    refine lv_if_ne (tgt := 19) B.1 B.2.1 d_CC_part_14 (by decide) (fun hc8 => ?_) (fun hc8 => ?_)
    · rw [if_neg hc8] at hf
      refine lv_aload_n B.1 B.2.1 d_CC_part_19 rfl (lv_at hl 0 rfl) ?_
      refine rx_get (v := .ref (a 1)) B hI hcl_CC hin_CC 0 (wC_at_0 a z u6) 0 (by decide) hf_CC_0 zw_0 rfl d_CC_part_20 ?_
      refine lv_iload_n B.1 B.2.1 d_CC_part_23 rfl (lv_at hl 1 rfl) ?_
      refine lv_iload_n B.1 B.2.1 d_CC_part_24 rfl (lv_at hl 2 rfl) ?_
      obtain ⟨r9, u10, h11, hf⟩ := zbd_some hf
      refine rx_Vi (n := 2) (As := [.int x1, .int x2]) (rest := []) B hI hl.1 (zc_CCThings_extendLatestType_1 l D z a N x1 x2 u6 r9 u10 h11) zw_35 zw_37 zw_38 zw_3 zw_36 (by decide +kernel) 1 (wC_at_1 a z u6) hcl_CThings rfl rfl (Nat.le_of_ble_eq_true rfl) d_CC_part_25 ⟨Nat.le_of_ble_eq_true rfl, Nat.le_of_ble_eq_true rfl⟩ rfl rfl ⟨Nat.zero_le _, Nat.zero_le _⟩ (fun H locs hI => ?_)
      obtain ⟨e12, e13⟩ := zrt hf
      exact zr_i (wC a z) B hI hr hlk e12 e13 d_CC_part_28
    · rw [if_pos hc8] at hf
      exact hb17  u6 _ _ _ hf hI (lv_sub hl [] rfl)
set_option maxHeartbeats 4000000 in
set_option maxRecDepth 100000 in
theorem zc_CCShelf_put_23 (l : Launch) (D : va_G) (z : zZ) (a : Nat → Nat) (N : Nat) (x1 : Int32) (x2 : Int32) (u : zU) (r : Int32) (u1 : zU) (hf : zf_CCShelf_put_23 N x1 x2 u = some (r, u1)) : zMet l D z y_CShelf_put (.code y_CShelf_put b_CShelf_put 3 (some (.int))) { frames := 0, cells := 0, slots := 0, locals := 0 } [.ref (a 23), .int x1, .int x2] (wC a z u) (zQi D r (wC a z u1)) := by
  refine zM_i (own := R_CShelf) [.ref (a 23), .int x1, .int x2] (wC a z u) r (wC a z u1) (by decide) rfl (Nat.le_of_ble_eq_true rfl) ?_
  intro p e s m args below meth c A ls B hr hlk hI hl
  have hl : lv_has ls 3 [(0, .ref (a 23)), (1, .int x1), (2, .int x2)] := hl
  revert hf
  revert hI hl
  have hb31 : ∀  (u : zU) (H : Heap) (locs : List Loc) (ls : Array Slot), zf_CCShelf_put_23_b31 N   u = some (r, u1) → iw D A s (wC a z u) H locs → lv_has ls 3 [] → W p l e ({ frames := 0, cells := 0, slots := 0, locals := 0 } : Room) s m args below meth c H locs 0 0 (MQ below (zQi D r (wC a z u1) A) args s 0 0 A) (F0 m 31 ls []) := by
    intro  u H locs ls hf hI hl
    unfold zf_CCShelf_put_23_b31 at hf
    refine lv_iconst (v := (-1)) B.1 B.2.1 d_CShelf_put_31 (by decide) ?_
    obtain ⟨e1, e2⟩ := zrt hf
    exact zr_i (wC a z) B hI hr hlk e1 e2 d_CShelf_put_32
  intro hI hl hf
  unfold zf_CCShelf_put_23 at hf
  refine lv_aload_n B.1 B.2.1 d_CShelf_put_0 rfl (lv_at hl 0 rfl) ?_
  refine rx_get (v := .int (gi u 6)) B hI hcl_CShelf hin_CShelf 23 (wC_at_23 a z u) 2 (by decide) hf_CShelf_2 zw_40 rfl d_CShelf_put_1 ?_
  refine lv_if_lt (tgt := 31) B.1 B.2.1 d_CShelf_put_4 (by decide) (fun hc1 => ?_) (fun hc1 => ?_)
  · rw [if_pos hc1] at hf
    exact hb31  u _ _ _ hf hI (lv_sub hl [] rfl)
  · rw [if_neg hc1] at hf
    refine lv_aload_n B.1 B.2.1 d_CShelf_put_7 rfl (lv_at hl 0 rfl) ?_
    refine rx_get (v := .int (gi u 6)) B hI hcl_CShelf hin_CShelf 23 (wC_at_23 a z u) 2 (by decide) hf_CShelf_2 zw_40 rfl d_CShelf_put_8 ?_
    refine lv_aload_n B.1 B.2.1 d_CShelf_put_11 rfl (lv_at hl 0 rfl) ?_
    refine rx_get (v := .ref (a 24)) B hI hcl_CShelf hin_CShelf 23 (wC_at_23 a z u) 0 (by decide) hf_CShelf_0 zw_41 rfl d_CShelf_put_12 ?_
    refine rx_alen (v := 40) B hI 24 0 (wC_at_24 a z u) rfl rfl d_CShelf_put_15 ?_
    refine lv_icmp_ge (tgt := 31) B.1 B.2.1 d_CShelf_put_16 (by decide) (fun hc2 => ?_) (fun hc2 => ?_)
    · rw [if_pos hc2] at hf
      exact hb31  u _ _ _ hf hI (lv_sub hl [] rfl)
    · rw [if_neg hc2] at hf
      refine lv_aload_n B.1 B.2.1 d_CShelf_put_19 rfl (lv_at hl 0 rfl) ?_
      refine rx_get (v := .int (gi u 6)) B hI hcl_CShelf hin_CShelf 23 (wC_at_23 a z u) 2 (by decide) hf_CShelf_2 zw_40 rfl d_CShelf_put_20 ?_
      refine lv_aload_n B.1 B.2.1 d_CShelf_put_23 rfl (lv_at hl 0 rfl) ?_
      refine rx_get (v := .ref (a 25)) B hI hcl_CShelf hin_CShelf 23 (wC_at_23 a z u) 1 (by decide) hf_CShelf_1 zw_42 rfl d_CShelf_put_24 ?_
      refine rx_alen (v := 40) B hI 25 1 (wC_at_25 a z u) rfl rfl d_CShelf_put_27 ?_
      refine lv_icmp_lt (tgt := 33) B.1 B.2.1 d_CShelf_put_28 (by decide) (fun hc3 => ?_) (fun hc3 => ?_)
      · rw [if_pos hc3] at hf
        refine lv_aload_n B.1 B.2.1 d_CShelf_put_33 rfl (lv_at hl 0 rfl) ?_
        refine rx_get (v := .ref (a 24)) B hI hcl_CShelf hin_CShelf 23 (wC_at_23 a z u) 0 (by decide) hf_CShelf_0 zw_41 rfl d_CShelf_put_34 ?_
        refine lv_aload_n B.1 B.2.1 d_CShelf_put_37 rfl (lv_at hl 0 rfl) ?_
        refine rx_get (v := .int (gi u 6)) B hI hcl_CShelf hin_CShelf 23 (wC_at_23 a z u) 2 (by decide) hf_CShelf_2 zw_40 rfl d_CShelf_put_38 ?_
        refine lv_iload_n B.1 B.2.1 d_CShelf_put_41 rfl (lv_at hl 1 rfl) ?_
        obtain ⟨hi4, hf⟩ := zck_some hf
        refine rx_iast B hI 24 (wC_at_24 a z u) hi4 (wC_sa_14 a z u (gi u 6) x1) d_CShelf_put_42 (fun H locs hI => ?_)
        refine lv_aload_n B.1 B.2.1 d_CShelf_put_43 rfl (lv_at hl 0 rfl) ?_
        refine rx_get (v := .ref (a 25)) B hI hcl_CShelf hin_CShelf 23 (wC_at_23 a z (sa u 14 (gi u 6) x1)) 1 (by decide) hf_CShelf_1 zw_42 rfl d_CShelf_put_44 ?_
        refine lv_aload_n B.1 B.2.1 d_CShelf_put_47 rfl (lv_at hl 0 rfl) ?_
        refine rx_get (v := .int (gi u 6)) B hI hcl_CShelf hin_CShelf 23 (wC_at_23 a z (sa u 14 (gi u 6) x1)) 2 (by decide) hf_CShelf_2 zw_40 rfl d_CShelf_put_48 ?_
        refine lv_iload_n B.1 B.2.1 d_CShelf_put_51 rfl (lv_at hl 2 rfl) ?_
        obtain ⟨hi5, hf⟩ := zck_some hf
        refine rx_zast B hI 25 (wC_at_25 a z (sa u 14 (gi u 6) x1)) hi5 (wC_sa_15 a z (sa u 14 (gi u 6) x1) (gi u 6) (vp_nar .boolean x2)) d_CShelf_put_52 (fun H locs hI => ?_)
        refine lv_aload_n B.1 B.2.1 d_CShelf_put_53 rfl (lv_at hl 0 rfl) ?_
        refine lv_dup B.1 B.2.1 d_CShelf_put_54 rfl ?_
        refine rx_get (v := .int (gi u 6)) B hI hcl_CShelf hin_CShelf 23 (wC_at_23 a z (sa (sa u 14 (gi u 6) x1) 15 (gi u 6) (vp_nar .boolean x2))) 2 (by decide) hf_CShelf_2 zw_40 rfl d_CShelf_put_55 ?_
        refine lv_iconst (v := 1) B.1 B.2.1 d_CShelf_put_58 (by decide) ?_
        refine lv_iadd B.1 B.2.1 d_CShelf_put_59 ?_
        refine rx_put B hI hcl_CShelf hin_CShelf hty_CShelf hnm_CShelf 23 (wC_at_23 a z (sa (sa u 14 (gi u 6) x1) 15 (gi u 6) (vp_nar .boolean x2))) 2 (by decide) hf_CShelf_2 zw_40 rfl (ty := .int) (by decide +kernel) rfl rfl (Nat.le_of_ble_eq_true rfl) (wC_si_6 a z (sa (sa u 14 (gi u 6) x1) 15 (gi u 6) (vp_nar .boolean x2)) ((gi u 6) + 1)) d_CShelf_put_60 (fun H locs hI => ?_)
        refine lv_aload_n B.1 B.2.1 d_CShelf_put_63 rfl (lv_at hl 0 rfl) ?_
        refine rx_get (v := .int ((gi u 6) + 1)) B hI hcl_CShelf hin_CShelf 23 (wC_at_23 a z (si (sa (sa u 14 (gi u 6) x1) 15 (gi u 6) (vp_nar .boolean x2)) 6 ((gi u 6) + 1))) 2 (by decide) hf_CShelf_2 zw_40 rfl d_CShelf_put_64 ?_
        refine lv_iconst (v := 1) B.1 B.2.1 d_CShelf_put_67 (by decide) ?_
        refine lv_isub B.1 B.2.1 d_CShelf_put_68 ?_
        obtain ⟨e6, e7⟩ := zrt hf
        exact zr_i (wC a z) B hI hr hlk e6 e7 d_CShelf_put_69
      · rw [if_neg hc3] at hf
        exact hb31  u _ _ _ hf hI (lv_sub hl [] rfl)
set_option maxHeartbeats 4000000 in
set_option maxRecDepth 100000 in
theorem zc_CCShelf_put_20 (l : Launch) (D : va_G) (z : zZ) (a : Nat → Nat) (N : Nat) (x1 : Int32) (x2 : Int32) (u : zU) (r : Int32) (u1 : zU) (hf : zf_CCShelf_put_20 N x1 x2 u = some (r, u1)) : zMet l D z y_CShelf_put (.code y_CShelf_put b_CShelf_put 3 (some (.int))) { frames := 0, cells := 0, slots := 0, locals := 0 } [.ref (a 20), .int x1, .int x2] (wC a z u) (zQi D r (wC a z u1)) := by
  refine zM_i (own := R_CShelf) [.ref (a 20), .int x1, .int x2] (wC a z u) r (wC a z u1) (by decide) rfl (Nat.le_of_ble_eq_true rfl) ?_
  intro p e s m args below meth c A ls B hr hlk hI hl
  have hl : lv_has ls 3 [(0, .ref (a 20)), (1, .int x1), (2, .int x2)] := hl
  revert hf
  revert hI hl
  have hb31 : ∀  (u : zU) (H : Heap) (locs : List Loc) (ls : Array Slot), zf_CCShelf_put_20_b31 N   u = some (r, u1) → iw D A s (wC a z u) H locs → lv_has ls 3 [] → W p l e ({ frames := 0, cells := 0, slots := 0, locals := 0 } : Room) s m args below meth c H locs 0 0 (MQ below (zQi D r (wC a z u1) A) args s 0 0 A) (F0 m 31 ls []) := by
    intro  u H locs ls hf hI hl
    unfold zf_CCShelf_put_20_b31 at hf
    refine lv_iconst (v := (-1)) B.1 B.2.1 d_CShelf_put_31 (by decide) ?_
    obtain ⟨e1, e2⟩ := zrt hf
    exact zr_i (wC a z) B hI hr hlk e1 e2 d_CShelf_put_32
  intro hI hl hf
  unfold zf_CCShelf_put_20 at hf
  refine lv_aload_n B.1 B.2.1 d_CShelf_put_0 rfl (lv_at hl 0 rfl) ?_
  refine rx_get (v := .int (gi u 5)) B hI hcl_CShelf hin_CShelf 20 (wC_at_20 a z u) 2 (by decide) hf_CShelf_2 zw_40 rfl d_CShelf_put_1 ?_
  refine lv_if_lt (tgt := 31) B.1 B.2.1 d_CShelf_put_4 (by decide) (fun hc1 => ?_) (fun hc1 => ?_)
  · rw [if_pos hc1] at hf
    exact hb31  u _ _ _ hf hI (lv_sub hl [] rfl)
  · rw [if_neg hc1] at hf
    refine lv_aload_n B.1 B.2.1 d_CShelf_put_7 rfl (lv_at hl 0 rfl) ?_
    refine rx_get (v := .int (gi u 5)) B hI hcl_CShelf hin_CShelf 20 (wC_at_20 a z u) 2 (by decide) hf_CShelf_2 zw_40 rfl d_CShelf_put_8 ?_
    refine lv_aload_n B.1 B.2.1 d_CShelf_put_11 rfl (lv_at hl 0 rfl) ?_
    refine rx_get (v := .ref (a 21)) B hI hcl_CShelf hin_CShelf 20 (wC_at_20 a z u) 0 (by decide) hf_CShelf_0 zw_41 rfl d_CShelf_put_12 ?_
    refine rx_alen (v := 40) B hI 21 0 (wC_at_21 a z u) rfl rfl d_CShelf_put_15 ?_
    refine lv_icmp_ge (tgt := 31) B.1 B.2.1 d_CShelf_put_16 (by decide) (fun hc2 => ?_) (fun hc2 => ?_)
    · rw [if_pos hc2] at hf
      exact hb31  u _ _ _ hf hI (lv_sub hl [] rfl)
    · rw [if_neg hc2] at hf
      refine lv_aload_n B.1 B.2.1 d_CShelf_put_19 rfl (lv_at hl 0 rfl) ?_
      refine rx_get (v := .int (gi u 5)) B hI hcl_CShelf hin_CShelf 20 (wC_at_20 a z u) 2 (by decide) hf_CShelf_2 zw_40 rfl d_CShelf_put_20 ?_
      refine lv_aload_n B.1 B.2.1 d_CShelf_put_23 rfl (lv_at hl 0 rfl) ?_
      refine rx_get (v := .ref (a 22)) B hI hcl_CShelf hin_CShelf 20 (wC_at_20 a z u) 1 (by decide) hf_CShelf_1 zw_42 rfl d_CShelf_put_24 ?_
      refine rx_alen (v := 40) B hI 22 1 (wC_at_22 a z u) rfl rfl d_CShelf_put_27 ?_
      refine lv_icmp_lt (tgt := 33) B.1 B.2.1 d_CShelf_put_28 (by decide) (fun hc3 => ?_) (fun hc3 => ?_)
      · rw [if_pos hc3] at hf
        refine lv_aload_n B.1 B.2.1 d_CShelf_put_33 rfl (lv_at hl 0 rfl) ?_
        refine rx_get (v := .ref (a 21)) B hI hcl_CShelf hin_CShelf 20 (wC_at_20 a z u) 0 (by decide) hf_CShelf_0 zw_41 rfl d_CShelf_put_34 ?_
        refine lv_aload_n B.1 B.2.1 d_CShelf_put_37 rfl (lv_at hl 0 rfl) ?_
        refine rx_get (v := .int (gi u 5)) B hI hcl_CShelf hin_CShelf 20 (wC_at_20 a z u) 2 (by decide) hf_CShelf_2 zw_40 rfl d_CShelf_put_38 ?_
        refine lv_iload_n B.1 B.2.1 d_CShelf_put_41 rfl (lv_at hl 1 rfl) ?_
        obtain ⟨hi4, hf⟩ := zck_some hf
        refine rx_iast B hI 21 (wC_at_21 a z u) hi4 (wC_sa_12 a z u (gi u 5) x1) d_CShelf_put_42 (fun H locs hI => ?_)
        refine lv_aload_n B.1 B.2.1 d_CShelf_put_43 rfl (lv_at hl 0 rfl) ?_
        refine rx_get (v := .ref (a 22)) B hI hcl_CShelf hin_CShelf 20 (wC_at_20 a z (sa u 12 (gi u 5) x1)) 1 (by decide) hf_CShelf_1 zw_42 rfl d_CShelf_put_44 ?_
        refine lv_aload_n B.1 B.2.1 d_CShelf_put_47 rfl (lv_at hl 0 rfl) ?_
        refine rx_get (v := .int (gi u 5)) B hI hcl_CShelf hin_CShelf 20 (wC_at_20 a z (sa u 12 (gi u 5) x1)) 2 (by decide) hf_CShelf_2 zw_40 rfl d_CShelf_put_48 ?_
        refine lv_iload_n B.1 B.2.1 d_CShelf_put_51 rfl (lv_at hl 2 rfl) ?_
        obtain ⟨hi5, hf⟩ := zck_some hf
        refine rx_zast B hI 22 (wC_at_22 a z (sa u 12 (gi u 5) x1)) hi5 (wC_sa_13 a z (sa u 12 (gi u 5) x1) (gi u 5) (vp_nar .boolean x2)) d_CShelf_put_52 (fun H locs hI => ?_)
        refine lv_aload_n B.1 B.2.1 d_CShelf_put_53 rfl (lv_at hl 0 rfl) ?_
        refine lv_dup B.1 B.2.1 d_CShelf_put_54 rfl ?_
        refine rx_get (v := .int (gi u 5)) B hI hcl_CShelf hin_CShelf 20 (wC_at_20 a z (sa (sa u 12 (gi u 5) x1) 13 (gi u 5) (vp_nar .boolean x2))) 2 (by decide) hf_CShelf_2 zw_40 rfl d_CShelf_put_55 ?_
        refine lv_iconst (v := 1) B.1 B.2.1 d_CShelf_put_58 (by decide) ?_
        refine lv_iadd B.1 B.2.1 d_CShelf_put_59 ?_
        refine rx_put B hI hcl_CShelf hin_CShelf hty_CShelf hnm_CShelf 20 (wC_at_20 a z (sa (sa u 12 (gi u 5) x1) 13 (gi u 5) (vp_nar .boolean x2))) 2 (by decide) hf_CShelf_2 zw_40 rfl (ty := .int) (by decide +kernel) rfl rfl (Nat.le_of_ble_eq_true rfl) (wC_si_5 a z (sa (sa u 12 (gi u 5) x1) 13 (gi u 5) (vp_nar .boolean x2)) ((gi u 5) + 1)) d_CShelf_put_60 (fun H locs hI => ?_)
        refine lv_aload_n B.1 B.2.1 d_CShelf_put_63 rfl (lv_at hl 0 rfl) ?_
        refine rx_get (v := .int ((gi u 5) + 1)) B hI hcl_CShelf hin_CShelf 20 (wC_at_20 a z (si (sa (sa u 12 (gi u 5) x1) 13 (gi u 5) (vp_nar .boolean x2)) 5 ((gi u 5) + 1))) 2 (by decide) hf_CShelf_2 zw_40 rfl d_CShelf_put_64 ?_
        refine lv_iconst (v := 1) B.1 B.2.1 d_CShelf_put_67 (by decide) ?_
        refine lv_isub B.1 B.2.1 d_CShelf_put_68 ?_
        obtain ⟨e6, e7⟩ := zrt hf
        exact zr_i (wC a z) B hI hr hlk e6 e7 d_CShelf_put_69
      · rw [if_neg hc3] at hf
        exact hb31  u _ _ _ hf hI (lv_sub hl [] rfl)
