set_option maxHeartbeats 4000000 in
set_option maxRecDepth 100000 in
theorem zc_MMC_local_0 (l : Launch) (D : va_G) (z : zZ) (a : Nat → Nat) (N : Nat) (x1 : Int32) (x2 : Int32) (u : zU) (r : Int32) (u1 : zU) (hf : zf_MMC_local_0 N x1 x2 u = some (r, u1)) : zMet l D z y_MC_local (.code y_MC_local b_MC_local 3 (some (.boolean))) { frames := 2, cells := 0, slots := 0, locals := 40 } [.ref (a 0), .int x1, .int x2] (wM a z u) (zQi D r (wM a z u1)) := by
  refine zM_i (own := R_MC) [.ref (a 0), .int x1, .int x2] (wM a z u) r (wM a z u1) (by decide) rfl (Nat.le_of_ble_eq_true rfl) ?_
  intro p e s m args below meth c A ls B hr hlk hI hl
  have hl : lv_has ls 3 [(0, .ref (a 0)), (1, .int x1), (2, .int x2)] := hl
  revert hf
  revert hI hl
  have hb38 : ∀  (u : zU) (H : Heap) (locs : List Loc) (ls : Array Slot), zf_MMC_local_0_b38 N   u = some (r, u1) → iw D A s (wM a z u) H locs → lv_has ls 3 [] → W p l e ({ frames := 2, cells := 0, slots := 0, locals := 40 } : Room) s m args below meth c H locs 0 0 (MQ below (zQi D r (wM a z u1) A) args s 0 0 A) (F0 m 38 ls []) := by
    intro  u H locs ls hf hI hl
    unfold zf_MMC_local_0_b38 at hf
    refine lv_iconst (v := 0) B.1 B.2.1 d_MC_local_38 (by decide) ?_
    obtain ⟨e1, e2⟩ := zrt hf
    exact zr_z (wM a z) B hI hr hlk (by decide) e1 e2 d_MC_local_39
  intro hI hl hf
  unfold zf_MMC_local_0 at hf
  refine lv_aload_n B.1 B.2.1 d_MC_local_0 rfl (lv_at hl 0 rfl) ?_
  refine rx_get (v := .int (gi u 1)) B hI hcl_MC hin_MC 0 (wM_at_0 a z u) 9 (by decide) hf_MC_9 zw_405 rfl d_MC_local_1 ?_
  refine lv_iconst (v := 1) B.1 B.2.1 d_MC_local_4 (by decide) ?_
  refine lv_icmp_ne (tgt := 38) B.1 B.2.1 d_MC_local_5 (by decide) (fun hc1 => ?_) (fun hc1 => ?_)
  · rw [if_neg hc1] at hf
    exact hb38  u _ _ _ hf hI (lv_sub hl [] rfl)
  · rw [if_pos hc1] at hf
    refine lv_aload_n B.1 B.2.1 d_MC_local_8 rfl (lv_at hl 0 rfl) ?_
    refine rx_get (v := .int (gi u 2)) B hI hcl_MC hin_MC 0 (wM_at_0 a z u) 10 (by decide) hf_MC_10 zw_414 rfl d_MC_local_9 ?_
    refine lv_if_eq (tgt := 38) B.1 B.2.1 d_MC_local_12 (by decide) (fun hc2 => ?_) (fun hc2 => ?_)
    · rw [if_pos hc2] at hf
      exact hb38  u _ _ _ hf hI (lv_sub hl [] rfl)
    · rw [if_neg hc2] at hf
      refine lv_aload_n B.1 B.2.1 d_MC_local_15 rfl (lv_at hl 0 rfl) ?_
      refine rx_get (v := .int (gi u 3)) B hI hcl_MC hin_MC 0 (wM_at_0 a z u) 11 (by decide) hf_MC_11 zw_415 rfl d_MC_local_16 ?_
      refine lv_if_ne (tgt := 38) B.1 B.2.1 d_MC_local_19 (by decide) (fun hc3 => ?_) (fun hc3 => ?_)
      · rw [if_neg hc3] at hf
        exact hb38  u _ _ _ hf hI (lv_sub hl [] rfl)
      · rw [if_pos hc3] at hf
        refine lv_iload_n B.1 B.2.1 d_MC_local_22 rfl (lv_at hl 1 rfl) ?_
        obtain ⟨r4, u5, h6, hf⟩ := zbd_some hf
        refine rx_Si (n := 1) (As := [.int x1]) (rest := []) B hI hl.1 (zc_MMC_isValue l D z a N x1 u r4 u5 h6) zw_402 zw_404 zw_399 zw_403 (by decide +kernel) rfl rfl (Nat.le_of_ble_eq_true rfl) d_MC_local_23 ⟨Nat.le_of_ble_eq_true rfl, Nat.le_of_ble_eq_true rfl⟩ rfl rfl ⟨Nat.zero_le _, Nat.zero_le _⟩ (fun H locs hI => ?_)
        refine lv_if_eq (tgt := 38) B.1 B.2.1 d_MC_local_26 (by decide) (fun hc7 => ?_) (fun hc7 => ?_)
        · rw [if_pos hc7] at hf
          exact hb38  u5 _ _ _ hf hI (lv_sub hl [] rfl)
        · rw [if_neg hc7] at hf
          refine lv_aload_n B.1 B.2.1 d_MC_local_29 rfl (lv_at hl 0 rfl) ?_
          refine rx_get (v := .int (gi u5 7)) B hI hcl_MC hin_MC 0 (wM_at_0 a z u5) 16 (by decide) hf_MC_16 zw_417 rfl d_MC_local_30 ?_
          refine lv_bipush (v := 40) B.1 B.2.1 d_MC_local_33 (by decide) ?_
          refine lv_icmp_ne (tgt := 40) B.1 B.2.1 d_MC_local_35 (by decide) (fun hc8 => ?_) (fun hc8 => ?_)
          · rw [if_neg hc8] at hf
            refine lv_aload_n B.1 B.2.1 d_MC_local_40 rfl (lv_at hl 0 rfl) ?_
            refine lv_iload_n B.1 B.2.1 d_MC_local_41 rfl (lv_at hl 1 rfl) ?_
            refine lv_iload_n B.1 B.2.1 d_MC_local_42 rfl (lv_at hl 2 rfl) ?_
            refine lv_i2l B.1 B.2.1 d_MC_local_43 rfl ?_
            refine lv_ldc2 (v := 4294967295) B.1 B.2.1 B.2.2.2.1 (B.2.2.2.2.1 _ zw_437) d_MC_local_44 ?_
            refine lv_land B.1 B.2.1 d_MC_local_47 ?_
            obtain ⟨r9, u10, h11, hf⟩ := zbd_some hf
            refine rx_Vv (n := 2) (As := [.int x1, .long ((Int32.toInt64 x2) &&& 4294967295)]) (rest := []) B hI hl.1 (zc_MMC_addRow_0 l D z a N x1 ((Int32.toInt64 x2) &&& 4294967295) u5 r9 u10 h11) zw_431 zw_433 zw_434 zw_399 zw_432 (by decide +kernel) 0 (wM_at_0 a z u5) hcl_MC rfl rfl (Nat.le_of_ble_eq_true rfl) d_MC_local_48 ⟨Nat.le_of_ble_eq_true rfl, Nat.le_of_ble_eq_true rfl⟩ rfl rfl ⟨Nat.zero_le _, Nat.zero_le _⟩ (fun H locs hI => ?_)
            refine lv_aload_n B.1 B.2.1 d_MC_local_51 rfl (lv_at hl 0 rfl) ?_
            refine lv_dup B.1 B.2.1 d_MC_local_52 rfl ?_
            refine rx_get (v := .int (gi u10 7)) B hI hcl_MC hin_MC 0 (wM_at_0 a z u10) 16 (by decide) hf_MC_16 zw_417 rfl d_MC_local_53 ?_
            refine lv_iconst (v := 1) B.1 B.2.1 d_MC_local_56 (by decide) ?_
            refine lv_iadd B.1 B.2.1 d_MC_local_57 ?_
            refine rx_put B hI hcl_MC hin_MC hty_MC hnm_MC 0 (wM_at_0 a z u10) 16 (by decide) hf_MC_16 zw_417 rfl (ty := .int) (by decide +kernel) rfl rfl (Nat.le_of_ble_eq_true rfl) (wM_si_7 a z u10 ((gi u10 7) + 1)) d_MC_local_58 (fun H locs hI => ?_)
            refine lv_iconst (v := 1) B.1 B.2.1 d_MC_local_61 (by decide) ?_
            obtain ⟨e12, e13⟩ := zrt hf
            exact zr_z (wM a z) B hI hr hlk (by decide) e12 e13 d_MC_local_62
          · rw [if_pos hc8] at hf
            exact hb38  u5 _ _ _ hf hI (lv_sub hl [] rfl)
set_option maxHeartbeats 4000000 in
set_option maxRecDepth 100000 in
theorem zc_MMC_label_0 (l : Launch) (D : va_G) (z : zZ) (a : Nat → Nat) (N : Nat) (x1 : Int32) (u : zU) (r : Int32) (u1 : zU) (hf : zf_MMC_label_0 N x1 u = some (r, u1)) : zMet l D z y_MC_label (.code y_MC_label b_MC_label 2 (some (.int))) { frames := 0, cells := 0, slots := 0, locals := 0 } [.ref (a 0), .int x1] (wM a z u) (zQi D r (wM a z u1)) := by
  refine zM_i (own := R_MC) [.ref (a 0), .int x1] (wM a z u) r (wM a z u1) (by decide) rfl (Nat.le_of_ble_eq_true rfl) ?_
  intro p e s m args below meth c A ls B hr hlk hI hl
  have hl : lv_has ls 2 [(0, .ref (a 0)), (1, .int x1)] := hl
  revert hf
  revert hI hl
  have hb17 : ∀  (u : zU) (H : Heap) (locs : List Loc) (ls : Array Slot), zf_MMC_label_0_b17 N   u = some (r, u1) → iw D A s (wM a z u) H locs → lv_has ls 2 [] → W p l e ({ frames := 0, cells := 0, slots := 0, locals := 0 } : Room) s m args below meth c H locs 0 0 (MQ below (zQi D r (wM a z u1) A) args s 0 0 A) (F0 m 17 ls []) := by
    intro  u H locs ls hf hI hl
    unfold zf_MMC_label_0_b17 at hf
    refine lv_iconst (v := (-1)) B.1 B.2.1 d_MC_label_17 (by decide) ?_
    obtain ⟨e1, e2⟩ := zrt hf
    exact zr_i (wM a z) B hI hr hlk e1 e2 d_MC_label_18
  intro hI hl hf
  unfold zf_MMC_label_0 at hf
  refine lv_aload_n B.1 B.2.1 d_MC_label_0 rfl (lv_at hl 0 rfl) ?_
  refine rx_get (v := .int (gi u 1)) B hI hcl_MC hin_MC 0 (wM_at_0 a z u) 9 (by decide) hf_MC_9 zw_405 rfl d_MC_label_1 ?_
  refine lv_iconst (v := 1) B.1 B.2.1 d_MC_label_4 (by decide) ?_
  refine lv_icmp_ne (tgt := 17) B.1 B.2.1 d_MC_label_5 (by decide) (fun hc1 => ?_) (fun hc1 => ?_)
  · rw [if_neg hc1] at hf
    exact hb17  u _ _ _ hf hI (lv_sub hl [] rfl)
  · rw [if_pos hc1] at hf
    refine lv_aload_n B.1 B.2.1 d_MC_label_8 rfl (lv_at hl 0 rfl) ?_
    refine rx_get (v := .int (gi u 8)) B hI hcl_MC hin_MC 0 (wM_at_0 a z u) 19 (by decide) hf_MC_19 zw_418 rfl d_MC_label_9 ?_
    refine lv_bipush (v := 20) B.1 B.2.1 d_MC_label_12 (by decide) ?_
    refine lv_icmp_ne (tgt := 19) B.1 B.2.1 d_MC_label_14 (by decide) (fun hc2 => ?_) (fun hc2 => ?_)
    · rw [if_neg hc2] at hf
      refine lv_aload_n B.1 B.2.1 d_MC_label_19 rfl (lv_at hl 0 rfl) ?_
      refine rx_get (v := .ref (a 11)) B hI hcl_MC hin_MC 0 (wM_at_0 a z u) 20 (by decide) hf_MC_20 zw_438 rfl d_MC_label_20 ?_
      refine lv_aload_n B.1 B.2.1 d_MC_label_23 rfl (lv_at hl 0 rfl) ?_
      refine rx_get (v := .int (gi u 8)) B hI hcl_MC hin_MC 0 (wM_at_0 a z u) 19 (by decide) hf_MC_19 zw_418 rfl d_MC_label_24 ?_
      refine lv_iload_n B.1 B.2.1 d_MC_label_27 rfl (lv_at hl 1 rfl) ?_
      obtain ⟨hi3, hf⟩ := zck_some hf
      refine rx_iast B hI 11 (wM_at_11 a z u) hi3 (wM_sa_9 a z u (gi u 8) x1) d_MC_label_28 (fun H locs hI => ?_)
      refine lv_aload_n B.1 B.2.1 d_MC_label_29 rfl (lv_at hl 0 rfl) ?_
      refine lv_dup B.1 B.2.1 d_MC_label_30 rfl ?_
      refine rx_get (v := .int (gi u 8)) B hI hcl_MC hin_MC 0 (wM_at_0 a z (sa u 9 (gi u 8) x1)) 19 (by decide) hf_MC_19 zw_418 rfl d_MC_label_31 ?_
      refine lv_iconst (v := 1) B.1 B.2.1 d_MC_label_34 (by decide) ?_
      refine lv_iadd B.1 B.2.1 d_MC_label_35 ?_
      refine rx_put B hI hcl_MC hin_MC hty_MC hnm_MC 0 (wM_at_0 a z (sa u 9 (gi u 8) x1)) 19 (by decide) hf_MC_19 zw_418 rfl (ty := .int) (by decide +kernel) rfl rfl (Nat.le_of_ble_eq_true rfl) (wM_si_8 a z (sa u 9 (gi u 8) x1) ((gi u 8) + 1)) d_MC_label_36 (fun H locs hI => ?_)
      refine lv_aload_n B.1 B.2.1 d_MC_label_39 rfl (lv_at hl 0 rfl) ?_
      refine rx_get (v := .int ((gi u 8) + 1)) B hI hcl_MC hin_MC 0 (wM_at_0 a z (si (sa u 9 (gi u 8) x1) 8 ((gi u 8) + 1))) 19 (by decide) hf_MC_19 zw_418 rfl d_MC_label_40 ?_
      obtain ⟨e4, e5⟩ := zrt hf
      exact zr_i (wM a z) B hI hr hlk e4 e5 d_MC_label_43
    · rw [if_pos hc2] at hf
      exact hb17  u _ _ _ hf hI (lv_sub hl [] rfl)
set_option maxHeartbeats 4000000 in
set_option maxRecDepth 100000 in
theorem zc_MMC_isInstruction (l : Launch) (D : va_G) (z : zZ) (a : Nat → Nat) (N : Nat) (x0 : Int32) (u : zU) (r : Int32) (u1 : zU) (hf : zf_MMC_isInstruction N x0 u = some (r, u1)) : zMet l D z y_MC_isInstruction (.code y_MC_isInstruction b_MC_isInstruction 1 (some (.boolean))) { frames := 0, cells := 0, slots := 0, locals := 0 } [.int x0] (wM a z u) (zQi D r (wM a z u1)) := by
  refine zM_i (own := R_MC) [.int x0] (wM a z u) r (wM a z u1) (by decide) rfl (Nat.le_of_ble_eq_true rfl) ?_
  intro p e s m args below meth c A ls B hr hlk hI hl
  have hl : lv_has ls 1 [(0, .int x0)] := hl
  revert hf
  revert hI hl
  have hb92 : ∀ (s0 : Int32) (u : zU) (H : Heap) (locs : List Loc) (ls : Array Slot), zf_MMC_isInstruction_b92 N  s0 u = some (r, u1) → iw D A s (wM a z u) H locs → lv_has ls 1 [] → W p l e ({ frames := 0, cells := 0, slots := 0, locals := 0 } : Room) s m args below meth c H locs 0 0 (MQ below (zQi D r (wM a z u1) A) args s 0 0 A) (F0 m 92 ls [.int s0]) := by
    intro s0 u H locs ls hf hI hl
    unfold zf_MMC_isInstruction_b92 at hf
    obtain ⟨hz3, hf⟩ := zck_some hf
    obtain ⟨e1, e2⟩ := zrt hf
    exact zr_z (wM a z) B hI hr hlk hz3 e1 e2 d_MC_isInstruction_92
  have hb91 : ∀  (u : zU) (H : Heap) (locs : List Loc) (ls : Array Slot), zf_MMC_isInstruction_b91 N   u = some (r, u1) → iw D A s (wM a z u) H locs → lv_has ls 1 [] → W p l e ({ frames := 0, cells := 0, slots := 0, locals := 0 } : Room) s m args below meth c H locs 0 0 (MQ below (zQi D r (wM a z u1) A) args s 0 0 A) (F0 m 91 ls []) := by
    intro  u H locs ls hf hI hl
    unfold zf_MMC_isInstruction_b91 at hf
    refine lv_iconst (v := 0) B.1 B.2.1 d_MC_isInstruction_91 (by decide) ?_
    exact hb92 0 u _ _ _ hf hI (lv_sub hl [] rfl)
  have hb87 : ∀  (u : zU) (H : Heap) (locs : List Loc) (ls : Array Slot), zf_MMC_isInstruction_b87 N   u = some (r, u1) → iw D A s (wM a z u) H locs → lv_has ls 1 [] → W p l e ({ frames := 0, cells := 0, slots := 0, locals := 0 } : Room) s m args below meth c H locs 0 0 (MQ below (zQi D r (wM a z u1) A) args s 0 0 A) (F0 m 87 ls []) := by
    intro  u H locs ls hf hI hl
    unfold zf_MMC_isInstruction_b87 at hf
    refine lv_iconst (v := 1) B.1 B.2.1 d_MC_isInstruction_87 (by decide) ?_
    refine lv_goto (tgt := 92) B.1 B.2.1 d_MC_isInstruction_88 (by decide) ?_
    exact hb92 1 u _ _ _ hf hI (lv_sub hl [] rfl)
  have hb73 : ∀ (x0 : Int32) (u : zU) (H : Heap) (locs : List Loc) (ls : Array Slot), zf_MMC_isInstruction_b73 N  x0 u = some (r, u1) → iw D A s (wM a z u) H locs → lv_has ls 1 [(0, .int x0)] → W p l e ({ frames := 0, cells := 0, slots := 0, locals := 0 } : Room) s m args below meth c H locs 0 0 (MQ below (zQi D r (wM a z u1) A) args s 0 0 A) (F0 m 73 ls []) := by
    intro x0 u H locs ls hf hI hl
    unfold zf_MMC_isInstruction_b73 at hf
    refine lv_iload_n B.1 B.2.1 d_MC_isInstruction_73 rfl (lv_at hl 0 rfl) ?_
    refine lv_sipush (v := 256) B.1 B.2.1 d_MC_isInstruction_74 (by decide) ?_
    refine lv_icmp_lt (tgt := 91) B.1 B.2.1 d_MC_isInstruction_77 (by decide) (fun hc1 => ?_) (fun hc1 => ?_)
    · rw [if_pos hc1] at hf
      exact hb91  u _ _ _ hf hI (lv_sub hl [] rfl)
    · rw [if_neg hc1] at hf
      refine lv_iload_n B.1 B.2.1 d_MC_isInstruction_80 rfl (lv_at hl 0 rfl) ?_
      refine lv_sipush (v := 273) B.1 B.2.1 d_MC_isInstruction_81 (by decide) ?_
      refine lv_icmp_gt (tgt := 91) B.1 B.2.1 d_MC_isInstruction_84 (by decide) (fun hc2 => ?_) (fun hc2 => ?_)
      · rw [if_pos hc2] at hf
        exact hb91  u _ _ _ hf hI (lv_sub hl [] rfl)
      · rw [if_neg hc2] at hf
        exact hb87  u _ _ _ hf hI (lv_sub hl [] rfl)
  have hb59 : ∀ (x0 : Int32) (u : zU) (H : Heap) (locs : List Loc) (ls : Array Slot), zf_MMC_isInstruction_b59 N  x0 u = some (r, u1) → iw D A s (wM a z u) H locs → lv_has ls 1 [(0, .int x0)] → W p l e ({ frames := 0, cells := 0, slots := 0, locals := 0 } : Room) s m args below meth c H locs 0 0 (MQ below (zQi D r (wM a z u1) A) args s 0 0 A) (F0 m 59 ls []) := by
    intro x0 u H locs ls hf hI hl
    unfold zf_MMC_isInstruction_b59 at hf
    refine lv_iload_n B.1 B.2.1 d_MC_isInstruction_59 rfl (lv_at hl 0 rfl) ?_
    refine lv_sipush (v := 208) B.1 B.2.1 d_MC_isInstruction_60 (by decide) ?_
    refine lv_icmp_lt (tgt := 73) B.1 B.2.1 d_MC_isInstruction_63 (by decide) (fun hc1 => ?_) (fun hc1 => ?_)
    · rw [if_pos hc1] at hf
      exact hb73 x0 u _ _ _ hf hI (lv_sub hl [0] rfl)
    · rw [if_neg hc1] at hf
      refine lv_iload_n B.1 B.2.1 d_MC_isInstruction_66 rfl (lv_at hl 0 rfl) ?_
      refine lv_sipush (v := 210) B.1 B.2.1 d_MC_isInstruction_67 (by decide) ?_
      refine lv_icmp_le (tgt := 87) B.1 B.2.1 d_MC_isInstruction_70 (by decide) (fun hc2 => ?_) (fun hc2 => ?_)
      · rw [if_pos hc2] at hf
        exact hb87  u _ _ _ hf hI (lv_sub hl [] rfl)
      · rw [if_neg hc2] at hf
        exact hb73 x0 u _ _ _ hf hI (lv_sub hl [0] rfl)
  have hb46 : ∀ (x0 : Int32) (u : zU) (H : Heap) (locs : List Loc) (ls : Array Slot), zf_MMC_isInstruction_b46 N  x0 u = some (r, u1) → iw D A s (wM a z u) H locs → lv_has ls 1 [(0, .int x0)] → W p l e ({ frames := 0, cells := 0, slots := 0, locals := 0 } : Room) s m args below meth c H locs 0 0 (MQ below (zQi D r (wM a z u1) A) args s 0 0 A) (F0 m 46 ls []) := by
    intro x0 u H locs ls hf hI hl
    unfold zf_MMC_isInstruction_b46 at hf
    refine lv_iload_n B.1 B.2.1 d_MC_isInstruction_46 rfl (lv_at hl 0 rfl) ?_
    refine lv_bipush (v := 40) B.1 B.2.1 d_MC_isInstruction_47 (by decide) ?_
    refine lv_icmp_lt (tgt := 59) B.1 B.2.1 d_MC_isInstruction_49 (by decide) (fun hc1 => ?_) (fun hc1 => ?_)
    · rw [if_pos hc1] at hf
      exact hb59 x0 u _ _ _ hf hI (lv_sub hl [0] rfl)
    · rw [if_neg hc1] at hf
      refine lv_iload_n B.1 B.2.1 d_MC_isInstruction_52 rfl (lv_at hl 0 rfl) ?_
      refine lv_sipush (v := 196) B.1 B.2.1 d_MC_isInstruction_53 (by decide) ?_
      refine lv_icmp_le (tgt := 87) B.1 B.2.1 d_MC_isInstruction_56 (by decide) (fun hc2 => ?_) (fun hc2 => ?_)
      · rw [if_pos hc2] at hf
        exact hb87  u _ _ _ hf hI (lv_sub hl [] rfl)
      · rw [if_neg hc2] at hf
        exact hb59 x0 u _ _ _ hf hI (lv_sub hl [0] rfl)
  have hb34 : ∀ (x0 : Int32) (u : zU) (H : Heap) (locs : List Loc) (ls : Array Slot), zf_MMC_isInstruction_b34 N  x0 u = some (r, u1) → iw D A s (wM a z u) H locs → lv_has ls 1 [(0, .int x0)] → W p l e ({ frames := 0, cells := 0, slots := 0, locals := 0 } : Room) s m args below meth c H locs 0 0 (MQ below (zQi D r (wM a z u1) A) args s 0 0 A) (F0 m 34 ls []) := by
    intro x0 u H locs ls hf hI hl
    unfold zf_MMC_isInstruction_b34 at hf
    refine lv_iload_n B.1 B.2.1 d_MC_isInstruction_34 rfl (lv_at hl 0 rfl) ?_
    refine lv_bipush (v := 32) B.1 B.2.1 d_MC_isInstruction_35 (by decide) ?_
    refine lv_icmp_lt (tgt := 46) B.1 B.2.1 d_MC_isInstruction_37 (by decide) (fun hc1 => ?_) (fun hc1 => ?_)
    · rw [if_pos hc1] at hf
      exact hb46 x0 u _ _ _ hf hI (lv_sub hl [0] rfl)
    · rw [if_neg hc1] at hf
      refine lv_iload_n B.1 B.2.1 d_MC_isInstruction_40 rfl (lv_at hl 0 rfl) ?_
      refine lv_bipush (v := 38) B.1 B.2.1 d_MC_isInstruction_41 (by decide) ?_
      refine lv_icmp_le (tgt := 87) B.1 B.2.1 d_MC_isInstruction_43 (by decide) (fun hc2 => ?_) (fun hc2 => ?_)
      · rw [if_pos hc2] at hf
        exact hb87  u _ _ _ hf hI (lv_sub hl [] rfl)
      · rw [if_neg hc2] at hf
        exact hb46 x0 u _ _ _ hf hI (lv_sub hl [0] rfl)
  have hb22 : ∀ (x0 : Int32) (u : zU) (H : Heap) (locs : List Loc) (ls : Array Slot), zf_MMC_isInstruction_b22 N  x0 u = some (r, u1) → iw D A s (wM a z u) H locs → lv_has ls 1 [(0, .int x0)] → W p l e ({ frames := 0, cells := 0, slots := 0, locals := 0 } : Room) s m args below meth c H locs 0 0 (MQ below (zQi D r (wM a z u1) A) args s 0 0 A) (F0 m 22 ls []) := by
    intro x0 u H locs ls hf hI hl
    unfold zf_MMC_isInstruction_b22 at hf
    refine lv_iload_n B.1 B.2.1 d_MC_isInstruction_22 rfl (lv_at hl 0 rfl) ?_
    refine lv_bipush (v := 26) B.1 B.2.1 d_MC_isInstruction_23 (by decide) ?_
    refine lv_icmp_lt (tgt := 34) B.1 B.2.1 d_MC_isInstruction_25 (by decide) (fun hc1 => ?_) (fun hc1 => ?_)
    · rw [if_pos hc1] at hf
      exact hb34 x0 u _ _ _ hf hI (lv_sub hl [0] rfl)
    · rw [if_neg hc1] at hf
      refine lv_iload_n B.1 B.2.1 d_MC_isInstruction_28 rfl (lv_at hl 0 rfl) ?_
      refine lv_bipush (v := 28) B.1 B.2.1 d_MC_isInstruction_29 (by decide) ?_
      refine lv_icmp_le (tgt := 87) B.1 B.2.1 d_MC_isInstruction_31 (by decide) (fun hc2 => ?_) (fun hc2 => ?_)
      · rw [if_pos hc2] at hf
        exact hb87  u _ _ _ hf hI (lv_sub hl [] rfl)
      · rw [if_neg hc2] at hf
        exact hb34 x0 u _ _ _ hf hI (lv_sub hl [0] rfl)
  have hb10 : ∀ (x0 : Int32) (u : zU) (H : Heap) (locs : List Loc) (ls : Array Slot), zf_MMC_isInstruction_b10 N  x0 u = some (r, u1) → iw D A s (wM a z u) H locs → lv_has ls 1 [(0, .int x0)] → W p l e ({ frames := 0, cells := 0, slots := 0, locals := 0 } : Room) s m args below meth c H locs 0 0 (MQ below (zQi D r (wM a z u1) A) args s 0 0 A) (F0 m 10 ls []) := by
    intro x0 u H locs ls hf hI hl
    unfold zf_MMC_isInstruction_b10 at hf
    refine lv_iload_n B.1 B.2.1 d_MC_isInstruction_10 rfl (lv_at hl 0 rfl) ?_
    refine lv_bipush (v := 11) B.1 B.2.1 d_MC_isInstruction_11 (by decide) ?_
    refine lv_icmp_lt (tgt := 22) B.1 B.2.1 d_MC_isInstruction_13 (by decide) (fun hc1 => ?_) (fun hc1 => ?_)
    · rw [if_pos hc1] at hf
      exact hb22 x0 u _ _ _ hf hI (lv_sub hl [0] rfl)
    · rw [if_neg hc1] at hf
      refine lv_iload_n B.1 B.2.1 d_MC_isInstruction_16 rfl (lv_at hl 0 rfl) ?_
      refine lv_bipush (v := 17) B.1 B.2.1 d_MC_isInstruction_17 (by decide) ?_
      refine lv_icmp_le (tgt := 87) B.1 B.2.1 d_MC_isInstruction_19 (by decide) (fun hc2 => ?_) (fun hc2 => ?_)
      · rw [if_pos hc2] at hf
        exact hb87  u _ _ _ hf hI (lv_sub hl [] rfl)
      · rw [if_neg hc2] at hf
        exact hb22 x0 u _ _ _ hf hI (lv_sub hl [0] rfl)
  intro hI hl hf
  unfold zf_MMC_isInstruction at hf
  refine lv_iload_n B.1 B.2.1 d_MC_isInstruction_0 rfl (lv_at hl 0 rfl) ?_
  refine lv_if_lt (tgt := 10) B.1 B.2.1 d_MC_isInstruction_1 (by decide) (fun hc1 => ?_) (fun hc1 => ?_)
  · rw [if_pos hc1] at hf
    exact hb10 x0 u _ _ _ hf hI (lv_sub hl [0] rfl)
  · rw [if_neg hc1] at hf
    refine lv_iload_n B.1 B.2.1 d_MC_isInstruction_4 rfl (lv_at hl 0 rfl) ?_
    refine lv_bipush (v := 6) B.1 B.2.1 d_MC_isInstruction_5 (by decide) ?_
    refine lv_icmp_lt (tgt := 87) B.1 B.2.1 d_MC_isInstruction_7 (by decide) (fun hc2 => ?_) (fun hc2 => ?_)
    · rw [if_pos hc2] at hf
      exact hb87  u _ _ _ hf hI (lv_sub hl [] rfl)
    · rw [if_neg hc2] at hf
      exact hb10 x0 u _ _ _ hf hI (lv_sub hl [0] rfl)
set_option maxHeartbeats 4000000 in
set_option maxRecDepth 100000 in
theorem zc_MMC_isBlockType (l : Launch) (D : va_G) (z : zZ) (a : Nat → Nat) (N : Nat) (x0 : Int32) (u : zU) (r : Int32) (u1 : zU) (hf : zf_MMC_isBlockType N x0 u = some (r, u1)) : zMet l D z y_MC_isBlockType (.code y_MC_isBlockType b_MC_isBlockType 1 (some (.boolean))) { frames := 2, cells := 0, slots := 0, locals := 40 } [.int x0] (wM a z u) (zQi D r (wM a z u1)) := by
  refine zM_i (own := R_MC) [.int x0] (wM a z u) r (wM a z u1) (by decide) rfl (Nat.le_of_ble_eq_true rfl) ?_
  intro p e s m args below meth c A ls B hr hlk hI hl
  have hl : lv_has ls 1 [(0, .int x0)] := hl
  revert hf
  revert hI hl
  have hb26 : ∀ (s0 : Int32) (u : zU) (H : Heap) (locs : List Loc) (ls : Array Slot), zf_MMC_isBlockType_b26 N  s0 u = some (r, u1) → iw D A s (wM a z u) H locs → lv_has ls 1 [] → W p l e ({ frames := 2, cells := 0, slots := 0, locals := 40 } : Room) s m args below meth c H locs 0 0 (MQ below (zQi D r (wM a z u1) A) args s 0 0 A) (F0 m 26 ls [.int s0]) := by
    intro s0 u H locs ls hf hI hl
    unfold zf_MMC_isBlockType_b26 at hf
    obtain ⟨hz3, hf⟩ := zck_some hf
    obtain ⟨e1, e2⟩ := zrt hf
    exact zr_z (wM a z) B hI hr hlk hz3 e1 e2 d_MC_isBlockType_26
  have hb21 : ∀  (u : zU) (H : Heap) (locs : List Loc) (ls : Array Slot), zf_MMC_isBlockType_b21 N   u = some (r, u1) → iw D A s (wM a z u) H locs → lv_has ls 1 [] → W p l e ({ frames := 2, cells := 0, slots := 0, locals := 40 } : Room) s m args below meth c H locs 0 0 (MQ below (zQi D r (wM a z u1) A) args s 0 0 A) (F0 m 21 ls []) := by
    intro  u H locs ls hf hI hl
    unfold zf_MMC_isBlockType_b21 at hf
    refine lv_iconst (v := 1) B.1 B.2.1 d_MC_isBlockType_21 (by decide) ?_
    refine lv_goto (tgt := 26) B.1 B.2.1 d_MC_isBlockType_22 (by decide) ?_
    exact hb26 1 u _ _ _ hf hI (lv_sub hl [] rfl)
  intro hI hl hf
  unfold zf_MMC_isBlockType at hf
  refine lv_iload_n B.1 B.2.1 d_MC_isBlockType_0 rfl (lv_at hl 0 rfl) ?_
  refine lv_if_ge (tgt := 21) B.1 B.2.1 d_MC_isBlockType_1 (by decide) (fun hc1 => ?_) (fun hc1 => ?_)
  · rw [if_pos hc1] at hf
    exact hb21  u _ _ _ hf hI (lv_sub hl [] rfl)
  · rw [if_neg hc1] at hf
    refine lv_iload_n B.1 B.2.1 d_MC_isBlockType_4 rfl (lv_at hl 0 rfl) ?_
    refine lv_bipush (v := (-64)) B.1 B.2.1 d_MC_isBlockType_5 (by decide) ?_
    refine lv_icmp_eq (tgt := 21) B.1 B.2.1 d_MC_isBlockType_7 (by decide) (fun hc2 => ?_) (fun hc2 => ?_)
    · rw [if_pos hc2] at hf
      exact hb21  u _ _ _ hf hI (lv_sub hl [] rfl)
    · rw [if_neg hc2] at hf
      refine lv_iload_n B.1 B.2.1 d_MC_isBlockType_10 rfl (lv_at hl 0 rfl) ?_
      refine lv_sipush (v := 128) B.1 B.2.1 d_MC_isBlockType_11 (by decide) ?_
      refine lv_iadd B.1 B.2.1 d_MC_isBlockType_14 ?_
      obtain ⟨r3, u4, h5, hf⟩ := zbd_some hf
      refine rx_Si (n := 1) (As := [.int (x0 + 128)]) (rest := []) B hI hl.1 (zc_MMC_isValue l D z a N (x0 + 128) u r3 u4 h5) zw_402 zw_404 zw_399 zw_403 (by decide +kernel) rfl rfl (Nat.le_of_ble_eq_true rfl) d_MC_isBlockType_15 ⟨Nat.le_of_ble_eq_true rfl, Nat.le_of_ble_eq_true rfl⟩ rfl rfl ⟨Nat.zero_le _, Nat.zero_le _⟩ (fun H locs hI => ?_)
      refine lv_if_eq (tgt := 25) B.1 B.2.1 d_MC_isBlockType_18 (by decide) (fun hc6 => ?_) (fun hc6 => ?_)
      · rw [if_pos hc6] at hf
        refine lv_iconst (v := 0) B.1 B.2.1 d_MC_isBlockType_25 (by decide) ?_
        exact hb26 0 u4 _ _ _ hf hI (lv_sub hl [] rfl)
      · rw [if_neg hc6] at hf
        exact hb21  u4 _ _ _ hf hI (lv_sub hl [] rfl)
set_option maxHeartbeats 4000000 in
set_option maxRecDepth 100000 in
theorem zc_MMC_isFormed (l : Launch) (D : va_G) (z : zZ) (a : Nat → Nat) (N : Nat) (x0 : Int32) (x1 : Int32) (u : zU) (r : Int32) (u1 : zU) (hf : zf_MMC_isFormed N x0 x1 u = some (r, u1)) : zMet l D z y_MC_isFormed (.code y_MC_isFormed b_MC_isFormed 2 (some (.boolean))) { frames := 3, cells := 0, slots := 0, locals := 60 } [.int x0, .int x1] (wM a z u) (zQi D r (wM a z u1)) := by
  refine zM_i (own := R_MC) [.int x0, .int x1] (wM a z u) r (wM a z u1) (by decide) rfl (Nat.le_of_ble_eq_true rfl) ?_
  intro p e s m args below meth c A ls B hr hlk hI hl
  have hl : lv_has ls 2 [(0, .int x0), (1, .int x1)] := hl
  revert hf
  revert hI hl
  have hb56 : ∀ (s0 : Int32) (u : zU) (H : Heap) (locs : List Loc) (ls : Array Slot), zf_MMC_isFormed_b56 N  s0 u = some (r, u1) → iw D A s (wM a z u) H locs → lv_has ls 2 [] → W p l e ({ frames := 3, cells := 0, slots := 0, locals := 60 } : Room) s m args below meth c H locs 0 0 (MQ below (zQi D r (wM a z u1) A) args s 0 0 A) (F0 m 56 ls [.int s0]) := by
    intro s0 u H locs ls hf hI hl
    unfold zf_MMC_isFormed_b56 at hf
    obtain ⟨hz3, hf⟩ := zck_some hf
    obtain ⟨e1, e2⟩ := zrt hf
    exact zr_z (wM a z) B hI hr hlk hz3 e1 e2 d_MC_isFormed_56
  have hb51 : ∀  (u : zU) (H : Heap) (locs : List Loc) (ls : Array Slot), zf_MMC_isFormed_b51 N   u = some (r, u1) → iw D A s (wM a z u) H locs → lv_has ls 2 [] → W p l e ({ frames := 3, cells := 0, slots := 0, locals := 60 } : Room) s m args below meth c H locs 0 0 (MQ below (zQi D r (wM a z u1) A) args s 0 0 A) (F0 m 51 ls []) := by
    intro  u H locs ls hf hI hl
    unfold zf_MMC_isFormed_b51 at hf
    refine lv_iconst (v := 1) B.1 B.2.1 d_MC_isFormed_51 (by decide) ?_
    refine lv_goto (tgt := 56) B.1 B.2.1 d_MC_isFormed_52 (by decide) ?_
    exact hb56 1 u _ _ _ hf hI (lv_sub hl [] rfl)
  have hb24 : ∀ (x0 : Int32) (x1 : Int32) (u : zU) (H : Heap) (locs : List Loc) (ls : Array Slot), zf_MMC_isFormed_b24 N  x0 x1 u = some (r, u1) → iw D A s (wM a z u) H locs → lv_has ls 2 [(0, .int x0), (1, .int x1)] → W p l e ({ frames := 3, cells := 0, slots := 0, locals := 60 } : Room) s m args below meth c H locs 0 0 (MQ below (zQi D r (wM a z u1) A) args s 0 0 A) (F0 m 24 ls []) := by
    intro x0 x1 u H locs ls hf hI hl
    unfold zf_MMC_isFormed_b24 at hf
    refine lv_iload_n B.1 B.2.1 d_MC_isFormed_24 rfl (lv_at hl 0 rfl) ?_
    refine lv_bipush (v := 28) B.1 B.2.1 d_MC_isFormed_25 (by decide) ?_
    refine lv_icmp_ne (tgt := 37) B.1 B.2.1 d_MC_isFormed_27 (by decide) (fun hc1 => ?_) (fun hc1 => ?_)
    · rw [if_neg hc1] at hf
      refine lv_iload_n B.1 B.2.1 d_MC_isFormed_37 rfl (lv_at hl 0 rfl) ?_
      refine lv_sipush (v := 208) B.1 B.2.1 d_MC_isFormed_38 (by decide) ?_
      refine lv_icmp_ne (tgt := 51) B.1 B.2.1 d_MC_isFormed_41 (by decide) (fun hc2 => ?_) (fun hc2 => ?_)
      · rw [if_neg hc2] at hf
        exact hb51  u _ _ _ hf hI (lv_sub hl [] rfl)
      · rw [if_pos hc2] at hf
        refine lv_iload_n B.1 B.2.1 d_MC_isFormed_44 rfl (lv_at hl 1 rfl) ?_
        obtain ⟨r3, u4, h5, hf⟩ := zbd_some hf
        refine rx_Si (n := 1) (As := [.int x1]) (rest := []) B hI hl.1 (zc_MMC_isReference l D z a N x1 u r3 u4 h5) zw_398 zw_401 zw_399 zw_400 (by decide +kernel) rfl rfl (Nat.le_of_ble_eq_true rfl) d_MC_isFormed_45 ⟨Nat.le_of_ble_eq_true rfl, Nat.le_of_ble_eq_true rfl⟩ rfl rfl ⟨Nat.zero_le _, Nat.zero_le _⟩ (fun H locs hI => ?_)
        refine lv_if_eq (tgt := 55) B.1 B.2.1 d_MC_isFormed_48 (by decide) (fun hc6 => ?_) (fun hc6 => ?_)
        · rw [if_pos hc6] at hf
          refine lv_iconst (v := 0) B.1 B.2.1 d_MC_isFormed_55 (by decide) ?_
          exact hb56 0 u4 _ _ _ hf hI (lv_sub hl [] rfl)
        · rw [if_neg hc6] at hf
          exact hb51  u4 _ _ _ hf hI (lv_sub hl [] rfl)
    · rw [if_pos hc1] at hf
      refine lv_iload_n B.1 B.2.1 d_MC_isFormed_30 rfl (lv_at hl 1 rfl) ?_
      obtain ⟨r7, u8, h9, hf⟩ := zbd_some hf
      refine rx_Si (n := 1) (As := [.int x1]) (rest := []) B hI hl.1 (zc_MMC_isValue l D z a N x1 u r7 u8 h9) zw_402 zw_404 zw_399 zw_403 (by decide +kernel) rfl rfl (Nat.le_of_ble_eq_true rfl) d_MC_isFormed_31 ⟨Nat.le_of_ble_eq_true rfl, Nat.le_of_ble_eq_true rfl⟩ rfl rfl ⟨Nat.zero_le _, Nat.zero_le _⟩ (fun H locs hI => ?_)
      refine lv_goto (tgt := 56) B.1 B.2.1 d_MC_isFormed_34 (by decide) ?_
      exact hb56 r7 u8 _ _ _ hf hI (lv_sub hl [] rfl)
  intro hI hl hf
  unfold zf_MMC_isFormed at hf
  refine lv_iload_n B.1 B.2.1 d_MC_isFormed_0 rfl (lv_at hl 0 rfl) ?_
  obtain ⟨r1, u2, h3, hf⟩ := zbd_some hf
  refine rx_Si (n := 1) (As := [.int x0]) (rest := []) B hI hl.1 (zc_MMC_isInstruction l D z a N x0 u r1 u2 h3) zw_447 zw_449 zw_399 zw_448 (by decide +kernel) rfl rfl (Nat.le_of_ble_eq_true rfl) d_MC_isFormed_1 ⟨Nat.le_of_ble_eq_true rfl, Nat.le_of_ble_eq_true rfl⟩ rfl rfl ⟨Nat.zero_le _, Nat.zero_le _⟩ (fun H locs hI => ?_)
  refine lv_if_ne (tgt := 9) B.1 B.2.1 d_MC_isFormed_4 (by decide) (fun hc4 => ?_) (fun hc4 => ?_)
  · rw [if_neg hc4] at hf
    refine lv_iload_n B.1 B.2.1 d_MC_isFormed_9 rfl (lv_at hl 0 rfl) ?_
    refine lv_iconst (v := 1) B.1 B.2.1 d_MC_isFormed_10 (by decide) ?_
    refine lv_icmp_le (tgt := 24) B.1 B.2.1 d_MC_isFormed_11 (by decide) (fun hc5 => ?_) (fun hc5 => ?_)
    · rw [if_pos hc5] at hf
      exact hb24 x0 x1 u2 _ _ _ hf hI (lv_sub hl [0, 1] rfl)
    · rw [if_neg hc5] at hf
      refine lv_iload_n B.1 B.2.1 d_MC_isFormed_14 rfl (lv_at hl 0 rfl) ?_
      refine lv_iconst (v := 5) B.1 B.2.1 d_MC_isFormed_15 (by decide) ?_
      refine lv_icmp_ge (tgt := 24) B.1 B.2.1 d_MC_isFormed_16 (by decide) (fun hc6 => ?_) (fun hc6 => ?_)
      · rw [if_pos hc6] at hf
        exact hb24 x0 x1 u2 _ _ _ hf hI (lv_sub hl [0, 1] rfl)
      · rw [if_neg hc6] at hf
        refine lv_iload_n B.1 B.2.1 d_MC_isFormed_19 rfl (lv_at hl 1 rfl) ?_
        obtain ⟨r7, u8, h9, hf⟩ := zbd_some hf
        refine rx_Si (n := 1) (As := [.int x1]) (rest := []) B hI hl.1 (zc_MMC_isBlockType l D z a N x1 u2 r7 u8 h9) zw_450 zw_452 zw_399 zw_451 (by decide +kernel) rfl rfl (Nat.le_of_ble_eq_true rfl) d_MC_isFormed_20 ⟨Nat.le_of_ble_eq_true rfl, Nat.le_of_ble_eq_true rfl⟩ rfl rfl ⟨Nat.zero_le _, Nat.zero_le _⟩ (fun H locs hI => ?_)
        obtain ⟨hz12, hf⟩ := zck_some hf
        obtain ⟨e10, e11⟩ := zrt hf
        exact zr_z (wM a z) B hI hr hlk hz12 e10 e11 d_MC_isFormed_23
  · rw [if_pos hc4] at hf
    refine lv_iconst (v := 0) B.1 B.2.1 d_MC_isFormed_7 (by decide) ?_
    obtain ⟨e13, e14⟩ := zrt hf
    exact zr_z (wM a z) B hI hr hlk (by decide) e13 e14 d_MC_isFormed_8
set_option maxHeartbeats 4000000 in
set_option maxRecDepth 100000 in
theorem zc_MMC_stop_0 (l : Launch) (D : va_G) (z : zZ) (a : Nat → Nat) (N : Nat) (x1 : Int32) (u : zU) (r : Unit) (u1 : zU) (hf : zf_MMC_stop_0 N x1 u = some (r, u1)) : zMet l D z y_MC_stop (.code y_MC_stop b_MC_stop 2 none) { frames := 0, cells := 0, slots := 0, locals := 0 } [.ref (a 0), .int x1] (wM a z u) (zQv D (wM a z u1)) := by
  refine zM_v (own := R_MC) [.ref (a 0), .int x1] (wM a z u) (wM a z u1) (by decide) rfl (Nat.le_of_ble_eq_true rfl) ?_
  intro p e s m args below meth c A ls B hr hlk hI hl
  have hl : lv_has ls 2 [(0, .ref (a 0)), (1, .int x1)] := hl
  revert hf
  revert hI hl
  have hb16 : ∀ (s0 : Int32) (u : zU) (H : Heap) (locs : List Loc) (ls : Array Slot), zf_MMC_stop_0_b16 N  s0 u = some (r, u1) → iw D A s (wM a z u) H locs → lv_has ls 2 [] → W p l e ({ frames := 0, cells := 0, slots := 0, locals := 0 } : Room) s m args below meth c H locs 0 0 (MQ below (zQv D (wM a z u1) A) args s 0 0 A) (F0 m 16 ls [.int s0, .ref (a 0)]) := by
    intro s0 u H locs ls hf hI hl
    unfold zf_MMC_stop_0_b16 at hf
    refine rx_put B hI hcl_MC hin_MC hty_MC hnm_MC 0 (wM_at_0 a z u) 28 (by decide) hf_MC_28 zw_439 rfl (ty := .int) (by decide +kernel) rfl rfl (Nat.le_of_ble_eq_true rfl) (wM_si_11 a z u s0) d_MC_stop_16 (fun H locs hI => ?_)
    obtain ⟨e1, e2⟩ := zrt hf
    exact zr_v (wM a z) B hI hr hlk e2 d_MC_stop_19
  intro hI hl hf
  unfold zf_MMC_stop_0 at hf
  refine lv_aload_n B.1 B.2.1 d_MC_stop_0 rfl (lv_at hl 0 rfl) ?_
  refine lv_aload_n B.1 B.2.1 d_MC_stop_1 rfl (lv_at hl 0 rfl) ?_
  refine rx_get (v := .int (gi u 11)) B hI hcl_MC hin_MC 0 (wM_at_0 a z u) 28 (by decide) hf_MC_28 zw_439 rfl d_MC_stop_2 ?_
  refine lv_if_ne (tgt := 12) B.1 B.2.1 d_MC_stop_5 (by decide) (fun hc1 => ?_) (fun hc1 => ?_)
  · rw [if_neg hc1] at hf
    refine lv_aload_n B.1 B.2.1 d_MC_stop_12 rfl (lv_at hl 0 rfl) ?_
    refine rx_get (v := .int (gi u 11)) B hI hcl_MC hin_MC 0 (wM_at_0 a z u) 28 (by decide) hf_MC_28 zw_439 rfl d_MC_stop_13 ?_
    exact hb16 (gi u 11) u _ _ _ hf hI (lv_sub hl [] rfl)
  · rw [if_pos hc1] at hf
    refine lv_iload_n B.1 B.2.1 d_MC_stop_8 rfl (lv_at hl 1 rfl) ?_
    refine lv_goto (tgt := 16) B.1 B.2.1 d_MC_stop_9 (by decide) ?_
    exact hb16 x1 u _ _ _ hf hI (lv_sub hl [] rfl)
set_option maxHeartbeats 4000000 in
set_option maxRecDepth 100000 in
theorem zc_MMC_has_0 (l : Launch) (D : va_G) (z : zZ) (a : Nat → Nat) (N : Nat) (x1 : Int32) (x2 : Int32) (u : zU) (r : Int32) (u1 : zU) (hf : zf_MMC_has_0 N x1 x2 u = some (r, u1)) : zMet l D z y_MC_has (.code y_MC_has b_MC_has 3 (some (.boolean))) { frames := 0, cells := 0, slots := 0, locals := 0 } [.ref (a 0), .int x1, .int x2] (wM a z u) (zQi D r (wM a z u1)) := by
  refine zM_i (own := R_MC) [.ref (a 0), .int x1, .int x2] (wM a z u) r (wM a z u1) (by decide) rfl (Nat.le_of_ble_eq_true rfl) ?_
  intro p e s m args below meth c A ls B hr hlk hI hl
  have hl : lv_has ls 3 [(0, .ref (a 0)), (1, .int x1), (2, .int x2)] := hl
  revert hf
  revert hI hl
  have hb22 : ∀ (s0 : Int32) (u : zU) (H : Heap) (locs : List Loc) (ls : Array Slot), zf_MMC_has_0_b22 N  s0 u = some (r, u1) → iw D A s (wM a z u) H locs → lv_has ls 3 [] → W p l e ({ frames := 0, cells := 0, slots := 0, locals := 0 } : Room) s m args below meth c H locs 0 0 (MQ below (zQi D r (wM a z u1) A) args s 0 0 A) (F0 m 22 ls [.int s0]) := by
    intro s0 u H locs ls hf hI hl
    unfold zf_MMC_has_0_b22 at hf
    obtain ⟨hz3, hf⟩ := zck_some hf
    obtain ⟨e1, e2⟩ := zrt hf
    exact zr_z (wM a z) B hI hr hlk hz3 e1 e2 d_MC_has_22
  intro hI hl hf
  unfold zf_MMC_has_0 at hf
  refine lv_iload_n B.1 B.2.1 d_MC_has_0 rfl (lv_at hl 2 rfl) ?_
  refine lv_i2l B.1 B.2.1 d_MC_has_1 rfl ?_
  refine lv_ldc2 (v := 4294967295) B.1 B.2.1 B.2.2.2.1 (B.2.2.2.2.1 _ zw_437) d_MC_has_2 ?_
  refine lv_land B.1 B.2.1 d_MC_has_5 ?_
  refine lv_aload_n B.1 B.2.1 d_MC_has_6 rfl (lv_at hl 0 rfl) ?_
  refine rx_get (v := .ref (a 5)) B hI hcl_MC hin_MC 0 (wM_at_0 a z u) 5 (by decide) hf_MC_5 zw_410 rfl d_MC_has_7 ?_
  refine lv_iload_n B.1 B.2.1 d_MC_has_10 rfl (lv_at hl 1 rfl) ?_
  obtain ⟨hi1, hf⟩ := zck_some hf
  refine rx_iald B hI 5 (wM_at_5 a z u) hi1 d_MC_has_11 ?_
  refine lv_i2l B.1 B.2.1 d_MC_has_12 rfl ?_
  refine W.lcmp B.1 B.2.1 d_MC_has_13 ?_
  refine lv_if_ge (tgt := 21) B.1 B.2.1 d_MC_has_14 (by decide) (fun hc2 => ?_) (fun hc2 => ?_)
  · rw [if_pos hc2] at hf
    refine lv_iconst (v := 0) B.1 B.2.1 d_MC_has_21 (by decide) ?_
    exact hb22 0 u _ _ _ hf hI (lv_sub hl [] rfl)
  · rw [if_neg hc2] at hf
    refine lv_iconst (v := 1) B.1 B.2.1 d_MC_has_17 (by decide) ?_
    refine lv_goto (tgt := 22) B.1 B.2.1 d_MC_has_18 (by decide) ?_
    exact hb22 1 u _ _ _ hf hI (lv_sub hl [] rfl)
set_option maxHeartbeats 4000000 in
set_option maxRecDepth 100000 in
theorem zc_MMC_mayBeConstant_0 (l : Launch) (D : va_G) (z : zZ) (a : Nat → Nat) (N : Nat) (x1 : Int32) (x2 : Int32) (u : zU) (r : Int32) (u1 : zU) (hf : zf_MMC_mayBeConstant_0 N x1 x2 u = some (r, u1)) : zMet l D z y_MC_mayBeConstant (.code y_MC_mayBeConstant b_MC_mayBeConstant 3 (some (.boolean))) { frames := 1, cells := 0, slots := 0, locals := 22 } [.ref (a 0), .int x1, .int x2] (wM a z u) (zQi D r (wM a z u1)) := by
  refine zM_i (own := R_MC) [.ref (a 0), .int x1, .int x2] (wM a z u) r (wM a z u1) (by decide) rfl (Nat.le_of_ble_eq_true rfl) ?_
  intro p e s m args below meth c A ls B hr hlk hI hl
  have hl : lv_has ls 3 [(0, .ref (a 0)), (1, .int x1), (2, .int x2)] := hl
  revert hf
  revert hI hl
  have hb84 : ∀ (s0 : Int32) (u : zU) (H : Heap) (locs : List Loc) (ls : Array Slot), zf_MMC_mayBeConstant_0_b84 N  s0 u = some (r, u1) → iw D A s (wM a z u) H locs → lv_has ls 3 [] → W p l e ({ frames := 1, cells := 0, slots := 0, locals := 22 } : Room) s m args below meth c H locs 0 0 (MQ below (zQi D r (wM a z u1) A) args s 0 0 A) (F0 m 84 ls [.int s0]) := by
    intro s0 u H locs ls hf hI hl
    unfold zf_MMC_mayBeConstant_0_b84 at hf
    obtain ⟨hz3, hf⟩ := zck_some hf
    obtain ⟨e1, e2⟩ := zrt hf
    exact zr_z (wM a z) B hI hr hlk hz3 e1 e2 d_MC_mayBeConstant_84
  have hb79 : ∀  (u : zU) (H : Heap) (locs : List Loc) (ls : Array Slot), zf_MMC_mayBeConstant_0_b79 N   u = some (r, u1) → iw D A s (wM a z u) H locs → lv_has ls 3 [] → W p l e ({ frames := 1, cells := 0, slots := 0, locals := 22 } : Room) s m args below meth c H locs 0 0 (MQ below (zQi D r (wM a z u1) A) args s 0 0 A) (F0 m 79 ls []) := by
    intro  u H locs ls hf hI hl
    unfold zf_MMC_mayBeConstant_0_b79 at hf
    refine lv_iconst (v := 1) B.1 B.2.1 d_MC_mayBeConstant_79 (by decide) ?_
    refine lv_goto (tgt := 84) B.1 B.2.1 d_MC_mayBeConstant_80 (by decide) ?_
    exact hb84 1 u _ _ _ hf hI (lv_sub hl [] rfl)
  have hb65 : ∀ (x1 : Int32) (u : zU) (H : Heap) (locs : List Loc) (ls : Array Slot), zf_MMC_mayBeConstant_0_b65 N  x1 u = some (r, u1) → iw D A s (wM a z u) H locs → lv_has ls 3 [(1, .int x1)] → W p l e ({ frames := 1, cells := 0, slots := 0, locals := 22 } : Room) s m args below meth c H locs 0 0 (MQ below (zQi D r (wM a z u1) A) args s 0 0 A) (F0 m 65 ls []) := by
    intro x1 u H locs ls hf hI hl
    unfold zf_MMC_mayBeConstant_0_b65 at hf
    refine lv_iload_n B.1 B.2.1 d_MC_mayBeConstant_65 rfl (lv_at hl 0 rfl) ?_
    refine lv_sipush (v := 208) B.1 B.2.1 d_MC_mayBeConstant_66 (by decide) ?_
    refine lv_icmp_eq (tgt := 79) B.1 B.2.1 d_MC_mayBeConstant_69 (by decide) (fun hc1 => ?_) (fun hc1 => ?_)
    · rw [if_pos hc1] at hf
      exact hb79  u _ _ _ hf hI (lv_sub hl [] rfl)
    · rw [if_neg hc1] at hf
      refine lv_iload_n B.1 B.2.1 d_MC_mayBeConstant_72 rfl (lv_at hl 0 rfl) ?_
      refine lv_sipush (v := 210) B.1 B.2.1 d_MC_mayBeConstant_73 (by decide) ?_
      refine lv_icmp_ne (tgt := 83) B.1 B.2.1 d_MC_mayBeConstant_76 (by decide) (fun hc2 => ?_) (fun hc2 => ?_)
      · rw [if_neg hc2] at hf
        refine lv_iconst (v := 0) B.1 B.2.1 d_MC_mayBeConstant_83 (by decide) ?_
        exact hb84 0 u _ _ _ hf hI (lv_sub hl [] rfl)
      · rw [if_pos hc2] at hf
        exact hb79  u _ _ _ hf hI (lv_sub hl [] rfl)
  have hb46 : ∀ (s0 : Int32) (u : zU) (H : Heap) (locs : List Loc) (ls : Array Slot), zf_MMC_mayBeConstant_0_b46 N  s0 u = some (r, u1) → iw D A s (wM a z u) H locs → lv_has ls 3 [] → W p l e ({ frames := 1, cells := 0, slots := 0, locals := 22 } : Room) s m args below meth c H locs 0 0 (MQ below (zQi D r (wM a z u1) A) args s 0 0 A) (F0 m 46 ls [.int s0]) := by
    intro s0 u H locs ls hf hI hl
    unfold zf_MMC_mayBeConstant_0_b46 at hf
    obtain ⟨hz3, hf⟩ := zck_some hf
    obtain ⟨e1, e2⟩ := zrt hf
    exact zr_z (wM a z) B hI hr hlk hz3 e1 e2 d_MC_mayBeConstant_46
  have hb45 : ∀  (u : zU) (H : Heap) (locs : List Loc) (ls : Array Slot), zf_MMC_mayBeConstant_0_b45 N   u = some (r, u1) → iw D A s (wM a z u) H locs → lv_has ls 3 [] → W p l e ({ frames := 1, cells := 0, slots := 0, locals := 22 } : Room) s m args below meth c H locs 0 0 (MQ below (zQi D r (wM a z u1) A) args s 0 0 A) (F0 m 45 ls []) := by
    intro  u H locs ls hf hI hl
    unfold zf_MMC_mayBeConstant_0_b45 at hf
    refine lv_iconst (v := 0) B.1 B.2.1 d_MC_mayBeConstant_45 (by decide) ?_
    exact hb46 0 u _ _ _ hf hI (lv_sub hl [] rfl)
  intro hI hl hf
  unfold zf_MMC_mayBeConstant_0 at hf
  refine lv_iload_n B.1 B.2.1 d_MC_mayBeConstant_0 rfl (lv_at hl 1 rfl) ?_
  refine lv_bipush (v := 35) B.1 B.2.1 d_MC_mayBeConstant_1 (by decide) ?_
  refine lv_icmp_ne (tgt := 47) B.1 B.2.1 d_MC_mayBeConstant_3 (by decide) (fun hc1 => ?_) (fun hc1 => ?_)
  · rw [if_neg hc1] at hf
    refine lv_iload_n B.1 B.2.1 d_MC_mayBeConstant_47 rfl (lv_at hl 1 rfl) ?_
    refine lv_bipush (v := 11) B.1 B.2.1 d_MC_mayBeConstant_48 (by decide) ?_
    refine lv_icmp_eq (tgt := 79) B.1 B.2.1 d_MC_mayBeConstant_50 (by decide) (fun hc2 => ?_) (fun hc2 => ?_)
    · rw [if_pos hc2] at hf
      exact hb79  u _ _ _ hf hI (lv_sub hl [] rfl)
    · rw [if_neg hc2] at hf
      refine lv_iload_n B.1 B.2.1 d_MC_mayBeConstant_53 rfl (lv_at hl 1 rfl) ?_
      refine lv_bipush (v := 65) B.1 B.2.1 d_MC_mayBeConstant_54 (by decide) ?_
      refine lv_icmp_lt (tgt := 65) B.1 B.2.1 d_MC_mayBeConstant_56 (by decide) (fun hc3 => ?_) (fun hc3 => ?_)
      · rw [if_pos hc3] at hf
        exact hb65 x1 u _ _ _ hf hI (lv_sub hl [1] rfl)
      · rw [if_neg hc3] at hf
        refine lv_iload_n B.1 B.2.1 d_MC_mayBeConstant_59 rfl (lv_at hl 1 rfl) ?_
        refine lv_bipush (v := 68) B.1 B.2.1 d_MC_mayBeConstant_60 (by decide) ?_
        refine lv_icmp_le (tgt := 79) B.1 B.2.1 d_MC_mayBeConstant_62 (by decide) (fun hc4 => ?_) (fun hc4 => ?_)
        · rw [if_pos hc4] at hf
          exact hb79  u _ _ _ hf hI (lv_sub hl [] rfl)
        · rw [if_neg hc4] at hf
          exact hb65 x1 u _ _ _ hf hI (lv_sub hl [1] rfl)
  · rw [if_pos hc1] at hf
    refine lv_aload_n B.1 B.2.1 d_MC_mayBeConstant_6 rfl (lv_at hl 0 rfl) ?_
    refine lv_iconst (v := 3) B.1 B.2.1 d_MC_mayBeConstant_7 (by decide) ?_
    refine lv_iload_n B.1 B.2.1 d_MC_mayBeConstant_8 rfl (lv_at hl 2 rfl) ?_
    obtain ⟨r5, u6, h7, hf⟩ := zbd_some hf
    refine rx_Vi (n := 2) (As := [.int 3, .int x2]) (rest := []) B hI hl.1 (zc_MMC_has_0 l D z a N 3 x2 u r5 u6 h7) zw_460 zw_462 zw_463 zw_399 zw_461 (by decide +kernel) 0 (wM_at_0 a z u) hcl_MC rfl rfl (Nat.le_of_ble_eq_true rfl) d_MC_mayBeConstant_9 ⟨Nat.le_of_ble_eq_true rfl, Nat.le_of_ble_eq_true rfl⟩ rfl rfl ⟨Nat.zero_le _, Nat.zero_le _⟩ (fun H locs hI => ?_)
    refine lv_if_eq (tgt := 45) B.1 B.2.1 d_MC_mayBeConstant_12 (by decide) (fun hc8 => ?_) (fun hc8 => ?_)
    · rw [if_pos hc8] at hf
      exact hb45  u6 _ _ _ hf hI (lv_sub hl [] rfl)
    · rw [if_neg hc8] at hf
      refine lv_iload_n B.1 B.2.1 d_MC_mayBeConstant_15 rfl (lv_at hl 2 rfl) ?_
      refine lv_i2l B.1 B.2.1 d_MC_mayBeConstant_16 rfl ?_
      refine lv_ldc2 (v := 4294967295) B.1 B.2.1 B.2.2.2.1 (B.2.2.2.2.1 _ zw_437) d_MC_mayBeConstant_17 ?_
      refine lv_land B.1 B.2.1 d_MC_mayBeConstant_20 ?_
      refine lv_aload_n B.1 B.2.1 d_MC_mayBeConstant_21 rfl (lv_at hl 0 rfl) ?_
      refine rx_get (v := .long (gj u6 0)) B hI hcl_MC hin_MC 0 (wM_at_0 a z u6) 14 (by decide) hf_MC_14 zw_436 rfl d_MC_mayBeConstant_22 ?_
      refine W.lcmp B.1 B.2.1 d_MC_mayBeConstant_25 ?_
      refine lv_if_ge (tgt := 45) B.1 B.2.1 d_MC_mayBeConstant_26 (by decide) (fun hc9 => ?_) (fun hc9 => ?_)
      · rw [if_pos hc9] at hf
        exact hb45  u6 _ _ _ hf hI (lv_sub hl [] rfl)
      · rw [if_neg hc9] at hf
        refine lv_aload_n B.1 B.2.1 d_MC_mayBeConstant_29 rfl (lv_at hl 0 rfl) ?_
        refine rx_get (v := .ref (a 7)) B hI hcl_MC hin_MC 0 (wM_at_0 a z u6) 7 (by decide) hf_MC_7 zw_412 rfl d_MC_mayBeConstant_30 ?_
        refine lv_bipush (v := 120) B.1 B.2.1 d_MC_mayBeConstant_33 (by decide) ?_
        refine lv_iload_n B.1 B.2.1 d_MC_mayBeConstant_35 rfl (lv_at hl 2 rfl) ?_
        refine lv_iadd B.1 B.2.1 d_MC_mayBeConstant_36 ?_
        obtain ⟨hi10, hf⟩ := zck_some hf
        refine rx_iald B hI 7 (wM_at_7 a z u6) hi10 d_MC_mayBeConstant_37 ?_
        refine lv_if_ne (tgt := 45) B.1 B.2.1 d_MC_mayBeConstant_38 (by decide) (fun hc11 => ?_) (fun hc11 => ?_)
        · rw [if_neg hc11] at hf
          exact hb45  u6 _ _ _ hf hI (lv_sub hl [] rfl)
        · rw [if_pos hc11] at hf
          refine lv_iconst (v := 1) B.1 B.2.1 d_MC_mayBeConstant_41 (by decide) ?_
          refine lv_goto (tgt := 46) B.1 B.2.1 d_MC_mayBeConstant_42 (by decide) ?_
          exact hb46 1 u6 _ _ _ hf hI (lv_sub hl [] rfl)
set_option maxHeartbeats 4000000 in
set_option maxRecDepth 100000 in
theorem zc_MMC_localType_0 (l : Launch) (D : va_G) (z : zZ) (a : Nat → Nat) (N : Nat) (x1 : Int32) (u : zU) (r : Int32) (u1 : zU) (hf : zf_MMC_localType_0 N x1 u = some (r, u1)) : zMet l D z y_MC_localType (.code y_MC_localType b_MC_localType 5 (some (.int))) { frames := 0, cells := 0, slots := 0, locals := 0 } [.ref (a 0), .int x1] (wM a z u) (zQi D r (wM a z u1)) := by
  refine zM_i (own := R_MC) [.ref (a 0), .int x1] (wM a z u) r (wM a z u1) (by decide) rfl (Nat.le_of_ble_eq_true rfl) ?_
  intro p e s m args below meth c A ls B hr hlk hI hl
  have hl : lv_has ls 5 [(0, .ref (a 0)), (1, .int x1)] := hl
  revert hf
  revert hI hl
  have hb10 : ∀ (n : Nat) (x2 : Int64) (x4 : Int32) (u : zU) (H : Heap) (locs : List Loc) (ls : Array Slot), zf_MMC_localType_0_b10 N  n x2 x4 u = some (r, u1) → iw D A s (wM a z u) H locs → lv_has ls 5 [(0, .ref (a 0)), (2, .long x2), (4, .int x4)] → W p l e ({ frames := 0, cells := 0, slots := 0, locals := 0 } : Room) s m args below meth c H locs 0 0 (MQ below (zQi D r (wM a z u1) A) args s 0 0 A) (F0 m 10 ls []) := by
    intro n10
    induction n10 with
    | zero => intro x2 x4 u H locs ls hf; exact absurd hf (by rw [zf_MMC_localType_0_b10]; exact fun h => by cases h)
    | succ n10 ih10 =>
      intro x2 x4 u H locs ls hf hI hl
      rw [zf_MMC_localType_0_b10] at hf
      refine lv_iload B.1 B.2.1 d_MC_localType_10 (lv_at hl 2 rfl) ?_
      refine lv_aload_n B.1 B.2.1 d_MC_localType_12 rfl (lv_at hl 0 rfl) ?_
      refine rx_get (v := .int (gi u 6)) B hI hcl_MC hin_MC 0 (wM_at_0 a z u) 15 (by decide) hf_MC_15 zw_416 rfl d_MC_localType_13 ?_
      refine lv_icmp_ge (tgt := 55) B.1 B.2.1 d_MC_localType_16 (by decide) (fun hc1 => ?_) (fun hc1 => ?_)
      · rw [if_pos hc1] at hf
        refine lv_iconst (v := (-1)) B.1 B.2.1 d_MC_localType_55 (by decide) ?_
        obtain ⟨e2, e3⟩ := zrt hf
        exact zr_i (wM a z) B hI hr hlk e2 e3 d_MC_localType_56
      · rw [if_neg hc1] at hf
        refine lv_lload_n B.1 B.2.1 d_MC_localType_19 rfl (lv_at hl 1 rfl) ?_
        refine lv_aload_n B.1 B.2.1 d_MC_localType_20 rfl (lv_at hl 0 rfl) ?_
        refine rx_get (v := .ref (a 10)) B hI hcl_MC hin_MC 0 (wM_at_0 a z u) 18 (by decide) hf_MC_18 zw_430 rfl d_MC_localType_21 ?_
        refine lv_iload B.1 B.2.1 d_MC_localType_24 (lv_at hl 2 rfl) ?_
        obtain ⟨hi4, hf⟩ := zck_some hf
        refine rx_lald B hI 10 (wM_at_10 a z u) hi4 d_MC_localType_26 ?_
        refine W.lcmp B.1 B.2.1 d_MC_localType_27 ?_
        refine lv_if_ge (tgt := 39) B.1 B.2.1 d_MC_localType_28 (by decide) (fun hc5 => ?_) (fun hc5 => ?_)
        · rw [if_pos hc5] at hf
          refine lv_lload_n B.1 B.2.1 d_MC_localType_39 rfl (lv_at hl 1 rfl) ?_
          refine lv_aload_n B.1 B.2.1 d_MC_localType_40 rfl (lv_at hl 0 rfl) ?_
          refine rx_get (v := .ref (a 10)) B hI hcl_MC hin_MC 0 (wM_at_0 a z u) 18 (by decide) hf_MC_18 zw_430 rfl d_MC_localType_41 ?_
          refine lv_iload B.1 B.2.1 d_MC_localType_44 (lv_at hl 2 rfl) ?_
          obtain ⟨hi6, hf⟩ := zck_some hf
          refine rx_lald B hI 10 (wM_at_10 a z u) hi6 d_MC_localType_46 ?_
          refine lv_lsub B.1 B.2.1 d_MC_localType_47 ?_
          refine lv_lstore_n (lv' := [(2, .long (x2 - (gb u 0 x4))), (0, .ref (a 0)), (4, .int x4)]) B.1 B.2.1 d_MC_localType_48 rfl hl (by decide) rfl (fun ls hl => ?_)
          refine lv_iinc (v := (x4 + 1)) (lv' := [(4, .int (x4 + 1)), (2, .long (x2 - (gb u 0 x4))), (0, .ref (a 0))]) B.1 B.2.1 d_MC_localType_49 hl (k := 2) rfl (by rfl) (by decide) rfl (fun ls hl => ?_)
          refine lv_goto (tgt := 10) B.1 B.2.1 d_MC_localType_52 (by decide) ?_
          exact ih10 (x2 - (gb u 0 x4)) (x4 + 1) u _ _ _ hf hI (lv_sub hl [2, 1, 0] rfl)
        · rw [if_neg hc5] at hf
          refine lv_aload_n B.1 B.2.1 d_MC_localType_31 rfl (lv_at hl 0 rfl) ?_
          refine rx_get (v := .ref (a 9)) B hI hcl_MC hin_MC 0 (wM_at_0 a z u) 17 (by decide) hf_MC_17 zw_429 rfl d_MC_localType_32 ?_
          refine lv_iload B.1 B.2.1 d_MC_localType_35 (lv_at hl 2 rfl) ?_
          obtain ⟨hi7, hf⟩ := zck_some hf
          refine rx_iald B hI 9 (wM_at_9 a z u) hi7 d_MC_localType_37 ?_
          obtain ⟨e8, e9⟩ := zrt hf
          exact zr_i (wM a z) B hI hr hlk e8 e9 d_MC_localType_38
  intro hI hl hf
  unfold zf_MMC_localType_0 at hf
  refine lv_iload_n B.1 B.2.1 d_MC_localType_0 rfl (lv_at hl 1 rfl) ?_
  refine lv_i2l B.1 B.2.1 d_MC_localType_1 rfl ?_
  refine lv_ldc2 (v := 4294967295) B.1 B.2.1 B.2.2.2.1 (B.2.2.2.2.1 _ zw_437) d_MC_localType_2 ?_
  refine lv_land B.1 B.2.1 d_MC_localType_5 ?_
  refine lv_lstore_n (lv' := [(2, .long ((Int32.toInt64 x1) &&& 4294967295)), (0, .ref (a 0)), (1, .int x1)]) B.1 B.2.1 d_MC_localType_6 rfl hl (by decide) rfl (fun ls hl => ?_)
  refine lv_iconst (v := 0) B.1 B.2.1 d_MC_localType_7 (by decide) ?_
  refine lv_istore (lv' := [(4, .int 0), (2, .long ((Int32.toInt64 x1) &&& 4294967295)), (0, .ref (a 0)), (1, .int x1)]) B.1 B.2.1 d_MC_localType_8 hl (by decide) rfl (fun ls hl => ?_)
  exact hb10 N ((Int32.toInt64 x1) &&& 4294967295) 0 u _ _ _ hf hI (lv_sub hl [2, 1, 0] rfl)
set_option maxHeartbeats 4000000 in
set_option maxRecDepth 100000 in
theorem zc_MMC_isLabel_0 (l : Launch) (D : va_G) (z : zZ) (a : Nat → Nat) (N : Nat) (x1 : Int32) (u : zU) (r : Int32) (u1 : zU) (hf : zf_MMC_isLabel_0 N x1 u = some (r, u1)) : zMet l D z y_MC_isLabel (.code y_MC_isLabel b_MC_isLabel 2 (some (.boolean))) { frames := 0, cells := 0, slots := 0, locals := 0 } [.ref (a 0), .int x1] (wM a z u) (zQi D r (wM a z u1)) := by
  refine zM_i (own := R_MC) [.ref (a 0), .int x1] (wM a z u) r (wM a z u1) (by decide) rfl (Nat.le_of_ble_eq_true rfl) ?_
  intro p e s m args below meth c A ls B hr hlk hI hl
  have hl : lv_has ls 2 [(0, .ref (a 0)), (1, .int x1)] := hl
  revert hf
  revert hI hl
  have hb20 : ∀ (s0 : Int32) (u : zU) (H : Heap) (locs : List Loc) (ls : Array Slot), zf_MMC_isLabel_0_b20 N  s0 u = some (r, u1) → iw D A s (wM a z u) H locs → lv_has ls 2 [] → W p l e ({ frames := 0, cells := 0, slots := 0, locals := 0 } : Room) s m args below meth c H locs 0 0 (MQ below (zQi D r (wM a z u1) A) args s 0 0 A) (F0 m 20 ls [.int s0]) := by
    intro s0 u H locs ls hf hI hl
    unfold zf_MMC_isLabel_0_b20 at hf
    obtain ⟨hz3, hf⟩ := zck_some hf
    obtain ⟨e1, e2⟩ := zrt hf
    exact zr_z (wM a z) B hI hr hlk hz3 e1 e2 d_MC_isLabel_20
  intro hI hl hf
  unfold zf_MMC_isLabel_0 at hf
  refine lv_iload_n B.1 B.2.1 d_MC_isLabel_0 rfl (lv_at hl 1 rfl) ?_
  refine lv_i2l B.1 B.2.1 d_MC_isLabel_1 rfl ?_
  refine lv_ldc2 (v := 4294967295) B.1 B.2.1 B.2.2.2.1 (B.2.2.2.2.1 _ zw_437) d_MC_isLabel_2 ?_
  refine lv_land B.1 B.2.1 d_MC_isLabel_5 ?_
  refine lv_aload_n B.1 B.2.1 d_MC_isLabel_6 rfl (lv_at hl 0 rfl) ?_
  refine rx_get (v := .int (gi u 10)) B hI hcl_MC hin_MC 0 (wM_at_0 a z u) 22 (by decide) hf_MC_22 zw_420 rfl d_MC_isLabel_7 ?_
  refine lv_i2l B.1 B.2.1 d_MC_isLabel_10 rfl ?_
  refine W.lcmp B.1 B.2.1 d_MC_isLabel_11 ?_
  refine lv_if_ge (tgt := 19) B.1 B.2.1 d_MC_isLabel_12 (by decide) (fun hc1 => ?_) (fun hc1 => ?_)
  · rw [if_pos hc1] at hf
    refine lv_iconst (v := 0) B.1 B.2.1 d_MC_isLabel_19 (by decide) ?_
    exact hb20 0 u _ _ _ hf hI (lv_sub hl [] rfl)
  · rw [if_neg hc1] at hf
    refine lv_iconst (v := 1) B.1 B.2.1 d_MC_isLabel_15 (by decide) ?_
    refine lv_goto (tgt := 20) B.1 B.2.1 d_MC_isLabel_16 (by decide) ?_
    exact hb20 1 u _ _ _ hf hI (lv_sub hl [] rfl)
