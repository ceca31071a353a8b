set_option maxHeartbeats 4000000 in
set_option maxRecDepth 100000 in
theorem zc_MMC_type_0 (l : Launch) (D : va_G) (z : zZ) (a : Nat → Nat) (N : Nat)  (u : zU) (r : Int32) (u1 : zU) (hf : zf_MMC_type_0 N  u = some (r, u1)) : zMet l D z y_MC_type (.code y_MC_type b_MC_type 1 (some (.int))) { frames := 0, cells := 0, slots := 0, locals := 0 } [.ref (a 0)] (wM a z u) (zQi D r (wM a z u1)) := by
  refine zM_i (own := R_MC) [.ref (a 0)] (wM a z u) r (wM a z u1) (by decide) rfl (Nat.le_of_ble_eq_true rfl) ?_
  intro p e s m args below meth c A ls B hr hlk hI hl
  have hl : lv_has ls 1 [(0, .ref (a 0))] := hl
  revert hf
  revert hI hl
  intro hI hl hf
  unfold zf_MMC_type_0 at hf
  refine lv_aload_n B.1 B.2.1 d_MC_type_0 rfl (lv_at hl 0 rfl) ?_
  refine rx_get (v := .int (gi u 0)) B hI hcl_MC hin_MC 0 (wM_at_0 a z u) 0 (by decide) hf_MC_0 zw_397 rfl d_MC_type_1 ?_
  refine lv_bipush (v := 40) B.1 B.2.1 d_MC_type_4 (by decide) ?_
  refine lv_icmp_ne (tgt := 11) B.1 B.2.1 d_MC_type_6 (by decide) (fun hc1 => ?_) (fun hc1 => ?_)
  · rw [if_neg hc1] at hf
    refine lv_aload_n B.1 B.2.1 d_MC_type_11 rfl (lv_at hl 0 rfl) ?_
    refine lv_dup B.1 B.2.1 d_MC_type_12 rfl ?_
    refine rx_get (v := .int (gi u 0)) B hI hcl_MC hin_MC 0 (wM_at_0 a z u) 0 (by decide) hf_MC_0 zw_397 rfl d_MC_type_13 ?_
    refine lv_iconst (v := 1) B.1 B.2.1 d_MC_type_16 (by decide) ?_
    refine lv_iadd B.1 B.2.1 d_MC_type_17 ?_
    refine rx_put B hI hcl_MC hin_MC hty_MC hnm_MC 0 (wM_at_0 a z u) 0 (by decide) hf_MC_0 zw_397 rfl (ty := .int) (by decide +kernel) rfl rfl (Nat.le_of_ble_eq_true rfl) (wM_si_0 a z u ((gi u 0) + 1)) d_MC_type_18 (fun H locs hI => ?_)
    refine lv_aload_n B.1 B.2.1 d_MC_type_21 rfl (lv_at hl 0 rfl) ?_
    refine rx_get (v := .int ((gi u 0) + 1)) B hI hcl_MC hin_MC 0 (wM_at_0 a z (si u 0 ((gi u 0) + 1))) 0 (by decide) hf_MC_0 zw_397 rfl d_MC_type_22 ?_
    refine lv_iconst (v := 1) B.1 B.2.1 d_MC_type_25 (by decide) ?_
    refine lv_isub B.1 B.2.1 d_MC_type_26 ?_
    obtain ⟨e2, e3⟩ := zrt hf
    exact zr_i (wM a z) B hI hr hlk e2 e3 d_MC_type_27
  · rw [if_pos hc1] at hf
    refine lv_iconst (v := (-1)) B.1 B.2.1 d_MC_type_9 (by decide) ?_
    obtain ⟨e4, e5⟩ := zrt hf
    exact zr_i (wM a z) B hI hr hlk e4 e5 d_MC_type_10
set_option maxHeartbeats 4000000 in
set_option maxRecDepth 100000 in
theorem zc_MMC_isReference (l : Launch) (D : va_G) (z : zZ) (a : Nat → Nat) (N : Nat) (x0 : Int32) (u : zU) (r : Int32) (u1 : zU) (hf : zf_MMC_isReference N x0 u = some (r, u1)) : zMet l D z y_MC_isReference (.code y_MC_isReference b_MC_isReference 1 (some (.boolean))) { frames := 0, cells := 0, slots := 0, locals := 0 } [.int x0] (wM a z u) (zQi D r (wM a z u1)) := by
  refine zM_i (own := R_MC) [.int x0] (wM a z u) r (wM a z u1) (by decide) rfl (Nat.le_of_ble_eq_true rfl) ?_
  intro p e s m args below meth c A ls B hr hlk hI hl
  have hl : lv_has ls 1 [(0, .int x0)] := hl
  revert hf
  revert hI hl
  have hb17 : ∀ (s0 : Int32) (u : zU) (H : Heap) (locs : List Loc) (ls : Array Slot), zf_MMC_isReference_b17 N  s0 u = some (r, u1) → iw D A s (wM a z u) H locs → lv_has ls 1 [] → W p l e ({ frames := 0, cells := 0, slots := 0, locals := 0 } : Room) s m args below meth c H locs 0 0 (MQ below (zQi D r (wM a z u1) A) args s 0 0 A) (F0 m 17 ls [.int s0]) := by
    intro s0 u H locs ls hf hI hl
    unfold zf_MMC_isReference_b17 at hf
    obtain ⟨hz3, hf⟩ := zck_some hf
    obtain ⟨e1, e2⟩ := zrt hf
    exact zr_z (wM a z) B hI hr hlk hz3 e1 e2 d_MC_isReference_17
  have hb12 : ∀  (u : zU) (H : Heap) (locs : List Loc) (ls : Array Slot), zf_MMC_isReference_b12 N   u = some (r, u1) → iw D A s (wM a z u) H locs → lv_has ls 1 [] → W p l e ({ frames := 0, cells := 0, slots := 0, locals := 0 } : Room) s m args below meth c H locs 0 0 (MQ below (zQi D r (wM a z u1) A) args s 0 0 A) (F0 m 12 ls []) := by
    intro  u H locs ls hf hI hl
    unfold zf_MMC_isReference_b12 at hf
    refine lv_iconst (v := 1) B.1 B.2.1 d_MC_isReference_12 (by decide) ?_
    refine lv_goto (tgt := 17) B.1 B.2.1 d_MC_isReference_13 (by decide) ?_
    exact hb17 1 u _ _ _ hf hI (lv_sub hl [] rfl)
  intro hI hl hf
  unfold zf_MMC_isReference at hf
  refine lv_iload_n B.1 B.2.1 d_MC_isReference_0 rfl (lv_at hl 0 rfl) ?_
  refine lv_bipush (v := 112) B.1 B.2.1 d_MC_isReference_1 (by decide) ?_
  refine lv_icmp_eq (tgt := 12) B.1 B.2.1 d_MC_isReference_3 (by decide) (fun hc1 => ?_) (fun hc1 => ?_)
  · rw [if_pos hc1] at hf
    exact hb12  u _ _ _ hf hI (lv_sub hl [] rfl)
  · rw [if_neg hc1] at hf
    refine lv_iload_n B.1 B.2.1 d_MC_isReference_6 rfl (lv_at hl 0 rfl) ?_
    refine lv_bipush (v := 111) B.1 B.2.1 d_MC_isReference_7 (by decide) ?_
    refine lv_icmp_ne (tgt := 16) B.1 B.2.1 d_MC_isReference_9 (by decide) (fun hc2 => ?_) (fun hc2 => ?_)
    · rw [if_neg hc2] at hf
      refine lv_iconst (v := 0) B.1 B.2.1 d_MC_isReference_16 (by decide) ?_
      exact hb17 0 u _ _ _ hf hI (lv_sub hl [] rfl)
    · rw [if_pos hc2] at hf
      exact hb12  u _ _ _ hf hI (lv_sub hl [] rfl)
set_option maxHeartbeats 4000000 in
set_option maxRecDepth 100000 in
theorem zc_MMC_isValue (l : Launch) (D : va_G) (z : zZ) (a : Nat → Nat) (N : Nat) (x0 : Int32) (u : zU) (r : Int32) (u1 : zU) (hf : zf_MMC_isValue N x0 u = some (r, u1)) : zMet l D z y_MC_isValue (.code y_MC_isValue b_MC_isValue 1 (some (.boolean))) { frames := 1, cells := 0, slots := 0, locals := 20 } [.int x0] (wM a z u) (zQi D r (wM a z u1)) := by
  refine zM_i (own := R_MC) [.int x0] (wM a z u) r (wM a z u1) (by decide) rfl (Nat.le_of_ble_eq_true rfl) ?_
  intro p e s m args below meth c A ls B hr hlk hI hl
  have hl : lv_has ls 1 [(0, .int x0)] := hl
  revert hf
  revert hI hl
  have hb24 : ∀ (s0 : Int32) (u : zU) (H : Heap) (locs : List Loc) (ls : Array Slot), zf_MMC_isValue_b24 N  s0 u = some (r, u1) → iw D A s (wM a z u) H locs → lv_has ls 1 [] → W p l e ({ frames := 1, cells := 0, slots := 0, locals := 20 } : Room) s m args below meth c H locs 0 0 (MQ below (zQi D r (wM a z u1) A) args s 0 0 A) (F0 m 24 ls [.int s0]) := by
    intro s0 u H locs ls hf hI hl
    unfold zf_MMC_isValue_b24 at hf
    obtain ⟨hz3, hf⟩ := zck_some hf
    obtain ⟨e1, e2⟩ := zrt hf
    exact zr_z (wM a z) B hI hr hlk hz3 e1 e2 d_MC_isValue_24
  have hb19 : ∀  (u : zU) (H : Heap) (locs : List Loc) (ls : Array Slot), zf_MMC_isValue_b19 N   u = some (r, u1) → iw D A s (wM a z u) H locs → lv_has ls 1 [] → W p l e ({ frames := 1, cells := 0, slots := 0, locals := 20 } : Room) s m args below meth c H locs 0 0 (MQ below (zQi D r (wM a z u1) A) args s 0 0 A) (F0 m 19 ls []) := by
    intro  u H locs ls hf hI hl
    unfold zf_MMC_isValue_b19 at hf
    refine lv_iconst (v := 1) B.1 B.2.1 d_MC_isValue_19 (by decide) ?_
    refine lv_goto (tgt := 24) B.1 B.2.1 d_MC_isValue_20 (by decide) ?_
    exact hb24 1 u _ _ _ hf hI (lv_sub hl [] rfl)
  have hb12 : ∀ (x0 : Int32) (u : zU) (H : Heap) (locs : List Loc) (ls : Array Slot), zf_MMC_isValue_b12 N  x0 u = some (r, u1) → iw D A s (wM a z u) H locs → lv_has ls 1 [(0, .int x0)] → W p l e ({ frames := 1, cells := 0, slots := 0, locals := 20 } : Room) s m args below meth c H locs 0 0 (MQ below (zQi D r (wM a z u1) A) args s 0 0 A) (F0 m 12 ls []) := by
    intro x0 u H locs ls hf hI hl
    unfold zf_MMC_isValue_b12 at hf
    refine lv_iload_n B.1 B.2.1 d_MC_isValue_12 rfl (lv_at hl 0 rfl) ?_
    obtain ⟨r1, u2, h3, hf⟩ := zbd_some hf
    refine rx_Si (n := 1) (As := [.int x0]) (rest := []) B hI hl.1 (zc_MMC_isReference l D z a N x0 u r1 u2 h3) zw_398 zw_401 zw_399 zw_400 (by decide +kernel) rfl rfl (Nat.le_of_ble_eq_true rfl) d_MC_isValue_13 ⟨Nat.le_of_ble_eq_true rfl, Nat.le_of_ble_eq_true rfl⟩ rfl rfl ⟨Nat.zero_le _, Nat.zero_le _⟩ (fun H locs hI => ?_)
    refine lv_if_eq (tgt := 23) B.1 B.2.1 d_MC_isValue_16 (by decide) (fun hc4 => ?_) (fun hc4 => ?_)
    · rw [if_pos hc4] at hf
      refine lv_iconst (v := 0) B.1 B.2.1 d_MC_isValue_23 (by decide) ?_
      exact hb24 0 u2 _ _ _ hf hI (lv_sub hl [] rfl)
    · rw [if_neg hc4] at hf
      exact hb19  u2 _ _ _ hf hI (lv_sub hl [] rfl)
  intro hI hl hf
  unfold zf_MMC_isValue at hf
  refine lv_iload_n B.1 B.2.1 d_MC_isValue_0 rfl (lv_at hl 0 rfl) ?_
  refine lv_bipush (v := 124) B.1 B.2.1 d_MC_isValue_1 (by decide) ?_
  refine lv_icmp_lt (tgt := 12) B.1 B.2.1 d_MC_isValue_3 (by decide) (fun hc1 => ?_) (fun hc1 => ?_)
  · rw [if_pos hc1] at hf
    exact hb12 x0 u _ _ _ hf hI (lv_sub hl [0] rfl)
  · rw [if_neg hc1] at hf
    refine lv_iload_n B.1 B.2.1 d_MC_isValue_6 rfl (lv_at hl 0 rfl) ?_
    refine lv_bipush (v := 127) B.1 B.2.1 d_MC_isValue_7 (by decide) ?_
    refine lv_icmp_le (tgt := 19) B.1 B.2.1 d_MC_isValue_9 (by decide) (fun hc2 => ?_) (fun hc2 => ?_)
    · rw [if_pos hc2] at hf
      exact hb19  u _ _ _ hf hI (lv_sub hl [] rfl)
    · rw [if_neg hc2] at hf
      exact hb12 x0 u _ _ _ hf hI (lv_sub hl [0] rfl)
set_option maxHeartbeats 4000000 in
set_option maxRecDepth 100000 in
theorem zc_MMC_part_0 (l : Launch) (D : va_G) (z : zZ) (a : Nat → Nat) (N : Nat) (x1 : Int32) (x2 : Int32) (u : zU) (r : Int32) (u1 : zU) (hf : zf_MMC_part_0 N x1 x2 u = some (r, u1)) : zMet l D z y_MC_part (.code y_MC_part b_MC_part 5 (some (.int))) { frames := 2, cells := 0, slots := 0, locals := 40 } [.ref (a 0), .int x1, .int x2] (wM a z u) (zQi D r (wM a z u1)) := by
  refine zM_i (own := R_MC) [.ref (a 0), .int x1, .int x2] (wM a z u) r (wM a z u1) (by decide) rfl (Nat.le_of_ble_eq_true rfl) ?_
  intro p e s m args below meth c A ls B hr hlk hI hl
  have hl : lv_has ls 5 [(0, .ref (a 0)), (1, .int x1), (2, .int x2)] := hl
  revert hf
  revert hI hl
  have hb22 : ∀  (u : zU) (H : Heap) (locs : List Loc) (ls : Array Slot), zf_MMC_part_0_b22 N   u = some (r, u1) → iw D A s (wM a z u) H locs → lv_has ls 5 [] → W p l e ({ frames := 2, cells := 0, slots := 0, locals := 40 } : Room) s m args below meth c H locs 0 0 (MQ below (zQi D r (wM a z u1) A) args s 0 0 A) (F0 m 22 ls []) := by
    intro  u H locs ls hf hI hl
    unfold zf_MMC_part_0_b22 at hf
    refine lv_iconst (v := (-1)) B.1 B.2.1 d_MC_part_22 (by decide) ?_
    obtain ⟨e1, e2⟩ := zrt hf
    exact zr_i (wM a z) B hI hr hlk e1 e2 d_MC_part_23
  have hb114 : ∀ (x4 : Int32) (u : zU) (H : Heap) (locs : List Loc) (ls : Array Slot), zf_MMC_part_0_b114 N  x4 u = some (r, u1) → iw D A s (wM a z u) H locs → lv_has ls 5 [(4, .int x4)] → W p l e ({ frames := 2, cells := 0, slots := 0, locals := 40 } : Room) s m args below meth c H locs 0 0 (MQ below (zQi D r (wM a z u1) A) args s 0 0 A) (F0 m 114 ls []) := by
    intro x4 u H locs ls hf hI hl
    unfold zf_MMC_part_0_b114 at hf
    refine lv_iload B.1 B.2.1 d_MC_part_114 (lv_at hl 0 rfl) ?_
    refine lv_iconst (v := 1) B.1 B.2.1 d_MC_part_116 (by decide) ?_
    refine lv_iadd B.1 B.2.1 d_MC_part_117 ?_
    obtain ⟨e1, e2⟩ := zrt hf
    exact zr_i (wM a z) B hI hr hlk e1 e2 d_MC_part_118
  have hb50 : ∀ (x1 : Int32) (x2 : Int32) (x3 : Int32) (s0 : Int32) (u : zU) (H : Heap) (locs : List Loc) (ls : Array Slot), zf_MMC_part_0_b50 N  x1 x2 x3 s0 u = some (r, u1) → iw D A s (wM a z u) H locs → lv_has ls 5 [(0, .ref (a 0)), (1, .int x1), (2, .int x2), (3, .int x3)] → W p l e ({ frames := 2, cells := 0, slots := 0, locals := 40 } : Room) s m args below meth c H locs 0 0 (MQ below (zQi D r (wM a z u1) A) args s 0 0 A) (F0 m 50 ls [.int s0]) := by
    intro x1 x2 x3 s0 u H locs ls hf hI hl
    unfold zf_MMC_part_0_b50 at hf
    refine lv_istore (lv' := [(4, .int s0), (0, .ref (a 0)), (1, .int x1), (2, .int x2), (3, .int x3)]) B.1 B.2.1 d_MC_part_50 hl (by decide) rfl (fun ls hl => ?_)
    refine lv_iload B.1 B.2.1 d_MC_part_52 (lv_at hl 0 rfl) ?_
    refine lv_bipush (v := 12) B.1 B.2.1 d_MC_part_54 (by decide) ?_
    refine lv_icmp_ne (tgt := 61) B.1 B.2.1 d_MC_part_56 (by decide) (fun hc1 => ?_) (fun hc1 => ?_)
    · rw [if_neg hc1] at hf
      refine lv_iload_n B.1 B.2.1 d_MC_part_61 rfl (lv_at hl 2 rfl) ?_
      refine lv_if_eq (tgt := 91) B.1 B.2.1 d_MC_part_62 (by decide) (fun hc2 => ?_) (fun hc2 => ?_)
      · rw [if_pos hc2] at hf
        refine lv_aload_n B.1 B.2.1 d_MC_part_91 rfl (lv_at hl 1 rfl) ?_
        refine rx_get (v := .ref (a 3)) B hI hcl_MC hin_MC 0 (wM_at_0 a z u) 3 (by decide) hf_MC_3 zw_408 rfl d_MC_part_92 ?_
        refine lv_bipush (v := 12) B.1 B.2.1 d_MC_part_95 (by decide) ?_
        refine lv_iload_n B.1 B.2.1 d_MC_part_97 rfl (lv_at hl 4 rfl) ?_
        refine lv_imul B.1 B.2.1 d_MC_part_98 ?_
        refine lv_iload B.1 B.2.1 d_MC_part_99 (lv_at hl 0 rfl) ?_
        refine lv_iadd B.1 B.2.1 d_MC_part_101 ?_
        refine lv_iload_n B.1 B.2.1 d_MC_part_102 rfl (lv_at hl 3 rfl) ?_
        obtain ⟨hi3, hf⟩ := zck_some hf
        refine rx_iast B hI 3 (wM_at_3 a z u) hi3 (wM_sa_2 a z u ((12 * x3) + s0) x2) d_MC_part_103 (fun H locs hI => ?_)
        refine lv_aload_n B.1 B.2.1 d_MC_part_104 rfl (lv_at hl 1 rfl) ?_
        refine rx_get (v := .ref (a 1)) B hI hcl_MC hin_MC 0 (wM_at_0 a z (sa u 2 ((12 * x3) + s0) x2)) 1 (by decide) hf_MC_1 zw_409 rfl d_MC_part_105 ?_
        refine lv_iload_n B.1 B.2.1 d_MC_part_108 rfl (lv_at hl 4 rfl) ?_
        refine lv_dup2_11 B.1 B.2.1 d_MC_part_109 rfl rfl ?_
        obtain ⟨hi4, hf⟩ := zck_some hf
        refine rx_iald B hI 1 (wM_at_1 a z (sa u 2 ((12 * x3) + s0) x2)) hi4 d_MC_part_110 ?_
        refine lv_iconst (v := 1) B.1 B.2.1 d_MC_part_111 (by decide) ?_
        refine lv_iadd B.1 B.2.1 d_MC_part_112 ?_
        obtain ⟨hi5, hf⟩ := zck_some hf
        refine rx_iast B hI 1 (wM_at_1 a z (sa u 2 ((12 * x3) + s0) x2)) hi5 (wM_sa_0 a z (sa u 2 ((12 * x3) + s0) x2) x3 ((ga (sa u 2 ((12 * x3) + s0) x2) 0 x3) + 1)) d_MC_part_113 (fun H locs hI => ?_)
        exact hb114 s0 (sa (sa u 2 ((12 * x3) + s0) x2) 0 x3 ((ga (sa u 2 ((12 * x3) + s0) x2) 0 x3) + 1)) _ _ _ hf hI (lv_sub hl [0] rfl)
      · rw [if_neg hc2] at hf
        refine lv_aload_n B.1 B.2.1 d_MC_part_65 rfl (lv_at hl 1 rfl) ?_
        refine rx_get (v := .ref (a 4)) B hI hcl_MC hin_MC 0 (wM_at_0 a z u) 4 (by decide) hf_MC_4 zw_407 rfl d_MC_part_66 ?_
        refine lv_bipush (v := 12) B.1 B.2.1 d_MC_part_69 (by decide) ?_
        refine lv_iload_n B.1 B.2.1 d_MC_part_71 rfl (lv_at hl 4 rfl) ?_
        refine lv_imul B.1 B.2.1 d_MC_part_72 ?_
        refine lv_iload B.1 B.2.1 d_MC_part_73 (lv_at hl 0 rfl) ?_
        refine lv_iadd B.1 B.2.1 d_MC_part_75 ?_
        refine lv_iload_n B.1 B.2.1 d_MC_part_76 rfl (lv_at hl 3 rfl) ?_
        obtain ⟨hi6, hf⟩ := zck_some hf
        refine rx_iast B hI 4 (wM_at_4 a z u) hi6 (wM_sa_3 a z u ((12 * x3) + s0) x2) d_MC_part_77 (fun H locs hI => ?_)
        refine lv_aload_n B.1 B.2.1 d_MC_part_78 rfl (lv_at hl 1 rfl) ?_
        refine rx_get (v := .ref (a 2)) B hI hcl_MC hin_MC 0 (wM_at_0 a z (sa u 3 ((12 * x3) + s0) x2)) 2 (by decide) hf_MC_2 zw_406 rfl d_MC_part_79 ?_
        refine lv_iload_n B.1 B.2.1 d_MC_part_82 rfl (lv_at hl 4 rfl) ?_
        refine lv_dup2_11 B.1 B.2.1 d_MC_part_83 rfl rfl ?_
        obtain ⟨hi7, hf⟩ := zck_some hf
        refine rx_iald B hI 2 (wM_at_2 a z (sa u 3 ((12 * x3) + s0) x2)) hi7 d_MC_part_84 ?_
        refine lv_iconst (v := 1) B.1 B.2.1 d_MC_part_85 (by decide) ?_
        refine lv_iadd B.1 B.2.1 d_MC_part_86 ?_
        obtain ⟨hi8, hf⟩ := zck_some hf
        refine rx_iast B hI 2 (wM_at_2 a z (sa u 3 ((12 * x3) + s0) x2)) hi8 (wM_sa_1 a z (sa u 3 ((12 * x3) + s0) x2) x3 ((ga (sa u 3 ((12 * x3) + s0) x2) 1 x3) + 1)) d_MC_part_87 (fun H locs hI => ?_)
        refine lv_goto (tgt := 114) B.1 B.2.1 d_MC_part_88 (by decide) ?_
        exact hb114 s0 (sa (sa u 3 ((12 * x3) + s0) x2) 1 x3 ((ga (sa u 3 ((12 * x3) + s0) x2) 1 x3) + 1)) _ _ _ hf hI (lv_sub hl [0] rfl)
    · rw [if_pos hc1] at hf
      refine lv_iconst (v := (-1)) B.1 B.2.1 d_MC_part_59 (by decide) ?_
      obtain ⟨e9, e10⟩ := zrt hf
      exact zr_i (wM a z) B hI hr hlk e9 e10 d_MC_part_60
  intro hI hl hf
  unfold zf_MMC_part_0 at hf
  refine lv_aload_n B.1 B.2.1 d_MC_part_0 rfl (lv_at hl 0 rfl) ?_
  refine rx_get (v := .int (gi u 0)) B hI hcl_MC hin_MC 0 (wM_at_0 a z u) 0 (by decide) hf_MC_0 zw_397 rfl d_MC_part_1 ?_
  refine lv_if_eq (tgt := 22) B.1 B.2.1 d_MC_part_4 (by decide) (fun hc1 => ?_) (fun hc1 => ?_)
  · rw [if_pos hc1] at hf
    exact hb22  u _ _ _ hf hI (lv_sub hl [] rfl)
  · rw [if_neg hc1] at hf
    refine lv_iload_n B.1 B.2.1 d_MC_part_7 rfl (lv_at hl 2 rfl) ?_
    obtain ⟨r2, u3, h4, hf⟩ := zbd_some hf
    refine rx_Si (n := 1) (As := [.int x2]) (rest := []) B hI hl.1 (zc_MMC_isValue l D z a N x2 u r2 u3 h4) zw_402 zw_404 zw_399 zw_403 (by decide +kernel) rfl rfl (Nat.le_of_ble_eq_true rfl) d_MC_part_8 ⟨Nat.le_of_ble_eq_true rfl, Nat.le_of_ble_eq_true rfl⟩ rfl rfl ⟨Nat.zero_le _, Nat.zero_le _⟩ (fun H locs hI => ?_)
    refine lv_if_eq (tgt := 22) B.1 B.2.1 d_MC_part_11 (by decide) (fun hc5 => ?_) (fun hc5 => ?_)
    · rw [if_pos hc5] at hf
      exact hb22  u3 _ _ _ hf hI (lv_sub hl [] rfl)
    · rw [if_neg hc5] at hf
      refine lv_aload_n B.1 B.2.1 d_MC_part_14 rfl (lv_at hl 0 rfl) ?_
      refine rx_get (v := .int (gi u3 1)) B hI hcl_MC hin_MC 0 (wM_at_0 a z u3) 9 (by decide) hf_MC_9 zw_405 rfl d_MC_part_15 ?_
      refine lv_iconst (v := 1) B.1 B.2.1 d_MC_part_18 (by decide) ?_
      refine lv_icmp_ne (tgt := 24) B.1 B.2.1 d_MC_part_19 (by decide) (fun hc6 => ?_) (fun hc6 => ?_)
      · rw [if_neg hc6] at hf
        refine lv_aload_n B.1 B.2.1 d_MC_part_24 rfl (lv_at hl 0 rfl) ?_
        refine rx_get (v := .int (gi u3 0)) B hI hcl_MC hin_MC 0 (wM_at_0 a z u3) 0 (by decide) hf_MC_0 zw_397 rfl d_MC_part_25 ?_
        refine lv_iconst (v := 1) B.1 B.2.1 d_MC_part_28 (by decide) ?_
        refine lv_isub B.1 B.2.1 d_MC_part_29 ?_
        refine lv_istore_n (lv' := [(3, .int ((gi u3 0) - 1)), (0, .ref (a 0)), (1, .int x1), (2, .int x2)]) B.1 B.2.1 d_MC_part_30 rfl hl (by decide) rfl (fun ls hl => ?_)
        refine lv_iload_n B.1 B.2.1 d_MC_part_31 rfl (lv_at hl 2 rfl) ?_
        refine lv_if_eq (tgt := 44) B.1 B.2.1 d_MC_part_32 (by decide) (fun hc7 => ?_) (fun hc7 => ?_)
        · rw [if_pos hc7] at hf
          refine lv_aload_n B.1 B.2.1 d_MC_part_44 rfl (lv_at hl 1 rfl) ?_
          refine rx_get (v := .ref (a 1)) B hI hcl_MC hin_MC 0 (wM_at_0 a z u3) 1 (by decide) hf_MC_1 zw_409 rfl d_MC_part_45 ?_
          refine lv_iload_n B.1 B.2.1 d_MC_part_48 rfl (lv_at hl 0 rfl) ?_
          obtain ⟨hi8, hf⟩ := zck_some hf
          refine rx_iald B hI 1 (wM_at_1 a z u3) hi8 d_MC_part_49 ?_
          exact hb50 x1 x2 ((gi u3 0) - 1) (ga u3 0 ((gi u3 0) - 1)) u3 _ _ _ hf hI (lv_sub hl [1, 2, 3, 0] rfl)
        · rw [if_neg hc7] at hf
          refine lv_aload_n B.1 B.2.1 d_MC_part_35 rfl (lv_at hl 1 rfl) ?_
          refine rx_get (v := .ref (a 2)) B hI hcl_MC hin_MC 0 (wM_at_0 a z u3) 2 (by decide) hf_MC_2 zw_406 rfl d_MC_part_36 ?_
          refine lv_iload_n B.1 B.2.1 d_MC_part_39 rfl (lv_at hl 0 rfl) ?_
          obtain ⟨hi9, hf⟩ := zck_some hf
          refine rx_iald B hI 2 (wM_at_2 a z u3) hi9 d_MC_part_40 ?_
          refine lv_goto (tgt := 50) B.1 B.2.1 d_MC_part_41 (by decide) ?_
          exact hb50 x1 x2 ((gi u3 0) - 1) (ga u3 1 ((gi u3 0) - 1)) u3 _ _ _ hf hI (lv_sub hl [1, 2, 3, 0] rfl)
      · rw [if_pos hc6] at hf
        exact hb22  u3 _ _ _ hf hI (lv_sub hl [] rfl)
set_option maxHeartbeats 4000000 in
set_option maxRecDepth 100000 in
theorem zc_MMC_add_0 (l : Launch) (D : va_G) (z : zZ) (a : Nat → Nat) (N : Nat) (x1 : Int32) (x2 : Int32) (x3 : Int32) (u : zU) (r : Int32) (u1 : zU) (hf : zf_MMC_add_0 N x1 x2 x3 u = some (r, u1)) : zMet l D z y_MC_add (.code y_MC_add b_MC_add 5 (some (.int))) { frames := 2, cells := 0, slots := 0, locals := 40 } [.ref (a 0), .int x1, .int x2, .int x3] (wM a z u) (zQi D r (wM a z u1)) := by
  refine zM_i (own := R_MC) [.ref (a 0), .int x1, .int x2, .int x3] (wM a z u) r (wM a z u1) (by decide) rfl (Nat.le_of_ble_eq_true rfl) ?_
  intro p e s m args below meth c A ls B hr hlk hI hl
  have hl : lv_has ls 5 [(0, .ref (a 0)), (1, .int x1), (2, .int x2), (3, .int x3)] := hl
  revert hf
  revert hI hl
  have hb20 : ∀  (u : zU) (H : Heap) (locs : List Loc) (ls : Array Slot), zf_MMC_add_0_b20 N   u = some (r, u1) → iw D A s (wM a z u) H locs → lv_has ls 5 [] → W p l e ({ frames := 2, cells := 0, slots := 0, locals := 40 } : Room) s m args below meth c H locs 0 0 (MQ below (zQi D r (wM a z u1) A) args s 0 0 A) (F0 m 20 ls []) := by
    intro  u H locs ls hf hI hl
    unfold zf_MMC_add_0_b20 at hf
    refine lv_iconst (v := (-1)) B.1 B.2.1 d_MC_add_20 (by decide) ?_
    obtain ⟨e1, e2⟩ := zrt hf
    exact zr_i (wM a z) B hI hr hlk e1 e2 d_MC_add_21
  have hb89 : ∀ (x1 : Int32) (x2 : Int32) (x3 : Int32) (s0 : Int32) (u : zU) (H : Heap) (locs : List Loc) (ls : Array Slot), zf_MMC_add_0_b89 N  x1 x2 x3 s0 u = some (r, u1) → iw D A s (wM a z u) H locs → lv_has ls 5 [(0, .ref (a 0)), (1, .int x1), (2, .int x2), (3, .int x3)] → W p l e ({ frames := 2, cells := 0, slots := 0, locals := 40 } : Room) s m args below meth c H locs 0 0 (MQ below (zQi D r (wM a z u1) A) args s 0 0 A) (F0 m 89 ls [.int s0]) := by
    intro x1 x2 x3 s0 u H locs ls hf hI hl
    unfold zf_MMC_add_0_b89 at hf
    refine lv_istore (lv' := [(4, .int s0), (0, .ref (a 0)), (1, .int x1), (2, .int x2), (3, .int x3)]) B.1 B.2.1 d_MC_add_89 hl (by decide) rfl (fun ls hl => ?_)
    refine lv_iload B.1 B.2.1 d_MC_add_91 (lv_at hl 0 rfl) ?_
    refine lv_if_ne (tgt := 98) B.1 B.2.1 d_MC_add_93 (by decide) (fun hc1 => ?_) (fun hc1 => ?_)
    · rw [if_neg hc1] at hf
      refine lv_aload_n B.1 B.2.1 d_MC_add_98 rfl (lv_at hl 1 rfl) ?_
      refine rx_get (v := .ref (a 6)) B hI hcl_MC hin_MC 0 (wM_at_0 a z u) 6 (by decide) hf_MC_6 zw_411 rfl d_MC_add_99 ?_
      refine lv_bipush (v := 40) B.1 B.2.1 d_MC_add_102 (by decide) ?_
      refine lv_iload_n B.1 B.2.1 d_MC_add_104 rfl (lv_at hl 2 rfl) ?_
      refine lv_imul B.1 B.2.1 d_MC_add_105 ?_
      refine lv_aload_n B.1 B.2.1 d_MC_add_106 rfl (lv_at hl 1 rfl) ?_
      refine rx_get (v := .ref (a 5)) B hI hcl_MC hin_MC 0 (wM_at_0 a z u) 5 (by decide) hf_MC_5 zw_410 rfl d_MC_add_107 ?_
      refine lv_iload_n B.1 B.2.1 d_MC_add_110 rfl (lv_at hl 2 rfl) ?_
      obtain ⟨hi2, hf⟩ := zck_some hf
      refine rx_iald B hI 5 (wM_at_5 a z u) hi2 d_MC_add_111 ?_
      refine lv_iadd B.1 B.2.1 d_MC_add_112 ?_
      refine lv_iload_n B.1 B.2.1 d_MC_add_113 rfl (lv_at hl 3 rfl) ?_
      obtain ⟨hi3, hf⟩ := zck_some hf
      refine rx_iast B hI 6 (wM_at_6 a z u) hi3 (wM_sa_5 a z u ((40 * x1) + (ga u 4 x1)) x2) d_MC_add_114 (fun H locs hI => ?_)
      refine lv_aload_n B.1 B.2.1 d_MC_add_115 rfl (lv_at hl 1 rfl) ?_
      refine rx_get (v := .ref (a 7)) B hI hcl_MC hin_MC 0 (wM_at_0 a z (sa u 5 ((40 * x1) + (ga u 4 x1)) x2)) 7 (by decide) hf_MC_7 zw_412 rfl d_MC_add_116 ?_
      refine lv_bipush (v := 40) B.1 B.2.1 d_MC_add_119 (by decide) ?_
      refine lv_iload_n B.1 B.2.1 d_MC_add_121 rfl (lv_at hl 2 rfl) ?_
      refine lv_imul B.1 B.2.1 d_MC_add_122 ?_
      refine lv_aload_n B.1 B.2.1 d_MC_add_123 rfl (lv_at hl 1 rfl) ?_
      refine rx_get (v := .ref (a 5)) B hI hcl_MC hin_MC 0 (wM_at_0 a z (sa u 5 ((40 * x1) + (ga u 4 x1)) x2)) 5 (by decide) hf_MC_5 zw_410 rfl d_MC_add_124 ?_
      refine lv_iload_n B.1 B.2.1 d_MC_add_127 rfl (lv_at hl 2 rfl) ?_
      obtain ⟨hi4, hf⟩ := zck_some hf
      refine rx_iald B hI 5 (wM_at_5 a z (sa u 5 ((40 * x1) + (ga u 4 x1)) x2)) hi4 d_MC_add_128 ?_
      refine lv_iadd B.1 B.2.1 d_MC_add_129 ?_
      refine lv_iload_n B.1 B.2.1 d_MC_add_130 rfl (lv_at hl 4 rfl) ?_
      obtain ⟨hi5, hf⟩ := zck_some hf
      refine rx_iast B hI 7 (wM_at_7 a z (sa u 5 ((40 * x1) + (ga u 4 x1)) x2)) hi5 (wM_sa_6 a z (sa u 5 ((40 * x1) + (ga u 4 x1)) x2) ((40 * x1) + (ga (sa u 5 ((40 * x1) + (ga u 4 x1)) x2) 4 x1)) x3) d_MC_add_131 (fun H locs hI => ?_)
      refine lv_aload_n B.1 B.2.1 d_MC_add_132 rfl (lv_at hl 1 rfl) ?_
      refine rx_get (v := .ref (a 5)) B hI hcl_MC hin_MC 0 (wM_at_0 a z (sa (sa u 5 ((40 * x1) + (ga u 4 x1)) x2) 6 ((40 * x1) + (ga (sa u 5 ((40 * x1) + (ga u 4 x1)) x2) 4 x1)) x3)) 5 (by decide) hf_MC_5 zw_410 rfl d_MC_add_133 ?_
      refine lv_iload_n B.1 B.2.1 d_MC_add_136 rfl (lv_at hl 2 rfl) ?_
      refine lv_dup2_11 B.1 B.2.1 d_MC_add_137 rfl rfl ?_
      obtain ⟨hi6, hf⟩ := zck_some hf
      refine rx_iald B hI 5 (wM_at_5 a z (sa (sa u 5 ((40 * x1) + (ga u 4 x1)) x2) 6 ((40 * x1) + (ga (sa u 5 ((40 * x1) + (ga u 4 x1)) x2) 4 x1)) x3)) hi6 d_MC_add_138 ?_
      refine lv_iconst (v := 1) B.1 B.2.1 d_MC_add_139 (by decide) ?_
      refine lv_iadd B.1 B.2.1 d_MC_add_140 ?_
      obtain ⟨hi7, hf⟩ := zck_some hf
      refine rx_iast B hI 5 (wM_at_5 a z (sa (sa u 5 ((40 * x1) + (ga u 4 x1)) x2) 6 ((40 * x1) + (ga (sa u 5 ((40 * x1) + (ga u 4 x1)) x2) 4 x1)) x3)) hi7 (wM_sa_4 a z (sa (sa u 5 ((40 * x1) + (ga u 4 x1)) x2) 6 ((40 * x1) + (ga (sa u 5 ((40 * x1) + (ga u 4 x1)) x2) 4 x1)) x3) x1 ((ga (sa (sa u 5 ((40 * x1) + (ga u 4 x1)) x2) 6 ((40 * x1) + (ga (sa u 5 ((40 * x1) + (ga u 4 x1)) x2) 4 x1)) x3) 4 x1) + 1)) d_MC_add_141 (fun H locs hI => ?_)
      refine lv_aload_n B.1 B.2.1 d_MC_add_142 rfl (lv_at hl 1 rfl) ?_
      refine rx_get (v := .ref (a 5)) B hI hcl_MC hin_MC 0 (wM_at_0 a z (sa (sa (sa u 5 ((40 * x1) + (ga u 4 x1)) x2) 6 ((40 * x1) + (ga (sa u 5 ((40 * x1) + (ga u 4 x1)) x2) 4 x1)) x3) 4 x1 ((ga (sa (sa u 5 ((40 * x1) + (ga u 4 x1)) x2) 6 ((40 * x1) + (ga (sa u 5 ((40 * x1) + (ga u 4 x1)) x2) 4 x1)) x3) 4 x1) + 1))) 5 (by decide) hf_MC_5 zw_410 rfl d_MC_add_143 ?_
      refine lv_iload_n B.1 B.2.1 d_MC_add_146 rfl (lv_at hl 2 rfl) ?_
      obtain ⟨hi8, hf⟩ := zck_some hf
      refine rx_iald B hI 5 (wM_at_5 a z (sa (sa (sa u 5 ((40 * x1) + (ga u 4 x1)) x2) 6 ((40 * x1) + (ga (sa u 5 ((40 * x1) + (ga u 4 x1)) x2) 4 x1)) x3) 4 x1 ((ga (sa (sa u 5 ((40 * x1) + (ga u 4 x1)) x2) 6 ((40 * x1) + (ga (sa u 5 ((40 * x1) + (ga u 4 x1)) x2) 4 x1)) x3) 4 x1) + 1))) hi8 d_MC_add_147 ?_
      refine lv_iconst (v := 1) B.1 B.2.1 d_MC_add_148 (by decide) ?_
      refine lv_isub B.1 B.2.1 d_MC_add_149 ?_
      obtain ⟨e9, e10⟩ := zrt hf
      exact zr_i (wM a z) B hI hr hlk e9 e10 d_MC_add_150
    · rw [if_pos hc1] at hf
      refine lv_iconst (v := (-1)) B.1 B.2.1 d_MC_add_96 (by decide) ?_
      obtain ⟨e11, e12⟩ := zrt hf
      exact zr_i (wM a z) B hI hr hlk e11 e12 d_MC_add_97
  have hb56 : ∀ (x1 : Int32) (x2 : Int32) (x3 : Int32) (u : zU) (H : Heap) (locs : List Loc) (ls : Array Slot), zf_MMC_add_0_b56 N  x1 x2 x3 u = some (r, u1) → iw D A s (wM a z u) H locs → lv_has ls 5 [(0, .ref (a 0)), (1, .int x1), (2, .int x2), (3, .int x3)] → W p l e ({ frames := 2, cells := 0, slots := 0, locals := 40 } : Room) s m args below meth c H locs 0 0 (MQ below (zQi D r (wM a z u1) A) args s 0 0 A) (F0 m 56 ls []) := by
    intro x1 x2 x3 u H locs ls hf hI hl
    unfold zf_MMC_add_0_b56 at hf
    refine lv_iload_n B.1 B.2.1 d_MC_add_56 rfl (lv_at hl 2 rfl) ?_
    obtain ⟨r1, u2, h3, hf⟩ := zbd_some hf
    refine rx_Si (n := 1) (As := [.int x2]) (rest := []) B hI hl.1 (zc_MMC_isReference l D z a N x2 u r1 u2 h3) zw_398 zw_401 zw_399 zw_400 (by decide +kernel) rfl rfl (Nat.le_of_ble_eq_true rfl) d_MC_add_57 ⟨Nat.le_of_ble_eq_true rfl, Nat.le_of_ble_eq_true rfl⟩ rfl rfl ⟨Nat.zero_le _, Nat.zero_le _⟩ (fun H locs hI => ?_)
    refine lv_goto (tgt := 89) B.1 B.2.1 d_MC_add_60 (by decide) ?_
    exact hb89 x1 x2 x3 r1 u2 _ _ _ hf hI (lv_sub hl [0, 1, 2, 3] rfl)
  have hb84 : ∀ (x1 : Int32) (x2 : Int32) (x3 : Int32) (u : zU) (H : Heap) (locs : List Loc) (ls : Array Slot), zf_MMC_add_0_b84 N  x1 x2 x3 u = some (r, u1) → iw D A s (wM a z u) H locs → lv_has ls 5 [(0, .ref (a 0)), (1, .int x1), (2, .int x2), (3, .int x3)] → W p l e ({ frames := 2, cells := 0, slots := 0, locals := 40 } : Room) s m args below meth c H locs 0 0 (MQ below (zQi D r (wM a z u1) A) args s 0 0 A) (F0 m 84 ls []) := by
    intro x1 x2 x3 u H locs ls hf hI hl
    unfold zf_MMC_add_0_b84 at hf
    refine lv_iconst (v := 1) B.1 B.2.1 d_MC_add_84 (by decide) ?_
    refine lv_goto (tgt := 89) B.1 B.2.1 d_MC_add_85 (by decide) ?_
    exact hb89 x1 x2 x3 1 u _ _ _ hf hI (lv_sub hl [0, 1, 2, 3] rfl)
  have hb88 : ∀ (x1 : Int32) (x2 : Int32) (x3 : Int32) (u : zU) (H : Heap) (locs : List Loc) (ls : Array Slot), zf_MMC_add_0_b88 N  x1 x2 x3 u = some (r, u1) → iw D A s (wM a z u) H locs → lv_has ls 5 [(0, .ref (a 0)), (1, .int x1), (2, .int x2), (3, .int x3)] → W p l e ({ frames := 2, cells := 0, slots := 0, locals := 40 } : Room) s m args below meth c H locs 0 0 (MQ below (zQi D r (wM a z u1) A) args s 0 0 A) (F0 m 88 ls []) := by
    intro x1 x2 x3 u H locs ls hf hI hl
    unfold zf_MMC_add_0_b88 at hf
    refine lv_iconst (v := 0) B.1 B.2.1 d_MC_add_88 (by decide) ?_
    exact hb89 x1 x2 x3 0 u _ _ _ hf hI (lv_sub hl [0, 1, 2, 3] rfl)
  have hb42 : ∀ (x1 : Int32) (x2 : Int32) (x3 : Int32) (u : zU) (H : Heap) (locs : List Loc) (ls : Array Slot), zf_MMC_add_0_b42 N  x1 x2 x3 u = some (r, u1) → iw D A s (wM a z u) H locs → lv_has ls 5 [(0, .ref (a 0)), (1, .int x1), (2, .int x2), (3, .int x3)] → W p l e ({ frames := 2, cells := 0, slots := 0, locals := 40 } : Room) s m args below meth c H locs 0 0 (MQ below (zQi D r (wM a z u1) A) args s 0 0 A) (F0 m 42 ls []) := by
    intro x1 x2 x3 u H locs ls hf hI hl
    unfold zf_MMC_add_0_b42 at hf
    refine lv_iconst (v := 0) B.1 B.2.1 d_MC_add_42 (by decide) ?_
    refine lv_goto (tgt := 89) B.1 B.2.1 d_MC_add_43 (by decide) ?_
    exact hb89 x1 x2 x3 0 u _ _ _ hf hI (lv_sub hl [0, 1, 2, 3] rfl)
  intro hI hl hf
  unfold zf_MMC_add_0 at hf
  refine lv_iload_n B.1 B.2.1 d_MC_add_0 rfl (lv_at hl 1 rfl) ?_
  refine lv_if_lt (tgt := 20) B.1 B.2.1 d_MC_add_1 (by decide) (fun hc1 => ?_) (fun hc1 => ?_)
  · rw [if_pos hc1] at hf
    exact hb20  u _ _ _ hf hI (lv_sub hl [] rfl)
  · rw [if_neg hc1] at hf
    refine lv_iload_n B.1 B.2.1 d_MC_add_4 rfl (lv_at hl 1 rfl) ?_
    refine lv_iconst (v := 5) B.1 B.2.1 d_MC_add_5 (by decide) ?_
    refine lv_icmp_gt (tgt := 20) B.1 B.2.1 d_MC_add_6 (by decide) (fun hc2 => ?_) (fun hc2 => ?_)
    · rw [if_pos hc2] at hf
      exact hb20  u _ _ _ hf hI (lv_sub hl [] rfl)
    · rw [if_neg hc2] at hf
      refine lv_aload_n B.1 B.2.1 d_MC_add_9 rfl (lv_at hl 0 rfl) ?_
      refine rx_get (v := .ref (a 5)) B hI hcl_MC hin_MC 0 (wM_at_0 a z u) 5 (by decide) hf_MC_5 zw_410 rfl d_MC_add_10 ?_
      refine lv_iload_n B.1 B.2.1 d_MC_add_13 rfl (lv_at hl 1 rfl) ?_
      obtain ⟨hi3, hf⟩ := zck_some hf
      refine rx_iald B hI 5 (wM_at_5 a z u) hi3 d_MC_add_14 ?_
      refine lv_bipush (v := 40) B.1 B.2.1 d_MC_add_15 (by decide) ?_
      refine lv_icmp_ne (tgt := 22) B.1 B.2.1 d_MC_add_17 (by decide) (fun hc4 => ?_) (fun hc4 => ?_)
      · rw [if_neg hc4] at hf
        refine lv_iload_n B.1 B.2.1 d_MC_add_22 rfl (lv_at hl 1 rfl) ?_
        refine lv_if_ne (tgt := 46) B.1 B.2.1 d_MC_add_23 (by decide) (fun hc5 => ?_) (fun hc5 => ?_)
        · rw [if_neg hc5] at hf
          refine lv_iload_n B.1 B.2.1 d_MC_add_46 rfl (lv_at hl 1 rfl) ?_
          refine lv_iconst (v := 1) B.1 B.2.1 d_MC_add_47 (by decide) ?_
          refine lv_icmp_eq (tgt := 56) B.1 B.2.1 d_MC_add_48 (by decide) (fun hc6 => ?_) (fun hc6 => ?_)
          · rw [if_pos hc6] at hf
            exact hb56 x1 x2 x3 u _ _ _ hf hI (lv_sub hl [0, 1, 2, 3] rfl)
          · rw [if_neg hc6] at hf
            refine lv_iload_n B.1 B.2.1 d_MC_add_51 rfl (lv_at hl 1 rfl) ?_
            refine lv_iconst (v := 4) B.1 B.2.1 d_MC_add_52 (by decide) ?_
            refine lv_icmp_ne (tgt := 63) B.1 B.2.1 d_MC_add_53 (by decide) (fun hc7 => ?_) (fun hc7 => ?_)
            · rw [if_neg hc7] at hf
              refine lv_iload_n B.1 B.2.1 d_MC_add_63 rfl (lv_at hl 1 rfl) ?_
              refine lv_iconst (v := 3) B.1 B.2.1 d_MC_add_64 (by decide) ?_
              refine lv_icmp_ne (tgt := 84) B.1 B.2.1 d_MC_add_65 (by decide) (fun hc8 => ?_) (fun hc8 => ?_)
              · rw [if_neg hc8] at hf
                exact hb84 x1 x2 x3 u _ _ _ hf hI (lv_sub hl [0, 1, 2, 3] rfl)
              · rw [if_pos hc8] at hf
                refine lv_iload_n B.1 B.2.1 d_MC_add_68 rfl (lv_at hl 2 rfl) ?_
                obtain ⟨r9, u10, h11, hf⟩ := zbd_some hf
                refine rx_Si (n := 1) (As := [.int x2]) (rest := []) B hI hl.1 (zc_MMC_isValue l D z a N x2 u r9 u10 h11) zw_402 zw_404 zw_399 zw_403 (by decide +kernel) rfl rfl (Nat.le_of_ble_eq_true rfl) d_MC_add_69 ⟨Nat.le_of_ble_eq_true rfl, Nat.le_of_ble_eq_true rfl⟩ rfl rfl ⟨Nat.zero_le _, Nat.zero_le _⟩ (fun H locs hI => ?_)
                refine lv_if_eq (tgt := 88) B.1 B.2.1 d_MC_add_72 (by decide) (fun hc12 => ?_) (fun hc12 => ?_)
                · rw [if_pos hc12] at hf
                  exact hb88 x1 x2 x3 u10 _ _ _ hf hI (lv_sub hl [0, 1, 2, 3] rfl)
                · rw [if_neg hc12] at hf
                  refine lv_iload_n B.1 B.2.1 d_MC_add_75 rfl (lv_at hl 3 rfl) ?_
                  refine lv_if_eq (tgt := 84) B.1 B.2.1 d_MC_add_76 (by decide) (fun hc13 => ?_) (fun hc13 => ?_)
                  · rw [if_pos hc13] at hf
                    exact hb84 x1 x2 x3 u10 _ _ _ hf hI (lv_sub hl [0, 1, 2, 3] rfl)
                  · rw [if_neg hc13] at hf
                    refine lv_iload_n B.1 B.2.1 d_MC_add_79 rfl (lv_at hl 3 rfl) ?_
                    refine lv_iconst (v := 1) B.1 B.2.1 d_MC_add_80 (by decide) ?_
                    refine lv_icmp_ne (tgt := 88) B.1 B.2.1 d_MC_add_81 (by decide) (fun hc14 => ?_) (fun hc14 => ?_)
                    · rw [if_neg hc14] at hf
                      exact hb88 x1 x2 x3 u10 _ _ _ hf hI (lv_sub hl [0, 1, 2, 3] rfl)
                    · rw [if_pos hc14] at hf
                      exact hb84 x1 x2 x3 u10 _ _ _ hf hI (lv_sub hl [0, 1, 2, 3] rfl)
            · rw [if_pos hc7] at hf
              exact hb56 x1 x2 x3 u _ _ _ hf hI (lv_sub hl [0, 1, 2, 3] rfl)
        · rw [if_pos hc5] at hf
          refine lv_iload_n B.1 B.2.1 d_MC_add_26 rfl (lv_at hl 2 rfl) ?_
          refine lv_if_lt (tgt := 42) B.1 B.2.1 d_MC_add_27 (by decide) (fun hc15 => ?_) (fun hc15 => ?_)
          · rw [if_pos hc15] at hf
            exact hb42 x1 x2 x3 u _ _ _ hf hI (lv_sub hl [0, 1, 2, 3] rfl)
          · rw [if_neg hc15] at hf
            refine lv_iload_n B.1 B.2.1 d_MC_add_30 rfl (lv_at hl 2 rfl) ?_
            refine lv_aload_n B.1 B.2.1 d_MC_add_31 rfl (lv_at hl 0 rfl) ?_
            refine rx_get (v := .int (gi u 0)) B hI hcl_MC hin_MC 0 (wM_at_0 a z u) 0 (by decide) hf_MC_0 zw_397 rfl d_MC_add_32 ?_
            refine lv_icmp_ge (tgt := 42) B.1 B.2.1 d_MC_add_35 (by decide) (fun hc16 => ?_) (fun hc16 => ?_)
            · rw [if_pos hc16] at hf
              exact hb42 x1 x2 x3 u _ _ _ hf hI (lv_sub hl [0, 1, 2, 3] rfl)
            · rw [if_neg hc16] at hf
              refine lv_iconst (v := 1) B.1 B.2.1 d_MC_add_38 (by decide) ?_
              refine lv_goto (tgt := 89) B.1 B.2.1 d_MC_add_39 (by decide) ?_
              exact hb89 x1 x2 x3 1 u _ _ _ hf hI (lv_sub hl [0, 1, 2, 3] rfl)
      · rw [if_pos hc4] at hf
        exact hb20  u _ _ _ hf hI (lv_sub hl [] rfl)
set_option maxHeartbeats 4000000 in
set_option maxRecDepth 100000 in
theorem zc_MMC_declare_0 (l : Launch) (D : va_G) (z : zZ) (a : Nat → Nat) (N : Nat) (x1 : Int32) (u : zU) (r : Int32) (u1 : zU) (hf : zf_MMC_declare_0 N x1 u = some (r, u1)) : zMet l D z y_MC_declare (.code y_MC_declare b_MC_declare 2 (some (.boolean))) { frames := 0, cells := 0, slots := 0, locals := 0 } [.ref (a 0), .int x1] (wM a z u) (zQi D r (wM a z u1)) := by
  refine zM_i (own := R_MC) [.ref (a 0), .int x1] (wM a z u) r (wM a z u1) (by decide) rfl (Nat.le_of_ble_eq_true rfl) ?_
  intro p e s m args below meth c A ls B hr hlk hI hl
  have hl : lv_has ls 2 [(0, .ref (a 0)), (1, .int x1)] := hl
  revert hf
  revert hI hl
  have hb14 : ∀  (u : zU) (H : Heap) (locs : List Loc) (ls : Array Slot), zf_MMC_declare_0_b14 N   u = some (r, u1) → iw D A s (wM a z u) H locs → lv_has ls 2 [] → W p l e ({ frames := 0, cells := 0, slots := 0, locals := 0 } : Room) s m args below meth c H locs 0 0 (MQ below (zQi D r (wM a z u1) A) args s 0 0 A) (F0 m 14 ls []) := by
    intro  u H locs ls hf hI hl
    unfold zf_MMC_declare_0_b14 at hf
    refine lv_iconst (v := 0) B.1 B.2.1 d_MC_declare_14 (by decide) ?_
    obtain ⟨e1, e2⟩ := zrt hf
    exact zr_z (wM a z) B hI hr hlk (by decide) e1 e2 d_MC_declare_15
  intro hI hl hf
  unfold zf_MMC_declare_0 at hf
  refine lv_iload_n B.1 B.2.1 d_MC_declare_0 rfl (lv_at hl 1 rfl) ?_
  refine lv_if_lt (tgt := 14) B.1 B.2.1 d_MC_declare_1 (by decide) (fun hc1 => ?_) (fun hc1 => ?_)
  · rw [if_pos hc1] at hf
    exact hb14  u _ _ _ hf hI (lv_sub hl [] rfl)
  · rw [if_neg hc1] at hf
    refine lv_iload_n B.1 B.2.1 d_MC_declare_4 rfl (lv_at hl 1 rfl) ?_
    refine lv_aload_n B.1 B.2.1 d_MC_declare_5 rfl (lv_at hl 0 rfl) ?_
    refine rx_get (v := .ref (a 5)) B hI hcl_MC hin_MC 0 (wM_at_0 a z u) 5 (by decide) hf_MC_5 zw_410 rfl d_MC_declare_6 ?_
    refine lv_iconst (v := 0) B.1 B.2.1 d_MC_declare_9 (by decide) ?_
    obtain ⟨hi2, hf⟩ := zck_some hf
    refine rx_iald B hI 5 (wM_at_5 a z u) hi2 d_MC_declare_10 ?_
    refine lv_icmp_lt (tgt := 16) B.1 B.2.1 d_MC_declare_11 (by decide) (fun hc3 => ?_) (fun hc3 => ?_)
    · rw [if_pos hc3] at hf
      refine lv_aload_n B.1 B.2.1 d_MC_declare_16 rfl (lv_at hl 0 rfl) ?_
      refine rx_get (v := .ref (a 8)) B hI hcl_MC hin_MC 0 (wM_at_0 a z u) 8 (by decide) hf_MC_8 zw_413 rfl d_MC_declare_17 ?_
      refine lv_iload_n B.1 B.2.1 d_MC_declare_20 rfl (lv_at hl 1 rfl) ?_
      refine lv_iconst (v := 1) B.1 B.2.1 d_MC_declare_21 (by decide) ?_
      obtain ⟨hi4, hf⟩ := zck_some hf
      refine rx_zast B hI 8 (wM_at_8 a z u) hi4 (wM_sa_7 a z u x1 (vp_nar .boolean 1)) d_MC_declare_22 (fun H locs hI => ?_)
      refine lv_iconst (v := 1) B.1 B.2.1 d_MC_declare_23 (by decide) ?_
      obtain ⟨e5, e6⟩ := zrt hf
      exact zr_z (wM a z) B hI hr hlk (by decide) e5 e6 d_MC_declare_24
    · rw [if_neg hc3] at hf
      exact hb14  u _ _ _ hf hI (lv_sub hl [] rfl)
set_option maxHeartbeats 4000000 in
set_option maxRecDepth 100000 in
theorem zc_MMC_beginCode_0 (l : Launch) (D : va_G) (z : zZ) (a : Nat → Nat) (N : Nat) (x1 : Int32) (u : zU) (r : Unit) (u1 : zU) (hf : zf_MMC_beginCode_0 N x1 u = some (r, u1)) : zMet l D z y_MC_beginCode (.code y_MC_beginCode b_MC_beginCode 2 none) { frames := 0, cells := 0, slots := 0, locals := 0 } [.ref (a 0), .int x1] (wM a z u) (zQv D (wM a z u1)) := by
  refine zM_v (own := R_MC) [.ref (a 0), .int x1] (wM a z u) (wM a z u1) (by decide) rfl (Nat.le_of_ble_eq_true rfl) ?_
  intro p e s m args below meth c A ls B hr hlk hI hl
  have hl : lv_has ls 2 [(0, .ref (a 0)), (1, .int x1)] := hl
  revert hf
  revert hI hl
  intro hI hl hf
  unfold zf_MMC_beginCode_0 at hf
  refine lv_aload_n B.1 B.2.1 d_MC_beginCode_0 rfl (lv_at hl 0 rfl) ?_
  refine lv_iload_n B.1 B.2.1 d_MC_beginCode_1 rfl (lv_at hl 1 rfl) ?_
  obtain ⟨hz1, hf⟩ := zck_some hf
  refine rx_put B hI hcl_MC hin_MC hty_MC hnm_MC 0 (wM_at_0 a z u) 10 (by decide) hf_MC_10 zw_414 rfl (ty := .boolean) (by decide +kernel) (znar hz1) (zfit hz1) (Nat.le_of_ble_eq_true rfl) (wM_si_2 a z u x1) d_MC_beginCode_2 (fun H locs hI => ?_)
  refine lv_aload_n B.1 B.2.1 d_MC_beginCode_5 rfl (lv_at hl 0 rfl) ?_
  refine lv_iconst (v := 0) B.1 B.2.1 d_MC_beginCode_6 (by decide) ?_
  refine rx_put B hI hcl_MC hin_MC hty_MC hnm_MC 0 (wM_at_0 a z (si u 2 x1)) 11 (by decide) hf_MC_11 zw_415 rfl (ty := .boolean) (by decide +kernel) (by decide) (by decide) (Nat.le_of_ble_eq_true rfl) (wM_si_3 a z (si u 2 x1) 0) d_MC_beginCode_7 (fun H locs hI => ?_)
  refine lv_aload_n B.1 B.2.1 d_MC_beginCode_10 rfl (lv_at hl 0 rfl) ?_
  refine lv_iconst (v := 1) B.1 B.2.1 d_MC_beginCode_11 (by decide) ?_
  refine rx_put B hI hcl_MC hin_MC hty_MC hnm_MC 0 (wM_at_0 a z (si (si u 2 x1) 3 0)) 9 (by decide) hf_MC_9 zw_405 rfl (ty := .int) (by decide +kernel) rfl rfl (Nat.le_of_ble_eq_true rfl) (wM_si_1 a z (si (si u 2 x1) 3 0) 1) d_MC_beginCode_12 (fun H locs hI => ?_)
  refine lv_aload_n B.1 B.2.1 d_MC_beginCode_15 rfl (lv_at hl 0 rfl) ?_
  refine lv_iconst (v := 0) B.1 B.2.1 d_MC_beginCode_16 (by decide) ?_
  refine rx_put B hI hcl_MC hin_MC hty_MC hnm_MC 0 (wM_at_0 a z (si (si (si u 2 x1) 3 0) 1 1)) 15 (by decide) hf_MC_15 zw_416 rfl (ty := .int) (by decide +kernel) rfl rfl (Nat.le_of_ble_eq_true rfl) (wM_si_6 a z (si (si (si u 2 x1) 3 0) 1 1) 0) d_MC_beginCode_17 (fun H locs hI => ?_)
  refine lv_aload_n B.1 B.2.1 d_MC_beginCode_20 rfl (lv_at hl 0 rfl) ?_
  refine lv_iconst (v := 0) B.1 B.2.1 d_MC_beginCode_21 (by decide) ?_
  refine rx_put B hI hcl_MC hin_MC hty_MC hnm_MC 0 (wM_at_0 a z (si (si (si (si u 2 x1) 3 0) 1 1) 6 0)) 16 (by decide) hf_MC_16 zw_417 rfl (ty := .int) (by decide +kernel) rfl rfl (Nat.le_of_ble_eq_true rfl) (wM_si_7 a z (si (si (si (si u 2 x1) 3 0) 1 1) 6 0) 0) d_MC_beginCode_22 (fun H locs hI => ?_)
  refine lv_aload_n B.1 B.2.1 d_MC_beginCode_25 rfl (lv_at hl 0 rfl) ?_
  refine lv_iconst (v := 0) B.1 B.2.1 d_MC_beginCode_26 (by decide) ?_
  refine rx_put B hI hcl_MC hin_MC hty_MC hnm_MC 0 (wM_at_0 a z (si (si (si (si (si u 2 x1) 3 0) 1 1) 6 0) 7 0)) 19 (by decide) hf_MC_19 zw_418 rfl (ty := .int) (by decide +kernel) rfl rfl (Nat.le_of_ble_eq_true rfl) (wM_si_8 a z (si (si (si (si (si u 2 x1) 3 0) 1 1) 6 0) 7 0) 0) d_MC_beginCode_27 (fun H locs hI => ?_)
  refine lv_aload_n B.1 B.2.1 d_MC_beginCode_30 rfl (lv_at hl 0 rfl) ?_
  refine lv_iconst (v := 0) B.1 B.2.1 d_MC_beginCode_31 (by decide) ?_
  refine rx_put B hI hcl_MC hin_MC hty_MC hnm_MC 0 (wM_at_0 a z (si (si (si (si (si (si u 2 x1) 3 0) 1 1) 6 0) 7 0) 8 0)) 21 (by decide) hf_MC_21 zw_419 rfl (ty := .int) (by decide +kernel) rfl rfl (Nat.le_of_ble_eq_true rfl) (wM_si_9 a z (si (si (si (si (si (si u 2 x1) 3 0) 1 1) 6 0) 7 0) 8 0) 0) d_MC_beginCode_32 (fun H locs hI => ?_)
  refine lv_aload_n B.1 B.2.1 d_MC_beginCode_35 rfl (lv_at hl 0 rfl) ?_
  refine lv_iconst (v := 1) B.1 B.2.1 d_MC_beginCode_36 (by decide) ?_
  refine rx_put B hI hcl_MC hin_MC hty_MC hnm_MC 0 (wM_at_0 a z (si (si (si (si (si (si (si u 2 x1) 3 0) 1 1) 6 0) 7 0) 8 0) 9 0)) 22 (by decide) hf_MC_22 zw_420 rfl (ty := .int) (by decide +kernel) rfl rfl (Nat.le_of_ble_eq_true rfl) (wM_si_10 a z (si (si (si (si (si (si (si u 2 x1) 3 0) 1 1) 6 0) 7 0) 8 0) 9 0) 1) d_MC_beginCode_37 (fun H locs hI => ?_)
  refine lv_aload_n B.1 B.2.1 d_MC_beginCode_40 rfl (lv_at hl 0 rfl) ?_
  refine rx_get (v := .ref (a 13)) B hI hcl_MC hin_MC 0 (wM_at_0 a z (si (si (si (si (si (si (si (si u 2 x1) 3 0) 1 1) 6 0) 7 0) 8 0) 9 0) 10 1)) 24 (by decide) hf_MC_24 zw_421 rfl d_MC_beginCode_41 ?_
  refine lv_iconst (v := 0) B.1 B.2.1 d_MC_beginCode_44 (by decide) ?_
  refine lv_iconst (v := (-1)) B.1 B.2.1 d_MC_beginCode_45 (by decide) ?_
  obtain ⟨hi2, hf⟩ := zck_some hf
  refine rx_iast B hI 13 (wM_at_13 a z (si (si (si (si (si (si (si (si u 2 x1) 3 0) 1 1) 6 0) 7 0) 8 0) 9 0) 10 1)) hi2 (wM_sa_11 a z (si (si (si (si (si (si (si (si u 2 x1) 3 0) 1 1) 6 0) 7 0) 8 0) 9 0) 10 1) 0 (-1)) d_MC_beginCode_46 (fun H locs hI => ?_)
  refine lv_aload_n B.1 B.2.1 d_MC_beginCode_47 rfl (lv_at hl 0 rfl) ?_
  refine rx_get (v := .ref (a 15)) B hI hcl_MC hin_MC 0 (wM_at_0 a z (sa (si (si (si (si (si (si (si (si u 2 x1) 3 0) 1 1) 6 0) 7 0) 8 0) 9 0) 10 1) 11 0 (-1))) 26 (by decide) hf_MC_26 zw_422 rfl d_MC_beginCode_48 ?_
  refine lv_iconst (v := 0) B.1 B.2.1 d_MC_beginCode_51 (by decide) ?_
  refine lv_iconst (v := 0) B.1 B.2.1 d_MC_beginCode_52 (by decide) ?_
  obtain ⟨hi3, hf⟩ := zck_some hf
  refine rx_iast B hI 15 (wM_at_15 a z (sa (si (si (si (si (si (si (si (si u 2 x1) 3 0) 1 1) 6 0) 7 0) 8 0) 9 0) 10 1) 11 0 (-1))) hi3 (wM_sa_13 a z (sa (si (si (si (si (si (si (si (si u 2 x1) 3 0) 1 1) 6 0) 7 0) 8 0) 9 0) 10 1) 11 0 (-1)) 0 0) d_MC_beginCode_53 (fun H locs hI => ?_)
  refine lv_aload_n B.1 B.2.1 d_MC_beginCode_54 rfl (lv_at hl 0 rfl) ?_
  refine rx_get (v := .ref (a 16)) B hI hcl_MC hin_MC 0 (wM_at_0 a z (sa (sa (si (si (si (si (si (si (si (si u 2 x1) 3 0) 1 1) 6 0) 7 0) 8 0) 9 0) 10 1) 11 0 (-1)) 13 0 0)) 27 (by decide) hf_MC_27 zw_423 rfl d_MC_beginCode_55 ?_
  refine lv_iconst (v := 0) B.1 B.2.1 d_MC_beginCode_58 (by decide) ?_
  refine lv_iconst (v := 0) B.1 B.2.1 d_MC_beginCode_59 (by decide) ?_
  obtain ⟨hi4, hf⟩ := zck_some hf
  refine rx_zast B hI 16 (wM_at_16 a z (sa (sa (si (si (si (si (si (si (si (si u 2 x1) 3 0) 1 1) 6 0) 7 0) 8 0) 9 0) 10 1) 11 0 (-1)) 13 0 0)) hi4 (wM_sa_14 a z (sa (sa (si (si (si (si (si (si (si (si u 2 x1) 3 0) 1 1) 6 0) 7 0) 8 0) 9 0) 10 1) 11 0 (-1)) 13 0 0) 0 (vp_nar .boolean 0)) d_MC_beginCode_60 (fun H locs hI => ?_)
  obtain ⟨e5, e6⟩ := zrt hf
  exact zr_v (wM a z) B hI hr hlk e6 d_MC_beginCode_61
set_option maxHeartbeats 4000000 in
set_option maxRecDepth 100000 in
theorem zc_MMC_addRow_0 (l : Launch) (D : va_G) (z : zZ) (a : Nat → Nat) (N : Nat) (x1 : Int32) (x2 : Int64) (u : zU) (r : Unit) (u1 : zU) (hf : zf_MMC_addRow_0 N x1 x2 u = some (r, u1)) : zMet l D z y_MC_addRow (.code y_MC_addRow b_MC_addRow 4 none) { frames := 0, cells := 0, slots := 0, locals := 0 } [.ref (a 0), .int x1, .long x2] (wM a z u) (zQv D (wM a z u1)) := by
  refine zM_v (own := R_MC) [.ref (a 0), .int x1, .long x2] (wM a z u) (wM a z u1) (by decide) rfl (Nat.le_of_ble_eq_true rfl) ?_
  intro p e s m args below meth c A ls B hr hlk hI hl
  have hl : lv_has ls 4 [(0, .ref (a 0)), (1, .int x1), (2, .long x2)] := hl
  revert hf
  revert hI hl
  intro hI hl hf
  unfold zf_MMC_addRow_0 at hf
  refine lv_aload_n B.1 B.2.1 d_MC_addRow_0 rfl (lv_at hl 0 rfl) ?_
  refine rx_get (v := .ref (a 9)) B hI hcl_MC hin_MC 0 (wM_at_0 a z u) 17 (by decide) hf_MC_17 zw_429 rfl d_MC_addRow_1 ?_
  refine lv_aload_n B.1 B.2.1 d_MC_addRow_4 rfl (lv_at hl 0 rfl) ?_
  refine rx_get (v := .int (gi u 6)) B hI hcl_MC hin_MC 0 (wM_at_0 a z u) 15 (by decide) hf_MC_15 zw_416 rfl d_MC_addRow_5 ?_
  refine lv_iload_n B.1 B.2.1 d_MC_addRow_8 rfl (lv_at hl 1 rfl) ?_
  obtain ⟨hi1, hf⟩ := zck_some hf
  refine rx_iast B hI 9 (wM_at_9 a z u) hi1 (wM_sa_8 a z u (gi u 6) x1) d_MC_addRow_9 (fun H locs hI => ?_)
  refine lv_aload_n B.1 B.2.1 d_MC_addRow_10 rfl (lv_at hl 0 rfl) ?_
  refine rx_get (v := .ref (a 10)) B hI hcl_MC hin_MC 0 (wM_at_0 a z (sa u 8 (gi u 6) x1)) 18 (by decide) hf_MC_18 zw_430 rfl d_MC_addRow_11 ?_
  refine lv_aload_n B.1 B.2.1 d_MC_addRow_14 rfl (lv_at hl 0 rfl) ?_
  refine rx_get (v := .int (gi u 6)) B hI hcl_MC hin_MC 0 (wM_at_0 a z (sa u 8 (gi u 6) x1)) 15 (by decide) hf_MC_15 zw_416 rfl d_MC_addRow_15 ?_
  refine lv_lload_n B.1 B.2.1 d_MC_addRow_18 rfl (lv_at hl 2 rfl) ?_
  obtain ⟨hi2, hf⟩ := zck_some hf
  refine rx_last B hI 10 (wM_at_10 a z (sa u 8 (gi u 6) x1)) hi2 (wM_sb_0 a z (sa u 8 (gi u 6) x1) (gi u 6) x2) d_MC_addRow_19 (fun H locs hI => ?_)
  refine lv_aload_n B.1 B.2.1 d_MC_addRow_20 rfl (lv_at hl 0 rfl) ?_
  refine lv_dup B.1 B.2.1 d_MC_addRow_21 rfl ?_
  refine rx_get (v := .int (gi u 6)) B hI hcl_MC hin_MC 0 (wM_at_0 a z (sb (sa u 8 (gi u 6) x1) 0 (gi u 6) x2)) 15 (by decide) hf_MC_15 zw_416 rfl d_MC_addRow_22 ?_
  refine lv_iconst (v := 1) B.1 B.2.1 d_MC_addRow_25 (by decide) ?_
  refine lv_iadd B.1 B.2.1 d_MC_addRow_26 ?_
  refine rx_put B hI hcl_MC hin_MC hty_MC hnm_MC 0 (wM_at_0 a z (sb (sa u 8 (gi u 6) x1) 0 (gi u 6) x2)) 15 (by decide) hf_MC_15 zw_416 rfl (ty := .int) (by decide +kernel) rfl rfl (Nat.le_of_ble_eq_true rfl) (wM_si_6 a z (sb (sa u 8 (gi u 6) x1) 0 (gi u 6) x2) ((gi u 6) + 1)) d_MC_addRow_27 (fun H locs hI => ?_)
  obtain ⟨e3, e4⟩ := zrt hf
  exact zr_v (wM a z) B hI hr hlk e4 d_MC_addRow_30
set_option maxHeartbeats 4000000 in
set_option maxRecDepth 100000 in
theorem zc_MMC_begin_0 (l : Launch) (D : va_G) (z : zZ) (a : Nat → Nat) (N : Nat) (x1 : Int32) (u : zU) (r : Int32) (u1 : zU) (hf : zf_MMC_begin_0 N x1 u = some (r, u1)) : zMet l D z y_MC_begin (.code y_MC_begin b_MC_begin 3 (some (.boolean))) { frames := 1, cells := 0, slots := 0, locals := 23 } [.ref (a 0), .int x1] (wM a z u) (zQi D r (wM a z u1)) := by
  refine zM_i (own := R_MC) [.ref (a 0), .int x1] (wM a z u) r (wM a z u1) (by decide) rfl (Nat.le_of_ble_eq_true rfl) ?_
  intro p e s m args below meth c A ls B hr hlk hI hl
  have hl : lv_has ls 3 [(0, .ref (a 0)), (1, .int x1)] := hl
  revert hf
  revert hI hl
  have hb12 : ∀  (u : zU) (H : Heap) (locs : List Loc) (ls : Array Slot), zf_MMC_begin_0_b12 N   u = some (r, u1) → iw D A s (wM a z u) H locs → lv_has ls 3 [] → W p l e ({ frames := 1, cells := 0, slots := 0, locals := 23 } : Room) s m args below meth c H locs 0 0 (MQ below (zQi D r (wM a z u1) A) args s 0 0 A) (F0 m 12 ls []) := by
    intro  u H locs ls hf hI hl
    unfold zf_MMC_begin_0_b12 at hf
    refine lv_iconst (v := 0) B.1 B.2.1 d_MC_begin_12 (by decide) ?_
    obtain ⟨e1, e2⟩ := zrt hf
    exact zr_z (wM a z) B hI hr hlk (by decide) e1 e2 d_MC_begin_13
  have hb26 : ∀ (n : Nat) (x1 : Int32) (x2 : Int32) (u : zU) (H : Heap) (locs : List Loc) (ls : Array Slot), zf_MMC_begin_0_b26 N  n x1 x2 u = some (r, u1) → iw D A s (wM a z u) H locs → lv_has ls 3 [(0, .ref (a 0)), (1, .int x1), (2, .int x2)] → W p l e ({ frames := 1, cells := 0, slots := 0, locals := 23 } : Room) s m args below meth c H locs 0 0 (MQ below (zQi D r (wM a z u1) A) args s 0 0 A) (F0 m 26 ls []) := by
    intro n26
    induction n26 with
    | zero => intro x1 x2 u H locs ls hf; exact absurd hf (by rw [zf_MMC_begin_0_b26]; exact fun h => by cases h)
    | succ n26 ih26 =>
      intro x1 x2 u H locs ls hf hI hl
      rw [zf_MMC_begin_0_b26] at hf
      refine lv_iload_n B.1 B.2.1 d_MC_begin_26 rfl (lv_at hl 2 rfl) ?_
      refine lv_aload_n B.1 B.2.1 d_MC_begin_27 rfl (lv_at hl 0 rfl) ?_
      refine rx_get (v := .ref (a 1)) B hI hcl_MC hin_MC 0 (wM_at_0 a z u) 1 (by decide) hf_MC_1 zw_409 rfl d_MC_begin_28 ?_
      refine lv_iload_n B.1 B.2.1 d_MC_begin_31 rfl (lv_at hl 1 rfl) ?_
      obtain ⟨hi1, hf⟩ := zck_some hf
      refine rx_iald B hI 1 (wM_at_1 a z u) hi1 d_MC_begin_32 ?_
      refine lv_icmp_ge (tgt := 58) B.1 B.2.1 d_MC_begin_33 (by decide) (fun hc2 => ?_) (fun hc2 => ?_)
      · rw [if_pos hc2] at hf
        refine lv_iconst (v := 1) B.1 B.2.1 d_MC_begin_58 (by decide) ?_
        obtain ⟨e3, e4⟩ := zrt hf
        exact zr_z (wM a z) B hI hr hlk (by decide) e3 e4 d_MC_begin_59
      · rw [if_neg hc2] at hf
        refine lv_aload_n B.1 B.2.1 d_MC_begin_36 rfl (lv_at hl 0 rfl) ?_
        refine lv_aload_n B.1 B.2.1 d_MC_begin_37 rfl (lv_at hl 0 rfl) ?_
        refine rx_get (v := .ref (a 3)) B hI hcl_MC hin_MC 0 (wM_at_0 a z u) 3 (by decide) hf_MC_3 zw_408 rfl d_MC_begin_38 ?_
        refine lv_bipush (v := 12) B.1 B.2.1 d_MC_begin_41 (by decide) ?_
        refine lv_iload_n B.1 B.2.1 d_MC_begin_43 rfl (lv_at hl 1 rfl) ?_
        refine lv_imul B.1 B.2.1 d_MC_begin_44 ?_
        refine lv_iload_n B.1 B.2.1 d_MC_begin_45 rfl (lv_at hl 2 rfl) ?_
        refine lv_iadd B.1 B.2.1 d_MC_begin_46 ?_
        obtain ⟨hi5, hf⟩ := zck_some hf
        refine rx_iald B hI 3 (wM_at_3 a z u) hi5 d_MC_begin_47 ?_
        refine lv_lconst (v := 1) B.1 B.2.1 d_MC_begin_48 (by decide) ?_
        obtain ⟨r6, u7, h8, hf⟩ := zbd_some hf
        refine rx_Vv (n := 2) (As := [.int (ga u 2 ((12 * x1) + x2)), .long 1]) (rest := []) B hI hl.1 (zc_MMC_addRow_0 l D z a N (ga u 2 ((12 * x1) + x2)) 1 u r6 u7 h8) zw_431 zw_433 zw_434 zw_399 zw_432 (by decide +kernel) 0 (wM_at_0 a z u) hcl_MC rfl rfl (Nat.le_of_ble_eq_true rfl) d_MC_begin_49 ⟨Nat.le_of_ble_eq_true rfl, Nat.le_of_ble_eq_true rfl⟩ rfl rfl ⟨Nat.zero_le _, Nat.zero_le _⟩ (fun H locs hI => ?_)
        refine lv_iinc (v := (x2 + 1)) (lv' := [(2, .int (x2 + 1)), (0, .ref (a 0)), (1, .int x1)]) B.1 B.2.1 d_MC_begin_52 hl (k := 2) rfl (by rfl) (by decide) rfl (fun ls hl => ?_)
        refine lv_goto (tgt := 26) B.1 B.2.1 d_MC_begin_55 (by decide) ?_
        exact ih26 x1 (x2 + 1) u7 _ _ _ hf hI (lv_sub hl [1, 2, 0] rfl)
  intro hI hl hf
  unfold zf_MMC_begin_0 at hf
  refine lv_iload_n B.1 B.2.1 d_MC_begin_0 rfl (lv_at hl 1 rfl) ?_
  refine lv_if_lt (tgt := 12) B.1 B.2.1 d_MC_begin_1 (by decide) (fun hc1 => ?_) (fun hc1 => ?_)
  · rw [if_pos hc1] at hf
    exact hb12  u _ _ _ hf hI (lv_sub hl [] rfl)
  · rw [if_neg hc1] at hf
    refine lv_iload_n B.1 B.2.1 d_MC_begin_4 rfl (lv_at hl 1 rfl) ?_
    refine lv_aload_n B.1 B.2.1 d_MC_begin_5 rfl (lv_at hl 0 rfl) ?_
    refine rx_get (v := .int (gi u 0)) B hI hcl_MC hin_MC 0 (wM_at_0 a z u) 0 (by decide) hf_MC_0 zw_397 rfl d_MC_begin_6 ?_
    refine lv_icmp_lt (tgt := 14) B.1 B.2.1 d_MC_begin_9 (by decide) (fun hc2 => ?_) (fun hc2 => ?_)
    · rw [if_pos hc2] at hf
      refine lv_aload_n B.1 B.2.1 d_MC_begin_14 rfl (lv_at hl 0 rfl) ?_
      refine lv_iconst (v := 1) B.1 B.2.1 d_MC_begin_15 (by decide) ?_
      obtain ⟨r3, u4, h5, hf⟩ := zbd_some hf
      refine rx_Vv (n := 1) (As := [.int 1]) (rest := []) B hI hl.1 (zc_MMC_beginCode_0 l D z a N 1 u r3 u4 h5) zw_424 zw_426 zw_427 zw_399 zw_425 (by decide +kernel) 0 (wM_at_0 a z u) hcl_MC rfl rfl (Nat.le_of_ble_eq_true rfl) d_MC_begin_16 ⟨Nat.le_of_ble_eq_true rfl, Nat.le_of_ble_eq_true rfl⟩ rfl rfl ⟨Nat.zero_le _, Nat.zero_le _⟩ (fun H locs hI => ?_)
      refine lv_aload_n B.1 B.2.1 d_MC_begin_19 rfl (lv_at hl 0 rfl) ?_
      refine lv_iload_n B.1 B.2.1 d_MC_begin_20 rfl (lv_at hl 1 rfl) ?_
      refine rx_put B hI hcl_MC hin_MC hty_MC hnm_MC 0 (wM_at_0 a z u4) 12 (by decide) hf_MC_12 zw_428 rfl (ty := .int) (by decide +kernel) rfl rfl (Nat.le_of_ble_eq_true rfl) (wM_si_4 a z u4 x1) d_MC_begin_21 (fun H locs hI => ?_)
      refine lv_iconst (v := 0) B.1 B.2.1 d_MC_begin_24 (by decide) ?_
      refine lv_istore_n (lv' := [(2, .int 0), (0, .ref (a 0)), (1, .int x1)]) B.1 B.2.1 d_MC_begin_25 rfl hl (by decide) rfl (fun ls hl => ?_)
      exact hb26 N x1 0 (si u4 4 x1) _ _ _ hf hI (lv_sub hl [1, 2, 0] rfl)
    · rw [if_neg hc2] at hf
      exact hb12  u _ _ _ hf hI (lv_sub hl [] rfl)
set_option maxHeartbeats 4000000 in
set_option maxRecDepth 100000 in
theorem zc_MMC_constant_0 (l : Launch) (D : va_G) (z : zZ) (a : Nat → Nat) (N : Nat) (x1 : Int32) (x2 : Int32) (u : zU) (r : Int32) (u1 : zU) (hf : zf_MMC_constant_0 N x1 x2 u = some (r, u1)) : zMet l D z y_MC_constant (.code y_MC_constant b_MC_constant 3 (some (.boolean))) { frames := 2, cells := 0, slots := 0, locals := 40 } [.ref (a 0), .int x1, .int x2] (wM a z u) (zQi D r (wM a z u1)) := by
  refine zM_i (own := R_MC) [.ref (a 0), .int x1, .int x2] (wM a z u) r (wM a z u1) (by decide) rfl (Nat.le_of_ble_eq_true rfl) ?_
  intro p e s m args below meth c A ls B hr hlk hI hl
  have hl : lv_has ls 3 [(0, .ref (a 0)), (1, .int x1), (2, .int x2)] := hl
  revert hf
  revert hI hl
  have hb11 : ∀  (u : zU) (H : Heap) (locs : List Loc) (ls : Array Slot), zf_MMC_constant_0_b11 N   u = some (r, u1) → iw D A s (wM a z u) H locs → lv_has ls 3 [] → W p l e ({ frames := 2, cells := 0, slots := 0, locals := 40 } : Room) s m args below meth c H locs 0 0 (MQ below (zQi D r (wM a z u1) A) args s 0 0 A) (F0 m 11 ls []) := by
    intro  u H locs ls hf hI hl
    unfold zf_MMC_constant_0_b11 at hf
    refine lv_iconst (v := 0) B.1 B.2.1 d_MC_constant_11 (by decide) ?_
    obtain ⟨e1, e2⟩ := zrt hf
    exact zr_z (wM a z) B hI hr hlk (by decide) e1 e2 d_MC_constant_12
  intro hI hl hf
  unfold zf_MMC_constant_0 at hf
  refine lv_iload_n B.1 B.2.1 d_MC_constant_0 rfl (lv_at hl 1 rfl) ?_
  obtain ⟨r1, u2, h3, hf⟩ := zbd_some hf
  refine rx_Si (n := 1) (As := [.int x1]) (rest := []) B hI hl.1 (zc_MMC_isValue l D z a N x1 u r1 u2 h3) zw_402 zw_404 zw_399 zw_403 (by decide +kernel) rfl rfl (Nat.le_of_ble_eq_true rfl) d_MC_constant_1 ⟨Nat.le_of_ble_eq_true rfl, Nat.le_of_ble_eq_true rfl⟩ rfl rfl ⟨Nat.zero_le _, Nat.zero_le _⟩ (fun H locs hI => ?_)
  refine lv_if_eq (tgt := 11) B.1 B.2.1 d_MC_constant_4 (by decide) (fun hc4 => ?_) (fun hc4 => ?_)
  · rw [if_pos hc4] at hf
    exact hb11  u2 _ _ _ hf hI (lv_sub hl [] rfl)
  · rw [if_neg hc4] at hf
    refine lv_iload_n B.1 B.2.1 d_MC_constant_7 rfl (lv_at hl 2 rfl) ?_
    refine lv_if_ge (tgt := 13) B.1 B.2.1 d_MC_constant_8 (by decide) (fun hc5 => ?_) (fun hc5 => ?_)
    · rw [if_pos hc5] at hf
      refine lv_aload_n B.1 B.2.1 d_MC_constant_13 rfl (lv_at hl 0 rfl) ?_
      refine lv_iconst (v := 0) B.1 B.2.1 d_MC_constant_14 (by decide) ?_
      obtain ⟨r6, u7, h8, hf⟩ := zbd_some hf
      refine rx_Vv (n := 1) (As := [.int 0]) (rest := []) B hI hl.1 (zc_MMC_beginCode_0 l D z a N 0 u2 r6 u7 h8) zw_424 zw_426 zw_427 zw_399 zw_425 (by decide +kernel) 0 (wM_at_0 a z u2) hcl_MC rfl rfl (Nat.le_of_ble_eq_true rfl) d_MC_constant_15 ⟨Nat.le_of_ble_eq_true rfl, Nat.le_of_ble_eq_true rfl⟩ rfl rfl ⟨Nat.zero_le _, Nat.zero_le _⟩ (fun H locs hI => ?_)
      refine lv_aload_n B.1 B.2.1 d_MC_constant_18 rfl (lv_at hl 0 rfl) ?_
      refine lv_iload_n B.1 B.2.1 d_MC_constant_19 rfl (lv_at hl 1 rfl) ?_
      refine rx_put B hI hcl_MC hin_MC hty_MC hnm_MC 0 (wM_at_0 a z u7) 13 (by decide) hf_MC_13 zw_435 rfl (ty := .int) (by decide +kernel) rfl rfl (Nat.le_of_ble_eq_true rfl) (wM_si_5 a z u7 x1) d_MC_constant_20 (fun H locs hI => ?_)
      refine lv_aload_n B.1 B.2.1 d_MC_constant_23 rfl (lv_at hl 0 rfl) ?_
      refine lv_iload_n B.1 B.2.1 d_MC_constant_24 rfl (lv_at hl 2 rfl) ?_
      refine lv_i2l B.1 B.2.1 d_MC_constant_25 rfl ?_
      refine rx_put B hI hcl_MC hin_MC hty_MC hnm_MC 0 (wM_at_0 a z (si u7 5 x1)) 14 (by decide) hf_MC_14 zw_436 rfl (ty := .long) (by decide +kernel) rfl rfl (Nat.le_of_ble_eq_true rfl) (wM_sj_0 a z (si u7 5 x1) (Int32.toInt64 x2)) d_MC_constant_26 (fun H locs hI => ?_)
      refine lv_iconst (v := 1) B.1 B.2.1 d_MC_constant_29 (by decide) ?_
      obtain ⟨e9, e10⟩ := zrt hf
      exact zr_z (wM a z) B hI hr hlk (by decide) e9 e10 d_MC_constant_30
    · rw [if_neg hc5] at hf
      exact hb11  u2 _ _ _ hf hI (lv_sub hl [] rfl)
