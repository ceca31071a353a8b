set_option maxHeartbeats 4000000 in
set_option maxRecDepth 100000 in
theorem zc_MMC_perform_0 (l : Launch) (D : va_G) (z : zZ) (a : Nat → Nat) (N : Nat) (x1 : Int32) (x2 : Int32) (x3 : Int32) (u : zU) (r : Unit) (u1 : zU) (hf : zf_MMC_perform_0 N x1 x2 x3 u = some (r, u1)) : zMet l D z y_MC_perform (.code y_MC_perform b_MC_perform 4 none) { frames := 6, cells := 0, slots := 0, locals := 130 } [.ref (a 0), .int x1, .int x2, .int x3] (wM a z u) (zQv D (wM a z u1)) := by
  refine zM_v (own := R_MC) [.ref (a 0), .int x1, .int x2, .int x3] (wM a z u) (wM a z u1) (by decide) rfl (Nat.le_of_ble_eq_true rfl) ?_
  intro p e s m args below meth c A ls B hr hlk hI hl
  have hl : lv_has ls 4 [(0, .ref (a 0)), (1, .int x1), (2, .int x2), (3, .int x3)] := hl
  revert hf
  revert hI hl
  have hb80 : ∀  (u : zU) (H : Heap) (locs : List Loc) (ls : Array Slot), zf_MMC_perform_0_b80 N   u = some (r, u1) → iw D A s (wM a z u) H locs → lv_has ls 4 [] → W p l e ({ frames := 6, cells := 0, slots := 0, locals := 130 } : Room) s m args below meth c H locs 0 0 (MQ below (zQv D (wM a z u1) A) args s 0 0 A) (F0 m 80 ls []) := by
    intro  u H locs ls hf hI hl
    unfold zf_MMC_perform_0_b80 at hf
    obtain ⟨e1, e2⟩ := zrt hf
    exact zr_v (wM a z) B hI hr hlk e2 d_MC_perform_80
  have hb66 : ∀ (x1 : Int32) (u : zU) (H : Heap) (locs : List Loc) (ls : Array Slot), zf_MMC_perform_0_b66 N  x1 u = some (r, u1) → iw D A s (wM a z u) H locs → lv_has ls 4 [(0, .ref (a 0)), (1, .int x1)] → W p l e ({ frames := 6, cells := 0, slots := 0, locals := 130 } : Room) s m args below meth c H locs 0 0 (MQ below (zQv D (wM a z u1) A) args s 0 0 A) (F0 m 66 ls []) := by
    intro x1 u H locs ls hf hI hl
    unfold zf_MMC_perform_0_b66 at hf
    refine lv_aload_n B.1 B.2.1 d_MC_perform_66 rfl (lv_at hl 0 rfl) ?_
    refine lv_iload_n B.1 B.2.1 d_MC_perform_67 rfl (lv_at hl 1 rfl) ?_
    obtain ⟨r1, u2, h3, hf⟩ := zbd_some hf
    refine rx_Vv (n := 1) (As := [.int x1]) (rest := []) B hI hl.1 (zc_MMC_number_0 l D z a N x1 u r1 u2 h3) zw_631 zw_633 zw_634 zw_399 zw_632 (by decide +kernel) 0 (wM_at_0 a z u) hcl_MC rfl rfl (Nat.le_of_ble_eq_true rfl) d_MC_perform_68 ⟨Nat.le_of_ble_eq_true rfl, Nat.le_of_ble_eq_true rfl⟩ rfl rfl ⟨Nat.zero_le _, Nat.zero_le _⟩ (fun H locs hI => ?_)
    refine lv_goto (tgt := 80) B.1 B.2.1 d_MC_perform_71 (by decide) ?_
    exact hb80  u2 _ _ _ hf hI (lv_sub hl [] rfl)
  have hb74 : ∀ (x1 : Int32) (x2 : Int32) (u : zU) (H : Heap) (locs : List Loc) (ls : Array Slot), zf_MMC_perform_0_b74 N  x1 x2 u = some (r, u1) → iw D A s (wM a z u) H locs → lv_has ls 4 [(0, .ref (a 0)), (1, .int x1), (2, .int x2)] → W p l e ({ frames := 6, cells := 0, slots := 0, locals := 130 } : Room) s m args below meth c H locs 0 0 (MQ below (zQv D (wM a z u1) A) args s 0 0 A) (F0 m 74 ls []) := by
    intro x1 x2 u H locs ls hf hI hl
    unfold zf_MMC_perform_0_b74 at hf
    refine lv_aload_n B.1 B.2.1 d_MC_perform_74 rfl (lv_at hl 0 rfl) ?_
    refine lv_iload_n B.1 B.2.1 d_MC_perform_75 rfl (lv_at hl 1 rfl) ?_
    refine lv_iload_n B.1 B.2.1 d_MC_perform_76 rfl (lv_at hl 2 rfl) ?_
    obtain ⟨r1, u2, h3, hf⟩ := zbd_some hf
    refine rx_Vv (n := 2) (As := [.int x1, .int x2]) (rest := []) B hI hl.1 (zc_MMC_other_0 l D z a N x1 x2 u r1 u2 h3) zw_617 zw_619 zw_620 zw_399 zw_618 (by decide +kernel) 0 (wM_at_0 a z u) hcl_MC rfl rfl (Nat.le_of_ble_eq_true rfl) d_MC_perform_77 ⟨Nat.le_of_ble_eq_true rfl, Nat.le_of_ble_eq_true rfl⟩ rfl rfl ⟨Nat.zero_le _, Nat.zero_le _⟩ (fun H locs hI => ?_)
    exact hb80  u2 _ _ _ hf hI (lv_sub hl [] rfl)
  intro hI hl hf
  unfold zf_MMC_perform_0 at hf
  refine lv_iload_n B.1 B.2.1 d_MC_perform_0 rfl (lv_at hl 1 rfl) ?_
  refine lv_bipush (v := 18) B.1 B.2.1 d_MC_perform_1 (by decide) ?_
  refine lv_icmp_ge (tgt := 16) B.1 B.2.1 d_MC_perform_3 (by decide) (fun hc1 => ?_) (fun hc1 => ?_)
  · rw [if_pos hc1] at hf
    refine lv_iload_n B.1 B.2.1 d_MC_perform_16 rfl (lv_at hl 1 rfl) ?_
    refine lv_bipush (v := 39) B.1 B.2.1 d_MC_perform_17 (by decide) ?_
    refine lv_icmp_ge (tgt := 31) B.1 B.2.1 d_MC_perform_19 (by decide) (fun hc2 => ?_) (fun hc2 => ?_)
    · rw [if_pos hc2] at hf
      refine lv_iload_n B.1 B.2.1 d_MC_perform_31 rfl (lv_at hl 1 rfl) ?_
      refine lv_bipush (v := 69) B.1 B.2.1 d_MC_perform_32 (by decide) ?_
      refine lv_icmp_ge (tgt := 45) B.1 B.2.1 d_MC_perform_34 (by decide) (fun hc3 => ?_) (fun hc3 => ?_)
      · rw [if_pos hc3] at hf
        refine lv_iload_n B.1 B.2.1 d_MC_perform_45 rfl (lv_at hl 1 rfl) ?_
        refine lv_sipush (v := 197) B.1 B.2.1 d_MC_perform_46 (by decide) ?_
        refine lv_icmp_lt (tgt := 66) B.1 B.2.1 d_MC_perform_49 (by decide) (fun hc4 => ?_) (fun hc4 => ?_)
        · rw [if_pos hc4] at hf
          exact hb66 x1 u _ _ _ hf hI (lv_sub hl [0, 1] rfl)
        · rw [if_neg hc4] at hf
          refine lv_iload_n B.1 B.2.1 d_MC_perform_52 rfl (lv_at hl 1 rfl) ?_
          refine lv_sipush (v := 255) B.1 B.2.1 d_MC_perform_53 (by decide) ?_
          refine lv_icmp_le (tgt := 74) B.1 B.2.1 d_MC_perform_56 (by decide) (fun hc5 => ?_) (fun hc5 => ?_)
          · rw [if_pos hc5] at hf
            exact hb74 x1 x2 u _ _ _ hf hI (lv_sub hl [0, 1, 2] rfl)
          · rw [if_neg hc5] at hf
            refine lv_iload_n B.1 B.2.1 d_MC_perform_59 rfl (lv_at hl 1 rfl) ?_
            refine lv_sipush (v := 264) B.1 B.2.1 d_MC_perform_60 (by decide) ?_
            refine lv_icmp_ge (tgt := 74) B.1 B.2.1 d_MC_perform_63 (by decide) (fun hc6 => ?_) (fun hc6 => ?_)
            · rw [if_pos hc6] at hf
              exact hb74 x1 x2 u _ _ _ hf hI (lv_sub hl [0, 1, 2] rfl)
            · rw [if_neg hc6] at hf
              exact hb66 x1 u _ _ _ hf hI (lv_sub hl [0, 1] rfl)
      · rw [if_neg hc3] at hf
        refine lv_aload_n B.1 B.2.1 d_MC_perform_37 rfl (lv_at hl 0 rfl) ?_
        refine lv_iload_n B.1 B.2.1 d_MC_perform_38 rfl (lv_at hl 1 rfl) ?_
        obtain ⟨r7, u8, h9, hf⟩ := zbd_some hf
        refine rx_Vv (n := 1) (As := [.int x1]) (rest := []) B hI hl.1 (zc_MMC_memory_0 l D z a N x1 u r7 u8 h9) zw_609 zw_611 zw_612 zw_399 zw_610 (by decide +kernel) 0 (wM_at_0 a z u) hcl_MC rfl rfl (Nat.le_of_ble_eq_true rfl) d_MC_perform_39 ⟨Nat.le_of_ble_eq_true rfl, Nat.le_of_ble_eq_true rfl⟩ rfl rfl ⟨Nat.zero_le _, Nat.zero_le _⟩ (fun H locs hI => ?_)
        refine lv_goto (tgt := 80) B.1 B.2.1 d_MC_perform_42 (by decide) ?_
        exact hb80  u8 _ _ _ hf hI (lv_sub hl [] rfl)
    · rw [if_neg hc2] at hf
      refine lv_aload_n B.1 B.2.1 d_MC_perform_22 rfl (lv_at hl 0 rfl) ?_
      refine lv_iload_n B.1 B.2.1 d_MC_perform_23 rfl (lv_at hl 1 rfl) ?_
      refine lv_iload_n B.1 B.2.1 d_MC_perform_24 rfl (lv_at hl 2 rfl) ?_
      obtain ⟨r10, u11, h12, hf⟩ := zbd_some hf
      refine rx_Vv (n := 2) (As := [.int x1, .int x2]) (rest := []) B hI hl.1 (zc_MMC_named_0 l D z a N x1 x2 u r10 u11 h12) zw_605 zw_607 zw_608 zw_399 zw_606 (by decide +kernel) 0 (wM_at_0 a z u) hcl_MC rfl rfl (Nat.le_of_ble_eq_true rfl) d_MC_perform_25 ⟨Nat.le_of_ble_eq_true rfl, Nat.le_of_ble_eq_true rfl⟩ rfl rfl ⟨Nat.zero_le _, Nat.zero_le _⟩ (fun H locs hI => ?_)
      refine lv_goto (tgt := 80) B.1 B.2.1 d_MC_perform_28 (by decide) ?_
      exact hb80  u11 _ _ _ hf hI (lv_sub hl [] rfl)
  · rw [if_neg hc1] at hf
    refine lv_aload_n B.1 B.2.1 d_MC_perform_6 rfl (lv_at hl 0 rfl) ?_
    refine lv_iload_n B.1 B.2.1 d_MC_perform_7 rfl (lv_at hl 1 rfl) ?_
    refine lv_iload_n B.1 B.2.1 d_MC_perform_8 rfl (lv_at hl 2 rfl) ?_
    refine lv_iload_n B.1 B.2.1 d_MC_perform_9 rfl (lv_at hl 3 rfl) ?_
    obtain ⟨r13, u14, h15, hf⟩ := zbd_some hf
    refine rx_Vv (n := 3) (As := [.int x1, .int x2, .int x3]) (rest := []) B hI hl.1 (zc_MMC_control_0 l D z a N x1 x2 x3 u r13 u14 h15) zw_585 zw_587 zw_588 zw_399 zw_586 (by decide +kernel) 0 (wM_at_0 a z u) hcl_MC rfl rfl (Nat.le_of_ble_eq_true rfl) d_MC_perform_10 ⟨Nat.le_of_ble_eq_true rfl, Nat.le_of_ble_eq_true rfl⟩ rfl rfl ⟨Nat.zero_le _, Nat.zero_le _⟩ (fun H locs hI => ?_)
    refine lv_goto (tgt := 80) B.1 B.2.1 d_MC_perform_13 (by decide) ?_
    exact hb80  u14 _ _ _ hf hI (lv_sub hl [] rfl)
set_option maxHeartbeats 4000000 in
set_option maxRecDepth 100000 in
theorem zc_MMC_step_0 (l : Launch) (D : va_G) (z : zZ) (a : Nat → Nat) (N : Nat) (x1 : Int32) (x2 : Int32) (x3 : Int32) (u : zU) (r : Int32) (u1 : zU) (hf : zf_MMC_step_0 N x1 x2 x3 u = some (r, u1)) : zMet l D z y_MC_step (.code y_MC_step b_MC_step 5 (some (.int))) { frames := 7, cells := 0, slots := 0, locals := 153 } [.ref (a 0), .int x1, .int x2, .int x3] (wM a z u) (zQi D r (wM a z u1)) := by
  refine zM_i (own := R_MC) [.ref (a 0), .int x1, .int x2, .int x3] (wM a z u) r (wM a z u1) (by decide) rfl (Nat.le_of_ble_eq_true rfl) ?_
  intro p e s m args below meth c A ls B hr hlk hI hl
  have hl : lv_has ls 5 [(0, .ref (a 0)), (1, .int x1), (2, .int x2), (3, .int x3)] := hl
  revert hf
  revert hI hl
  have hb255 : ∀  (u : zU) (H : Heap) (locs : List Loc) (ls : Array Slot), zf_MMC_step_0_b255 N   u = some (r, u1) → iw D A s (wM a z u) H locs → lv_has ls 5 [] → W p l e ({ frames := 7, cells := 0, slots := 0, locals := 153 } : Room) s m args below meth c H locs 0 0 (MQ below (zQi D r (wM a z u1) A) args s 0 0 A) (F0 m 255 ls []) := by
    intro  u H locs ls hf hI hl
    unfold zf_MMC_step_0_b255 at hf
    refine lv_iconst (v := 0) B.1 B.2.1 d_MC_step_255 (by decide) ?_
    obtain ⟨e1, e2⟩ := zrt hf
    exact zr_i (wM a z) B hI hr hlk e1 e2 d_MC_step_256
  have hb243 : ∀  (u : zU) (H : Heap) (locs : List Loc) (ls : Array Slot), zf_MMC_step_0_b243 N   u = some (r, u1) → iw D A s (wM a z u) H locs → lv_has ls 5 [(0, .ref (a 0))] → W p l e ({ frames := 7, cells := 0, slots := 0, locals := 153 } : Room) s m args below meth c H locs 0 0 (MQ below (zQi D r (wM a z u1) A) args s 0 0 A) (F0 m 243 ls []) := by
    intro  u H locs ls hf hI hl
    unfold zf_MMC_step_0_b243 at hf
    refine lv_aload_n B.1 B.2.1 d_MC_step_243 rfl (lv_at hl 0 rfl) ?_
    refine rx_get (v := .int (gi u 10)) B hI hcl_MC hin_MC 0 (wM_at_0 a z u) 22 (by decide) hf_MC_22 zw_420 rfl d_MC_step_244 ?_
    refine lv_if_ne (tgt := 255) B.1 B.2.1 d_MC_step_247 (by decide) (fun hc1 => ?_) (fun hc1 => ?_)
    · rw [if_neg hc1] at hf
      exact hb255  u _ _ _ hf hI (lv_sub hl [] rfl)
    · rw [if_pos hc1] at hf
      refine lv_aload_n B.1 B.2.1 d_MC_step_250 rfl (lv_at hl 0 rfl) ?_
      refine lv_iconst (v := 2) B.1 B.2.1 d_MC_step_251 (by decide) ?_
      refine rx_put B hI hcl_MC hin_MC hty_MC hnm_MC 0 (wM_at_0 a z u) 9 (by decide) hf_MC_9 zw_405 rfl (ty := .int) (by decide +kernel) rfl rfl (Nat.le_of_ble_eq_true rfl) (wM_si_1 a z u 2) d_MC_step_252 (fun H locs hI => ?_)
      exact hb255  (si u 1 2) _ _ _ hf hI (lv_sub hl [] rfl)
  have hb226 : ∀  (u : zU) (H : Heap) (locs : List Loc) (ls : Array Slot), zf_MMC_step_0_b226 N   u = some (r, u1) → iw D A s (wM a z u) H locs → lv_has ls 5 [(0, .ref (a 0))] → W p l e ({ frames := 7, cells := 0, slots := 0, locals := 153 } : Room) s m args below meth c H locs 0 0 (MQ below (zQi D r (wM a z u1) A) args s 0 0 A) (F0 m 226 ls []) := by
    intro  u H locs ls hf hI hl
    unfold zf_MMC_step_0_b226 at hf
    refine lv_aload_n B.1 B.2.1 d_MC_step_226 rfl (lv_at hl 0 rfl) ?_
    refine rx_get (v := .int (gi u 16)) B hI hcl_MC hin_MC 0 (wM_at_0 a z u) 34 (by decide) hf_MC_34 zw_445 rfl d_MC_step_227 ?_
    refine lv_if_eq (tgt := 243) B.1 B.2.1 d_MC_step_230 (by decide) (fun hc1 => ?_) (fun hc1 => ?_)
    · rw [if_pos hc1] at hf
      exact hb243  u _ _ _ hf hI (lv_sub hl [0] rfl)
    · rw [if_neg hc1] at hf
      refine lv_aload_n B.1 B.2.1 d_MC_step_233 rfl (lv_at hl 0 rfl) ?_
      refine lv_dup B.1 B.2.1 d_MC_step_234 rfl ?_
      refine rx_get (v := .int (gi u 10)) B hI hcl_MC hin_MC 0 (wM_at_0 a z u) 22 (by decide) hf_MC_22 zw_420 rfl d_MC_step_235 ?_
      refine lv_iconst (v := 1) B.1 B.2.1 d_MC_step_238 (by decide) ?_
      refine lv_isub B.1 B.2.1 d_MC_step_239 ?_
      refine rx_put B hI hcl_MC hin_MC hty_MC hnm_MC 0 (wM_at_0 a z u) 22 (by decide) hf_MC_22 zw_420 rfl (ty := .int) (by decide +kernel) rfl rfl (Nat.le_of_ble_eq_true rfl) (wM_si_10 a z u ((gi u 10) - 1)) d_MC_step_240 (fun H locs hI => ?_)
      exact hb243  (si u 10 ((gi u 10) - 1)) _ _ _ hf hI (lv_sub hl [0] rfl)
  have hb203 : ∀ (x4 : Int32) (u : zU) (H : Heap) (locs : List Loc) (ls : Array Slot), zf_MMC_step_0_b203 N  x4 u = some (r, u1) → iw D A s (wM a z u) H locs → lv_has ls 5 [(0, .ref (a 0)), (4, .int x4)] → W p l e ({ frames := 7, cells := 0, slots := 0, locals := 153 } : Room) s m args below meth c H locs 0 0 (MQ below (zQi D r (wM a z u1) A) args s 0 0 A) (F0 m 203 ls []) := by
    intro x4 u H locs ls hf hI hl
    unfold zf_MMC_step_0_b203 at hf
    refine lv_aload_n B.1 B.2.1 d_MC_step_203 rfl (lv_at hl 0 rfl) ?_
    refine rx_get (v := .int (gi u 17)) B hI hcl_MC hin_MC 0 (wM_at_0 a z u) 35 (by decide) hf_MC_35 zw_446 rfl d_MC_step_204 ?_
    refine lv_if_eq (tgt := 226) B.1 B.2.1 d_MC_step_207 (by decide) (fun hc1 => ?_) (fun hc1 => ?_)
    · rw [if_pos hc1] at hf
      exact hb226  u _ _ _ hf hI (lv_sub hl [0] rfl)
    · rw [if_neg hc1] at hf
      refine lv_aload_n B.1 B.2.1 d_MC_step_210 rfl (lv_at hl 0 rfl) ?_
      refine rx_get (v := .ref (a 13)) B hI hcl_MC hin_MC 0 (wM_at_0 a z u) 24 (by decide) hf_MC_24 zw_421 rfl d_MC_step_211 ?_
      refine lv_iload B.1 B.2.1 d_MC_step_214 (lv_at hl 1 rfl) ?_
      refine lv_iconst (v := 5) B.1 B.2.1 d_MC_step_216 (by decide) ?_
      obtain ⟨hi2, hf⟩ := zck_some hf
      refine rx_iast B hI 13 (wM_at_13 a z u) hi2 (wM_sa_11 a z u x4 5) d_MC_step_217 (fun H locs hI => ?_)
      refine lv_aload_n B.1 B.2.1 d_MC_step_218 rfl (lv_at hl 0 rfl) ?_
      refine rx_get (v := .ref (a 16)) B hI hcl_MC hin_MC 0 (wM_at_0 a z (sa u 11 x4 5)) 27 (by decide) hf_MC_27 zw_423 rfl d_MC_step_219 ?_
      refine lv_iload B.1 B.2.1 d_MC_step_222 (lv_at hl 1 rfl) ?_
      refine lv_iconst (v := 0) B.1 B.2.1 d_MC_step_224 (by decide) ?_
      obtain ⟨hi3, hf⟩ := zck_some hf
      refine rx_zast B hI 16 (wM_at_16 a z (sa u 11 x4 5)) hi3 (wM_sa_14 a z (sa u 11 x4 5) x4 (vp_nar .boolean 0)) d_MC_step_225 (fun H locs hI => ?_)
      exact hb226  (sa (sa u 11 x4 5) 14 x4 (vp_nar .boolean 0)) _ _ _ hf hI (lv_sub hl [0] rfl)
  have hb186 : ∀ (x4 : Int32) (u : zU) (H : Heap) (locs : List Loc) (ls : Array Slot), zf_MMC_step_0_b186 N  x4 u = some (r, u1) → iw D A s (wM a z u) H locs → lv_has ls 5 [(0, .ref (a 0)), (4, .int x4)] → W p l e ({ frames := 7, cells := 0, slots := 0, locals := 153 } : Room) s m args below meth c H locs 0 0 (MQ below (zQi D r (wM a z u1) A) args s 0 0 A) (F0 m 186 ls []) := by
    intro x4 u H locs ls hf hI hl
    unfold zf_MMC_step_0_b186 at hf
    refine lv_aload_n B.1 B.2.1 d_MC_step_186 rfl (lv_at hl 0 rfl) ?_
    refine rx_get (v := .int (gi u 15)) B hI hcl_MC hin_MC 0 (wM_at_0 a z u) 33 (by decide) hf_MC_33 zw_444 rfl d_MC_step_187 ?_
    refine lv_if_eq (tgt := 203) B.1 B.2.1 d_MC_step_190 (by decide) (fun hc1 => ?_) (fun hc1 => ?_)
    · rw [if_pos hc1] at hf
      exact hb203 x4 u _ _ _ hf hI (lv_sub hl [0, 1] rfl)
    · rw [if_neg hc1] at hf
      refine lv_aload_n B.1 B.2.1 d_MC_step_193 rfl (lv_at hl 0 rfl) ?_
      refine lv_dup B.1 B.2.1 d_MC_step_194 rfl ?_
      refine rx_get (v := .int (gi u 10)) B hI hcl_MC hin_MC 0 (wM_at_0 a z u) 22 (by decide) hf_MC_22 zw_420 rfl d_MC_step_195 ?_
      refine lv_iconst (v := 1) B.1 B.2.1 d_MC_step_198 (by decide) ?_
      refine lv_iadd B.1 B.2.1 d_MC_step_199 ?_
      refine rx_put B hI hcl_MC hin_MC hty_MC hnm_MC 0 (wM_at_0 a z u) 22 (by decide) hf_MC_22 zw_420 rfl (ty := .int) (by decide +kernel) rfl rfl (Nat.le_of_ble_eq_true rfl) (wM_si_10 a z u ((gi u 10) + 1)) d_MC_step_200 (fun H locs hI => ?_)
      exact hb203 x4 (si u 10 ((gi u 10) + 1)) _ _ _ hf hI (lv_sub hl [0, 1] rfl)
  have hb134 : ∀ (n : Nat) (x4 : Int32) (u : zU) (H : Heap) (locs : List Loc) (ls : Array Slot), zf_MMC_step_0_b134 N  n x4 u = some (r, u1) → iw D A s (wM a z u) H locs → lv_has ls 5 [(0, .ref (a 0)), (4, .int x4)] → W p l e ({ frames := 7, cells := 0, slots := 0, locals := 153 } : Room) s m args below meth c H locs 0 0 (MQ below (zQi D r (wM a z u1) A) args s 0 0 A) (F0 m 134 ls []) := by
    intro n134
    induction n134 with
    | zero => intro x4 u H locs ls hf; exact absurd hf (by rw [zf_MMC_step_0_b134]; exact fun h => by cases h)
    | succ n134 ih134 =>
      intro x4 u H locs ls hf hI hl
      rw [zf_MMC_step_0_b134] at hf
      refine lv_iload B.1 B.2.1 d_MC_step_134 (lv_at hl 1 rfl) ?_
      refine lv_aload_n B.1 B.2.1 d_MC_step_136 rfl (lv_at hl 0 rfl) ?_
      refine rx_get (v := .int (gi u 13)) B hI hcl_MC hin_MC 0 (wM_at_0 a z u) 30 (by decide) hf_MC_30 zw_440 rfl d_MC_step_137 ?_
      refine lv_icmp_ge (tgt := 163) B.1 B.2.1 d_MC_step_140 (by decide) (fun hc1 => ?_) (fun hc1 => ?_)
      · rw [if_pos hc1] at hf
        refine lv_aload_n B.1 B.2.1 d_MC_step_163 rfl (lv_at hl 0 rfl) ?_
        refine rx_get (v := .int (gi u 10)) B hI hcl_MC hin_MC 0 (wM_at_0 a z u) 22 (by decide) hf_MC_22 zw_420 rfl d_MC_step_164 ?_
        refine lv_iconst (v := 1) B.1 B.2.1 d_MC_step_167 (by decide) ?_
        refine lv_isub B.1 B.2.1 d_MC_step_168 ?_
        refine lv_istore (lv' := [(4, .int ((gi u 10) - 1)), (0, .ref (a 0))]) B.1 B.2.1 d_MC_step_169 hl (by decide) rfl (fun ls hl => ?_)
        refine lv_aload_n B.1 B.2.1 d_MC_step_171 rfl (lv_at hl 1 rfl) ?_
        refine rx_get (v := .int (gi u 14)) B hI hcl_MC hin_MC 0 (wM_at_0 a z u) 32 (by decide) hf_MC_32 zw_443 rfl d_MC_step_172 ?_
        refine lv_if_eq (tgt := 186) B.1 B.2.1 d_MC_step_175 (by decide) (fun hc2 => ?_) (fun hc2 => ?_)
        · rw [if_pos hc2] at hf
          exact hb186 ((gi u 10) - 1) u _ _ _ hf hI (lv_sub hl [1, 0] rfl)
        · rw [if_neg hc2] at hf
          refine lv_aload_n B.1 B.2.1 d_MC_step_178 rfl (lv_at hl 1 rfl) ?_
          refine rx_get (v := .ref (a 16)) B hI hcl_MC hin_MC 0 (wM_at_0 a z u) 27 (by decide) hf_MC_27 zw_423 rfl d_MC_step_179 ?_
          refine lv_iload B.1 B.2.1 d_MC_step_182 (lv_at hl 0 rfl) ?_
          refine lv_iconst (v := 1) B.1 B.2.1 d_MC_step_184 (by decide) ?_
          obtain ⟨hi3, hf⟩ := zck_some hf
          refine rx_zast B hI 16 (wM_at_16 a z u) hi3 (wM_sa_14 a z u ((gi u 10) - 1) (vp_nar .boolean 1)) d_MC_step_185 (fun H locs hI => ?_)
          exact hb186 ((gi u 10) - 1) (sa u 14 ((gi u 10) - 1) (vp_nar .boolean 1)) _ _ _ hf hI (lv_sub hl [1, 0] rfl)
      · rw [if_neg hc1] at hf
        refine lv_aload_n B.1 B.2.1 d_MC_step_143 rfl (lv_at hl 0 rfl) ?_
        refine rx_get (v := .ref (a 12)) B hI hcl_MC hin_MC 0 (wM_at_0 a z u) 23 (by decide) hf_MC_23 zw_442 rfl d_MC_step_144 ?_
        refine lv_iload B.1 B.2.1 d_MC_step_147 (lv_at hl 1 rfl) ?_
        refine lv_aload_n B.1 B.2.1 d_MC_step_149 rfl (lv_at hl 0 rfl) ?_
        refine rx_get (v := .ref (a 17)) B hI hcl_MC hin_MC 0 (wM_at_0 a z u) 31 (by decide) hf_MC_31 zw_441 rfl d_MC_step_150 ?_
        refine lv_iload B.1 B.2.1 d_MC_step_153 (lv_at hl 1 rfl) ?_
        obtain ⟨hi4, hf⟩ := zck_some hf
        refine rx_iald B hI 17 (wM_at_17 a z u) hi4 d_MC_step_155 ?_
        obtain ⟨hi5, hf⟩ := zck_some hf
        refine rx_iast B hI 12 (wM_at_12 a z u) hi5 (wM_sa_10 a z u x4 (ga u 15 x4)) d_MC_step_156 (fun H locs hI => ?_)
        refine lv_iinc (v := (x4 + 1)) (lv' := [(4, .int (x4 + 1)), (0, .ref (a 0))]) B.1 B.2.1 d_MC_step_157 hl (k := 1) rfl (by rfl) (by decide) rfl (fun ls hl => ?_)
        refine lv_goto (tgt := 134) B.1 B.2.1 d_MC_step_160 (by decide) ?_
        exact ih134 (x4 + 1) (sa u 10 x4 (ga u 15 x4)) _ _ _ hf hI (lv_sub hl [1, 0] rfl)
  have hb96 : ∀  (u : zU) (H : Heap) (locs : List Loc) (ls : Array Slot), zf_MMC_step_0_b96 N   u = some (r, u1) → iw D A s (wM a z u) H locs → lv_has ls 5 [(0, .ref (a 0))] → W p l e ({ frames := 7, cells := 0, slots := 0, locals := 153 } : Room) s m args below meth c H locs 0 0 (MQ below (zQi D r (wM a z u1) A) args s 0 0 A) (F0 m 96 ls []) := by
    intro  u H locs ls hf hI hl
    unfold zf_MMC_step_0_b96 at hf
    refine lv_aload_n B.1 B.2.1 d_MC_step_96 rfl (lv_at hl 0 rfl) ?_
    refine rx_get (v := .int (gi u 11)) B hI hcl_MC hin_MC 0 (wM_at_0 a z u) 28 (by decide) hf_MC_28 zw_439 rfl d_MC_step_97 ?_
    refine lv_if_le (tgt := 113) B.1 B.2.1 d_MC_step_100 (by decide) (fun hc1 => ?_) (fun hc1 => ?_)
    · rw [if_pos hc1] at hf
      refine lv_aload_n B.1 B.2.1 d_MC_step_113 rfl (lv_at hl 0 rfl) ?_
      refine lv_iconst (v := 1) B.1 B.2.1 d_MC_step_114 (by decide) ?_
      refine rx_put B hI hcl_MC hin_MC hty_MC hnm_MC 0 (wM_at_0 a z u) 11 (by decide) hf_MC_11 zw_415 rfl (ty := .boolean) (by decide +kernel) (by decide) (by decide) (Nat.le_of_ble_eq_true rfl) (wM_si_3 a z u 1) d_MC_step_115 (fun H locs hI => ?_)
      refine lv_aload_n B.1 B.2.1 d_MC_step_118 rfl (lv_at hl 0 rfl) ?_
      refine lv_iconst (v := 0) B.1 B.2.1 d_MC_step_119 (by decide) ?_
      refine rx_put B hI hcl_MC hin_MC hty_MC hnm_MC 0 (wM_at_0 a z (si u 3 1)) 19 (by decide) hf_MC_19 zw_418 rfl (ty := .int) (by decide +kernel) rfl rfl (Nat.le_of_ble_eq_true rfl) (wM_si_8 a z (si u 3 1) 0) d_MC_step_120 (fun H locs hI => ?_)
      refine lv_aload_n B.1 B.2.1 d_MC_step_123 rfl (lv_at hl 0 rfl) ?_
      refine lv_aload_n B.1 B.2.1 d_MC_step_124 rfl (lv_at hl 0 rfl) ?_
      refine rx_get (v := .int (gi u 13)) B hI hcl_MC hin_MC 0 (wM_at_0 a z (si (si u 3 1) 8 0)) 30 (by decide) hf_MC_30 zw_440 rfl d_MC_step_125 ?_
      refine rx_put B hI hcl_MC hin_MC hty_MC hnm_MC 0 (wM_at_0 a z (si (si u 3 1) 8 0)) 21 (by decide) hf_MC_21 zw_419 rfl (ty := .int) (by decide +kernel) rfl rfl (Nat.le_of_ble_eq_true rfl) (wM_si_9 a z (si (si u 3 1) 8 0) (gi u 13)) d_MC_step_128 (fun H locs hI => ?_)
      refine lv_iconst (v := 0) B.1 B.2.1 d_MC_step_131 (by decide) ?_
      refine lv_istore (lv' := [(4, .int 0), (0, .ref (a 0))]) B.1 B.2.1 d_MC_step_132 hl (by decide) rfl (fun ls hl => ?_)
      exact hb134 N 0 (si (si (si u 3 1) 8 0) 9 (gi u 13)) _ _ _ hf hI (lv_sub hl [1, 0] rfl)
    · rw [if_neg hc1] at hf
      refine lv_aload_n B.1 B.2.1 d_MC_step_103 rfl (lv_at hl 0 rfl) ?_
      refine lv_iconst (v := 0) B.1 B.2.1 d_MC_step_104 (by decide) ?_
      refine rx_put B hI hcl_MC hin_MC hty_MC hnm_MC 0 (wM_at_0 a z u) 9 (by decide) hf_MC_9 zw_405 rfl (ty := .int) (by decide +kernel) rfl rfl (Nat.le_of_ble_eq_true rfl) (wM_si_1 a z u 0) d_MC_step_105 (fun H locs hI => ?_)
      refine lv_aload_n B.1 B.2.1 d_MC_step_108 rfl (lv_at hl 0 rfl) ?_
      refine rx_get (v := .int (gi u 11)) B hI hcl_MC hin_MC 0 (wM_at_0 a z (si u 1 0)) 28 (by decide) hf_MC_28 zw_439 rfl d_MC_step_109 ?_
      obtain ⟨e2, e3⟩ := zrt hf
      exact zr_i (wM a z) B hI hr hlk e2 e3 d_MC_step_112
  have hb26 : ∀ (n : Nat) (x1 : Int32) (x2 : Int32) (x3 : Int32) (x4 : Int32) (u : zU) (H : Heap) (locs : List Loc) (ls : Array Slot), zf_MMC_step_0_b26 N  n x1 x2 x3 x4 u = some (r, u1) → iw D A s (wM a z u) H locs → lv_has ls 5 [(0, .ref (a 0)), (1, .int x1), (2, .int x2), (3, .int x3), (4, .int x4)] → W p l e ({ frames := 7, cells := 0, slots := 0, locals := 153 } : Room) s m args below meth c H locs 0 0 (MQ below (zQi D r (wM a z u1) A) args s 0 0 A) (F0 m 26 ls []) := by
    intro n26
    induction n26 with
    | zero => intro x1 x2 x3 x4 u H locs ls hf; exact absurd hf (by rw [zf_MMC_step_0_b26]; exact fun h => by cases h)
    | succ n26 ih26 =>
      intro x1 x2 x3 x4 u H locs ls hf hI hl
      rw [zf_MMC_step_0_b26] at hf
      refine lv_iload B.1 B.2.1 d_MC_step_26 (lv_at hl 4 rfl) ?_
      refine lv_aload_n B.1 B.2.1 d_MC_step_28 rfl (lv_at hl 0 rfl) ?_
      refine rx_get (v := .int (gi u 9)) B hI hcl_MC hin_MC 0 (wM_at_0 a z u) 21 (by decide) hf_MC_21 zw_419 rfl d_MC_step_29 ?_
      refine lv_icmp_ge (tgt := 55) B.1 B.2.1 d_MC_step_32 (by decide) (fun hc1 => ?_) (fun hc1 => ?_)
      · rw [if_pos hc1] at hf
        refine lv_aload_n B.1 B.2.1 d_MC_step_55 rfl (lv_at hl 0 rfl) ?_
        refine lv_iconst (v := 0) B.1 B.2.1 d_MC_step_56 (by decide) ?_
        refine rx_put B hI hcl_MC hin_MC hty_MC hnm_MC 0 (wM_at_0 a z u) 32 (by decide) hf_MC_32 zw_443 rfl (ty := .boolean) (by decide +kernel) (by decide) (by decide) (Nat.le_of_ble_eq_true rfl) (wM_si_14 a z u 0) d_MC_step_57 (fun H locs hI => ?_)
        refine lv_aload_n B.1 B.2.1 d_MC_step_60 rfl (lv_at hl 0 rfl) ?_
        refine lv_iconst (v := 0) B.1 B.2.1 d_MC_step_61 (by decide) ?_
        refine rx_put B hI hcl_MC hin_MC hty_MC hnm_MC 0 (wM_at_0 a z (si u 14 0)) 33 (by decide) hf_MC_33 zw_444 rfl (ty := .boolean) (by decide +kernel) (by decide) (by decide) (Nat.le_of_ble_eq_true rfl) (wM_si_15 a z (si u 14 0) 0) d_MC_step_62 (fun H locs hI => ?_)
        refine lv_aload_n B.1 B.2.1 d_MC_step_65 rfl (lv_at hl 0 rfl) ?_
        refine lv_iconst (v := 0) B.1 B.2.1 d_MC_step_66 (by decide) ?_
        refine rx_put B hI hcl_MC hin_MC hty_MC hnm_MC 0 (wM_at_0 a z (si (si u 14 0) 15 0)) 34 (by decide) hf_MC_34 zw_445 rfl (ty := .boolean) (by decide +kernel) (by decide) (by decide) (Nat.le_of_ble_eq_true rfl) (wM_si_16 a z (si (si u 14 0) 15 0) 0) d_MC_step_67 (fun H locs hI => ?_)
        refine lv_aload_n B.1 B.2.1 d_MC_step_70 rfl (lv_at hl 0 rfl) ?_
        refine lv_iconst (v := 0) B.1 B.2.1 d_MC_step_71 (by decide) ?_
        refine rx_put B hI hcl_MC hin_MC hty_MC hnm_MC 0 (wM_at_0 a z (si (si (si u 14 0) 15 0) 16 0)) 35 (by decide) hf_MC_35 zw_446 rfl (ty := .boolean) (by decide +kernel) (by decide) (by decide) (Nat.le_of_ble_eq_true rfl) (wM_si_17 a z (si (si (si u 14 0) 15 0) 16 0) 0) d_MC_step_72 (fun H locs hI => ?_)
        refine lv_aload_n B.1 B.2.1 d_MC_step_75 rfl (lv_at hl 0 rfl) ?_
        refine lv_iload_n B.1 B.2.1 d_MC_step_76 rfl (lv_at hl 1 rfl) ?_
        refine lv_iload_n B.1 B.2.1 d_MC_step_77 rfl (lv_at hl 2 rfl) ?_
        refine lv_iload_n B.1 B.2.1 d_MC_step_78 rfl (lv_at hl 3 rfl) ?_
        obtain ⟨r2, u3, h4, hf⟩ := zbd_some hf
        refine rx_Vv (n := 3) (As := [.int x1, .int x2, .int x3]) (rest := []) B hI hl.1 (zc_MMC_examine_0 l D z a N x1 x2 x3 (si (si (si (si u 14 0) 15 0) 16 0) 17 0) r2 u3 h4) zw_492 zw_494 zw_495 zw_399 zw_493 (by decide +kernel) 0 (wM_at_0 a z (si (si (si (si u 14 0) 15 0) 16 0) 17 0)) hcl_MC rfl rfl (Nat.le_of_ble_eq_true rfl) d_MC_step_79 ⟨Nat.le_of_ble_eq_true rfl, Nat.le_of_ble_eq_true rfl⟩ rfl rfl ⟨Nat.zero_le _, Nat.zero_le _⟩ (fun H locs hI => ?_)
        refine lv_aload_n B.1 B.2.1 d_MC_step_82 rfl (lv_at hl 0 rfl) ?_
        refine rx_get (v := .int (gi u3 11)) B hI hcl_MC hin_MC 0 (wM_at_0 a z u3) 28 (by decide) hf_MC_28 zw_439 rfl d_MC_step_83 ?_
        refine lv_if_ne (tgt := 96) B.1 B.2.1 d_MC_step_86 (by decide) (fun hc5 => ?_) (fun hc5 => ?_)
        · rw [if_neg hc5] at hf
          exact hb96  u3 _ _ _ hf hI (lv_sub hl [0] rfl)
        · rw [if_pos hc5] at hf
          refine lv_aload_n B.1 B.2.1 d_MC_step_89 rfl (lv_at hl 0 rfl) ?_
          refine lv_iload_n B.1 B.2.1 d_MC_step_90 rfl (lv_at hl 1 rfl) ?_
          refine lv_iload_n B.1 B.2.1 d_MC_step_91 rfl (lv_at hl 2 rfl) ?_
          refine lv_iload_n B.1 B.2.1 d_MC_step_92 rfl (lv_at hl 3 rfl) ?_
          obtain ⟨r6, u7, h8, hf⟩ := zbd_some hf
          refine rx_Vv (n := 3) (As := [.int x1, .int x2, .int x3]) (rest := []) B hI hl.1 (zc_MMC_perform_0 l D z a N x1 x2 x3 u3 r6 u7 h8) zw_635 zw_637 zw_638 zw_399 zw_636 (by decide +kernel) 0 (wM_at_0 a z u3) hcl_MC rfl rfl (Nat.le_of_ble_eq_true rfl) d_MC_step_93 ⟨Nat.le_of_ble_eq_true rfl, Nat.le_of_ble_eq_true rfl⟩ rfl rfl ⟨Nat.zero_le _, Nat.zero_le _⟩ (fun H locs hI => ?_)
          exact hb96  u7 _ _ _ hf hI (lv_sub hl [0] rfl)
      · rw [if_neg hc1] at hf
        refine lv_aload_n B.1 B.2.1 d_MC_step_35 rfl (lv_at hl 0 rfl) ?_
        refine rx_get (v := .ref (a 17)) B hI hcl_MC hin_MC 0 (wM_at_0 a z u) 31 (by decide) hf_MC_31 zw_441 rfl d_MC_step_36 ?_
        refine lv_iload B.1 B.2.1 d_MC_step_39 (lv_at hl 4 rfl) ?_
        refine lv_aload_n B.1 B.2.1 d_MC_step_41 rfl (lv_at hl 0 rfl) ?_
        refine rx_get (v := .ref (a 12)) B hI hcl_MC hin_MC 0 (wM_at_0 a z u) 23 (by decide) hf_MC_23 zw_442 rfl d_MC_step_42 ?_
        refine lv_iload B.1 B.2.1 d_MC_step_45 (lv_at hl 4 rfl) ?_
        obtain ⟨hi9, hf⟩ := zck_some hf
        refine rx_iald B hI 12 (wM_at_12 a z u) hi9 d_MC_step_47 ?_
        obtain ⟨hi10, hf⟩ := zck_some hf
        refine rx_iast B hI 17 (wM_at_17 a z u) hi10 (wM_sa_15 a z u x4 (ga u 10 x4)) d_MC_step_48 (fun H locs hI => ?_)
        refine lv_iinc (v := (x4 + 1)) (lv' := [(4, .int (x4 + 1)), (0, .ref (a 0)), (1, .int x1), (2, .int x2), (3, .int x3)]) B.1 B.2.1 d_MC_step_49 hl (k := 4) rfl (by rfl) (by decide) rfl (fun ls hl => ?_)
        refine lv_goto (tgt := 26) B.1 B.2.1 d_MC_step_52 (by decide) ?_
        exact ih26 x1 x2 x3 (x4 + 1) (sa u 15 x4 (ga u 10 x4)) _ _ _ hf hI (lv_sub hl [1, 2, 3, 4, 0] rfl)
  intro hI hl hf
  unfold zf_MMC_step_0 at hf
  refine lv_aload_n B.1 B.2.1 d_MC_step_0 rfl (lv_at hl 0 rfl) ?_
  refine rx_get (v := .int (gi u 1)) B hI hcl_MC hin_MC 0 (wM_at_0 a z u) 9 (by decide) hf_MC_9 zw_405 rfl d_MC_step_1 ?_
  refine lv_iconst (v := 1) B.1 B.2.1 d_MC_step_4 (by decide) ?_
  refine lv_icmp_eq (tgt := 10) B.1 B.2.1 d_MC_step_5 (by decide) (fun hc1 => ?_) (fun hc1 => ?_)
  · rw [if_pos hc1] at hf
    refine lv_aload_n B.1 B.2.1 d_MC_step_10 rfl (lv_at hl 0 rfl) ?_
    refine lv_iconst (v := 0) B.1 B.2.1 d_MC_step_11 (by decide) ?_
    refine rx_put B hI hcl_MC hin_MC hty_MC hnm_MC 0 (wM_at_0 a z u) 28 (by decide) hf_MC_28 zw_439 rfl (ty := .int) (by decide +kernel) rfl rfl (Nat.le_of_ble_eq_true rfl) (wM_si_11 a z u 0) d_MC_step_12 (fun H locs hI => ?_)
    refine lv_aload_n B.1 B.2.1 d_MC_step_15 rfl (lv_at hl 0 rfl) ?_
    refine lv_aload_n B.1 B.2.1 d_MC_step_16 rfl (lv_at hl 0 rfl) ?_
    refine rx_get (v := .int (gi u 9)) B hI hcl_MC hin_MC 0 (wM_at_0 a z (si u 11 0)) 21 (by decide) hf_MC_21 zw_419 rfl d_MC_step_17 ?_
    refine rx_put B hI hcl_MC hin_MC hty_MC hnm_MC 0 (wM_at_0 a z (si u 11 0)) 30 (by decide) hf_MC_30 zw_440 rfl (ty := .int) (by decide +kernel) rfl rfl (Nat.le_of_ble_eq_true rfl) (wM_si_13 a z (si u 11 0) (gi u 9)) d_MC_step_20 (fun H locs hI => ?_)
    refine lv_iconst (v := 0) B.1 B.2.1 d_MC_step_23 (by decide) ?_
    refine lv_istore (lv' := [(4, .int 0), (0, .ref (a 0)), (1, .int x1), (2, .int x2), (3, .int x3)]) B.1 B.2.1 d_MC_step_24 hl (by decide) rfl (fun ls hl => ?_)
    exact hb26 N x1 x2 x3 0 (si (si u 11 0) 13 (gi u 9)) _ _ _ hf hI (lv_sub hl [1, 2, 3, 4, 0] rfl)
  · rw [if_neg hc1] at hf
    refine lv_iconst (v := (-1)) B.1 B.2.1 d_MC_step_8 (by decide) ?_
    obtain ⟨e2, e3⟩ := zrt hf
    exact zr_i (wM a z) B hI hr hlk e2 e3 d_MC_step_9
set_option maxHeartbeats 4000000 in
set_option maxRecDepth 100000 in
theorem zc_MMC_state_0 (l : Launch) (D : va_G) (z : zZ) (a : Nat → Nat) (N : Nat)  (u : zU) (r : Int32) (u1 : zU) (hf : zf_MMC_state_0 N  u = some (r, u1)) : zMet l D z y_MC_state (.code y_MC_state b_MC_state 1 (some (.int))) { frames := 0, cells := 0, slots := 0, locals := 0 } [.ref (a 0)] (wM a z u) (zQi D r (wM a z u1)) := by
  refine zM_i (own := R_MC) [.ref (a 0)] (wM a z u) r (wM a z u1) (by decide) rfl (Nat.le_of_ble_eq_true rfl) ?_
  intro p e s m args below meth c A ls B hr hlk hI hl
  have hl : lv_has ls 1 [(0, .ref (a 0))] := hl
  revert hf
  revert hI hl
  intro hI hl hf
  unfold zf_MMC_state_0 at hf
  refine lv_aload_n B.1 B.2.1 d_MC_state_0 rfl (lv_at hl 0 rfl) ?_
  refine rx_get (v := .int (gi u 1)) B hI hcl_MC hin_MC 0 (wM_at_0 a z u) 9 (by decide) hf_MC_9 zw_405 rfl d_MC_state_1 ?_
  obtain ⟨e1, e2⟩ := zrt hf
  exact zr_i (wM a z) B hI hr hlk e1 e2 d_MC_state_4
set_option maxHeartbeats 4000000 in
set_option maxRecDepth 100000 in
theorem zc_MMC_look_0 (l : Launch) (D : va_G) (z : zZ) (a : Nat → Nat) (N : Nat) (x1 : Int32) (u : zU) (r : Int64) (u1 : zU) (hf : zf_MMC_look_0 N x1 u = some (r, u1)) : zMet l D z y_MC_look (.code y_MC_look b_MC_look 6 (some (.long))) { frames := 0, cells := 0, slots := 0, locals := 0 } [.ref (a 0), .int x1] (wM a z u) (zQl D r (wM a z u1)) := by
  refine zM_l (own := R_MC) [.ref (a 0), .int x1] (wM a z u) r (wM a z u1) (by decide) rfl (Nat.le_of_ble_eq_true rfl) ?_
  intro p e s m args below meth c A ls B hr hlk hI hl
  have hl : lv_has ls 6 [(0, .ref (a 0)), (1, .int x1)] := hl
  revert hf
  revert hI hl
  have hb17 : ∀  (u : zU) (H : Heap) (locs : List Loc) (ls : Array Slot), zf_MMC_look_0_b17 N   u = some (r, u1) → iw D A s (wM a z u) H locs → lv_has ls 6 [] → W p l e ({ frames := 0, cells := 0, slots := 0, locals := 0 } : Room) s m args below meth c H locs 0 0 (MQ below (zQl D r (wM a z u1) A) args s 0 0 A) (F0 m 17 ls []) := by
    intro  u H locs ls hf hI hl
    unfold zf_MMC_look_0_b17 at hf
    refine lv_ldc2 (v := (-1)) B.1 B.2.1 B.2.2.2.1 (B.2.2.2.2.1 _ zw_639) d_MC_look_17 ?_
    obtain ⟨e1, e2⟩ := zrt hf
    exact zr_l (wM a z) B hI hr hlk e1 e2 d_MC_look_20
  have hb136 : ∀ (s0 : Int64) (u : zU) (H : Heap) (locs : List Loc) (ls : Array Slot), zf_MMC_look_0_b136 N  s0 u = some (r, u1) → iw D A s (wM a z u) H locs → lv_has ls 6 [] → W p l e ({ frames := 0, cells := 0, slots := 0, locals := 0 } : Room) s m args below meth c H locs 0 0 (MQ below (zQl D r (wM a z u1) A) args s 0 0 A) (F0 m 136 ls [.long s0]) := by
    intro s0 u H locs ls hf hI hl
    unfold zf_MMC_look_0_b136 at hf
    obtain ⟨e1, e2⟩ := zrt hf
    exact zr_l (wM a z) B hI hr hlk e1 e2 d_MC_look_136
  have hb33 : ∀ (n : Nat) (x1 : Int32) (x2 : Int32) (x3 : Int64) (x5 : Int32) (u : zU) (H : Heap) (locs : List Loc) (ls : Array Slot), zf_MMC_look_0_b33 N  n x1 x2 x3 x5 u = some (r, u1) → iw D A s (wM a z u) H locs → lv_has ls 6 [(0, .ref (a 0)), (1, .int x1), (2, .int x2), (3, .long x3), (5, .int x5)] → W p l e ({ frames := 0, cells := 0, slots := 0, locals := 0 } : Room) s m args below meth c H locs 0 0 (MQ below (zQl D r (wM a z u1) A) args s 0 0 A) (F0 m 33 ls []) := by
    intro n33
    induction n33 with
    | zero => intro x1 x2 x3 x5 u H locs ls hf; exact absurd hf (by rw [zf_MMC_look_0_b33]; exact fun h => by cases h)
    | succ n33 ih33 =>
      intro x1 x2 x3 x5 u H locs ls hf hI hl
      rw [zf_MMC_look_0_b33] at hf
      refine lv_iload B.1 B.2.1 d_MC_look_33 (lv_at hl 4 rfl) ?_
      refine lv_aload_n B.1 B.2.1 d_MC_look_35 rfl (lv_at hl 0 rfl) ?_
      refine rx_get (v := .int (gi u 6)) B hI hcl_MC hin_MC 0 (wM_at_0 a z u) 15 (by decide) hf_MC_15 zw_416 rfl d_MC_look_36 ?_
      refine lv_icmp_ge (tgt := 58) B.1 B.2.1 d_MC_look_39 (by decide) (fun hc1 => ?_) (fun hc1 => ?_)
      · rw [if_pos hc1] at hf
        refine lv_iload_n B.1 B.2.1 d_MC_look_58 rfl (lv_at hl 1 rfl) ?_
        refine lv_if_ne (tgt := 70) B.1 B.2.1 d_MC_look_59 (by decide) (fun hc2 => ?_) (fun hc2 => ?_)
        · rw [if_neg hc2] at hf
          refine lv_iload_n B.1 B.2.1 d_MC_look_70 rfl (lv_at hl 1 rfl) ?_
          refine lv_iconst (v := 1) B.1 B.2.1 d_MC_look_71 (by decide) ?_
          refine lv_icmp_ne (tgt := 83) B.1 B.2.1 d_MC_look_72 (by decide) (fun hc3 => ?_) (fun hc3 => ?_)
          · rw [if_neg hc3] at hf
            refine lv_iload_n B.1 B.2.1 d_MC_look_83 rfl (lv_at hl 1 rfl) ?_
            refine lv_iconst (v := 2) B.1 B.2.1 d_MC_look_84 (by decide) ?_
            refine lv_icmp_ne (tgt := 98) B.1 B.2.1 d_MC_look_85 (by decide) (fun hc4 => ?_) (fun hc4 => ?_)
            · rw [if_neg hc4] at hf
              refine lv_iload_n B.1 B.2.1 d_MC_look_98 rfl (lv_at hl 1 rfl) ?_
              refine lv_iconst (v := 3) B.1 B.2.1 d_MC_look_99 (by decide) ?_
              refine lv_icmp_ne (tgt := 120) B.1 B.2.1 d_MC_look_100 (by decide) (fun hc5 => ?_) (fun hc5 => ?_)
              · rw [if_neg hc5] at hf
                refine lv_iload_n B.1 B.2.1 d_MC_look_120 rfl (lv_at hl 1 rfl) ?_
                refine lv_iconst (v := 4) B.1 B.2.1 d_MC_look_121 (by decide) ?_
                refine lv_icmp_ne (tgt := 135) B.1 B.2.1 d_MC_look_122 (by decide) (fun hc6 => ?_) (fun hc6 => ?_)
                · rw [if_neg hc6] at hf
                  refine lv_lload_n B.1 B.2.1 d_MC_look_135 rfl (lv_at hl 3 rfl) ?_
                  exact hb136 x3 u _ _ _ hf hI (lv_sub hl [] rfl)
                · rw [if_pos hc6] at hf
                  refine lv_aload_n B.1 B.2.1 d_MC_look_125 rfl (lv_at hl 0 rfl) ?_
                  refine rx_get (v := .ref (a 13)) B hI hcl_MC hin_MC 0 (wM_at_0 a z u) 24 (by decide) hf_MC_24 zw_421 rfl d_MC_look_126 ?_
                  refine lv_iload_n B.1 B.2.1 d_MC_look_129 rfl (lv_at hl 2 rfl) ?_
                  obtain ⟨hi7, hf⟩ := zck_some hf
                  refine rx_iald B hI 13 (wM_at_13 a z u) hi7 d_MC_look_130 ?_
                  refine lv_i2l B.1 B.2.1 d_MC_look_131 rfl ?_
                  refine lv_goto (tgt := 136) B.1 B.2.1 d_MC_look_132 (by decide) ?_
                  exact hb136 (Int32.toInt64 (ga u 11 x2)) u _ _ _ hf hI (lv_sub hl [] rfl)
              · rw [if_pos hc5] at hf
                refine lv_aload_n B.1 B.2.1 d_MC_look_103 rfl (lv_at hl 0 rfl) ?_
                refine rx_get (v := .ref (a 16)) B hI hcl_MC hin_MC 0 (wM_at_0 a z u) 27 (by decide) hf_MC_27 zw_423 rfl d_MC_look_104 ?_
                refine lv_iload_n B.1 B.2.1 d_MC_look_107 rfl (lv_at hl 2 rfl) ?_
                obtain ⟨hi8, hf⟩ := zck_some hf
                refine rx_zald B hI 16 (wM_at_16 a z u) hi8 d_MC_look_108 ?_
                refine lv_if_eq (tgt := 116) B.1 B.2.1 d_MC_look_109 (by decide) (fun hc9 => ?_) (fun hc9 => ?_)
                · rw [if_pos hc9] at hf
                  refine lv_lconst (v := 1) B.1 B.2.1 d_MC_look_116 (by decide) ?_
                  refine lv_goto (tgt := 136) B.1 B.2.1 d_MC_look_117 (by decide) ?_
                  exact hb136 1 u _ _ _ hf hI (lv_sub hl [] rfl)
                · rw [if_neg hc9] at hf
                  refine lv_lconst (v := 0) B.1 B.2.1 d_MC_look_112 (by decide) ?_
                  refine lv_goto (tgt := 136) B.1 B.2.1 d_MC_look_113 (by decide) ?_
                  exact hb136 0 u _ _ _ hf hI (lv_sub hl [] rfl)
            · rw [if_pos hc4] at hf
              refine lv_aload_n B.1 B.2.1 d_MC_look_88 rfl (lv_at hl 0 rfl) ?_
              refine rx_get (v := .ref (a 15)) B hI hcl_MC hin_MC 0 (wM_at_0 a z u) 26 (by decide) hf_MC_26 zw_422 rfl d_MC_look_89 ?_
              refine lv_iload_n B.1 B.2.1 d_MC_look_92 rfl (lv_at hl 2 rfl) ?_
              obtain ⟨hi10, hf⟩ := zck_some hf
              refine rx_iald B hI 15 (wM_at_15 a z u) hi10 d_MC_look_93 ?_
              refine lv_i2l B.1 B.2.1 d_MC_look_94 rfl ?_
              refine lv_goto (tgt := 136) B.1 B.2.1 d_MC_look_95 (by decide) ?_
              exact hb136 (Int32.toInt64 (ga u 13 x2)) u _ _ _ hf hI (lv_sub hl [] rfl)
          · rw [if_pos hc3] at hf
            refine lv_aload_n B.1 B.2.1 d_MC_look_75 rfl (lv_at hl 0 rfl) ?_
            refine rx_get (v := .int (gi u 10)) B hI hcl_MC hin_MC 0 (wM_at_0 a z u) 22 (by decide) hf_MC_22 zw_420 rfl d_MC_look_76 ?_
            refine lv_i2l B.1 B.2.1 d_MC_look_79 rfl ?_
            refine lv_goto (tgt := 136) B.1 B.2.1 d_MC_look_80 (by decide) ?_
            exact hb136 (Int32.toInt64 (gi u 10)) u _ _ _ hf hI (lv_sub hl [] rfl)
        · rw [if_pos hc2] at hf
          refine lv_aload_n B.1 B.2.1 d_MC_look_62 rfl (lv_at hl 0 rfl) ?_
          refine rx_get (v := .int (gi u 9)) B hI hcl_MC hin_MC 0 (wM_at_0 a z u) 21 (by decide) hf_MC_21 zw_419 rfl d_MC_look_63 ?_
          refine lv_i2l B.1 B.2.1 d_MC_look_66 rfl ?_
          refine lv_goto (tgt := 136) B.1 B.2.1 d_MC_look_67 (by decide) ?_
          exact hb136 (Int32.toInt64 (gi u 9)) u _ _ _ hf hI (lv_sub hl [] rfl)
      · rw [if_neg hc1] at hf
        refine lv_lload_n B.1 B.2.1 d_MC_look_42 rfl (lv_at hl 3 rfl) ?_
        refine lv_aload_n B.1 B.2.1 d_MC_look_43 rfl (lv_at hl 0 rfl) ?_
        refine rx_get (v := .ref (a 10)) B hI hcl_MC hin_MC 0 (wM_at_0 a z u) 18 (by decide) hf_MC_18 zw_430 rfl d_MC_look_44 ?_
        refine lv_iload B.1 B.2.1 d_MC_look_47 (lv_at hl 4 rfl) ?_
        obtain ⟨hi11, hf⟩ := zck_some hf
        refine rx_lald B hI 10 (wM_at_10 a z u) hi11 d_MC_look_49 ?_
        refine lv_ladd B.1 B.2.1 d_MC_look_50 ?_
        refine lv_lstore_n (lv' := [(3, .long (x3 + (gb u 0 x5))), (0, .ref (a 0)), (1, .int x1), (2, .int x2), (5, .int x5)]) B.1 B.2.1 d_MC_look_51 rfl hl (by decide) rfl (fun ls hl => ?_)
        refine lv_iinc (v := (x5 + 1)) (lv' := [(5, .int (x5 + 1)), (3, .long (x3 + (gb u 0 x5))), (0, .ref (a 0)), (1, .int x1), (2, .int x2)]) B.1 B.2.1 d_MC_look_52 hl (k := 4) rfl (by rfl) (by decide) rfl (fun ls hl => ?_)
        refine lv_goto (tgt := 33) B.1 B.2.1 d_MC_look_55 (by decide) ?_
        exact ih33 x1 x2 (x3 + (gb u 0 x5)) (x5 + 1) u _ _ _ hf hI (lv_sub hl [2, 3, 4, 1, 0] rfl)
  intro hI hl hf
  unfold zf_MMC_look_0 at hf
  refine lv_aload_n B.1 B.2.1 d_MC_look_0 rfl (lv_at hl 0 rfl) ?_
  refine rx_get (v := .int (gi u 1)) B hI hcl_MC hin_MC 0 (wM_at_0 a z u) 9 (by decide) hf_MC_9 zw_405 rfl d_MC_look_1 ?_
  refine lv_iconst (v := 1) B.1 B.2.1 d_MC_look_4 (by decide) ?_
  refine lv_icmp_ne (tgt := 17) B.1 B.2.1 d_MC_look_5 (by decide) (fun hc1 => ?_) (fun hc1 => ?_)
  · rw [if_neg hc1] at hf
    exact hb17  u _ _ _ hf hI (lv_sub hl [] rfl)
  · rw [if_pos hc1] at hf
    refine lv_iload_n B.1 B.2.1 d_MC_look_8 rfl (lv_at hl 1 rfl) ?_
    refine lv_if_lt (tgt := 17) B.1 B.2.1 d_MC_look_9 (by decide) (fun hc2 => ?_) (fun hc2 => ?_)
    · rw [if_pos hc2] at hf
      exact hb17  u _ _ _ hf hI (lv_sub hl [] rfl)
    · rw [if_neg hc2] at hf
      refine lv_iload_n B.1 B.2.1 d_MC_look_12 rfl (lv_at hl 1 rfl) ?_
      refine lv_iconst (v := 5) B.1 B.2.1 d_MC_look_13 (by decide) ?_
      refine lv_icmp_le (tgt := 21) B.1 B.2.1 d_MC_look_14 (by decide) (fun hc3 => ?_) (fun hc3 => ?_)
      · rw [if_pos hc3] at hf
        refine lv_aload_n B.1 B.2.1 d_MC_look_21 rfl (lv_at hl 0 rfl) ?_
        refine rx_get (v := .int (gi u 10)) B hI hcl_MC hin_MC 0 (wM_at_0 a z u) 22 (by decide) hf_MC_22 zw_420 rfl d_MC_look_22 ?_
        refine lv_iconst (v := 1) B.1 B.2.1 d_MC_look_25 (by decide) ?_
        refine lv_isub B.1 B.2.1 d_MC_look_26 ?_
        refine lv_istore_n (lv' := [(2, .int ((gi u 10) - 1)), (0, .ref (a 0)), (1, .int x1)]) B.1 B.2.1 d_MC_look_27 rfl hl (by decide) rfl (fun ls hl => ?_)
        refine lv_lconst (v := 0) B.1 B.2.1 d_MC_look_28 (by decide) ?_
        refine lv_lstore_n (lv' := [(3, .long 0), (2, .int ((gi u 10) - 1)), (0, .ref (a 0)), (1, .int x1)]) B.1 B.2.1 d_MC_look_29 rfl hl (by decide) rfl (fun ls hl => ?_)
        refine lv_iconst (v := 0) B.1 B.2.1 d_MC_look_30 (by decide) ?_
        refine lv_istore (lv' := [(5, .int 0), (3, .long 0), (2, .int ((gi u 10) - 1)), (0, .ref (a 0)), (1, .int x1)]) B.1 B.2.1 d_MC_look_31 hl (by decide) rfl (fun ls hl => ?_)
        exact hb33 N x1 ((gi u 10) - 1) 0 0 u _ _ _ hf hI (lv_sub hl [3, 4, 2, 1, 0] rfl)
      · rw [if_neg hc3] at hf
        exact hb17  u _ _ _ hf hI (lv_sub hl [] rfl)
set_option maxHeartbeats 4000000 in
set_option maxRecDepth 100000 in
theorem zc_MMC_operand_0 (l : Launch) (D : va_G) (z : zZ) (a : Nat → Nat) (N : Nat) (x1 : Int32) (u : zU) (r : Int32) (u1 : zU) (hf : zf_MMC_operand_0 N x1 u = some (r, u1)) : zMet l D z y_MC_operand (.code y_MC_operand b_MC_operand 2 (some (.int))) { frames := 0, cells := 0, slots := 0, locals := 0 } [.ref (a 0), .int x1] (wM a z u) (zQi D r (wM a z u1)) := by
  refine zM_i (own := R_MC) [.ref (a 0), .int x1] (wM a z u) r (wM a z u1) (by decide) rfl (Nat.le_of_ble_eq_true rfl) ?_
  intro p e s m args below meth c A ls B hr hlk hI hl
  have hl : lv_has ls 2 [(0, .ref (a 0)), (1, .int x1)] := hl
  revert hf
  revert hI hl
  have hb37 : ∀ (s0 : Int32) (u : zU) (H : Heap) (locs : List Loc) (ls : Array Slot), zf_MMC_operand_0_b37 N  s0 u = some (r, u1) → iw D A s (wM a z u) H locs → lv_has ls 2 [] → W p l e ({ frames := 0, cells := 0, slots := 0, locals := 0 } : Room) s m args below meth c H locs 0 0 (MQ below (zQi D r (wM a z u1) A) args s 0 0 A) (F0 m 37 ls [.int s0]) := by
    intro s0 u H locs ls hf hI hl
    unfold zf_MMC_operand_0_b37 at hf
    obtain ⟨e1, e2⟩ := zrt hf
    exact zr_i (wM a z) B hI hr hlk e1 e2 d_MC_operand_37
  have hb20 : ∀  (u : zU) (H : Heap) (locs : List Loc) (ls : Array Slot), zf_MMC_operand_0_b20 N   u = some (r, u1) → iw D A s (wM a z u) H locs → lv_has ls 2 [] → W p l e ({ frames := 0, cells := 0, slots := 0, locals := 0 } : Room) s m args below meth c H locs 0 0 (MQ below (zQi D r (wM a z u1) A) args s 0 0 A) (F0 m 20 ls []) := by
    intro  u H locs ls hf hI hl
    unfold zf_MMC_operand_0_b20 at hf
    refine lv_iconst (v := (-1)) B.1 B.2.1 d_MC_operand_20 (by decide) ?_
    refine lv_goto (tgt := 37) B.1 B.2.1 d_MC_operand_21 (by decide) ?_
    exact hb37 (-1) u _ _ _ hf hI (lv_sub hl [] rfl)
  intro hI hl hf
  unfold zf_MMC_operand_0 at hf
  refine lv_aload_n B.1 B.2.1 d_MC_operand_0 rfl (lv_at hl 0 rfl) ?_
  refine rx_get (v := .int (gi u 1)) B hI hcl_MC hin_MC 0 (wM_at_0 a z u) 9 (by decide) hf_MC_9 zw_405 rfl d_MC_operand_1 ?_
  refine lv_iconst (v := 1) B.1 B.2.1 d_MC_operand_4 (by decide) ?_
  refine lv_icmp_ne (tgt := 20) B.1 B.2.1 d_MC_operand_5 (by decide) (fun hc1 => ?_) (fun hc1 => ?_)
  · rw [if_neg hc1] at hf
    exact hb20  u _ _ _ hf hI (lv_sub hl [] rfl)
  · rw [if_pos hc1] at hf
    refine lv_iload_n B.1 B.2.1 d_MC_operand_8 rfl (lv_at hl 1 rfl) ?_
    refine lv_if_lt (tgt := 20) B.1 B.2.1 d_MC_operand_9 (by decide) (fun hc2 => ?_) (fun hc2 => ?_)
    · rw [if_pos hc2] at hf
      exact hb20  u _ _ _ hf hI (lv_sub hl [] rfl)
    · rw [if_neg hc2] at hf
      refine lv_iload_n B.1 B.2.1 d_MC_operand_12 rfl (lv_at hl 1 rfl) ?_
      refine lv_aload_n B.1 B.2.1 d_MC_operand_13 rfl (lv_at hl 0 rfl) ?_
      refine rx_get (v := .int (gi u 9)) B hI hcl_MC hin_MC 0 (wM_at_0 a z u) 21 (by decide) hf_MC_21 zw_419 rfl d_MC_operand_14 ?_
      refine lv_icmp_lt (tgt := 24) B.1 B.2.1 d_MC_operand_17 (by decide) (fun hc3 => ?_) (fun hc3 => ?_)
      · rw [if_pos hc3] at hf
        refine lv_aload_n B.1 B.2.1 d_MC_operand_24 rfl (lv_at hl 0 rfl) ?_
        refine rx_get (v := .ref (a 12)) B hI hcl_MC hin_MC 0 (wM_at_0 a z u) 23 (by decide) hf_MC_23 zw_442 rfl d_MC_operand_25 ?_
        refine lv_aload_n B.1 B.2.1 d_MC_operand_28 rfl (lv_at hl 0 rfl) ?_
        refine rx_get (v := .int (gi u 9)) B hI hcl_MC hin_MC 0 (wM_at_0 a z u) 21 (by decide) hf_MC_21 zw_419 rfl d_MC_operand_29 ?_
        refine lv_iconst (v := 1) B.1 B.2.1 d_MC_operand_32 (by decide) ?_
        refine lv_isub B.1 B.2.1 d_MC_operand_33 ?_
        refine lv_iload_n B.1 B.2.1 d_MC_operand_34 rfl (lv_at hl 1 rfl) ?_
        refine lv_isub B.1 B.2.1 d_MC_operand_35 ?_
        obtain ⟨hi4, hf⟩ := zck_some hf
        refine rx_iald B hI 12 (wM_at_12 a z u) hi4 d_MC_operand_36 ?_
        exact hb37 (ga u 10 (((gi u 9) - 1) - x1)) u _ _ _ hf hI (lv_sub hl [] rfl)
      · rw [if_neg hc3] at hf
        exact hb20  u _ _ _ hf hI (lv_sub hl [] rfl)
