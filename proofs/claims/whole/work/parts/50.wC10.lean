set_option maxHeartbeats 4000000 in
set_option maxRecDepth 100000 in
theorem zc_CCCode_carryOut_26 (l : Launch) (D : va_G) (z : zZ) (a : Nat → Nat) (N : Nat) (x1 : Int32) (x2 : Int32) (u : zU) (r : Int32) (u1 : zU) (hf : zf_CCCode_carryOut_26 N x1 x2 u = some (r, u1)) : zMet l D z y_CCode_carryOut (.code y_CCode_carryOut b_CCode_carryOut 4 (some (.int))) { frames := 6, cells := 0, slots := 0, locals := 133 } [.ref (a 26), .int x1, .int x2] (wC a z u) (zQi D r (wC a z u1)) := by
  refine zM_i (own := R_CCode) [.ref (a 26), .int x1, .int x2] (wC a z u) r (wC a z u1) (by decide) rfl (Nat.le_of_ble_eq_true rfl) ?_
  intro p e s m args below meth c A ls B hr hlk hI hl
  have hl : lv_has ls 4 [(0, .ref (a 26)), (1, .int x1), (2, .int x2)] := hl
  revert hf
  revert hI hl
  have hb88 : ∀  (u : zU) (H : Heap) (locs : List Loc) (ls : Array Slot), zf_CCCode_carryOut_26_b88 N   u = some (r, u1) → iw D A s (wC a z u) H locs → lv_has ls 4 [(0, .ref (a 26))] → W p l e ({ frames := 6, cells := 0, slots := 0, locals := 133 } : Room) s m args below meth c H locs 0 0 (MQ below (zQi D r (wC a z u1) A) args s 0 0 A) (F0 m 88 ls []) := by
    intro  u H locs ls hf hI hl
    unfold zf_CCCode_carryOut_26_b88 at hf
    refine lv_aload_n B.1 B.2.1 d_CCode_carryOut_88 rfl (lv_at hl 0 rfl) ?_
    refine rx_get (v := .ref (a 31)) B hI hcl_CCode hin_CCode 26 (wC_at_26 a z u) 1 (by decide) hf_CCode_1 zw_73 rfl d_CCode_carryOut_89 ?_
    refine rx_getN (v := .int (gi u 16)) B hI hcl_CStack hin_CStack 31 (wC_at_31 a z u) 9 (by decide) hf_CStack_9 zw_239 rfl d_CCode_carryOut_92 ?_
    obtain ⟨e1, e2⟩ := zrt hf
    exact zr_i (wC a z) B hI hr hlk e1 e2 d_CCode_carryOut_95
  have hb82 : ∀ (x1 : Int32) (x2 : Int32) (u : zU) (H : Heap) (locs : List Loc) (ls : Array Slot), zf_CCCode_carryOut_26_b82 N  x1 x2 u = some (r, u1) → iw D A s (wC a z u) H locs → lv_has ls 4 [(0, .ref (a 26)), (1, .int x1), (2, .int x2)] → W p l e ({ frames := 6, cells := 0, slots := 0, locals := 133 } : Room) s m args below meth c H locs 0 0 (MQ below (zQi D r (wC a z u1) A) args s 0 0 A) (F0 m 82 ls []) := by
    intro x1 x2 u H locs ls hf hI hl
    unfold zf_CCCode_carryOut_26_b82 at hf
    refine lv_aload_n B.1 B.2.1 d_CCode_carryOut_82 rfl (lv_at hl 0 rfl) ?_
    refine lv_iload_n B.1 B.2.1 d_CCode_carryOut_83 rfl (lv_at hl 1 rfl) ?_
    refine lv_iload_n B.1 B.2.1 d_CCode_carryOut_84 rfl (lv_at hl 2 rfl) ?_
    obtain ⟨r1, u2, h3, hf⟩ := zbd_some hf
    refine rx_Vv (n := 2) (As := [.int x1, .int x2]) (rest := []) B hI hl.1 (zc_CCCode_carryOutReference_26 l D z a N x1 x2 u r1 u2 h3) zw_364 zw_366 zw_367 zw_10 zw_365 (by decide +kernel) 26 (wC_at_26 a z u) hcl_CCode rfl rfl (Nat.le_of_ble_eq_true rfl) d_CCode_carryOut_85 ⟨Nat.le_of_ble_eq_true rfl, Nat.le_of_ble_eq_true rfl⟩ rfl rfl ⟨Nat.zero_le _, Nat.zero_le _⟩ (fun H locs hI => ?_)
    exact hb88  u2 _ _ _ hf hI (lv_sub hl [0] rfl)
  intro hI hl hf
  unfold zf_CCCode_carryOut_26 at hf
  refine lv_iload_n B.1 B.2.1 d_CCode_carryOut_0 rfl (lv_at hl 1 rfl) ?_
  obtain ⟨r1, u2, h3, hf⟩ := zbd_some hf
  refine rx_Mi (n := 1) (As := [.int x1]) (rest := []) B hI hl.1 (zc_CCC_plainLine l D z a N x1 u r1 u2 h3) zw_210 zw_212 zw_15 zw_211 (by decide +kernel) rfl rfl (Nat.le_of_ble_eq_true rfl) d_CCode_carryOut_1 ⟨Nat.le_of_ble_eq_true rfl, Nat.le_of_ble_eq_true rfl⟩ rfl rfl ⟨Nat.zero_le _, Nat.zero_le _⟩ (fun H locs hI => ?_)
  refine lv_istore_n (lv' := [(3, .int r1), (0, .ref (a 26)), (1, .int x1), (2, .int x2)]) B.1 B.2.1 d_CCode_carryOut_4 rfl hl (by decide) rfl (fun ls hl => ?_)
  refine lv_iload_n B.1 B.2.1 d_CCode_carryOut_5 rfl (lv_at hl 0 rfl) ?_
  refine lv_if_lt (tgt := 17) B.1 B.2.1 d_CCode_carryOut_6 (by decide) (fun hc4 => ?_) (fun hc4 => ?_)
  · rw [if_pos hc4] at hf
    refine lv_iload_n B.1 B.2.1 d_CCode_carryOut_17 rfl (lv_at hl 2 rfl) ?_
    refine lv_bipush (v := 11) B.1 B.2.1 d_CCode_carryOut_18 (by decide) ?_
    refine lv_icmp_gt (tgt := 32) B.1 B.2.1 d_CCode_carryOut_20 (by decide) (fun hc5 => ?_) (fun hc5 => ?_)
    · rw [if_pos hc5] at hf
      refine lv_iload_n B.1 B.2.1 d_CCode_carryOut_32 rfl (lv_at hl 2 rfl) ?_
      refine lv_bipush (v := 17) B.1 B.2.1 d_CCode_carryOut_33 (by decide) ?_
      refine lv_icmp_gt (tgt := 47) B.1 B.2.1 d_CCode_carryOut_35 (by decide) (fun hc6 => ?_) (fun hc6 => ?_)
      · rw [if_pos hc6] at hf
        refine lv_iload_n B.1 B.2.1 d_CCode_carryOut_47 rfl (lv_at hl 2 rfl) ?_
        refine lv_bipush (v := 36) B.1 B.2.1 d_CCode_carryOut_48 (by decide) ?_
        refine lv_icmp_gt (tgt := 62) B.1 B.2.1 d_CCode_carryOut_50 (by decide) (fun hc7 => ?_) (fun hc7 => ?_)
        · rw [if_pos hc7] at hf
          refine lv_iload_n B.1 B.2.1 d_CCode_carryOut_62 rfl (lv_at hl 2 rfl) ?_
          refine lv_bipush (v := 40) B.1 B.2.1 d_CCode_carryOut_63 (by decide) ?_
          refine lv_icmp_lt (tgt := 82) B.1 B.2.1 d_CCode_carryOut_65 (by decide) (fun hc8 => ?_) (fun hc8 => ?_)
          · rw [if_pos hc8] at hf
            exact hb82 x1 x2 u2 _ _ _ hf hI (lv_sub hl [1, 2, 3] rfl)
          · rw [if_neg hc8] at hf
            refine lv_iload_n B.1 B.2.1 d_CCode_carryOut_68 rfl (lv_at hl 2 rfl) ?_
            refine lv_bipush (v := 62) B.1 B.2.1 d_CCode_carryOut_69 (by decide) ?_
            refine lv_icmp_gt (tgt := 82) B.1 B.2.1 d_CCode_carryOut_71 (by decide) (fun hc9 => ?_) (fun hc9 => ?_)
            · rw [if_pos hc9] at hf
              exact hb82 x1 x2 u2 _ _ _ hf hI (lv_sub hl [1, 2, 3] rfl)
            · rw [if_neg hc9] at hf
              refine lv_aload_n B.1 B.2.1 d_CCode_carryOut_74 rfl (lv_at hl 1 rfl) ?_
              refine lv_iload_n B.1 B.2.1 d_CCode_carryOut_75 rfl (lv_at hl 2 rfl) ?_
              obtain ⟨r10, u11, h12, hf⟩ := zbd_some hf
              refine rx_Vv (n := 1) (As := [.int x1]) (rest := []) B hI hl.1 (zc_CCCode_carryOutAccess_26 l D z a N x1 u2 r10 u11 h12) zw_356 zw_358 zw_359 zw_10 zw_357 (by decide +kernel) 26 (wC_at_26 a z u2) hcl_CCode rfl rfl (Nat.le_of_ble_eq_true rfl) d_CCode_carryOut_76 ⟨Nat.le_of_ble_eq_true rfl, Nat.le_of_ble_eq_true rfl⟩ rfl rfl ⟨Nat.zero_le _, Nat.zero_le _⟩ (fun H locs hI => ?_)
              refine lv_goto (tgt := 88) B.1 B.2.1 d_CCode_carryOut_79 (by decide) ?_
              exact hb88  u11 _ _ _ hf hI (lv_sub hl [1] rfl)
        · rw [if_neg hc7] at hf
          refine lv_aload_n B.1 B.2.1 d_CCode_carryOut_53 rfl (lv_at hl 1 rfl) ?_
          refine lv_iload_n B.1 B.2.1 d_CCode_carryOut_54 rfl (lv_at hl 2 rfl) ?_
          refine lv_iload_n B.1 B.2.1 d_CCode_carryOut_55 rfl (lv_at hl 3 rfl) ?_
          obtain ⟨r13, u14, h15, hf⟩ := zbd_some hf
          refine rx_Vv (n := 2) (As := [.int x1, .int x2]) (rest := []) B hI hl.1 (zc_CCCode_carryOutVariable_26 l D z a N x1 x2 u2 r13 u14 h15) zw_351 zw_353 zw_354 zw_10 zw_352 (by decide +kernel) 26 (wC_at_26 a z u2) hcl_CCode rfl rfl (Nat.le_of_ble_eq_true rfl) d_CCode_carryOut_56 ⟨Nat.le_of_ble_eq_true rfl, Nat.le_of_ble_eq_true rfl⟩ rfl rfl ⟨Nat.zero_le _, Nat.zero_le _⟩ (fun H locs hI => ?_)
          refine lv_goto (tgt := 88) B.1 B.2.1 d_CCode_carryOut_59 (by decide) ?_
          exact hb88  u14 _ _ _ hf hI (lv_sub hl [1] rfl)
      · rw [if_neg hc6] at hf
        refine lv_aload_n B.1 B.2.1 d_CCode_carryOut_38 rfl (lv_at hl 1 rfl) ?_
        refine lv_iload_n B.1 B.2.1 d_CCode_carryOut_39 rfl (lv_at hl 2 rfl) ?_
        refine lv_iload_n B.1 B.2.1 d_CCode_carryOut_40 rfl (lv_at hl 3 rfl) ?_
        obtain ⟨r16, u17, h18, hf⟩ := zbd_some hf
        refine rx_Vv (n := 2) (As := [.int x1, .int x2]) (rest := []) B hI hl.1 (zc_CCCode_carryOutBranch_26 l D z a N x1 x2 u2 r16 u17 h18) zw_337 zw_339 zw_340 zw_10 zw_338 (by decide +kernel) 26 (wC_at_26 a z u2) hcl_CCode rfl rfl (Nat.le_of_ble_eq_true rfl) d_CCode_carryOut_41 ⟨Nat.le_of_ble_eq_true rfl, Nat.le_of_ble_eq_true rfl⟩ rfl rfl ⟨Nat.zero_le _, Nat.zero_le _⟩ (fun H locs hI => ?_)
        refine lv_goto (tgt := 88) B.1 B.2.1 d_CCode_carryOut_44 (by decide) ?_
        exact hb88  u17 _ _ _ hf hI (lv_sub hl [1] rfl)
    · rw [if_neg hc5] at hf
      refine lv_aload_n B.1 B.2.1 d_CCode_carryOut_23 rfl (lv_at hl 1 rfl) ?_
      refine lv_iload_n B.1 B.2.1 d_CCode_carryOut_24 rfl (lv_at hl 2 rfl) ?_
      refine lv_iload_n B.1 B.2.1 d_CCode_carryOut_25 rfl (lv_at hl 3 rfl) ?_
      obtain ⟨r19, u20, h21, hf⟩ := zbd_some hf
      refine rx_Vv (n := 2) (As := [.int x1, .int x2]) (rest := []) B hI hl.1 (zc_CCCode_carryOutBlock_26 l D z a N x1 x2 u2 r19 u20 h21) zw_297 zw_299 zw_300 zw_10 zw_298 (by decide +kernel) 26 (wC_at_26 a z u2) hcl_CCode rfl rfl (Nat.le_of_ble_eq_true rfl) d_CCode_carryOut_26 ⟨Nat.le_of_ble_eq_true rfl, Nat.le_of_ble_eq_true rfl⟩ rfl rfl ⟨Nat.zero_le _, Nat.zero_le _⟩ (fun H locs hI => ?_)
      refine lv_goto (tgt := 88) B.1 B.2.1 d_CCode_carryOut_29 (by decide) ?_
      exact hb88  u20 _ _ _ hf hI (lv_sub hl [1] rfl)
  · rw [if_neg hc4] at hf
    refine lv_aload_n B.1 B.2.1 d_CCode_carryOut_9 rfl (lv_at hl 1 rfl) ?_
    refine lv_iload_n B.1 B.2.1 d_CCode_carryOut_10 rfl (lv_at hl 0 rfl) ?_
    obtain ⟨r22, u23, h24, hf⟩ := zbd_some hf
    refine rx_Vv (n := 1) (As := [.int r1]) (rest := []) B hI hl.1 (zc_CCCode_carryOutPlain_26 l D z a N r1 u2 r22 u23 h24) zw_235 zw_237 zw_238 zw_10 zw_236 (by decide +kernel) 26 (wC_at_26 a z u2) hcl_CCode rfl rfl (Nat.le_of_ble_eq_true rfl) d_CCode_carryOut_11 ⟨Nat.le_of_ble_eq_true rfl, Nat.le_of_ble_eq_true rfl⟩ rfl rfl ⟨Nat.zero_le _, Nat.zero_le _⟩ (fun H locs hI => ?_)
    refine lv_goto (tgt := 88) B.1 B.2.1 d_CCode_carryOut_14 (by decide) ?_
    exact hb88  u23 _ _ _ hf hI (lv_sub hl [1] rfl)
set_option maxHeartbeats 4000000 in
set_option maxRecDepth 100000 in
theorem zc_CCCode_finishInstruction_26 (l : Launch) (D : va_G) (z : zZ) (a : Nat → Nat) (N : Nat) (x1 : Int32) (u : zU) (r : Unit) (u1 : zU) (hf : zf_CCCode_finishInstruction_26 N x1 u = some (r, u1)) : zMet l D z y_CCode_finishInstruction (.code y_CCode_finishInstruction b_CCode_finishInstruction 2 none) { frames := 0, cells := 0, slots := 0, locals := 0 } [.ref (a 26), .int x1] (wC a z u) (zQv D (wC a z u1)) := by
  refine zM_v (own := R_CCode) [.ref (a 26), .int x1] (wC a z u) (wC a z u1) (by decide) rfl (Nat.le_of_ble_eq_true rfl) ?_
  intro p e s m args below meth c A ls B hr hlk hI hl
  have hl : lv_has ls 2 [(0, .ref (a 26)), (1, .int x1)] := hl
  revert hf
  revert hI hl
  have hb37 : ∀  (u : zU) (H : Heap) (locs : List Loc) (ls : Array Slot), zf_CCCode_finishInstruction_26_b37 N   u = some (r, u1) → iw D A s (wC a z u) H locs → lv_has ls 2 [] → W p l e ({ frames := 0, cells := 0, slots := 0, locals := 0 } : Room) s m args below meth c H locs 0 0 (MQ below (zQv D (wC a z u1) A) args s 0 0 A) (F0 m 37 ls []) := by
    intro  u H locs ls hf hI hl
    unfold zf_CCCode_finishInstruction_26_b37 at hf
    obtain ⟨e1, e2⟩ := zrt hf
    exact zr_v (wC a z) B hI hr hlk e2 d_CCode_finishInstruction_37
  intro hI hl hf
  unfold zf_CCCode_finishInstruction_26 at hf
  refine lv_aload_n B.1 B.2.1 d_CCode_finishInstruction_0 rfl (lv_at hl 0 rfl) ?_
  refine lv_iconst (v := 1) B.1 B.2.1 d_CCode_finishInstruction_1 (by decide) ?_
  refine rx_put B hI hcl_CCode hin_CCode hty_CCode hnm_CCode 26 (wC_at_26 a z u) 7 (by decide) hf_CCode_7 zw_100 rfl (ty := .boolean) (by decide +kernel) (by decide) (by decide) (Nat.le_of_ble_eq_true rfl) (wC_si_10 a z u 1) d_CCode_finishInstruction_2 (fun H locs hI => ?_)
  refine lv_aload_n B.1 B.2.1 d_CCode_finishInstruction_5 rfl (lv_at hl 0 rfl) ?_
  refine lv_iconst (v := 0) B.1 B.2.1 d_CCode_finishInstruction_6 (by decide) ?_
  refine rx_put B hI hcl_CCode hin_CCode hty_CCode hnm_CCode 26 (wC_at_26 a z (si u 10 1)) 4 (by decide) hf_CCode_4 zw_98 rfl (ty := .int) (by decide +kernel) rfl rfl (Nat.le_of_ble_eq_true rfl) (wC_si_7 a z (si u 10 1) 0) d_CCode_finishInstruction_7 (fun H locs hI => ?_)
  refine lv_iload_n B.1 B.2.1 d_CCode_finishInstruction_10 rfl (lv_at hl 1 rfl) ?_
  refine lv_if_eq (tgt := 22) B.1 B.2.1 d_CCode_finishInstruction_11 (by decide) (fun hc1 => ?_) (fun hc1 => ?_)
  · rw [if_pos hc1] at hf
    refine lv_aload_n B.1 B.2.1 d_CCode_finishInstruction_22 rfl (lv_at hl 0 rfl) ?_
    refine rx_get (v := .ref (a 31)) B hI hcl_CCode hin_CCode 26 (wC_at_26 a z (si (si u 10 1) 7 0)) 1 (by decide) hf_CCode_1 zw_73 rfl d_CCode_finishInstruction_23 ?_
    refine rx_getN (v := .int (gi u 15)) B hI hcl_CStack hin_CStack 31 (wC_at_31 a z (si (si u 10 1) 7 0)) 8 (by decide) hf_CStack_8 zw_372 rfl d_CCode_finishInstruction_26 ?_
    refine lv_if_ne (tgt := 37) B.1 B.2.1 d_CCode_finishInstruction_29 (by decide) (fun hc2 => ?_) (fun hc2 => ?_)
    · rw [if_neg hc2] at hf
      exact hb37  (si (si u 10 1) 7 0) _ _ _ hf hI (lv_sub hl [] rfl)
    · rw [if_pos hc2] at hf
      refine lv_aload_n B.1 B.2.1 d_CCode_finishInstruction_32 rfl (lv_at hl 0 rfl) ?_
      refine lv_iconst (v := 2) B.1 B.2.1 d_CCode_finishInstruction_33 (by decide) ?_
      refine rx_put B hI hcl_CCode hin_CCode hty_CCode hnm_CCode 26 (wC_at_26 a z (si (si u 10 1) 7 0)) 5 (by decide) hf_CCode_5 zw_8 rfl (ty := .int) (by decide +kernel) rfl rfl (Nat.le_of_ble_eq_true rfl) (wC_si_8 a z (si (si u 10 1) 7 0) 2) d_CCode_finishInstruction_34 (fun H locs hI => ?_)
      exact hb37  (si (si (si u 10 1) 7 0) 8 2) _ _ _ hf hI (lv_sub hl [] rfl)
  · rw [if_neg hc1] at hf
    refine lv_aload_n B.1 B.2.1 d_CCode_finishInstruction_14 rfl (lv_at hl 0 rfl) ?_
    refine lv_iconst (v := 0) B.1 B.2.1 d_CCode_finishInstruction_15 (by decide) ?_
    refine rx_put B hI hcl_CCode hin_CCode hty_CCode hnm_CCode 26 (wC_at_26 a z (si (si u 10 1) 7 0)) 5 (by decide) hf_CCode_5 zw_8 rfl (ty := .int) (by decide +kernel) rfl rfl (Nat.le_of_ble_eq_true rfl) (wC_si_8 a z (si (si u 10 1) 7 0) 0) d_CCode_finishInstruction_16 (fun H locs hI => ?_)
    refine lv_goto (tgt := 37) B.1 B.2.1 d_CCode_finishInstruction_19 (by decide) ?_
    exact hb37  (si (si (si u 10 1) 7 0) 8 0) _ _ _ hf hI (lv_sub hl [] rfl)
set_option maxHeartbeats 4000000 in
set_option maxRecDepth 100000 in
theorem zc_CCC_step_0 (l : Launch) (D : va_G) (z : zZ) (a : Nat → Nat) (N : Nat) (x1 : Int32) (x2 : Int32) (x3 : Int32) (u : zU) (r : Int32) (u1 : zU) (hf : zf_CCC_step_0 N x1 x2 x3 u = some (r, u1)) : zMet l D z y_CC_step (.code y_CC_step b_CC_step 5 (some (.int))) { frames := 7, cells := 0, slots := 0, locals := 156 } [.ref (a 0), .int x1, .int x2, .int x3] (wC a z u) (zQi D r (wC a z u1)) := by
  refine zM_i (own := R_CC) [.ref (a 0), .int x1, .int x2, .int x3] (wC a z u) r (wC a z u1) (by decide) rfl (Nat.le_of_ble_eq_true rfl) ?_
  intro p e s m args below meth c A ls B hr hlk hI hl
  have hl : lv_has ls 5 [(0, .ref (a 0)), (1, .int x1), (2, .int x2), (3, .int x3)] := hl
  revert hf
  revert hI hl
  have hb40 : ∀ (x4 : Int32) (u : zU) (H : Heap) (locs : List Loc) (ls : Array Slot), zf_CCC_step_0_b40 N  x4 u = some (r, u1) → iw D A s (wC a z u) H locs → lv_has ls 5 [(0, .ref (a 0)), (4, .int x4)] → W p l e ({ frames := 7, cells := 0, slots := 0, locals := 156 } : Room) s m args below meth c H locs 0 0 (MQ below (zQi D r (wC a z u1) A) args s 0 0 A) (F0 m 40 ls []) := by
    intro x4 u H locs ls hf hI hl
    unfold zf_CCC_step_0_b40 at hf
    refine lv_aload_n B.1 B.2.1 d_CC_step_40 rfl (lv_at hl 0 rfl) ?_
    refine rx_get (v := .ref (a 26)) B hI hcl_CC hin_CC 0 (wC_at_0 a z u) 1 (by decide) hf_CC_1 zw_7 rfl d_CC_step_41 ?_
    refine lv_iload B.1 B.2.1 d_CC_step_44 (lv_at hl 1 rfl) ?_
    obtain ⟨r1, u2, h3, hf⟩ := zbd_some hf
    refine rx_Vv (n := 1) (As := [.int x4]) (rest := []) B hI hl.1 (zc_CCCode_finishInstruction_26 l D z a N x4 u r1 u2 h3) zw_373 zw_375 zw_376 zw_10 zw_374 (by decide +kernel) 26 (wC_at_26 a z u) hcl_CCode rfl rfl (Nat.le_of_ble_eq_true rfl) d_CC_step_46 ⟨Nat.le_of_ble_eq_true rfl, Nat.le_of_ble_eq_true rfl⟩ rfl rfl ⟨Nat.zero_le _, Nat.zero_le _⟩ (fun H locs hI => ?_)
    refine lv_iload B.1 B.2.1 d_CC_step_49 (lv_at hl 1 rfl) ?_
    obtain ⟨e4, e5⟩ := zrt hf
    exact zr_i (wC a z) B hI hr hlk e4 e5 d_CC_step_51
  intro hI hl hf
  unfold zf_CCC_step_0 at hf
  refine lv_aload_n B.1 B.2.1 d_CC_step_0 rfl (lv_at hl 0 rfl) ?_
  refine rx_get (v := .ref (a 26)) B hI hcl_CC hin_CC 0 (wC_at_0 a z u) 1 (by decide) hf_CC_1 zw_7 rfl d_CC_step_1 ?_
  obtain ⟨r1, u2, h3, hf⟩ := zbd_some hf
  refine rx_Vi (n := 0) (As := []) (rest := []) B hI hl.1 (zc_CCCode_isOpen_26 l D z a N  u r1 u2 h3) zw_9 zw_12 zw_13 zw_10 zw_11 (by decide +kernel) 26 (wC_at_26 a z u) hcl_CCode rfl rfl (Nat.le_of_ble_eq_true rfl) d_CC_step_4 ⟨Nat.le_of_ble_eq_true rfl, Nat.le_of_ble_eq_true rfl⟩ rfl rfl ⟨Nat.zero_le _, Nat.zero_le _⟩ (fun H locs hI => ?_)
  refine lv_if_ne (tgt := 12) B.1 B.2.1 d_CC_step_7 (by decide) (fun hc4 => ?_) (fun hc4 => ?_)
  · rw [if_neg hc4] at hf
    refine lv_aload_n B.1 B.2.1 d_CC_step_12 rfl (lv_at hl 0 rfl) ?_
    refine rx_get (v := .ref (a 26)) B hI hcl_CC hin_CC 0 (wC_at_0 a z u2) 1 (by decide) hf_CC_1 zw_7 rfl d_CC_step_13 ?_
    refine lv_iload_n B.1 B.2.1 d_CC_step_16 rfl (lv_at hl 1 rfl) ?_
    refine lv_iload_n B.1 B.2.1 d_CC_step_17 rfl (lv_at hl 2 rfl) ?_
    refine lv_iload_n B.1 B.2.1 d_CC_step_18 rfl (lv_at hl 3 rfl) ?_
    obtain ⟨r5, u6, h7, hf⟩ := zbd_some hf
    refine rx_Vi (n := 3) (As := [.int x1, .int x2, .int x3]) (rest := []) B hI hl.1 (zc_CCCode_faultAhead_26 l D z a N x1 x2 x3 u2 r5 u6 h7) zw_205 zw_207 zw_208 zw_10 zw_206 (by decide +kernel) 26 (wC_at_26 a z u2) hcl_CCode rfl rfl (Nat.le_of_ble_eq_true rfl) d_CC_step_19 ⟨Nat.le_of_ble_eq_true rfl, Nat.le_of_ble_eq_true rfl⟩ rfl rfl ⟨Nat.zero_le _, Nat.zero_le _⟩ (fun H locs hI => ?_)
    refine lv_istore (lv' := [(4, .int r5), (0, .ref (a 0)), (1, .int x1), (2, .int x2), (3, .int x3)]) B.1 B.2.1 d_CC_step_22 hl (by decide) rfl (fun ls hl => ?_)
    refine lv_iload B.1 B.2.1 d_CC_step_24 (lv_at hl 0 rfl) ?_
    refine lv_if_ne (tgt := 40) B.1 B.2.1 d_CC_step_26 (by decide) (fun hc8 => ?_) (fun hc8 => ?_)
    · rw [if_neg hc8] at hf
      exact hb40 r5 u6 _ _ _ hf hI (lv_sub hl [1, 0] rfl)
    · rw [if_pos hc8] at hf
      refine lv_aload_n B.1 B.2.1 d_CC_step_29 rfl (lv_at hl 1 rfl) ?_
      refine rx_get (v := .ref (a 26)) B hI hcl_CC hin_CC 0 (wC_at_0 a z u6) 1 (by decide) hf_CC_1 zw_7 rfl d_CC_step_30 ?_
      refine lv_iload_n B.1 B.2.1 d_CC_step_33 rfl (lv_at hl 2 rfl) ?_
      refine lv_iload_n B.1 B.2.1 d_CC_step_34 rfl (lv_at hl 3 rfl) ?_
      obtain ⟨r9, u10, h11, hf⟩ := zbd_some hf
      refine rx_Vi (n := 2) (As := [.int x1, .int x2]) (rest := []) B hI hl.1 (zc_CCCode_carryOut_26 l D z a N x1 x2 u6 r9 u10 h11) zw_368 zw_370 zw_371 zw_10 zw_369 (by decide +kernel) 26 (wC_at_26 a z u6) hcl_CCode rfl rfl (Nat.le_of_ble_eq_true rfl) d_CC_step_35 ⟨Nat.le_of_ble_eq_true rfl, Nat.le_of_ble_eq_true rfl⟩ rfl rfl ⟨Nat.zero_le _, Nat.zero_le _⟩ (fun H locs hI => ?_)
      refine lv_istore (lv' := [(4, .int r9), (0, .ref (a 0)), (1, .int x1), (2, .int x2), (3, .int x3)]) B.1 B.2.1 d_CC_step_38 hl (by decide) rfl (fun ls hl => ?_)
      exact hb40 r9 u10 _ _ _ hf hI (lv_sub hl [1, 0] rfl)
  · rw [if_pos hc4] at hf
    refine lv_iconst (v := (-1)) B.1 B.2.1 d_CC_step_10 (by decide) ?_
    obtain ⟨e12, e13⟩ := zrt hf
    exact zr_i (wC a z) B hI hr hlk e12 e13 d_CC_step_11
set_option maxHeartbeats 4000000 in
set_option maxRecDepth 100000 in
theorem zc_CCC_state_0 (l : Launch) (D : va_G) (z : zZ) (a : Nat → Nat) (N : Nat)  (u : zU) (r : Int32) (u1 : zU) (hf : zf_CCC_state_0 N  u = some (r, u1)) : zMet l D z y_CC_state (.code y_CC_state b_CC_state 1 (some (.int))) { frames := 0, cells := 0, slots := 0, locals := 0 } [.ref (a 0)] (wC a z u) (zQi D r (wC a z u1)) := by
  refine zM_i (own := R_CC) [.ref (a 0)] (wC a z u) r (wC a z u1) (by decide) rfl (Nat.le_of_ble_eq_true rfl) ?_
  intro p e s m args below meth c A ls B hr hlk hI hl
  have hl : lv_has ls 1 [(0, .ref (a 0))] := hl
  revert hf
  revert hI hl
  intro hI hl hf
  unfold zf_CCC_state_0 at hf
  refine lv_aload_n B.1 B.2.1 d_CC_state_0 rfl (lv_at hl 0 rfl) ?_
  refine rx_get (v := .ref (a 26)) B hI hcl_CC hin_CC 0 (wC_at_0 a z u) 1 (by decide) hf_CC_1 zw_7 rfl d_CC_state_1 ?_
  refine rx_getN (v := .int (gi u 8)) B hI hcl_CCode hin_CCode 26 (wC_at_26 a z u) 5 (by decide) hf_CCode_5 zw_377 rfl d_CC_state_4 ?_
  obtain ⟨e1, e2⟩ := zrt hf
  exact zr_i (wC a z) B hI hr hlk e1 e2 d_CC_state_7
set_option maxHeartbeats 4000000 in
set_option maxRecDepth 100000 in
theorem zc_CCStack_isLive_31 (l : Launch) (D : va_G) (z : zZ) (a : Nat → Nat) (N : Nat)  (u : zU) (r : Int32) (u1 : zU) (hf : zf_CCStack_isLive_31 N  u = some (r, u1)) : zMet l D z y_CStack_isLive (.code y_CStack_isLive b_CStack_isLive 1 (some (.boolean))) { frames := 1, cells := 0, slots := 0, locals := 20 } [.ref (a 31)] (wC a z u) (zQi D r (wC a z u1)) := by
  refine zM_i (own := R_CStack) [.ref (a 31)] (wC a z u) r (wC a z u1) (by decide) rfl (Nat.le_of_ble_eq_true rfl) ?_
  intro p e s m args below meth c A ls B hr hlk hI hl
  have hl : lv_has ls 1 [(0, .ref (a 31))] := hl
  revert hf
  revert hI hl
  have hb26 : ∀ (s0 : Int32) (u : zU) (H : Heap) (locs : List Loc) (ls : Array Slot), zf_CCStack_isLive_31_b26 N  s0 u = some (r, u1) → iw D A s (wC a z u) H locs → lv_has ls 1 [] → W p l e ({ frames := 1, cells := 0, slots := 0, locals := 20 } : Room) s m args below meth c H locs 0 0 (MQ below (zQi D r (wC a z u1) A) args s 0 0 A) (F0 m 26 ls [.int s0]) := by
    intro s0 u H locs ls hf hI hl
    unfold zf_CCStack_isLive_31_b26 at hf
    obtain ⟨hz3, hf⟩ := zck_some hf
    obtain ⟨e1, e2⟩ := zrt hf
    exact zr_z (wC a z) B hI hr hlk hz3 e1 e2 d_CStack_isLive_26
  have hb25 : ∀  (u : zU) (H : Heap) (locs : List Loc) (ls : Array Slot), zf_CCStack_isLive_31_b25 N   u = some (r, u1) → iw D A s (wC a z u) H locs → lv_has ls 1 [] → W p l e ({ frames := 1, cells := 0, slots := 0, locals := 20 } : Room) s m args below meth c H locs 0 0 (MQ below (zQi D r (wC a z u1) A) args s 0 0 A) (F0 m 25 ls []) := by
    intro  u H locs ls hf hI hl
    unfold zf_CCStack_isLive_31_b25 at hf
    refine lv_iconst (v := 0) B.1 B.2.1 d_CStack_isLive_25 (by decide) ?_
    exact hb26 0 u _ _ _ hf hI (lv_sub hl [] rfl)
  intro hI hl hf
  unfold zf_CCStack_isLive_31 at hf
  refine lv_aload_n B.1 B.2.1 d_CStack_isLive_0 rfl (lv_at hl 0 rfl) ?_
  obtain ⟨r1, u2, h3, hf⟩ := zbd_some hf
  refine rx_Vi (n := 0) (As := []) (rest := []) B hI hl.1 (zc_CCStack_hasInnermost_31 l D z a N  u r1 u2 h3) zw_270 zw_272 zw_273 zw_82 zw_271 (by decide +kernel) 31 (wC_at_31 a z u) hcl_CStack rfl rfl (Nat.le_of_ble_eq_true rfl) d_CStack_isLive_1 ⟨Nat.le_of_ble_eq_true rfl, Nat.le_of_ble_eq_true rfl⟩ rfl rfl ⟨Nat.zero_le _, Nat.zero_le _⟩ (fun H locs hI => ?_)
  refine lv_if_eq (tgt := 25) B.1 B.2.1 d_CStack_isLive_4 (by decide) (fun hc4 => ?_) (fun hc4 => ?_)
  · rw [if_pos hc4] at hf
    exact hb25  u2 _ _ _ hf hI (lv_sub hl [] rfl)
  · rw [if_neg hc4] at hf
    refine lv_aload_n B.1 B.2.1 d_CStack_isLive_7 rfl (lv_at hl 0 rfl) ?_
    refine rx_get (v := .ref (a 36)) B hI hcl_CStack hin_CStack 31 (wC_at_31 a z u2) 5 (by decide) hf_CStack_5 zw_80 rfl d_CStack_isLive_8 ?_
    refine lv_aload_n B.1 B.2.1 d_CStack_isLive_11 rfl (lv_at hl 0 rfl) ?_
    refine rx_get (v := .int (gi u2 15)) B hI hcl_CStack hin_CStack 31 (wC_at_31 a z u2) 8 (by decide) hf_CStack_8 zw_75 rfl d_CStack_isLive_12 ?_
    refine lv_iconst (v := 1) B.1 B.2.1 d_CStack_isLive_15 (by decide) ?_
    refine lv_isub B.1 B.2.1 d_CStack_isLive_16 ?_
    obtain ⟨hi5, hf⟩ := zck_some hf
    refine rx_zald B hI 36 (wC_at_36 a z u2) hi5 d_CStack_isLive_17 ?_
    refine lv_if_eq (tgt := 25) B.1 B.2.1 d_CStack_isLive_18 (by decide) (fun hc6 => ?_) (fun hc6 => ?_)
    · rw [if_pos hc6] at hf
      exact hb25  u2 _ _ _ hf hI (lv_sub hl [] rfl)
    · rw [if_neg hc6] at hf
      refine lv_iconst (v := 1) B.1 B.2.1 d_CStack_isLive_21 (by decide) ?_
      refine lv_goto (tgt := 26) B.1 B.2.1 d_CStack_isLive_22 (by decide) ?_
      exact hb26 1 u2 _ _ _ hf hI (lv_sub hl [] rfl)
set_option maxHeartbeats 4000000 in
set_option maxRecDepth 100000 in
theorem zc_CCCode_figure_26 (l : Launch) (D : va_G) (z : zZ) (a : Nat → Nat) (N : Nat) (x1 : Int32) (u : zU) (r : Int64) (u1 : zU) (hf : zf_CCCode_figure_26 N x1 u = some (r, u1)) : zMet l D z y_CCode_figure (.code y_CCode_figure b_CCode_figure 2 (some (.long))) { frames := 2, cells := 0, slots := 0, locals := 43 } [.ref (a 26), .int x1] (wC a z u) (zQl D r (wC a z u1)) := by
  refine zM_l (own := R_CCode) [.ref (a 26), .int x1] (wC a z u) r (wC a z u1) (by decide) rfl (Nat.le_of_ble_eq_true rfl) ?_
  intro p e s m args below meth c A ls B hr hlk hI hl
  have hl : lv_has ls 2 [(0, .ref (a 26)), (1, .int x1)] := hl
  revert hf
  revert hI hl
  have hb82 : ∀ (s0 : Int64) (u : zU) (H : Heap) (locs : List Loc) (ls : Array Slot), zf_CCCode_figure_26_b82 N  s0 u = some (r, u1) → iw D A s (wC a z u) H locs → lv_has ls 2 [] → W p l e ({ frames := 2, cells := 0, slots := 0, locals := 43 } : Room) s m args below meth c H locs 0 0 (MQ below (zQl D r (wC a z u1) A) args s 0 0 A) (F0 m 82 ls [.long s0]) := by
    intro s0 u H locs ls hf hI hl
    unfold zf_CCCode_figure_26_b82 at hf
    obtain ⟨e1, e2⟩ := zrt hf
    exact zr_l (wC a z) B hI hr hlk e1 e2 d_CCode_figure_82
  intro hI hl hf
  unfold zf_CCCode_figure_26 at hf
  refine lv_iload_n B.1 B.2.1 d_CCode_figure_0 rfl (lv_at hl 1 rfl) ?_
  by_cases hc1 : x1 = 0
  · rw [if_pos hc1] at hf
    refine lv_tableIn (off := 39) (tgt := 40) B.1 B.2.1 d_CCode_figure_1 (by rw [hc1]; decide +kernel) (by rw [hc1]; decide +kernel) (by rw [hc1]; decide +kernel) (by decide) ?_
    refine lv_aload_n B.1 B.2.1 d_CCode_figure_40 rfl (lv_at hl 0 rfl) ?_
    refine rx_get (v := .ref (a 31)) B hI hcl_CCode hin_CCode 26 (wC_at_26 a z u) 1 (by decide) hf_CCode_1 zw_73 rfl d_CCode_figure_41 ?_
    refine rx_getN (v := .int (gi u 14)) B hI hcl_CStack hin_CStack 31 (wC_at_31 a z u) 7 (by decide) hf_CStack_7 zw_386 rfl d_CCode_figure_44 ?_
    refine lv_i2l B.1 B.2.1 d_CCode_figure_47 rfl ?_
    obtain ⟨e2, e3⟩ := zrt hf
    exact zr_l (wC a z) B hI hr hlk e2 e3 d_CCode_figure_48
  rw [if_neg hc1] at hf
  by_cases hc4 : x1 = 1
  · rw [if_pos hc4] at hf
    refine lv_tableIn (off := 48) (tgt := 49) B.1 B.2.1 d_CCode_figure_1 (by rw [hc4]; decide +kernel) (by rw [hc4]; decide +kernel) (by rw [hc4]; decide +kernel) (by decide) ?_
    refine lv_aload_n B.1 B.2.1 d_CCode_figure_49 rfl (lv_at hl 0 rfl) ?_
    refine rx_get (v := .ref (a 31)) B hI hcl_CCode hin_CCode 26 (wC_at_26 a z u) 1 (by decide) hf_CCode_1 zw_73 rfl d_CCode_figure_50 ?_
    refine rx_getN (v := .int (gi u 15)) B hI hcl_CStack hin_CStack 31 (wC_at_31 a z u) 8 (by decide) hf_CStack_8 zw_372 rfl d_CCode_figure_53 ?_
    refine lv_i2l B.1 B.2.1 d_CCode_figure_56 rfl ?_
    obtain ⟨e5, e6⟩ := zrt hf
    exact zr_l (wC a z) B hI hr hlk e5 e6 d_CCode_figure_57
  rw [if_neg hc4] at hf
  by_cases hc7 : x1 = 2
  · rw [if_pos hc7] at hf
    refine lv_tableIn (off := 57) (tgt := 58) B.1 B.2.1 d_CCode_figure_1 (by rw [hc7]; decide +kernel) (by rw [hc7]; decide +kernel) (by rw [hc7]; decide +kernel) (by decide) ?_
    refine lv_aload_n B.1 B.2.1 d_CCode_figure_58 rfl (lv_at hl 0 rfl) ?_
    refine rx_get (v := .ref (a 31)) B hI hcl_CCode hin_CCode 26 (wC_at_26 a z u) 1 (by decide) hf_CCode_1 zw_73 rfl d_CCode_figure_59 ?_
    obtain ⟨r8, u9, h10, hf⟩ := zbd_some hf
    refine rx_Vi (n := 0) (As := []) (rest := []) B hI hl.1 (zc_CCStack_height_31 l D z a N  u r8 u9 h10) zw_385 zw_254 zw_255 zw_82 zw_253 (by decide +kernel) 31 (wC_at_31 a z u) hcl_CStack rfl rfl (Nat.le_of_ble_eq_true rfl) d_CCode_figure_62 ⟨Nat.le_of_ble_eq_true rfl, Nat.le_of_ble_eq_true rfl⟩ rfl rfl ⟨Nat.zero_le _, Nat.zero_le _⟩ (fun H locs hI => ?_)
    refine lv_i2l B.1 B.2.1 d_CCode_figure_65 rfl ?_
    obtain ⟨e11, e12⟩ := zrt hf
    exact zr_l (wC a z) B hI hr hlk e11 e12 d_CCode_figure_66
  rw [if_neg hc7] at hf
  by_cases hc13 : x1 = 3
  · rw [if_pos hc13] at hf
    refine lv_tableIn (off := 66) (tgt := 67) B.1 B.2.1 d_CCode_figure_1 (by rw [hc13]; decide +kernel) (by rw [hc13]; decide +kernel) (by rw [hc13]; decide +kernel) (by decide) ?_
    refine lv_aload_n B.1 B.2.1 d_CCode_figure_67 rfl (lv_at hl 0 rfl) ?_
    refine rx_get (v := .ref (a 31)) B hI hcl_CCode hin_CCode 26 (wC_at_26 a z u) 1 (by decide) hf_CCode_1 zw_73 rfl d_CCode_figure_68 ?_
    obtain ⟨r14, u15, h16, hf⟩ := zbd_some hf
    refine rx_Vi (n := 0) (As := []) (rest := []) B hI hl.1 (zc_CCStack_isLive_31 l D z a N  u r14 u15 h16) zw_381 zw_383 zw_384 zw_82 zw_382 (by decide +kernel) 31 (wC_at_31 a z u) hcl_CStack rfl rfl (Nat.le_of_ble_eq_true rfl) d_CCode_figure_71 ⟨Nat.le_of_ble_eq_true rfl, Nat.le_of_ble_eq_true rfl⟩ rfl rfl ⟨Nat.zero_le _, Nat.zero_le _⟩ (fun H locs hI => ?_)
    refine lv_if_eq (tgt := 81) B.1 B.2.1 d_CCode_figure_74 (by decide) (fun hc17 => ?_) (fun hc17 => ?_)
    · rw [if_pos hc17] at hf
      refine lv_lconst (v := 0) B.1 B.2.1 d_CCode_figure_81 (by decide) ?_
      exact hb82 0 u15 _ _ _ hf hI (lv_sub hl [] rfl)
    · rw [if_neg hc17] at hf
      refine lv_lconst (v := 1) B.1 B.2.1 d_CCode_figure_77 (by decide) ?_
      refine lv_goto (tgt := 82) B.1 B.2.1 d_CCode_figure_78 (by decide) ?_
      exact hb82 1 u15 _ _ _ hf hI (lv_sub hl [] rfl)
  rw [if_neg hc13] at hf
  by_cases hc18 : x1 = 4
  · rw [if_pos hc18] at hf
    refine lv_tableIn (off := 82) (tgt := 83) B.1 B.2.1 d_CCode_figure_1 (by rw [hc18]; decide +kernel) (by rw [hc18]; decide +kernel) (by rw [hc18]; decide +kernel) (by decide) ?_
    refine lv_aload_n B.1 B.2.1 d_CCode_figure_83 rfl (lv_at hl 0 rfl) ?_
    refine rx_get (v := .ref (a 31)) B hI hcl_CCode hin_CCode 26 (wC_at_26 a z u) 1 (by decide) hf_CCode_1 zw_73 rfl d_CCode_figure_84 ?_
    obtain ⟨r19, u20, h21, hf⟩ := zbd_some hf
    refine rx_Vi (n := 0) (As := []) (rest := []) B hI hl.1 (zc_CCStack_opener_31 l D z a N  u r19 u20 h21) zw_380 zw_262 zw_263 zw_82 zw_261 (by decide +kernel) 31 (wC_at_31 a z u) hcl_CStack rfl rfl (Nat.le_of_ble_eq_true rfl) d_CCode_figure_87 ⟨Nat.le_of_ble_eq_true rfl, Nat.le_of_ble_eq_true rfl⟩ rfl rfl ⟨Nat.zero_le _, Nat.zero_le _⟩ (fun H locs hI => ?_)
    refine lv_i2l B.1 B.2.1 d_CCode_figure_90 rfl ?_
    obtain ⟨e22, e23⟩ := zrt hf
    exact zr_l (wC a z) B hI hr hlk e22 e23 d_CCode_figure_91
  rw [if_neg hc18] at hf
  by_cases hc24 : x1 = 5
  · rw [if_pos hc24] at hf
    refine lv_tableIn (off := 91) (tgt := 92) B.1 B.2.1 d_CCode_figure_1 (by rw [hc24]; decide +kernel) (by rw [hc24]; decide +kernel) (by rw [hc24]; decide +kernel) (by decide) ?_
    refine lv_aload_n B.1 B.2.1 d_CCode_figure_92 rfl (lv_at hl 0 rfl) ?_
    refine rx_get (v := .ref (a 27)) B hI hcl_CCode hin_CCode 26 (wC_at_26 a z u) 2 (by decide) hf_CCode_2 zw_90 rfl d_CCode_figure_93 ?_
    refine rx_getN (v := .long (gj u 0)) B hI hcl_CLocals hin_CLocals 27 (wC_at_27 a z u) 3 (by decide) hf_CLocals_3 zw_379 rfl d_CCode_figure_96 ?_
    obtain ⟨e25, e26⟩ := zrt hf
    exact zr_l (wC a z) B hI hr hlk e25 e26 d_CCode_figure_99
  rw [if_neg hc24] at hf
  have ghc1 := lv_neT (a := 0) hc1 (by decide)
  have ghc4 := lv_neT (a := 1) hc4 (by decide)
  have ghc7 := lv_neT (a := 2) hc7 (by decide)
  have ghc13 := lv_neT (a := 3) hc13 (by decide)
  have ghc18 := lv_neT (a := 4) hc18 (by decide)
  have ghc24 := lv_neT (a := 5) hc24 (by decide)
  refine lv_tableOut (tgt := 100) B.1 B.2.1 d_CCode_figure_1 (by omega) (by decide) ?_
  refine lv_ldc2 (v := (-1)) B.1 B.2.1 B.2.2.2.1 (B.2.2.2.2.1 _ zw_378) d_CCode_figure_100 ?_
  obtain ⟨e27, e28⟩ := zrt hf
  exact zr_l (wC a z) B hI hr hlk e27 e28 d_CCode_figure_103
set_option maxHeartbeats 4000000 in
set_option maxRecDepth 100000 in
theorem zc_CCC_look_0 (l : Launch) (D : va_G) (z : zZ) (a : Nat → Nat) (N : Nat) (x1 : Int32) (u : zU) (r : Int64) (u1 : zU) (hf : zf_CCC_look_0 N x1 u = some (r, u1)) : zMet l D z y_CC_look (.code y_CC_look b_CC_look 2 (some (.long))) { frames := 3, cells := 0, slots := 0, locals := 64 } [.ref (a 0), .int x1] (wC a z u) (zQl D r (wC a z u1)) := by
  refine zM_l (own := R_CC) [.ref (a 0), .int x1] (wC a z u) r (wC a z u1) (by decide) rfl (Nat.le_of_ble_eq_true rfl) ?_
  intro p e s m args below meth c A ls B hr hlk hI hl
  have hl : lv_has ls 2 [(0, .ref (a 0)), (1, .int x1)] := hl
  revert hf
  revert hI hl
  have hb24 : ∀ (s0 : Int64) (u : zU) (H : Heap) (locs : List Loc) (ls : Array Slot), zf_CCC_look_0_b24 N  s0 u = some (r, u1) → iw D A s (wC a z u) H locs → lv_has ls 2 [] → W p l e ({ frames := 3, cells := 0, slots := 0, locals := 64 } : Room) s m args below meth c H locs 0 0 (MQ below (zQl D r (wC a z u1) A) args s 0 0 A) (F0 m 24 ls [.long s0]) := by
    intro s0 u H locs ls hf hI hl
    unfold zf_CCC_look_0_b24 at hf
    obtain ⟨e1, e2⟩ := zrt hf
    exact zr_l (wC a z) B hI hr hlk e1 e2 d_CC_look_24
  intro hI hl hf
  unfold zf_CCC_look_0 at hf
  refine lv_aload_n B.1 B.2.1 d_CC_look_0 rfl (lv_at hl 0 rfl) ?_
  refine rx_get (v := .ref (a 26)) B hI hcl_CC hin_CC 0 (wC_at_0 a z u) 1 (by decide) hf_CC_1 zw_7 rfl d_CC_look_1 ?_
  obtain ⟨r1, u2, h3, hf⟩ := zbd_some hf
  refine rx_Vi (n := 0) (As := []) (rest := []) B hI hl.1 (zc_CCCode_isOpen_26 l D z a N  u r1 u2 h3) zw_9 zw_12 zw_13 zw_10 zw_11 (by decide +kernel) 26 (wC_at_26 a z u) hcl_CCode rfl rfl (Nat.le_of_ble_eq_true rfl) d_CC_look_4 ⟨Nat.le_of_ble_eq_true rfl, Nat.le_of_ble_eq_true rfl⟩ rfl rfl ⟨Nat.zero_le _, Nat.zero_le _⟩ (fun H locs hI => ?_)
  refine lv_if_eq (tgt := 21) B.1 B.2.1 d_CC_look_7 (by decide) (fun hc4 => ?_) (fun hc4 => ?_)
  · rw [if_pos hc4] at hf
    refine lv_ldc2 (v := (-1)) B.1 B.2.1 B.2.2.2.1 (B.2.2.2.2.1 _ zw_391) d_CC_look_21 ?_
    exact hb24 (-1) u2 _ _ _ hf hI (lv_sub hl [] rfl)
  · rw [if_neg hc4] at hf
    refine lv_aload_n B.1 B.2.1 d_CC_look_10 rfl (lv_at hl 0 rfl) ?_
    refine rx_get (v := .ref (a 26)) B hI hcl_CC hin_CC 0 (wC_at_0 a z u2) 1 (by decide) hf_CC_1 zw_7 rfl d_CC_look_11 ?_
    refine lv_iload_n B.1 B.2.1 d_CC_look_14 rfl (lv_at hl 1 rfl) ?_
    obtain ⟨r5, u6, h7, hf⟩ := zbd_some hf
    refine rx_Vl (n := 1) (As := [.int x1]) (rest := []) B hI hl.1 (zc_CCCode_figure_26 l D z a N x1 u2 r5 u6 h7) zw_387 zw_389 zw_390 zw_10 zw_388 (by decide +kernel) 26 (wC_at_26 a z u2) hcl_CCode rfl rfl (Nat.le_of_ble_eq_true rfl) d_CC_look_15 ⟨Nat.le_of_ble_eq_true rfl, Nat.le_of_ble_eq_true rfl⟩ rfl rfl ⟨Nat.zero_le _, Nat.zero_le _⟩ (fun H locs hI => ?_)
    refine lv_goto (tgt := 24) B.1 B.2.1 d_CC_look_18 (by decide) ?_
    exact hb24 r5 u6 _ _ _ hf hI (lv_sub hl [] rfl)
set_option maxHeartbeats 4000000 in
set_option maxRecDepth 100000 in
theorem zc_CCStack_operandFromEnd_31 (l : Launch) (D : va_G) (z : zZ) (a : Nat → Nat) (N : Nat) (x1 : Int32) (u : zU) (r : Int32) (u1 : zU) (hf : zf_CCStack_operandFromEnd_31 N x1 u = some (r, u1)) : zMet l D z y_CStack_operandFromEnd (.code y_CStack_operandFromEnd b_CStack_operandFromEnd 2 (some (.int))) { frames := 0, cells := 0, slots := 0, locals := 0 } [.ref (a 31), .int x1] (wC a z u) (zQi D r (wC a z u1)) := by
  refine zM_i (own := R_CStack) [.ref (a 31), .int x1] (wC a z u) r (wC a z u1) (by decide) rfl (Nat.le_of_ble_eq_true rfl) ?_
  intro p e s m args below meth c A ls B hr hlk hI hl
  have hl : lv_has ls 2 [(0, .ref (a 31)), (1, .int x1)] := hl
  revert hf
  revert hI hl
  have hb24 : ∀  (u : zU) (H : Heap) (locs : List Loc) (ls : Array Slot), zf_CCStack_operandFromEnd_31_b24 N   u = some (r, u1) → iw D A s (wC a z u) H locs → lv_has ls 2 [] → W p l e ({ frames := 0, cells := 0, slots := 0, locals := 0 } : Room) s m args below meth c H locs 0 0 (MQ below (zQi D r (wC a z u1) A) args s 0 0 A) (F0 m 24 ls []) := by
    intro  u H locs ls hf hI hl
    unfold zf_CCStack_operandFromEnd_31_b24 at hf
    refine lv_iconst (v := (-1)) B.1 B.2.1 d_CStack_operandFromEnd_24 (by decide) ?_
    obtain ⟨e1, e2⟩ := zrt hf
    exact zr_i (wC a z) B hI hr hlk e1 e2 d_CStack_operandFromEnd_25
  intro hI hl hf
  unfold zf_CCStack_operandFromEnd_31 at hf
  refine lv_iload_n B.1 B.2.1 d_CStack_operandFromEnd_0 rfl (lv_at hl 1 rfl) ?_
  refine lv_if_lt (tgt := 24) B.1 B.2.1 d_CStack_operandFromEnd_1 (by decide) (fun hc1 => ?_) (fun hc1 => ?_)
  · rw [if_pos hc1] at hf
    exact hb24  u _ _ _ hf hI (lv_sub hl [] rfl)
  · rw [if_neg hc1] at hf
    refine lv_iload_n B.1 B.2.1 d_CStack_operandFromEnd_4 rfl (lv_at hl 1 rfl) ?_
    refine lv_aload_n B.1 B.2.1 d_CStack_operandFromEnd_5 rfl (lv_at hl 0 rfl) ?_
    refine rx_get (v := .int (gi u 14)) B hI hcl_CStack hin_CStack 31 (wC_at_31 a z u) 7 (by decide) hf_CStack_7 zw_74 rfl d_CStack_operandFromEnd_6 ?_
    refine lv_icmp_ge (tgt := 24) B.1 B.2.1 d_CStack_operandFromEnd_9 (by decide) (fun hc2 => ?_) (fun hc2 => ?_)
    · rw [if_pos hc2] at hf
      exact hb24  u _ _ _ hf hI (lv_sub hl [] rfl)
    · rw [if_neg hc2] at hf
      refine lv_aload_n B.1 B.2.1 d_CStack_operandFromEnd_12 rfl (lv_at hl 0 rfl) ?_
      refine rx_get (v := .int (gi u 14)) B hI hcl_CStack hin_CStack 31 (wC_at_31 a z u) 7 (by decide) hf_CStack_7 zw_74 rfl d_CStack_operandFromEnd_13 ?_
      refine lv_aload_n B.1 B.2.1 d_CStack_operandFromEnd_16 rfl (lv_at hl 0 rfl) ?_
      refine rx_get (v := .ref (a 32)) B hI hcl_CStack hin_CStack 31 (wC_at_31 a z u) 1 (by decide) hf_CStack_1 zw_214 rfl d_CStack_operandFromEnd_17 ?_
      refine rx_alen (v := 200) B hI 32 0 (wC_at_32 a z u) rfl rfl d_CStack_operandFromEnd_20 ?_
      refine lv_icmp_le (tgt := 26) B.1 B.2.1 d_CStack_operandFromEnd_21 (by decide) (fun hc3 => ?_) (fun hc3 => ?_)
      · rw [if_pos hc3] at hf
        refine lv_aload_n B.1 B.2.1 d_CStack_operandFromEnd_26 rfl (lv_at hl 0 rfl) ?_
        refine rx_get (v := .ref (a 32)) B hI hcl_CStack hin_CStack 31 (wC_at_31 a z u) 1 (by decide) hf_CStack_1 zw_214 rfl d_CStack_operandFromEnd_27 ?_
        refine lv_aload_n B.1 B.2.1 d_CStack_operandFromEnd_30 rfl (lv_at hl 0 rfl) ?_
        refine rx_get (v := .int (gi u 14)) B hI hcl_CStack hin_CStack 31 (wC_at_31 a z u) 7 (by decide) hf_CStack_7 zw_74 rfl d_CStack_operandFromEnd_31 ?_
        refine lv_iconst (v := 1) B.1 B.2.1 d_CStack_operandFromEnd_34 (by decide) ?_
        refine lv_isub B.1 B.2.1 d_CStack_operandFromEnd_35 ?_
        refine lv_iload_n B.1 B.2.1 d_CStack_operandFromEnd_36 rfl (lv_at hl 1 rfl) ?_
        refine lv_isub B.1 B.2.1 d_CStack_operandFromEnd_37 ?_
        obtain ⟨hi4, hf⟩ := zck_some hf
        refine rx_iald B hI 32 (wC_at_32 a z u) hi4 d_CStack_operandFromEnd_38 ?_
        obtain ⟨e5, e6⟩ := zrt hf
        exact zr_i (wC a z) B hI hr hlk e5 e6 d_CStack_operandFromEnd_39
      · rw [if_neg hc3] at hf
        exact hb24  u _ _ _ hf hI (lv_sub hl [] rfl)
set_option maxHeartbeats 4000000 in
set_option maxRecDepth 100000 in
theorem zc_CCC_operand_0 (l : Launch) (D : va_G) (z : zZ) (a : Nat → Nat) (N : Nat) (x1 : Int32) (u : zU) (r : Int32) (u1 : zU) (hf : zf_CCC_operand_0 N x1 u = some (r, u1)) : zMet l D z y_CC_operand (.code y_CC_operand b_CC_operand 2 (some (.int))) { frames := 1, cells := 0, slots := 0, locals := 21 } [.ref (a 0), .int x1] (wC a z u) (zQi D r (wC a z u1)) := by
  refine zM_i (own := R_CC) [.ref (a 0), .int x1] (wC a z u) r (wC a z u1) (by decide) rfl (Nat.le_of_ble_eq_true rfl) ?_
  intro p e s m args below meth c A ls B hr hlk hI hl
  have hl : lv_has ls 2 [(0, .ref (a 0)), (1, .int x1)] := hl
  revert hf
  revert hI hl
  have hb25 : ∀ (s0 : Int32) (u : zU) (H : Heap) (locs : List Loc) (ls : Array Slot), zf_CCC_operand_0_b25 N  s0 u = some (r, u1) → iw D A s (wC a z u) H locs → lv_has ls 2 [] → W p l e ({ frames := 1, cells := 0, slots := 0, locals := 21 } : Room) s m args below meth c H locs 0 0 (MQ below (zQi D r (wC a z u1) A) args s 0 0 A) (F0 m 25 ls [.int s0]) := by
    intro s0 u H locs ls hf hI hl
    unfold zf_CCC_operand_0_b25 at hf
    obtain ⟨e1, e2⟩ := zrt hf
    exact zr_i (wC a z) B hI hr hlk e1 e2 d_CC_operand_25
  intro hI hl hf
  unfold zf_CCC_operand_0 at hf
  refine lv_aload_n B.1 B.2.1 d_CC_operand_0 rfl (lv_at hl 0 rfl) ?_
  refine rx_get (v := .ref (a 26)) B hI hcl_CC hin_CC 0 (wC_at_0 a z u) 1 (by decide) hf_CC_1 zw_7 rfl d_CC_operand_1 ?_
  obtain ⟨r1, u2, h3, hf⟩ := zbd_some hf
  refine rx_Vi (n := 0) (As := []) (rest := []) B hI hl.1 (zc_CCCode_isOpen_26 l D z a N  u r1 u2 h3) zw_9 zw_12 zw_13 zw_10 zw_11 (by decide +kernel) 26 (wC_at_26 a z u) hcl_CCode rfl rfl (Nat.le_of_ble_eq_true rfl) d_CC_operand_4 ⟨Nat.le_of_ble_eq_true rfl, Nat.le_of_ble_eq_true rfl⟩ rfl rfl ⟨Nat.zero_le _, Nat.zero_le _⟩ (fun H locs hI => ?_)
  refine lv_if_eq (tgt := 24) B.1 B.2.1 d_CC_operand_7 (by decide) (fun hc4 => ?_) (fun hc4 => ?_)
  · rw [if_pos hc4] at hf
    refine lv_iconst (v := (-1)) B.1 B.2.1 d_CC_operand_24 (by decide) ?_
    exact hb25 (-1) u2 _ _ _ hf hI (lv_sub hl [] rfl)
  · rw [if_neg hc4] at hf
    refine lv_aload_n B.1 B.2.1 d_CC_operand_10 rfl (lv_at hl 0 rfl) ?_
    refine rx_get (v := .ref (a 26)) B hI hcl_CC hin_CC 0 (wC_at_0 a z u2) 1 (by decide) hf_CC_1 zw_7 rfl d_CC_operand_11 ?_
    refine rx_getN (v := .ref (a 31)) B hI hcl_CCode hin_CCode 26 (wC_at_26 a z u2) 1 (by decide) hf_CCode_1 zw_392 rfl d_CC_operand_14 ?_
    refine lv_iload_n B.1 B.2.1 d_CC_operand_17 rfl (lv_at hl 1 rfl) ?_
    obtain ⟨r5, u6, h7, hf⟩ := zbd_some hf
    refine rx_Vi (n := 1) (As := [.int x1]) (rest := []) B hI hl.1 (zc_CCStack_operandFromEnd_31 l D z a N x1 u2 r5 u6 h7) zw_393 zw_395 zw_396 zw_82 zw_394 (by decide +kernel) 31 (wC_at_31 a z u2) hcl_CStack rfl rfl (Nat.le_of_ble_eq_true rfl) d_CC_operand_18 ⟨Nat.le_of_ble_eq_true rfl, Nat.le_of_ble_eq_true rfl⟩ rfl rfl ⟨Nat.zero_le _, Nat.zero_le _⟩ (fun H locs hI => ?_)
    refine lv_goto (tgt := 25) B.1 B.2.1 d_CC_operand_21 (by decide) ?_
    exact hb25 r5 u6 _ _ _ hf hI (lv_sub hl [] rfl)
