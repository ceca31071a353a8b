set_option maxHeartbeats 4000000 in
set_option maxRecDepth 100000 in
theorem zc_MMC_two_0 (l : Launch) (D : va_G) (z : zZ) (a : Nat → Nat) (N : Nat) (x1 : Int32) (x2 : Int32) (u : zU) (r : Unit) (u1 : zU) (hf : zf_MMC_two_0 N x1 x2 u = some (r, u1)) : zMet l D z y_MC_two (.code y_MC_two b_MC_two 3 none) { frames := 2, cells := 0, slots := 0, locals := 43 } [.ref (a 0), .int x1, .int x2] (wM a z u) (zQv D (wM a z u1)) := by
  refine zM_v (own := R_MC) [.ref (a 0), .int x1, .int x2] (wM a z u) (wM a z u1) (by decide) rfl (Nat.le_of_ble_eq_true rfl) ?_
  intro p e s m args below meth c A ls B hr hlk hI hl
  have hl : lv_has ls 3 [(0, .ref (a 0)), (1, .int x1), (2, .int x2)] := hl
  revert hf
  revert hI hl
  intro hI hl hf
  unfold zf_MMC_two_0 at hf
  refine lv_aload_n B.1 B.2.1 d_MC_two_0 rfl (lv_at hl 0 rfl) ?_
  refine lv_iload_n B.1 B.2.1 d_MC_two_1 rfl (lv_at hl 1 rfl) ?_
  obtain ⟨r1, u2, h3, hf⟩ := zbd_some hf
  refine rx_Vv (n := 1) (As := [.int x1]) (rest := []) B hI hl.1 (zc_MMC_take_0 l D z a N x1 u r1 u2 h3) zw_511 zw_513 zw_514 zw_399 zw_512 (by decide +kernel) 0 (wM_at_0 a z u) hcl_MC rfl rfl (Nat.le_of_ble_eq_true rfl) d_MC_two_2 ⟨Nat.le_of_ble_eq_true rfl, Nat.le_of_ble_eq_true rfl⟩ rfl rfl ⟨Nat.zero_le _, Nat.zero_le _⟩ (fun H locs hI => ?_)
  refine lv_aload_n B.1 B.2.1 d_MC_two_5 rfl (lv_at hl 0 rfl) ?_
  refine lv_iload_n B.1 B.2.1 d_MC_two_6 rfl (lv_at hl 1 rfl) ?_
  obtain ⟨r4, u5, h6, hf⟩ := zbd_some hf
  refine rx_Vv (n := 1) (As := [.int x1]) (rest := []) B hI hl.1 (zc_MMC_take_0 l D z a N x1 u2 r4 u5 h6) zw_511 zw_513 zw_514 zw_399 zw_512 (by decide +kernel) 0 (wM_at_0 a z u2) hcl_MC rfl rfl (Nat.le_of_ble_eq_true rfl) d_MC_two_7 ⟨Nat.le_of_ble_eq_true rfl, Nat.le_of_ble_eq_true rfl⟩ rfl rfl ⟨Nat.zero_le _, Nat.zero_le _⟩ (fun H locs hI => ?_)
  refine lv_aload_n B.1 B.2.1 d_MC_two_10 rfl (lv_at hl 0 rfl) ?_
  refine lv_iload_n B.1 B.2.1 d_MC_two_11 rfl (lv_at hl 2 rfl) ?_
  obtain ⟨r7, u8, h9, hf⟩ := zbd_some hf
  refine rx_Vv (n := 1) (As := [.int x2]) (rest := []) B hI hl.1 (zc_MMC_give_0 l D z a N x2 u5 r7 u8 h9) zw_519 zw_521 zw_522 zw_399 zw_520 (by decide +kernel) 0 (wM_at_0 a z u5) hcl_MC rfl rfl (Nat.le_of_ble_eq_true rfl) d_MC_two_12 ⟨Nat.le_of_ble_eq_true rfl, Nat.le_of_ble_eq_true rfl⟩ rfl rfl ⟨Nat.zero_le _, Nat.zero_le _⟩ (fun H locs hI => ?_)
  obtain ⟨e10, e11⟩ := zrt hf
  exact zr_v (wM a z) B hI hr hlk e11 d_MC_two_15
set_option maxHeartbeats 4000000 in
set_option maxRecDepth 100000 in
theorem zc_MMC_choice_0 (l : Launch) (D : va_G) (z : zZ) (a : Nat → Nat) (N : Nat)  (u : zU) (r : Unit) (u1 : zU) (hf : zf_MMC_choice_0 N  u = some (r, u1)) : zMet l D z y_MC_choice (.code y_MC_choice b_MC_choice 3 none) { frames := 2, cells := 0, slots := 0, locals := 43 } [.ref (a 0)] (wM a z u) (zQv D (wM a z u1)) := by
  refine zM_v (own := R_MC) [.ref (a 0)] (wM a z u) (wM a z u1) (by decide) rfl (Nat.le_of_ble_eq_true rfl) ?_
  intro p e s m args below meth c A ls B hr hlk hI hl
  have hl : lv_has ls 3 [(0, .ref (a 0))] := hl
  revert hf
  revert hI hl
  have hb74 : ∀ (s0 : Int32) (u : zU) (H : Heap) (locs : List Loc) (ls : Array Slot), zf_MMC_choice_0_b74 N  s0 u = some (r, u1) → iw D A s (wM a z u) H locs → lv_has ls 3 [] → W p l e ({ frames := 2, cells := 0, slots := 0, locals := 43 } : Room) s m args below meth c H locs 0 0 (MQ below (zQv D (wM a z u1) A) args s 0 0 A) (F0 m 74 ls [.int s0, .ref (a 0)]) := by
    intro s0 u H locs ls hf hI hl
    unfold zf_MMC_choice_0_b74 at hf
    obtain ⟨r1, u2, h3, hf⟩ := zbd_some hf
    refine rx_Vv (n := 1) (As := [.int s0]) (rest := []) B hI hl.1 (zc_MMC_give_0 l D z a N s0 u r1 u2 h3) zw_519 zw_521 zw_522 zw_399 zw_520 (by decide +kernel) 0 (wM_at_0 a z u) hcl_MC rfl rfl (Nat.le_of_ble_eq_true rfl) d_MC_choice_74 ⟨Nat.le_of_ble_eq_true rfl, Nat.le_of_ble_eq_true rfl⟩ rfl rfl ⟨Nat.zero_le _, Nat.zero_le _⟩ (fun H locs hI => ?_)
    obtain ⟨e4, e5⟩ := zrt hf
    exact zr_v (wM a z) B hI hr hlk e5 d_MC_choice_77
  have hb64 : ∀ (x1 : Int32) (x2 : Int32) (u : zU) (H : Heap) (locs : List Loc) (ls : Array Slot), zf_MMC_choice_0_b64 N  x1 x2 u = some (r, u1) → iw D A s (wM a z u) H locs → lv_has ls 3 [(0, .ref (a 0)), (1, .int x1), (2, .int x2)] → W p l e ({ frames := 2, cells := 0, slots := 0, locals := 43 } : Room) s m args below meth c H locs 0 0 (MQ below (zQv D (wM a z u1) A) args s 0 0 A) (F0 m 64 ls []) := by
    intro x1 x2 u H locs ls hf hI hl
    unfold zf_MMC_choice_0_b64 at hf
    refine lv_aload_n B.1 B.2.1 d_MC_choice_64 rfl (lv_at hl 0 rfl) ?_
    refine lv_iload_n B.1 B.2.1 d_MC_choice_65 rfl (lv_at hl 1 rfl) ?_
    refine lv_if_ne (tgt := 73) B.1 B.2.1 d_MC_choice_66 (by decide) (fun hc1 => ?_) (fun hc1 => ?_)
    · rw [if_neg hc1] at hf
      refine lv_iload_n B.1 B.2.1 d_MC_choice_73 rfl (lv_at hl 1 rfl) ?_
      exact hb74 x1 u _ _ _ hf hI (lv_sub hl [] rfl)
    · rw [if_pos hc1] at hf
      refine lv_iload_n B.1 B.2.1 d_MC_choice_69 rfl (lv_at hl 2 rfl) ?_
      refine lv_goto (tgt := 74) B.1 B.2.1 d_MC_choice_70 (by decide) ?_
      exact hb74 x2 u _ _ _ hf hI (lv_sub hl [] rfl)
  have hb46 : ∀ (x1 : Int32) (x2 : Int32) (u : zU) (H : Heap) (locs : List Loc) (ls : Array Slot), zf_MMC_choice_0_b46 N  x1 x2 u = some (r, u1) → iw D A s (wM a z u) H locs → lv_has ls 3 [(0, .ref (a 0)), (1, .int x1), (2, .int x2)] → W p l e ({ frames := 2, cells := 0, slots := 0, locals := 43 } : Room) s m args below meth c H locs 0 0 (MQ below (zQv D (wM a z u1) A) args s 0 0 A) (F0 m 46 ls []) := by
    intro x1 x2 u H locs ls hf hI hl
    unfold zf_MMC_choice_0_b46 at hf
    refine lv_iload_n B.1 B.2.1 d_MC_choice_46 rfl (lv_at hl 1 rfl) ?_
    refine lv_if_eq (tgt := 64) B.1 B.2.1 d_MC_choice_47 (by decide) (fun hc1 => ?_) (fun hc1 => ?_)
    · rw [if_pos hc1] at hf
      exact hb64 x1 x2 u _ _ _ hf hI (lv_sub hl [0, 1, 2] rfl)
    · rw [if_neg hc1] at hf
      refine lv_iload_n B.1 B.2.1 d_MC_choice_50 rfl (lv_at hl 2 rfl) ?_
      refine lv_if_eq (tgt := 64) B.1 B.2.1 d_MC_choice_51 (by decide) (fun hc2 => ?_) (fun hc2 => ?_)
      · rw [if_pos hc2] at hf
        exact hb64 x1 x2 u _ _ _ hf hI (lv_sub hl [0, 1, 2] rfl)
      · rw [if_neg hc2] at hf
        refine lv_iload_n B.1 B.2.1 d_MC_choice_54 rfl (lv_at hl 1 rfl) ?_
        refine lv_iload_n B.1 B.2.1 d_MC_choice_55 rfl (lv_at hl 2 rfl) ?_
        refine lv_icmp_eq (tgt := 64) B.1 B.2.1 d_MC_choice_56 (by decide) (fun hc3 => ?_) (fun hc3 => ?_)
        · rw [if_pos hc3] at hf
          exact hb64 x1 x2 u _ _ _ hf hI (lv_sub hl [0, 1, 2] rfl)
        · rw [if_neg hc3] at hf
          refine lv_aload_n B.1 B.2.1 d_MC_choice_59 rfl (lv_at hl 0 rfl) ?_
          refine lv_iconst (v := 1) B.1 B.2.1 d_MC_choice_60 (by decide) ?_
          obtain ⟨r4, u5, h6, hf⟩ := zbd_some hf
          refine rx_Vv (n := 1) (As := [.int 1]) (rest := []) B hI hl.1 (zc_MMC_stop_0 l D z a N 1 u r4 u5 h6) zw_456 zw_458 zw_459 zw_399 zw_457 (by decide +kernel) 0 (wM_at_0 a z u) hcl_MC rfl rfl (Nat.le_of_ble_eq_true rfl) d_MC_choice_61 ⟨Nat.le_of_ble_eq_true rfl, Nat.le_of_ble_eq_true rfl⟩ rfl rfl ⟨Nat.zero_le _, Nat.zero_le _⟩ (fun H locs hI => ?_)
          exact hb64 x1 x2 u5 _ _ _ hf hI (lv_sub hl [0, 1, 2] rfl)
  have hb40 : ∀ (x1 : Int32) (x2 : Int32) (u : zU) (H : Heap) (locs : List Loc) (ls : Array Slot), zf_MMC_choice_0_b40 N  x1 x2 u = some (r, u1) → iw D A s (wM a z u) H locs → lv_has ls 3 [(0, .ref (a 0)), (1, .int x1), (2, .int x2)] → W p l e ({ frames := 2, cells := 0, slots := 0, locals := 43 } : Room) s m args below meth c H locs 0 0 (MQ below (zQv D (wM a z u1) A) args s 0 0 A) (F0 m 40 ls []) := by
    intro x1 x2 u H locs ls hf hI hl
    unfold zf_MMC_choice_0_b40 at hf
    refine lv_aload_n B.1 B.2.1 d_MC_choice_40 rfl (lv_at hl 0 rfl) ?_
    refine lv_bipush (v := 7) B.1 B.2.1 d_MC_choice_41 (by decide) ?_
    obtain ⟨r1, u2, h3, hf⟩ := zbd_some hf
    refine rx_Vv (n := 1) (As := [.int 7]) (rest := []) B hI hl.1 (zc_MMC_stop_0 l D z a N 7 u r1 u2 h3) zw_456 zw_458 zw_459 zw_399 zw_457 (by decide +kernel) 0 (wM_at_0 a z u) hcl_MC rfl rfl (Nat.le_of_ble_eq_true rfl) d_MC_choice_43 ⟨Nat.le_of_ble_eq_true rfl, Nat.le_of_ble_eq_true rfl⟩ rfl rfl ⟨Nat.zero_le _, Nat.zero_le _⟩ (fun H locs hI => ?_)
    exact hb46 x1 x2 u2 _ _ _ hf hI (lv_sub hl [0, 1, 2] rfl)
  intro hI hl hf
  unfold zf_MMC_choice_0 at hf
  refine lv_aload_n B.1 B.2.1 d_MC_choice_0 rfl (lv_at hl 0 rfl) ?_
  refine lv_bipush (v := 127) B.1 B.2.1 d_MC_choice_1 (by decide) ?_
  obtain ⟨r1, u2, h3, hf⟩ := zbd_some hf
  refine rx_Vv (n := 1) (As := [.int 127]) (rest := []) B hI hl.1 (zc_MMC_take_0 l D z a N 127 u r1 u2 h3) zw_511 zw_513 zw_514 zw_399 zw_512 (by decide +kernel) 0 (wM_at_0 a z u) hcl_MC rfl rfl (Nat.le_of_ble_eq_true rfl) d_MC_choice_3 ⟨Nat.le_of_ble_eq_true rfl, Nat.le_of_ble_eq_true rfl⟩ rfl rfl ⟨Nat.zero_le _, Nat.zero_le _⟩ (fun H locs hI => ?_)
  refine lv_aload_n B.1 B.2.1 d_MC_choice_6 rfl (lv_at hl 0 rfl) ?_
  refine lv_iconst (v := (-1)) B.1 B.2.1 d_MC_choice_7 (by decide) ?_
  obtain ⟨r4, u5, h6, hf⟩ := zbd_some hf
  refine rx_Vv (n := 1) (As := [.int (-1)]) (rest := []) B hI hl.1 (zc_MMC_take_0 l D z a N (-1) u2 r4 u5 h6) zw_511 zw_513 zw_514 zw_399 zw_512 (by decide +kernel) 0 (wM_at_0 a z u2) hcl_MC rfl rfl (Nat.le_of_ble_eq_true rfl) d_MC_choice_8 ⟨Nat.le_of_ble_eq_true rfl, Nat.le_of_ble_eq_true rfl⟩ rfl rfl ⟨Nat.zero_le _, Nat.zero_le _⟩ (fun H locs hI => ?_)
  refine lv_aload_n B.1 B.2.1 d_MC_choice_11 rfl (lv_at hl 0 rfl) ?_
  refine rx_get (v := .int (gi u5 12)) B hI hcl_MC hin_MC 0 (wM_at_0 a z u5) 29 (by decide) hf_MC_29 zw_510 rfl d_MC_choice_12 ?_
  refine lv_istore_n (lv' := [(1, .int (gi u5 12)), (0, .ref (a 0))]) B.1 B.2.1 d_MC_choice_15 rfl hl (by decide) rfl (fun ls hl => ?_)
  refine lv_aload_n B.1 B.2.1 d_MC_choice_16 rfl (lv_at hl 1 rfl) ?_
  refine lv_iconst (v := (-1)) B.1 B.2.1 d_MC_choice_17 (by decide) ?_
  obtain ⟨r7, u8, h9, hf⟩ := zbd_some hf
  refine rx_Vv (n := 1) (As := [.int (-1)]) (rest := []) B hI hl.1 (zc_MMC_take_0 l D z a N (-1) u5 r7 u8 h9) zw_511 zw_513 zw_514 zw_399 zw_512 (by decide +kernel) 0 (wM_at_0 a z u5) hcl_MC rfl rfl (Nat.le_of_ble_eq_true rfl) d_MC_choice_18 ⟨Nat.le_of_ble_eq_true rfl, Nat.le_of_ble_eq_true rfl⟩ rfl rfl ⟨Nat.zero_le _, Nat.zero_le _⟩ (fun H locs hI => ?_)
  refine lv_aload_n B.1 B.2.1 d_MC_choice_21 rfl (lv_at hl 1 rfl) ?_
  refine rx_get (v := .int (gi u8 12)) B hI hcl_MC hin_MC 0 (wM_at_0 a z u8) 29 (by decide) hf_MC_29 zw_510 rfl d_MC_choice_22 ?_
  refine lv_istore_n (lv' := [(2, .int (gi u8 12)), (1, .int (gi u5 12)), (0, .ref (a 0))]) B.1 B.2.1 d_MC_choice_25 rfl hl (by decide) rfl (fun ls hl => ?_)
  refine lv_iload_n B.1 B.2.1 d_MC_choice_26 rfl (lv_at hl 1 rfl) ?_
  obtain ⟨r10, u11, h12, hf⟩ := zbd_some hf
  refine rx_Si (n := 1) (As := [.int (gi u5 12)]) (rest := []) B hI hl.1 (zc_MMC_isReference l D z a N (gi u5 12) u8 r10 u11 h12) zw_398 zw_401 zw_399 zw_400 (by decide +kernel) rfl rfl (Nat.le_of_ble_eq_true rfl) d_MC_choice_27 ⟨Nat.le_of_ble_eq_true rfl, Nat.le_of_ble_eq_true rfl⟩ rfl rfl ⟨Nat.zero_le _, Nat.zero_le _⟩ (fun H locs hI => ?_)
  refine lv_if_ne (tgt := 40) B.1 B.2.1 d_MC_choice_30 (by decide) (fun hc13 => ?_) (fun hc13 => ?_)
  · rw [if_neg hc13] at hf
    exact hb40 (gi u5 12) (gi u8 12) u11 _ _ _ hf hI (lv_sub hl [2, 1, 0] rfl)
  · rw [if_pos hc13] at hf
    refine lv_iload_n B.1 B.2.1 d_MC_choice_33 rfl (lv_at hl 0 rfl) ?_
    obtain ⟨r14, u15, h16, hf⟩ := zbd_some hf
    refine rx_Si (n := 1) (As := [.int (gi u8 12)]) (rest := []) B hI hl.1 (zc_MMC_isReference l D z a N (gi u8 12) u11 r14 u15 h16) zw_398 zw_401 zw_399 zw_400 (by decide +kernel) rfl rfl (Nat.le_of_ble_eq_true rfl) d_MC_choice_34 ⟨Nat.le_of_ble_eq_true rfl, Nat.le_of_ble_eq_true rfl⟩ rfl rfl ⟨Nat.zero_le _, Nat.zero_le _⟩ (fun H locs hI => ?_)
    refine lv_if_eq (tgt := 46) B.1 B.2.1 d_MC_choice_37 (by decide) (fun hc17 => ?_) (fun hc17 => ?_)
    · rw [if_pos hc17] at hf
      exact hb46 (gi u5 12) (gi u8 12) u15 _ _ _ hf hI (lv_sub hl [2, 1, 0] rfl)
    · rw [if_neg hc17] at hf
      exact hb40 (gi u5 12) (gi u8 12) u15 _ _ _ hf hI (lv_sub hl [2, 1, 0] rfl)
set_option maxHeartbeats 4000000 in
set_option maxRecDepth 100000 in
theorem zc_MMC_named_0 (l : Launch) (D : va_G) (z : zZ) (a : Nat → Nat) (N : Nat) (x1 : Int32) (x2 : Int32) (u : zU) (r : Unit) (u1 : zU) (hf : zf_MMC_named_0 N x1 x2 u = some (r, u1)) : zMet l D z y_MC_named (.code y_MC_named b_MC_named 3 none) { frames := 3, cells := 0, slots := 0, locals := 65 } [.ref (a 0), .int x1, .int x2] (wM a z u) (zQv D (wM a z u1)) := by
  refine zM_v (own := R_MC) [.ref (a 0), .int x1, .int x2] (wM a z u) (wM a z u1) (by decide) rfl (Nat.le_of_ble_eq_true rfl) ?_
  intro p e s m args below meth c A ls B hr hlk hI hl
  have hl : lv_has ls 3 [(0, .ref (a 0)), (1, .int x1), (2, .int x2)] := hl
  revert hf
  revert hI hl
  have hb188 : ∀  (u : zU) (H : Heap) (locs : List Loc) (ls : Array Slot), zf_MMC_named_0_b188 N   u = some (r, u1) → iw D A s (wM a z u) H locs → lv_has ls 3 [] → W p l e ({ frames := 3, cells := 0, slots := 0, locals := 65 } : Room) s m args below meth c H locs 0 0 (MQ below (zQv D (wM a z u1) A) args s 0 0 A) (F0 m 188 ls []) := by
    intro  u H locs ls hf hI hl
    unfold zf_MMC_named_0_b188 at hf
    obtain ⟨e1, e2⟩ := zrt hf
    exact zr_v (wM a z) B hI hr hlk e2 d_MC_named_188
  have hb176 : ∀ (x2 : Int32) (u : zU) (H : Heap) (locs : List Loc) (ls : Array Slot), zf_MMC_named_0_b176 N  x2 u = some (r, u1) → iw D A s (wM a z u) H locs → lv_has ls 3 [(0, .ref (a 0)), (2, .int x2)] → W p l e ({ frames := 3, cells := 0, slots := 0, locals := 65 } : Room) s m args below meth c H locs 0 0 (MQ below (zQv D (wM a z u1) A) args s 0 0 A) (F0 m 176 ls []) := by
    intro x2 u H locs ls hf hI hl
    unfold zf_MMC_named_0_b176 at hf
    refine lv_aload_n B.1 B.2.1 d_MC_named_176 rfl (lv_at hl 0 rfl) ?_
    refine lv_bipush (v := 127) B.1 B.2.1 d_MC_named_177 (by decide) ?_
    refine lv_aload_n B.1 B.2.1 d_MC_named_179 rfl (lv_at hl 0 rfl) ?_
    refine lv_iconst (v := 1) B.1 B.2.1 d_MC_named_180 (by decide) ?_
    refine lv_iload_n B.1 B.2.1 d_MC_named_181 rfl (lv_at hl 1 rfl) ?_
    obtain ⟨r1, u2, h3, hf⟩ := zbd_some hf
    refine rx_Vi (n := 2) (As := [.int 1, .int x2]) (rest := [.int 127, .ref (a 0)]) B hI hl.1 (zc_MMC_attribute_0 l D z a N 1 x2 u r1 u2 h3) zw_480 zw_482 zw_483 zw_399 zw_481 (by decide +kernel) 0 (wM_at_0 a z u) hcl_MC rfl rfl (Nat.le_of_ble_eq_true rfl) d_MC_named_182 ⟨Nat.le_of_ble_eq_true rfl, Nat.le_of_ble_eq_true rfl⟩ rfl rfl ⟨Nat.zero_le _, Nat.zero_le _⟩ (fun H locs hI => ?_)
    obtain ⟨r4, u5, h6, hf⟩ := zbd_some hf
    refine rx_Vv (n := 2) (As := [.int 127, .int r1]) (rest := []) B hI hl.1 (zc_MMC_takeTwo_0 l D z a N 127 r1 u2 r4 u5 h6) zw_593 zw_595 zw_596 zw_399 zw_594 (by decide +kernel) 0 (wM_at_0 a z u2) hcl_MC rfl rfl (Nat.le_of_ble_eq_true rfl) d_MC_named_185 ⟨Nat.le_of_ble_eq_true rfl, Nat.le_of_ble_eq_true rfl⟩ rfl rfl ⟨Nat.zero_le _, Nat.zero_le _⟩ (fun H locs hI => ?_)
    exact hb188  u5 _ _ _ hf hI (lv_sub hl [] rfl)
  intro hI hl hf
  unfold zf_MMC_named_0 at hf
  refine lv_iload_n B.1 B.2.1 d_MC_named_0 rfl (lv_at hl 1 rfl) ?_
  by_cases hc1 : x1 = 26
  · rw [if_pos hc1] at hf
    refine lv_tableIn (off := 63) (tgt := 64) B.1 B.2.1 d_MC_named_1 (by rw [hc1]; decide +kernel) (by rw [hc1]; decide +kernel) (by rw [hc1]; decide +kernel) (by decide) ?_
    refine lv_aload_n B.1 B.2.1 d_MC_named_64 rfl (lv_at hl 0 rfl) ?_
    refine lv_iconst (v := (-1)) B.1 B.2.1 d_MC_named_65 (by decide) ?_
    obtain ⟨r2, u3, h4, hf⟩ := zbd_some hf
    refine rx_Vv (n := 1) (As := [.int (-1)]) (rest := []) B hI hl.1 (zc_MMC_take_0 l D z a N (-1) u r2 u3 h4) zw_511 zw_513 zw_514 zw_399 zw_512 (by decide +kernel) 0 (wM_at_0 a z u) hcl_MC rfl rfl (Nat.le_of_ble_eq_true rfl) d_MC_named_66 ⟨Nat.le_of_ble_eq_true rfl, Nat.le_of_ble_eq_true rfl⟩ rfl rfl ⟨Nat.zero_le _, Nat.zero_le _⟩ (fun H locs hI => ?_)
    refine lv_goto (tgt := 188) B.1 B.2.1 d_MC_named_69 (by decide) ?_
    exact hb188  u3 _ _ _ hf hI (lv_sub hl [] rfl)
  rw [if_neg hc1] at hf
  by_cases hc5 : x1 = 27
  · rw [if_pos hc5] at hf
    refine lv_tableIn (off := 71) (tgt := 72) B.1 B.2.1 d_MC_named_1 (by rw [hc5]; decide +kernel) (by rw [hc5]; decide +kernel) (by rw [hc5]; decide +kernel) (by decide) ?_
    refine lv_aload_n B.1 B.2.1 d_MC_named_72 rfl (lv_at hl 0 rfl) ?_
    obtain ⟨r6, u7, h8, hf⟩ := zbd_some hf
    refine rx_Vv (n := 0) (As := []) (rest := []) B hI hl.1 (zc_MMC_choice_0 l D z a N  u r6 u7 h8) zw_601 zw_603 zw_604 zw_399 zw_602 (by decide +kernel) 0 (wM_at_0 a z u) hcl_MC rfl rfl (Nat.le_of_ble_eq_true rfl) d_MC_named_73 ⟨Nat.le_of_ble_eq_true rfl, Nat.le_of_ble_eq_true rfl⟩ rfl rfl ⟨Nat.zero_le _, Nat.zero_le _⟩ (fun H locs hI => ?_)
    refine lv_goto (tgt := 188) B.1 B.2.1 d_MC_named_76 (by decide) ?_
    exact hb188  u7 _ _ _ hf hI (lv_sub hl [] rfl)
  rw [if_neg hc5] at hf
  by_cases hc9 : x1 = 28
  · rw [if_pos hc9] at hf
    refine lv_tableIn (off := 78) (tgt := 79) B.1 B.2.1 d_MC_named_1 (by rw [hc9]; decide +kernel) (by rw [hc9]; decide +kernel) (by rw [hc9]; decide +kernel) (by decide) ?_
    refine lv_aload_n B.1 B.2.1 d_MC_named_79 rfl (lv_at hl 0 rfl) ?_
    refine lv_bipush (v := 127) B.1 B.2.1 d_MC_named_80 (by decide) ?_
    obtain ⟨r10, u11, h12, hf⟩ := zbd_some hf
    refine rx_Vv (n := 1) (As := [.int 127]) (rest := []) B hI hl.1 (zc_MMC_take_0 l D z a N 127 u r10 u11 h12) zw_511 zw_513 zw_514 zw_399 zw_512 (by decide +kernel) 0 (wM_at_0 a z u) hcl_MC rfl rfl (Nat.le_of_ble_eq_true rfl) d_MC_named_82 ⟨Nat.le_of_ble_eq_true rfl, Nat.le_of_ble_eq_true rfl⟩ rfl rfl ⟨Nat.zero_le _, Nat.zero_le _⟩ (fun H locs hI => ?_)
    refine lv_aload_n B.1 B.2.1 d_MC_named_85 rfl (lv_at hl 0 rfl) ?_
    refine lv_iload_n B.1 B.2.1 d_MC_named_86 rfl (lv_at hl 2 rfl) ?_
    refine lv_iload_n B.1 B.2.1 d_MC_named_87 rfl (lv_at hl 2 rfl) ?_
    obtain ⟨r13, u14, h15, hf⟩ := zbd_some hf
    refine rx_Vv (n := 2) (As := [.int x2, .int x2]) (rest := []) B hI hl.1 (zc_MMC_two_0 l D z a N x2 x2 u11 r13 u14 h15) zw_597 zw_599 zw_600 zw_399 zw_598 (by decide +kernel) 0 (wM_at_0 a z u11) hcl_MC rfl rfl (Nat.le_of_ble_eq_true rfl) d_MC_named_88 ⟨Nat.le_of_ble_eq_true rfl, Nat.le_of_ble_eq_true rfl⟩ rfl rfl ⟨Nat.zero_le _, Nat.zero_le _⟩ (fun H locs hI => ?_)
    refine lv_goto (tgt := 188) B.1 B.2.1 d_MC_named_91 (by decide) ?_
    exact hb188  u14 _ _ _ hf hI (lv_sub hl [] rfl)
  rw [if_neg hc9] at hf
  by_cases hc16 : x1 = 29
  · rw [if_pos hc16] at hf
    refine lv_tableIn (off := 175) (tgt := 176) B.1 B.2.1 d_MC_named_1 (by rw [hc16]; decide +kernel) (by rw [hc16]; decide +kernel) (by rw [hc16]; decide +kernel) (by decide) ?_
    exact hb176 x2 u _ _ _ hf hI (lv_sub hl [0, 2] rfl)
  rw [if_neg hc16] at hf
  by_cases hc17 : x1 = 30
  · rw [if_pos hc17] at hf
    refine lv_tableIn (off := 175) (tgt := 176) B.1 B.2.1 d_MC_named_1 (by rw [hc17]; decide +kernel) (by rw [hc17]; decide +kernel) (by rw [hc17]; decide +kernel) (by decide) ?_
    exact hb176 x2 u _ _ _ hf hI (lv_sub hl [0, 2] rfl)
  rw [if_neg hc17] at hf
  by_cases hc18 : x1 = 31
  · rw [if_pos hc18] at hf
    refine lv_tableIn (off := 175) (tgt := 176) B.1 B.2.1 d_MC_named_1 (by rw [hc18]; decide +kernel) (by rw [hc18]; decide +kernel) (by rw [hc18]; decide +kernel) (by decide) ?_
    exact hb176 x2 u _ _ _ hf hI (lv_sub hl [0, 2] rfl)
  rw [if_neg hc18] at hf
  by_cases hc19 : x1 = 32
  · rw [if_pos hc19] at hf
    refine lv_tableIn (off := 93) (tgt := 94) B.1 B.2.1 d_MC_named_1 (by rw [hc19]; decide +kernel) (by rw [hc19]; decide +kernel) (by rw [hc19]; decide +kernel) (by decide) ?_
    refine lv_aload_n B.1 B.2.1 d_MC_named_94 rfl (lv_at hl 0 rfl) ?_
    refine lv_aload_n B.1 B.2.1 d_MC_named_95 rfl (lv_at hl 0 rfl) ?_
    refine lv_iload_n B.1 B.2.1 d_MC_named_96 rfl (lv_at hl 2 rfl) ?_
    obtain ⟨r20, u21, h22, hf⟩ := zbd_some hf
    refine rx_Vi (n := 1) (As := [.int x2]) (rest := [.ref (a 0)]) B hI hl.1 (zc_MMC_localType_0 l D z a N x2 u r20 u21 h22) zw_468 zw_470 zw_471 zw_399 zw_469 (by decide +kernel) 0 (wM_at_0 a z u) hcl_MC rfl rfl (Nat.le_of_ble_eq_true rfl) d_MC_named_97 ⟨Nat.le_of_ble_eq_true rfl, Nat.le_of_ble_eq_true rfl⟩ rfl rfl ⟨Nat.zero_le _, Nat.zero_le _⟩ (fun H locs hI => ?_)
    obtain ⟨r23, u24, h25, hf⟩ := zbd_some hf
    refine rx_Vv (n := 1) (As := [.int r20]) (rest := []) B hI hl.1 (zc_MMC_give_0 l D z a N r20 u21 r23 u24 h25) zw_519 zw_521 zw_522 zw_399 zw_520 (by decide +kernel) 0 (wM_at_0 a z u21) hcl_MC rfl rfl (Nat.le_of_ble_eq_true rfl) d_MC_named_100 ⟨Nat.le_of_ble_eq_true rfl, Nat.le_of_ble_eq_true rfl⟩ rfl rfl ⟨Nat.zero_le _, Nat.zero_le _⟩ (fun H locs hI => ?_)
    refine lv_goto (tgt := 188) B.1 B.2.1 d_MC_named_103 (by decide) ?_
    exact hb188  u24 _ _ _ hf hI (lv_sub hl [] rfl)
  rw [if_neg hc19] at hf
  by_cases hc26 : x1 = 33
  · rw [if_pos hc26] at hf
    refine lv_tableIn (off := 105) (tgt := 106) B.1 B.2.1 d_MC_named_1 (by rw [hc26]; decide +kernel) (by rw [hc26]; decide +kernel) (by rw [hc26]; decide +kernel) (by decide) ?_
    refine lv_aload_n B.1 B.2.1 d_MC_named_106 rfl (lv_at hl 0 rfl) ?_
    refine lv_aload_n B.1 B.2.1 d_MC_named_107 rfl (lv_at hl 0 rfl) ?_
    refine lv_iload_n B.1 B.2.1 d_MC_named_108 rfl (lv_at hl 2 rfl) ?_
    obtain ⟨r27, u28, h29, hf⟩ := zbd_some hf
    refine rx_Vi (n := 1) (As := [.int x2]) (rest := [.ref (a 0)]) B hI hl.1 (zc_MMC_localType_0 l D z a N x2 u r27 u28 h29) zw_468 zw_470 zw_471 zw_399 zw_469 (by decide +kernel) 0 (wM_at_0 a z u) hcl_MC rfl rfl (Nat.le_of_ble_eq_true rfl) d_MC_named_109 ⟨Nat.le_of_ble_eq_true rfl, Nat.le_of_ble_eq_true rfl⟩ rfl rfl ⟨Nat.zero_le _, Nat.zero_le _⟩ (fun H locs hI => ?_)
    obtain ⟨r30, u31, h32, hf⟩ := zbd_some hf
    refine rx_Vv (n := 1) (As := [.int r27]) (rest := []) B hI hl.1 (zc_MMC_take_0 l D z a N r27 u28 r30 u31 h32) zw_511 zw_513 zw_514 zw_399 zw_512 (by decide +kernel) 0 (wM_at_0 a z u28) hcl_MC rfl rfl (Nat.le_of_ble_eq_true rfl) d_MC_named_112 ⟨Nat.le_of_ble_eq_true rfl, Nat.le_of_ble_eq_true rfl⟩ rfl rfl ⟨Nat.zero_le _, Nat.zero_le _⟩ (fun H locs hI => ?_)
    refine lv_goto (tgt := 188) B.1 B.2.1 d_MC_named_115 (by decide) ?_
    exact hb188  u31 _ _ _ hf hI (lv_sub hl [] rfl)
  rw [if_neg hc26] at hf
  by_cases hc33 : x1 = 34
  · rw [if_pos hc33] at hf
    refine lv_tableIn (off := 117) (tgt := 118) B.1 B.2.1 d_MC_named_1 (by rw [hc33]; decide +kernel) (by rw [hc33]; decide +kernel) (by rw [hc33]; decide +kernel) (by decide) ?_
    refine lv_aload_n B.1 B.2.1 d_MC_named_118 rfl (lv_at hl 0 rfl) ?_
    refine lv_aload_n B.1 B.2.1 d_MC_named_119 rfl (lv_at hl 0 rfl) ?_
    refine lv_iload_n B.1 B.2.1 d_MC_named_120 rfl (lv_at hl 2 rfl) ?_
    obtain ⟨r34, u35, h36, hf⟩ := zbd_some hf
    refine rx_Vi (n := 1) (As := [.int x2]) (rest := [.ref (a 0)]) B hI hl.1 (zc_MMC_localType_0 l D z a N x2 u r34 u35 h36) zw_468 zw_470 zw_471 zw_399 zw_469 (by decide +kernel) 0 (wM_at_0 a z u) hcl_MC rfl rfl (Nat.le_of_ble_eq_true rfl) d_MC_named_121 ⟨Nat.le_of_ble_eq_true rfl, Nat.le_of_ble_eq_true rfl⟩ rfl rfl ⟨Nat.zero_le _, Nat.zero_le _⟩ (fun H locs hI => ?_)
    refine lv_aload_n B.1 B.2.1 d_MC_named_124 rfl (lv_at hl 0 rfl) ?_
    refine lv_iload_n B.1 B.2.1 d_MC_named_125 rfl (lv_at hl 2 rfl) ?_
    obtain ⟨r37, u38, h39, hf⟩ := zbd_some hf
    refine rx_Vi (n := 1) (As := [.int x2]) (rest := [.int r34, .ref (a 0)]) B hI hl.1 (zc_MMC_localType_0 l D z a N x2 u35 r37 u38 h39) zw_468 zw_470 zw_471 zw_399 zw_469 (by decide +kernel) 0 (wM_at_0 a z u35) hcl_MC rfl rfl (Nat.le_of_ble_eq_true rfl) d_MC_named_126 ⟨Nat.le_of_ble_eq_true rfl, Nat.le_of_ble_eq_true rfl⟩ rfl rfl ⟨Nat.zero_le _, Nat.zero_le _⟩ (fun H locs hI => ?_)
    obtain ⟨r40, u41, h42, hf⟩ := zbd_some hf
    refine rx_Vv (n := 2) (As := [.int r34, .int r37]) (rest := []) B hI hl.1 (zc_MMC_one_0 l D z a N r34 r37 u38 r40 u41 h42) zw_589 zw_591 zw_592 zw_399 zw_590 (by decide +kernel) 0 (wM_at_0 a z u38) hcl_MC rfl rfl (Nat.le_of_ble_eq_true rfl) d_MC_named_129 ⟨Nat.le_of_ble_eq_true rfl, Nat.le_of_ble_eq_true rfl⟩ rfl rfl ⟨Nat.zero_le _, Nat.zero_le _⟩ (fun H locs hI => ?_)
    refine lv_goto (tgt := 188) B.1 B.2.1 d_MC_named_132 (by decide) ?_
    exact hb188  u41 _ _ _ hf hI (lv_sub hl [] rfl)
  rw [if_neg hc33] at hf
  by_cases hc43 : x1 = 35
  · rw [if_pos hc43] at hf
    refine lv_tableIn (off := 134) (tgt := 135) B.1 B.2.1 d_MC_named_1 (by rw [hc43]; decide +kernel) (by rw [hc43]; decide +kernel) (by rw [hc43]; decide +kernel) (by decide) ?_
    refine lv_aload_n B.1 B.2.1 d_MC_named_135 rfl (lv_at hl 0 rfl) ?_
    refine lv_aload_n B.1 B.2.1 d_MC_named_136 rfl (lv_at hl 0 rfl) ?_
    refine lv_iconst (v := 3) B.1 B.2.1 d_MC_named_137 (by decide) ?_
    refine lv_iload_n B.1 B.2.1 d_MC_named_138 rfl (lv_at hl 2 rfl) ?_
    obtain ⟨r44, u45, h46, hf⟩ := zbd_some hf
    refine rx_Vi (n := 2) (As := [.int 3, .int x2]) (rest := [.ref (a 0)]) B hI hl.1 (zc_MMC_attribute_0 l D z a N 3 x2 u r44 u45 h46) zw_480 zw_482 zw_483 zw_399 zw_481 (by decide +kernel) 0 (wM_at_0 a z u) hcl_MC rfl rfl (Nat.le_of_ble_eq_true rfl) d_MC_named_139 ⟨Nat.le_of_ble_eq_true rfl, Nat.le_of_ble_eq_true rfl⟩ rfl rfl ⟨Nat.zero_le _, Nat.zero_le _⟩ (fun H locs hI => ?_)
    obtain ⟨r47, u48, h49, hf⟩ := zbd_some hf
    refine rx_Vv (n := 1) (As := [.int r44]) (rest := []) B hI hl.1 (zc_MMC_give_0 l D z a N r44 u45 r47 u48 h49) zw_519 zw_521 zw_522 zw_399 zw_520 (by decide +kernel) 0 (wM_at_0 a z u45) hcl_MC rfl rfl (Nat.le_of_ble_eq_true rfl) d_MC_named_142 ⟨Nat.le_of_ble_eq_true rfl, Nat.le_of_ble_eq_true rfl⟩ rfl rfl ⟨Nat.zero_le _, Nat.zero_le _⟩ (fun H locs hI => ?_)
    refine lv_goto (tgt := 188) B.1 B.2.1 d_MC_named_145 (by decide) ?_
    exact hb188  u48 _ _ _ hf hI (lv_sub hl [] rfl)
  rw [if_neg hc43] at hf
  by_cases hc50 : x1 = 36
  · rw [if_pos hc50] at hf
    refine lv_tableIn (off := 147) (tgt := 148) B.1 B.2.1 d_MC_named_1 (by rw [hc50]; decide +kernel) (by rw [hc50]; decide +kernel) (by rw [hc50]; decide +kernel) (by decide) ?_
    refine lv_aload_n B.1 B.2.1 d_MC_named_148 rfl (lv_at hl 0 rfl) ?_
    refine lv_aload_n B.1 B.2.1 d_MC_named_149 rfl (lv_at hl 0 rfl) ?_
    refine lv_iconst (v := 3) B.1 B.2.1 d_MC_named_150 (by decide) ?_
    refine lv_iload_n B.1 B.2.1 d_MC_named_151 rfl (lv_at hl 2 rfl) ?_
    obtain ⟨r51, u52, h53, hf⟩ := zbd_some hf
    refine rx_Vi (n := 2) (As := [.int 3, .int x2]) (rest := [.ref (a 0)]) B hI hl.1 (zc_MMC_attribute_0 l D z a N 3 x2 u r51 u52 h53) zw_480 zw_482 zw_483 zw_399 zw_481 (by decide +kernel) 0 (wM_at_0 a z u) hcl_MC rfl rfl (Nat.le_of_ble_eq_true rfl) d_MC_named_152 ⟨Nat.le_of_ble_eq_true rfl, Nat.le_of_ble_eq_true rfl⟩ rfl rfl ⟨Nat.zero_le _, Nat.zero_le _⟩ (fun H locs hI => ?_)
    obtain ⟨r54, u55, h56, hf⟩ := zbd_some hf
    refine rx_Vv (n := 1) (As := [.int r51]) (rest := []) B hI hl.1 (zc_MMC_take_0 l D z a N r51 u52 r54 u55 h56) zw_511 zw_513 zw_514 zw_399 zw_512 (by decide +kernel) 0 (wM_at_0 a z u52) hcl_MC rfl rfl (Nat.le_of_ble_eq_true rfl) d_MC_named_155 ⟨Nat.le_of_ble_eq_true rfl, Nat.le_of_ble_eq_true rfl⟩ rfl rfl ⟨Nat.zero_le _, Nat.zero_le _⟩ (fun H locs hI => ?_)
    refine lv_goto (tgt := 188) B.1 B.2.1 d_MC_named_158 (by decide) ?_
    exact hb188  u55 _ _ _ hf hI (lv_sub hl [] rfl)
  rw [if_neg hc50] at hf
  by_cases hc57 : x1 = 37
  · rw [if_pos hc57] at hf
    refine lv_tableIn (off := 160) (tgt := 161) B.1 B.2.1 d_MC_named_1 (by rw [hc57]; decide +kernel) (by rw [hc57]; decide +kernel) (by rw [hc57]; decide +kernel) (by decide) ?_
    refine lv_aload_n B.1 B.2.1 d_MC_named_161 rfl (lv_at hl 0 rfl) ?_
    refine lv_bipush (v := 127) B.1 B.2.1 d_MC_named_162 (by decide) ?_
    refine lv_aload_n B.1 B.2.1 d_MC_named_164 rfl (lv_at hl 0 rfl) ?_
    refine lv_iconst (v := 1) B.1 B.2.1 d_MC_named_165 (by decide) ?_
    refine lv_iload_n B.1 B.2.1 d_MC_named_166 rfl (lv_at hl 2 rfl) ?_
    obtain ⟨r58, u59, h60, hf⟩ := zbd_some hf
    refine rx_Vi (n := 2) (As := [.int 1, .int x2]) (rest := [.int 127, .ref (a 0)]) B hI hl.1 (zc_MMC_attribute_0 l D z a N 1 x2 u r58 u59 h60) zw_480 zw_482 zw_483 zw_399 zw_481 (by decide +kernel) 0 (wM_at_0 a z u) hcl_MC rfl rfl (Nat.le_of_ble_eq_true rfl) d_MC_named_167 ⟨Nat.le_of_ble_eq_true rfl, Nat.le_of_ble_eq_true rfl⟩ rfl rfl ⟨Nat.zero_le _, Nat.zero_le _⟩ (fun H locs hI => ?_)
    obtain ⟨r61, u62, h63, hf⟩ := zbd_some hf
    refine rx_Vv (n := 2) (As := [.int 127, .int r58]) (rest := []) B hI hl.1 (zc_MMC_one_0 l D z a N 127 r58 u59 r61 u62 h63) zw_589 zw_591 zw_592 zw_399 zw_590 (by decide +kernel) 0 (wM_at_0 a z u59) hcl_MC rfl rfl (Nat.le_of_ble_eq_true rfl) d_MC_named_170 ⟨Nat.le_of_ble_eq_true rfl, Nat.le_of_ble_eq_true rfl⟩ rfl rfl ⟨Nat.zero_le _, Nat.zero_le _⟩ (fun H locs hI => ?_)
    refine lv_goto (tgt := 188) B.1 B.2.1 d_MC_named_173 (by decide) ?_
    exact hb188  u62 _ _ _ hf hI (lv_sub hl [] rfl)
  rw [if_neg hc57] at hf
  have ghc1 := lv_neT (a := 26) hc1 (by decide)
  have ghc5 := lv_neT (a := 27) hc5 (by decide)
  have ghc9 := lv_neT (a := 28) hc9 (by decide)
  have ghc16 := lv_neT (a := 29) hc16 (by decide)
  have ghc17 := lv_neT (a := 30) hc17 (by decide)
  have ghc18 := lv_neT (a := 31) hc18 (by decide)
  have ghc19 := lv_neT (a := 32) hc19 (by decide)
  have ghc26 := lv_neT (a := 33) hc26 (by decide)
  have ghc33 := lv_neT (a := 34) hc33 (by decide)
  have ghc43 := lv_neT (a := 35) hc43 (by decide)
  have ghc50 := lv_neT (a := 36) hc50 (by decide)
  have ghc57 := lv_neT (a := 37) hc57 (by decide)
  refine lv_tableOut (tgt := 176) B.1 B.2.1 d_MC_named_1 (by omega) (by decide) ?_
  exact hb176 x2 u _ _ _ hf hI (lv_sub hl [0, 2] rfl)
set_option maxHeartbeats 4000000 in
set_option maxRecDepth 100000 in
theorem zc_MMC_memory_0 (l : Launch) (D : va_G) (z : zZ) (a : Nat → Nat) (N : Nat) (x1 : Int32) (u : zU) (r : Unit) (u1 : zU) (hf : zf_MMC_memory_0 N x1 u = some (r, u1)) : zMet l D z y_MC_memory (.code y_MC_memory b_MC_memory 2 none) { frames := 3, cells := 0, slots := 0, locals := 65 } [.ref (a 0), .int x1] (wM a z u) (zQv D (wM a z u1)) := by
  refine zM_v (own := R_MC) [.ref (a 0), .int x1] (wM a z u) (wM a z u1) (by decide) rfl (Nat.le_of_ble_eq_true rfl) ?_
  intro p e s m args below meth c A ls B hr hlk hI hl
  have hl : lv_has ls 2 [(0, .ref (a 0)), (1, .int x1)] := hl
  revert hf
  revert hI hl
  have hb195 : ∀  (u : zU) (H : Heap) (locs : List Loc) (ls : Array Slot), zf_MMC_memory_0_b195 N   u = some (r, u1) → iw D A s (wM a z u) H locs → lv_has ls 2 [] → W p l e ({ frames := 3, cells := 0, slots := 0, locals := 65 } : Room) s m args below meth c H locs 0 0 (MQ below (zQv D (wM a z u1) A) args s 0 0 A) (F0 m 195 ls []) := by
    intro  u H locs ls hf hI hl
    unfold zf_MMC_memory_0_b195 at hf
    obtain ⟨e1, e2⟩ := zrt hf
    exact zr_v (wM a z) B hI hr hlk e2 d_MC_memory_195
  have hb192 : ∀ (s0 : Int32) (u : zU) (H : Heap) (locs : List Loc) (ls : Array Slot), zf_MMC_memory_0_b192 N  s0 u = some (r, u1) → iw D A s (wM a z u) H locs → lv_has ls 2 [] → W p l e ({ frames := 3, cells := 0, slots := 0, locals := 65 } : Room) s m args below meth c H locs 0 0 (MQ below (zQv D (wM a z u1) A) args s 0 0 A) (F0 m 192 ls [.int s0, .ref (a 0)]) := by
    intro s0 u H locs ls hf hI hl
    unfold zf_MMC_memory_0_b192 at hf
    obtain ⟨r1, u2, h3, hf⟩ := zbd_some hf
    refine rx_Vv (n := 1) (As := [.int s0]) (rest := []) B hI hl.1 (zc_MMC_give_0 l D z a N s0 u r1 u2 h3) zw_519 zw_521 zw_522 zw_399 zw_520 (by decide +kernel) 0 (wM_at_0 a z u) hcl_MC rfl rfl (Nat.le_of_ble_eq_true rfl) d_MC_memory_192 ⟨Nat.le_of_ble_eq_true rfl, Nat.le_of_ble_eq_true rfl⟩ rfl rfl ⟨Nat.zero_le _, Nat.zero_le _⟩ (fun H locs hI => ?_)
    exact hb195  u2 _ _ _ hf hI (lv_sub hl [] rfl)
  have hb118 : ∀ (s0 : Int32) (s1 : Int32) (u : zU) (H : Heap) (locs : List Loc) (ls : Array Slot), zf_MMC_memory_0_b118 N  s0 s1 u = some (r, u1) → iw D A s (wM a z u) H locs → lv_has ls 2 [] → W p l e ({ frames := 3, cells := 0, slots := 0, locals := 65 } : Room) s m args below meth c H locs 0 0 (MQ below (zQv D (wM a z u1) A) args s 0 0 A) (F0 m 118 ls [.int s0, .int s1, .ref (a 0)]) := by
    intro s0 s1 u H locs ls hf hI hl
    unfold zf_MMC_memory_0_b118 at hf
    obtain ⟨r1, u2, h3, hf⟩ := zbd_some hf
    refine rx_Vv (n := 2) (As := [.int s1, .int s0]) (rest := []) B hI hl.1 (zc_MMC_takeTwo_0 l D z a N s1 s0 u r1 u2 h3) zw_593 zw_595 zw_596 zw_399 zw_594 (by decide +kernel) 0 (wM_at_0 a z u) hcl_MC rfl rfl (Nat.le_of_ble_eq_true rfl) d_MC_memory_118 ⟨Nat.le_of_ble_eq_true rfl, Nat.le_of_ble_eq_true rfl⟩ rfl rfl ⟨Nat.zero_le _, Nat.zero_le _⟩ (fun H locs hI => ?_)
    refine lv_goto (tgt := 195) B.1 B.2.1 d_MC_memory_121 (by decide) ?_
    exact hb195  u2 _ _ _ hf hI (lv_sub hl [] rfl)
  have hb89 : ∀ (s0 : Int32) (u : zU) (H : Heap) (locs : List Loc) (ls : Array Slot), zf_MMC_memory_0_b89 N  s0 u = some (r, u1) → iw D A s (wM a z u) H locs → lv_has ls 2 [] → W p l e ({ frames := 3, cells := 0, slots := 0, locals := 65 } : Room) s m args below meth c H locs 0 0 (MQ below (zQv D (wM a z u1) A) args s 0 0 A) (F0 m 89 ls [.int s0, .ref (a 0)]) := by
    intro s0 u H locs ls hf hI hl
    unfold zf_MMC_memory_0_b89 at hf
    refine lv_bipush (v := 127) B.1 B.2.1 d_MC_memory_89 (by decide) ?_
    refine lv_goto (tgt := 118) B.1 B.2.1 d_MC_memory_91 (by decide) ?_
    exact hb118 127 s0 u _ _ _ hf hI (lv_sub hl [] rfl)
  have hb56 : ∀ (s0 : Int32) (s1 : Int32) (u : zU) (H : Heap) (locs : List Loc) (ls : Array Slot), zf_MMC_memory_0_b56 N  s0 s1 u = some (r, u1) → iw D A s (wM a z u) H locs → lv_has ls 2 [] → W p l e ({ frames := 3, cells := 0, slots := 0, locals := 65 } : Room) s m args below meth c H locs 0 0 (MQ below (zQv D (wM a z u1) A) args s 0 0 A) (F0 m 56 ls [.int s0, .int s1, .ref (a 0)]) := by
    intro s0 s1 u H locs ls hf hI hl
    unfold zf_MMC_memory_0_b56 at hf
    obtain ⟨r1, u2, h3, hf⟩ := zbd_some hf
    refine rx_Vv (n := 2) (As := [.int s1, .int s0]) (rest := []) B hI hl.1 (zc_MMC_one_0 l D z a N s1 s0 u r1 u2 h3) zw_589 zw_591 zw_592 zw_399 zw_590 (by decide +kernel) 0 (wM_at_0 a z u) hcl_MC rfl rfl (Nat.le_of_ble_eq_true rfl) d_MC_memory_56 ⟨Nat.le_of_ble_eq_true rfl, Nat.le_of_ble_eq_true rfl⟩ rfl rfl ⟨Nat.zero_le _, Nat.zero_le _⟩ (fun H locs hI => ?_)
    refine lv_goto (tgt := 195) B.1 B.2.1 d_MC_memory_59 (by decide) ?_
    exact hb195  u2 _ _ _ hf hI (lv_sub hl [] rfl)
  have hb27 : ∀ (s0 : Int32) (u : zU) (H : Heap) (locs : List Loc) (ls : Array Slot), zf_MMC_memory_0_b27 N  s0 u = some (r, u1) → iw D A s (wM a z u) H locs → lv_has ls 2 [] → W p l e ({ frames := 3, cells := 0, slots := 0, locals := 65 } : Room) s m args below meth c H locs 0 0 (MQ below (zQv D (wM a z u1) A) args s 0 0 A) (F0 m 27 ls [.int s0, .ref (a 0)]) := by
    intro s0 u H locs ls hf hI hl
    unfold zf_MMC_memory_0_b27 at hf
    refine lv_bipush (v := 127) B.1 B.2.1 d_MC_memory_27 (by decide) ?_
    refine lv_goto (tgt := 56) B.1 B.2.1 d_MC_memory_29 (by decide) ?_
    exact hb56 127 s0 u _ _ _ hf hI (lv_sub hl [] rfl)
  have hb32 : ∀ (x1 : Int32) (s0 : Int32) (u : zU) (H : Heap) (locs : List Loc) (ls : Array Slot), zf_MMC_memory_0_b32 N  x1 s0 u = some (r, u1) → iw D A s (wM a z u) H locs → lv_has ls 2 [(1, .int x1)] → W p l e ({ frames := 3, cells := 0, slots := 0, locals := 65 } : Room) s m args below meth c H locs 0 0 (MQ below (zQv D (wM a z u1) A) args s 0 0 A) (F0 m 32 ls [.int s0, .ref (a 0)]) := by
    intro x1 s0 u H locs ls hf hI hl
    unfold zf_MMC_memory_0_b32 at hf
    refine lv_iload_n B.1 B.2.1 d_MC_memory_32 rfl (lv_at hl 0 rfl) ?_
    refine lv_bipush (v := 42) B.1 B.2.1 d_MC_memory_33 (by decide) ?_
    refine lv_icmp_ne (tgt := 43) B.1 B.2.1 d_MC_memory_35 (by decide) (fun hc1 => ?_) (fun hc1 => ?_)
    · rw [if_neg hc1] at hf
      refine lv_iload_n B.1 B.2.1 d_MC_memory_43 rfl (lv_at hl 0 rfl) ?_
      refine lv_bipush (v := 43) B.1 B.2.1 d_MC_memory_44 (by decide) ?_
      refine lv_icmp_ne (tgt := 54) B.1 B.2.1 d_MC_memory_46 (by decide) (fun hc2 => ?_) (fun hc2 => ?_)
      · rw [if_neg hc2] at hf
        refine lv_bipush (v := 126) B.1 B.2.1 d_MC_memory_54 (by decide) ?_
        exact hb56 126 s0 u _ _ _ hf hI (lv_sub hl [] rfl)
      · rw [if_pos hc2] at hf
        refine lv_bipush (v := 124) B.1 B.2.1 d_MC_memory_49 (by decide) ?_
        refine lv_goto (tgt := 56) B.1 B.2.1 d_MC_memory_51 (by decide) ?_
        exact hb56 124 s0 u _ _ _ hf hI (lv_sub hl [] rfl)
    · rw [if_pos hc1] at hf
      refine lv_bipush (v := 125) B.1 B.2.1 d_MC_memory_38 (by decide) ?_
      refine lv_goto (tgt := 56) B.1 B.2.1 d_MC_memory_40 (by decide) ?_
      exact hb56 125 s0 u _ _ _ hf hI (lv_sub hl [] rfl)
  intro hI hl hf
  unfold zf_MMC_memory_0 at hf
  refine lv_iload_n B.1 B.2.1 d_MC_memory_0 rfl (lv_at hl 1 rfl) ?_
  refine lv_bipush (v := 54) B.1 B.2.1 d_MC_memory_1 (by decide) ?_
  refine lv_icmp_ge (tgt := 62) B.1 B.2.1 d_MC_memory_3 (by decide) (fun hc1 => ?_) (fun hc1 => ?_)
  · rw [if_pos hc1] at hf
    refine lv_iload_n B.1 B.2.1 d_MC_memory_62 rfl (lv_at hl 1 rfl) ?_
    refine lv_bipush (v := 63) B.1 B.2.1 d_MC_memory_63 (by decide) ?_
    refine lv_icmp_ge (tgt := 124) B.1 B.2.1 d_MC_memory_65 (by decide) (fun hc2 => ?_) (fun hc2 => ?_)
    · rw [if_pos hc2] at hf
      refine lv_iload_n B.1 B.2.1 d_MC_memory_124 rfl (lv_at hl 1 rfl) ?_
      refine lv_bipush (v := 63) B.1 B.2.1 d_MC_memory_125 (by decide) ?_
      refine lv_icmp_ne (tgt := 139) B.1 B.2.1 d_MC_memory_127 (by decide) (fun hc3 => ?_) (fun hc3 => ?_)
      · rw [if_neg hc3] at hf
        refine lv_iload_n B.1 B.2.1 d_MC_memory_139 rfl (lv_at hl 1 rfl) ?_
        refine lv_bipush (v := 64) B.1 B.2.1 d_MC_memory_140 (by decide) ?_
        refine lv_icmp_ne (tgt := 156) B.1 B.2.1 d_MC_memory_142 (by decide) (fun hc4 => ?_) (fun hc4 => ?_)
        · rw [if_neg hc4] at hf
          refine lv_aload_n B.1 B.2.1 d_MC_memory_156 rfl (lv_at hl 0 rfl) ?_
          refine lv_iload_n B.1 B.2.1 d_MC_memory_157 rfl (lv_at hl 1 rfl) ?_
          refine lv_bipush (v := 65) B.1 B.2.1 d_MC_memory_158 (by decide) ?_
          refine lv_icmp_ne (tgt := 168) B.1 B.2.1 d_MC_memory_160 (by decide) (fun hc5 => ?_) (fun hc5 => ?_)
          · rw [if_neg hc5] at hf
            refine lv_iload_n B.1 B.2.1 d_MC_memory_168 rfl (lv_at hl 1 rfl) ?_
            refine lv_bipush (v := 66) B.1 B.2.1 d_MC_memory_169 (by decide) ?_
            refine lv_icmp_ne (tgt := 179) B.1 B.2.1 d_MC_memory_171 (by decide) (fun hc6 => ?_) (fun hc6 => ?_)
            · rw [if_neg hc6] at hf
              refine lv_iload_n B.1 B.2.1 d_MC_memory_179 rfl (lv_at hl 1 rfl) ?_
              refine lv_bipush (v := 67) B.1 B.2.1 d_MC_memory_180 (by decide) ?_
              refine lv_icmp_ne (tgt := 190) B.1 B.2.1 d_MC_memory_182 (by decide) (fun hc7 => ?_) (fun hc7 => ?_)
              · rw [if_neg hc7] at hf
                refine lv_bipush (v := 124) B.1 B.2.1 d_MC_memory_190 (by decide) ?_
                exact hb192 124 u _ _ _ hf hI (lv_sub hl [] rfl)
              · rw [if_pos hc7] at hf
                refine lv_bipush (v := 125) B.1 B.2.1 d_MC_memory_185 (by decide) ?_
                refine lv_goto (tgt := 192) B.1 B.2.1 d_MC_memory_187 (by decide) ?_
                exact hb192 125 u _ _ _ hf hI (lv_sub hl [] rfl)
            · rw [if_pos hc6] at hf
              refine lv_bipush (v := 126) B.1 B.2.1 d_MC_memory_174 (by decide) ?_
              refine lv_goto (tgt := 192) B.1 B.2.1 d_MC_memory_176 (by decide) ?_
              exact hb192 126 u _ _ _ hf hI (lv_sub hl [] rfl)
          · rw [if_pos hc5] at hf
            refine lv_bipush (v := 127) B.1 B.2.1 d_MC_memory_163 (by decide) ?_
            refine lv_goto (tgt := 192) B.1 B.2.1 d_MC_memory_165 (by decide) ?_
            exact hb192 127 u _ _ _ hf hI (lv_sub hl [] rfl)
        · rw [if_pos hc4] at hf
          refine lv_aload_n B.1 B.2.1 d_MC_memory_145 rfl (lv_at hl 0 rfl) ?_
          refine lv_bipush (v := 127) B.1 B.2.1 d_MC_memory_146 (by decide) ?_
          refine lv_bipush (v := 127) B.1 B.2.1 d_MC_memory_148 (by decide) ?_
          obtain ⟨r8, u9, h10, hf⟩ := zbd_some hf
          refine rx_Vv (n := 2) (As := [.int 127, .int 127]) (rest := []) B hI hl.1 (zc_MMC_one_0 l D z a N 127 127 u r8 u9 h10) zw_589 zw_591 zw_592 zw_399 zw_590 (by decide +kernel) 0 (wM_at_0 a z u) hcl_MC rfl rfl (Nat.le_of_ble_eq_true rfl) d_MC_memory_150 ⟨Nat.le_of_ble_eq_true rfl, Nat.le_of_ble_eq_true rfl⟩ rfl rfl ⟨Nat.zero_le _, Nat.zero_le _⟩ (fun H locs hI => ?_)
          refine lv_goto (tgt := 195) B.1 B.2.1 d_MC_memory_153 (by decide) ?_
          exact hb195  u9 _ _ _ hf hI (lv_sub hl [] rfl)
      · rw [if_pos hc3] at hf
        refine lv_aload_n B.1 B.2.1 d_MC_memory_130 rfl (lv_at hl 0 rfl) ?_
        refine lv_bipush (v := 127) B.1 B.2.1 d_MC_memory_131 (by decide) ?_
        obtain ⟨r11, u12, h13, hf⟩ := zbd_some hf
        refine rx_Vv (n := 1) (As := [.int 127]) (rest := []) B hI hl.1 (zc_MMC_give_0 l D z a N 127 u r11 u12 h13) zw_519 zw_521 zw_522 zw_399 zw_520 (by decide +kernel) 0 (wM_at_0 a z u) hcl_MC rfl rfl (Nat.le_of_ble_eq_true rfl) d_MC_memory_133 ⟨Nat.le_of_ble_eq_true rfl, Nat.le_of_ble_eq_true rfl⟩ rfl rfl ⟨Nat.zero_le _, Nat.zero_le _⟩ (fun H locs hI => ?_)
        refine lv_goto (tgt := 195) B.1 B.2.1 d_MC_memory_136 (by decide) ?_
        exact hb195  u12 _ _ _ hf hI (lv_sub hl [] rfl)
    · rw [if_neg hc2] at hf
      refine lv_aload_n B.1 B.2.1 d_MC_memory_68 rfl (lv_at hl 0 rfl) ?_
      refine lv_bipush (v := 127) B.1 B.2.1 d_MC_memory_69 (by decide) ?_
      refine lv_iload_n B.1 B.2.1 d_MC_memory_71 rfl (lv_at hl 1 rfl) ?_
      refine lv_bipush (v := 54) B.1 B.2.1 d_MC_memory_72 (by decide) ?_
      refine lv_icmp_eq (tgt := 89) B.1 B.2.1 d_MC_memory_74 (by decide) (fun hc14 => ?_) (fun hc14 => ?_)
      · rw [if_pos hc14] at hf
        exact hb89 127 u _ _ _ hf hI (lv_sub hl [] rfl)
      · rw [if_neg hc14] at hf
        refine lv_iload_n B.1 B.2.1 d_MC_memory_77 rfl (lv_at hl 1 rfl) ?_
        refine lv_bipush (v := 58) B.1 B.2.1 d_MC_memory_78 (by decide) ?_
        refine lv_icmp_eq (tgt := 89) B.1 B.2.1 d_MC_memory_80 (by decide) (fun hc15 => ?_) (fun hc15 => ?_)
        · rw [if_pos hc15] at hf
          exact hb89 127 u _ _ _ hf hI (lv_sub hl [] rfl)
        · rw [if_neg hc15] at hf
          refine lv_iload_n B.1 B.2.1 d_MC_memory_83 rfl (lv_at hl 1 rfl) ?_
          refine lv_bipush (v := 59) B.1 B.2.1 d_MC_memory_84 (by decide) ?_
          refine lv_icmp_ne (tgt := 94) B.1 B.2.1 d_MC_memory_86 (by decide) (fun hc16 => ?_) (fun hc16 => ?_)
          · rw [if_neg hc16] at hf
            refine lv_iload_n B.1 B.2.1 d_MC_memory_94 rfl (lv_at hl 1 rfl) ?_
            refine lv_bipush (v := 56) B.1 B.2.1 d_MC_memory_95 (by decide) ?_
            refine lv_icmp_ne (tgt := 105) B.1 B.2.1 d_MC_memory_97 (by decide) (fun hc17 => ?_) (fun hc17 => ?_)
            · rw [if_neg hc17] at hf
              refine lv_iload_n B.1 B.2.1 d_MC_memory_105 rfl (lv_at hl 1 rfl) ?_
              refine lv_bipush (v := 57) B.1 B.2.1 d_MC_memory_106 (by decide) ?_
              refine lv_icmp_ne (tgt := 116) B.1 B.2.1 d_MC_memory_108 (by decide) (fun hc18 => ?_) (fun hc18 => ?_)
              · rw [if_neg hc18] at hf
                refine lv_bipush (v := 126) B.1 B.2.1 d_MC_memory_116 (by decide) ?_
                exact hb118 126 127 u _ _ _ hf hI (lv_sub hl [] rfl)
              · rw [if_pos hc18] at hf
                refine lv_bipush (v := 124) B.1 B.2.1 d_MC_memory_111 (by decide) ?_
                refine lv_goto (tgt := 118) B.1 B.2.1 d_MC_memory_113 (by decide) ?_
                exact hb118 124 127 u _ _ _ hf hI (lv_sub hl [] rfl)
            · rw [if_pos hc17] at hf
              refine lv_bipush (v := 125) B.1 B.2.1 d_MC_memory_100 (by decide) ?_
              refine lv_goto (tgt := 118) B.1 B.2.1 d_MC_memory_102 (by decide) ?_
              exact hb118 125 127 u _ _ _ hf hI (lv_sub hl [] rfl)
          · rw [if_pos hc16] at hf
            exact hb89 127 u _ _ _ hf hI (lv_sub hl [] rfl)
  · rw [if_neg hc1] at hf
    refine lv_aload_n B.1 B.2.1 d_MC_memory_6 rfl (lv_at hl 0 rfl) ?_
    refine lv_bipush (v := 127) B.1 B.2.1 d_MC_memory_7 (by decide) ?_
    refine lv_iload_n B.1 B.2.1 d_MC_memory_9 rfl (lv_at hl 1 rfl) ?_
    refine lv_bipush (v := 40) B.1 B.2.1 d_MC_memory_10 (by decide) ?_
    refine lv_icmp_eq (tgt := 27) B.1 B.2.1 d_MC_memory_12 (by decide) (fun hc19 => ?_) (fun hc19 => ?_)
    · rw [if_pos hc19] at hf
      exact hb27 127 u _ _ _ hf hI (lv_sub hl [] rfl)
    · rw [if_neg hc19] at hf
      refine lv_iload_n B.1 B.2.1 d_MC_memory_15 rfl (lv_at hl 1 rfl) ?_
      refine lv_bipush (v := 44) B.1 B.2.1 d_MC_memory_16 (by decide) ?_
      refine lv_icmp_lt (tgt := 32) B.1 B.2.1 d_MC_memory_18 (by decide) (fun hc20 => ?_) (fun hc20 => ?_)
      · rw [if_pos hc20] at hf
        exact hb32 x1 127 u _ _ _ hf hI (lv_sub hl [1] rfl)
      · rw [if_neg hc20] at hf
        refine lv_iload_n B.1 B.2.1 d_MC_memory_21 rfl (lv_at hl 1 rfl) ?_
        refine lv_bipush (v := 47) B.1 B.2.1 d_MC_memory_22 (by decide) ?_
        refine lv_icmp_gt (tgt := 32) B.1 B.2.1 d_MC_memory_24 (by decide) (fun hc21 => ?_) (fun hc21 => ?_)
        · rw [if_pos hc21] at hf
          exact hb32 x1 127 u _ _ _ hf hI (lv_sub hl [1] rfl)
        · rw [if_neg hc21] at hf
          exact hb27 127 u _ _ _ hf hI (lv_sub hl [] rfl)
set_option maxHeartbeats 4000000 in
set_option maxRecDepth 100000 in
theorem zc_MMC_takeThree_0 (l : Launch) (D : va_G) (z : zZ) (a : Nat → Nat) (N : Nat)  (u : zU) (r : Unit) (u1 : zU) (hf : zf_MMC_takeThree_0 N  u = some (r, u1)) : zMet l D z y_MC_takeThree (.code y_MC_takeThree b_MC_takeThree 1 none) { frames := 2, cells := 0, slots := 0, locals := 43 } [.ref (a 0)] (wM a z u) (zQv D (wM a z u1)) := by
  refine zM_v (own := R_MC) [.ref (a 0)] (wM a z u) (wM a z u1) (by decide) rfl (Nat.le_of_ble_eq_true rfl) ?_
  intro p e s m args below meth c A ls B hr hlk hI hl
  have hl : lv_has ls 1 [(0, .ref (a 0))] := hl
  revert hf
  revert hI hl
  intro hI hl hf
  unfold zf_MMC_takeThree_0 at hf
  refine lv_aload_n B.1 B.2.1 d_MC_takeThree_0 rfl (lv_at hl 0 rfl) ?_
  refine lv_bipush (v := 127) B.1 B.2.1 d_MC_takeThree_1 (by decide) ?_
  obtain ⟨r1, u2, h3, hf⟩ := zbd_some hf
  refine rx_Vv (n := 1) (As := [.int 127]) (rest := []) B hI hl.1 (zc_MMC_take_0 l D z a N 127 u r1 u2 h3) zw_511 zw_513 zw_514 zw_399 zw_512 (by decide +kernel) 0 (wM_at_0 a z u) hcl_MC rfl rfl (Nat.le_of_ble_eq_true rfl) d_MC_takeThree_3 ⟨Nat.le_of_ble_eq_true rfl, Nat.le_of_ble_eq_true rfl⟩ rfl rfl ⟨Nat.zero_le _, Nat.zero_le _⟩ (fun H locs hI => ?_)
  refine lv_aload_n B.1 B.2.1 d_MC_takeThree_6 rfl (lv_at hl 0 rfl) ?_
  refine lv_bipush (v := 127) B.1 B.2.1 d_MC_takeThree_7 (by decide) ?_
  obtain ⟨r4, u5, h6, hf⟩ := zbd_some hf
  refine rx_Vv (n := 1) (As := [.int 127]) (rest := []) B hI hl.1 (zc_MMC_take_0 l D z a N 127 u2 r4 u5 h6) zw_511 zw_513 zw_514 zw_399 zw_512 (by decide +kernel) 0 (wM_at_0 a z u2) hcl_MC rfl rfl (Nat.le_of_ble_eq_true rfl) d_MC_takeThree_9 ⟨Nat.le_of_ble_eq_true rfl, Nat.le_of_ble_eq_true rfl⟩ rfl rfl ⟨Nat.zero_le _, Nat.zero_le _⟩ (fun H locs hI => ?_)
  refine lv_aload_n B.1 B.2.1 d_MC_takeThree_12 rfl (lv_at hl 0 rfl) ?_
  refine lv_bipush (v := 127) B.1 B.2.1 d_MC_takeThree_13 (by decide) ?_
  obtain ⟨r7, u8, h9, hf⟩ := zbd_some hf
  refine rx_Vv (n := 1) (As := [.int 127]) (rest := []) B hI hl.1 (zc_MMC_take_0 l D z a N 127 u5 r7 u8 h9) zw_511 zw_513 zw_514 zw_399 zw_512 (by decide +kernel) 0 (wM_at_0 a z u5) hcl_MC rfl rfl (Nat.le_of_ble_eq_true rfl) d_MC_takeThree_15 ⟨Nat.le_of_ble_eq_true rfl, Nat.le_of_ble_eq_true rfl⟩ rfl rfl ⟨Nat.zero_le _, Nat.zero_le _⟩ (fun H locs hI => ?_)
  obtain ⟨e10, e11⟩ := zrt hf
  exact zr_v (wM a z) B hI hr hlk e11 d_MC_takeThree_18
