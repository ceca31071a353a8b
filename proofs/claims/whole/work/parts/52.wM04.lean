set_option maxHeartbeats 4000000 in
set_option maxRecDepth 100000 in
theorem zc_MMC_giveWanted_0 (l : Launch) (D : va_G) (z : zZ) (a : Nat → Nat) (N : Nat)  (u : zU) (r : Unit) (u1 : zU) (hf : zf_MMC_giveWanted_0 N  u = some (r, u1)) : zMet l D z y_MC_giveWanted (.code y_MC_giveWanted b_MC_giveWanted 2 none) { frames := 2, cells := 0, slots := 0, locals := 42 } [.ref (a 0)] (wM a z u) (zQv D (wM a z u1)) := by
  refine zM_v (own := R_MC) [.ref (a 0)] (wM a z u) (wM a z u1) (by decide) rfl (Nat.le_of_ble_eq_true rfl) ?_
  intro p e s m args below meth c A ls B hr hlk hI hl
  have hl : lv_has ls 2 [(0, .ref (a 0))] := hl
  revert hf
  revert hI hl
  have hb2 : ∀ (n : Nat) (x1 : Int32) (u : zU) (H : Heap) (locs : List Loc) (ls : Array Slot), zf_MMC_giveWanted_0_b2 N  n x1 u = some (r, u1) → iw D A s (wM a z u) H locs → lv_has ls 2 [(0, .ref (a 0)), (1, .int x1)] → W p l e ({ frames := 2, cells := 0, slots := 0, locals := 42 } : Room) s m args below meth c H locs 0 0 (MQ below (zQv D (wM a z u1) A) args s 0 0 A) (F0 m 2 ls []) := by
    intro n2
    induction n2 with
    | zero => intro x1 u H locs ls hf; exact absurd hf (by rw [zf_MMC_giveWanted_0_b2]; exact fun h => by cases h)
    | succ n2 ih2 =>
      intro x1 u H locs ls hf hI hl
      rw [zf_MMC_giveWanted_0_b2] at hf
      refine lv_iload_n B.1 B.2.1 d_MC_giveWanted_2 rfl (lv_at hl 1 rfl) ?_
      refine lv_aload_n B.1 B.2.1 d_MC_giveWanted_3 rfl (lv_at hl 0 rfl) ?_
      refine rx_get (v := .int (gi u 18)) B hI hcl_MC hin_MC 0 (wM_at_0 a z u) 37 (by decide) hf_MC_37 zw_496 rfl d_MC_giveWanted_4 ?_
      refine lv_icmp_ge (tgt := 26) B.1 B.2.1 d_MC_giveWanted_7 (by decide) (fun hc1 => ?_) (fun hc1 => ?_)
      · rw [if_pos hc1] at hf
        obtain ⟨e2, e3⟩ := zrt hf
        exact zr_v (wM a z) B hI hr hlk e3 d_MC_giveWanted_26
      · rw [if_neg hc1] at hf
        refine lv_aload_n B.1 B.2.1 d_MC_giveWanted_10 rfl (lv_at hl 0 rfl) ?_
        refine lv_aload_n B.1 B.2.1 d_MC_giveWanted_11 rfl (lv_at hl 0 rfl) ?_
        refine rx_get (v := .ref (a 18)) B hI hcl_MC hin_MC 0 (wM_at_0 a z u) 36 (by decide) hf_MC_36 zw_501 rfl d_MC_giveWanted_12 ?_
        refine lv_iload_n B.1 B.2.1 d_MC_giveWanted_15 rfl (lv_at hl 1 rfl) ?_
        obtain ⟨hi4, hf⟩ := zck_some hf
        refine rx_iald B hI 18 (wM_at_18 a z u) hi4 d_MC_giveWanted_16 ?_
        obtain ⟨r5, u6, h7, hf⟩ := zbd_some hf
        refine rx_Vv (n := 1) (As := [.int (ga u 16 x1)]) (rest := []) B hI hl.1 (zc_MMC_give_0 l D z a N (ga u 16 x1) u r5 u6 h7) zw_519 zw_521 zw_522 zw_399 zw_520 (by decide +kernel) 0 (wM_at_0 a z u) hcl_MC rfl rfl (Nat.le_of_ble_eq_true rfl) d_MC_giveWanted_17 ⟨Nat.le_of_ble_eq_true rfl, Nat.le_of_ble_eq_true rfl⟩ rfl rfl ⟨Nat.zero_le _, Nat.zero_le _⟩ (fun H locs hI => ?_)
        refine lv_iinc (v := (x1 + 1)) (lv' := [(1, .int (x1 + 1)), (0, .ref (a 0))]) B.1 B.2.1 d_MC_giveWanted_20 hl (k := 1) rfl (by rfl) (by decide) rfl (fun ls hl => ?_)
        refine lv_goto (tgt := 2) B.1 B.2.1 d_MC_giveWanted_23 (by decide) ?_
        exact ih2 (x1 + 1) u6 _ _ _ hf hI (lv_sub hl [1, 0] rfl)
  intro hI hl hf
  unfold zf_MMC_giveWanted_0 at hf
  refine lv_iconst (v := 0) B.1 B.2.1 d_MC_giveWanted_0 (by decide) ?_
  refine lv_istore_n (lv' := [(1, .int 0), (0, .ref (a 0))]) B.1 B.2.1 d_MC_giveWanted_1 rfl hl (by decide) rfl (fun ls hl => ?_)
  exact hb2 N 0 u _ _ _ hf hI (lv_sub hl [1, 0] rfl)
set_option maxHeartbeats 4000000 in
set_option maxRecDepth 100000 in
theorem zc_MMC_call_0 (l : Launch) (D : va_G) (z : zZ) (a : Nat → Nat) (N : Nat) (x1 : Int32) (u : zU) (r : Unit) (u1 : zU) (hf : zf_MMC_call_0 N x1 u = some (r, u1)) : zMet l D z y_MC_call (.code y_MC_call b_MC_call 2 none) { frames := 3, cells := 0, slots := 0, locals := 64 } [.ref (a 0), .int x1] (wM a z u) (zQv D (wM a z u1)) := by
  refine zM_v (own := R_MC) [.ref (a 0), .int x1] (wM a z u) (wM a z u1) (by decide) rfl (Nat.le_of_ble_eq_true rfl) ?_
  intro p e s m args below meth c A ls B hr hlk hI hl
  have hl : lv_has ls 2 [(0, .ref (a 0)), (1, .int x1)] := hl
  revert hf
  revert hI hl
  intro hI hl hf
  unfold zf_MMC_call_0 at hf
  refine lv_aload_n B.1 B.2.1 d_MC_call_0 rfl (lv_at hl 0 rfl) ?_
  refine lv_iload_n B.1 B.2.1 d_MC_call_1 rfl (lv_at hl 1 rfl) ?_
  refine lv_iconst (v := 0) B.1 B.2.1 d_MC_call_2 (by decide) ?_
  obtain ⟨r1, u2, h3, hf⟩ := zbd_some hf
  refine rx_Vv (n := 2) (As := [.int x1, .int 0]) (rest := []) B hI hl.1 (zc_MMC_wantParts_0 l D z a N x1 0 u r1 u2 h3) zw_506 zw_508 zw_509 zw_399 zw_507 (by decide +kernel) 0 (wM_at_0 a z u) hcl_MC rfl rfl (Nat.le_of_ble_eq_true rfl) d_MC_call_3 ⟨Nat.le_of_ble_eq_true rfl, Nat.le_of_ble_eq_true rfl⟩ rfl rfl ⟨Nat.zero_le _, Nat.zero_le _⟩ (fun H locs hI => ?_)
  refine lv_aload_n B.1 B.2.1 d_MC_call_6 rfl (lv_at hl 0 rfl) ?_
  obtain ⟨r4, u5, h6, hf⟩ := zbd_some hf
  refine rx_Vv (n := 0) (As := []) (rest := []) B hI hl.1 (zc_MMC_takeWanted_0 l D z a N  u2 r4 u5 h6) zw_515 zw_517 zw_518 zw_399 zw_516 (by decide +kernel) 0 (wM_at_0 a z u2) hcl_MC rfl rfl (Nat.le_of_ble_eq_true rfl) d_MC_call_7 ⟨Nat.le_of_ble_eq_true rfl, Nat.le_of_ble_eq_true rfl⟩ rfl rfl ⟨Nat.zero_le _, Nat.zero_le _⟩ (fun H locs hI => ?_)
  refine lv_aload_n B.1 B.2.1 d_MC_call_10 rfl (lv_at hl 0 rfl) ?_
  obtain ⟨r7, u8, h9, hf⟩ := zbd_some hf
  refine rx_Vv (n := 0) (As := []) (rest := []) B hI hl.1 (zc_MMC_wantNothing_0 l D z a N  u5 r7 u8 h9) zw_497 zw_499 zw_500 zw_399 zw_498 (by decide +kernel) 0 (wM_at_0 a z u5) hcl_MC rfl rfl (Nat.le_of_ble_eq_true rfl) d_MC_call_11 ⟨Nat.le_of_ble_eq_true rfl, Nat.le_of_ble_eq_true rfl⟩ rfl rfl ⟨Nat.zero_le _, Nat.zero_le _⟩ (fun H locs hI => ?_)
  refine lv_aload_n B.1 B.2.1 d_MC_call_14 rfl (lv_at hl 0 rfl) ?_
  refine lv_iload_n B.1 B.2.1 d_MC_call_15 rfl (lv_at hl 1 rfl) ?_
  refine lv_iconst (v := 1) B.1 B.2.1 d_MC_call_16 (by decide) ?_
  obtain ⟨r10, u11, h12, hf⟩ := zbd_some hf
  refine rx_Vv (n := 2) (As := [.int x1, .int 1]) (rest := []) B hI hl.1 (zc_MMC_wantParts_0 l D z a N x1 1 u8 r10 u11 h12) zw_506 zw_508 zw_509 zw_399 zw_507 (by decide +kernel) 0 (wM_at_0 a z u8) hcl_MC rfl rfl (Nat.le_of_ble_eq_true rfl) d_MC_call_17 ⟨Nat.le_of_ble_eq_true rfl, Nat.le_of_ble_eq_true rfl⟩ rfl rfl ⟨Nat.zero_le _, Nat.zero_le _⟩ (fun H locs hI => ?_)
  refine lv_aload_n B.1 B.2.1 d_MC_call_20 rfl (lv_at hl 0 rfl) ?_
  obtain ⟨r13, u14, h15, hf⟩ := zbd_some hf
  refine rx_Vv (n := 0) (As := []) (rest := []) B hI hl.1 (zc_MMC_giveWanted_0 l D z a N  u11 r13 u14 h15) zw_523 zw_525 zw_526 zw_399 zw_524 (by decide +kernel) 0 (wM_at_0 a z u11) hcl_MC rfl rfl (Nat.le_of_ble_eq_true rfl) d_MC_call_21 ⟨Nat.le_of_ble_eq_true rfl, Nat.le_of_ble_eq_true rfl⟩ rfl rfl ⟨Nat.zero_le _, Nat.zero_le _⟩ (fun H locs hI => ?_)
  obtain ⟨e16, e17⟩ := zrt hf
  exact zr_v (wM a z) B hI hr hlk e17 d_MC_call_24
set_option maxHeartbeats 4000000 in
set_option maxRecDepth 100000 in
theorem zc_MMC_countOf_0 (l : Launch) (D : va_G) (z : zZ) (a : Nat → Nat) (N : Nat) (x1 : Int32) (x2 : Int32) (u : zU) (r : Int32) (u1 : zU) (hf : zf_MMC_countOf_0 N x1 x2 u = some (r, u1)) : zMet l D z y_MC_countOf (.code y_MC_countOf b_MC_countOf 4 (some (.int))) { frames := 0, cells := 0, slots := 0, locals := 0 } [.ref (a 0), .int x1, .int x2] (wM a z u) (zQi D r (wM a z u1)) := by
  refine zM_i (own := R_MC) [.ref (a 0), .int x1, .int x2] (wM a z u) r (wM a z u1) (by decide) rfl (Nat.le_of_ble_eq_true rfl) ?_
  intro p e s m args below meth c A ls B hr hlk hI hl
  have hl : lv_has ls 4 [(0, .ref (a 0)), (1, .int x1), (2, .int x2)] := hl
  revert hf
  revert hI hl
  have hb81 : ∀ (s0 : Int32) (u : zU) (H : Heap) (locs : List Loc) (ls : Array Slot), zf_MMC_countOf_0_b81 N  s0 u = some (r, u1) → iw D A s (wM a z u) H locs → lv_has ls 4 [] → W p l e ({ frames := 0, cells := 0, slots := 0, locals := 0 } : Room) s m args below meth c H locs 0 0 (MQ below (zQi D r (wM a z u1) A) args s 0 0 A) (F0 m 81 ls [.int s0]) := by
    intro s0 u H locs ls hf hI hl
    unfold zf_MMC_countOf_0_b81 at hf
    obtain ⟨e1, e2⟩ := zrt hf
    exact zr_i (wM a z) B hI hr hlk e1 e2 d_MC_countOf_81
  have hb80 : ∀  (u : zU) (H : Heap) (locs : List Loc) (ls : Array Slot), zf_MMC_countOf_0_b80 N   u = some (r, u1) → iw D A s (wM a z u) H locs → lv_has ls 4 [] → W p l e ({ frames := 0, cells := 0, slots := 0, locals := 0 } : Room) s m args below meth c H locs 0 0 (MQ below (zQi D r (wM a z u1) A) args s 0 0 A) (F0 m 80 ls []) := by
    intro  u H locs ls hf hI hl
    unfold zf_MMC_countOf_0_b80 at hf
    refine lv_iconst (v := 0) B.1 B.2.1 d_MC_countOf_80 (by decide) ?_
    exact hb81 0 u _ _ _ hf hI (lv_sub hl [] rfl)
  have hb32 : ∀ (s0 : Int32) (u : zU) (H : Heap) (locs : List Loc) (ls : Array Slot), zf_MMC_countOf_0_b32 N  s0 u = some (r, u1) → iw D A s (wM a z u) H locs → lv_has ls 4 [] → W p l e ({ frames := 0, cells := 0, slots := 0, locals := 0 } : Room) s m args below meth c H locs 0 0 (MQ below (zQi D r (wM a z u1) A) args s 0 0 A) (F0 m 32 ls [.int s0]) := by
    intro s0 u H locs ls hf hI hl
    unfold zf_MMC_countOf_0_b32 at hf
    obtain ⟨e1, e2⟩ := zrt hf
    exact zr_i (wM a z) B hI hr hlk e1 e2 d_MC_countOf_32
  intro hI hl hf
  unfold zf_MMC_countOf_0 at hf
  refine lv_iload_n B.1 B.2.1 d_MC_countOf_0 rfl (lv_at hl 1 rfl) ?_
  refine lv_if_ne (tgt := 33) B.1 B.2.1 d_MC_countOf_1 (by decide) (fun hc1 => ?_) (fun hc1 => ?_)
  · rw [if_neg hc1] at hf
    refine lv_aload_n B.1 B.2.1 d_MC_countOf_33 rfl (lv_at hl 0 rfl) ?_
    refine rx_get (v := .ref (a 14)) B hI hcl_MC hin_MC 0 (wM_at_0 a z u) 25 (by decide) hf_MC_25 zw_531 rfl d_MC_countOf_34 ?_
    refine lv_iload_n B.1 B.2.1 d_MC_countOf_37 rfl (lv_at hl 1 rfl) ?_
    obtain ⟨hi2, hf⟩ := zck_some hf
    refine rx_iald B hI 14 (wM_at_14 a z u) hi2 d_MC_countOf_38 ?_
    refine lv_istore_n (lv' := [(3, .int (ga u 12 x1)), (0, .ref (a 0)), (1, .int x1), (2, .int x2)]) B.1 B.2.1 d_MC_countOf_39 rfl hl (by decide) rfl (fun ls hl => ?_)
    refine lv_iload_n B.1 B.2.1 d_MC_countOf_40 rfl (lv_at hl 0 rfl) ?_
    refine lv_if_lt (tgt := 66) B.1 B.2.1 d_MC_countOf_41 (by decide) (fun hc3 => ?_) (fun hc3 => ?_)
    · rw [if_pos hc3] at hf
      refine lv_iload_n B.1 B.2.1 d_MC_countOf_66 rfl (lv_at hl 3 rfl) ?_
      refine lv_if_eq (tgt := 80) B.1 B.2.1 d_MC_countOf_67 (by decide) (fun hc4 => ?_) (fun hc4 => ?_)
      · rw [if_pos hc4] at hf
        exact hb80  u _ _ _ hf hI (lv_sub hl [] rfl)
      · rw [if_neg hc4] at hf
        refine lv_iload_n B.1 B.2.1 d_MC_countOf_70 rfl (lv_at hl 0 rfl) ?_
        refine lv_bipush (v := (-64)) B.1 B.2.1 d_MC_countOf_71 (by decide) ?_
        refine lv_icmp_eq (tgt := 80) B.1 B.2.1 d_MC_countOf_73 (by decide) (fun hc5 => ?_) (fun hc5 => ?_)
        · rw [if_pos hc5] at hf
          exact hb80  u _ _ _ hf hI (lv_sub hl [] rfl)
        · rw [if_neg hc5] at hf
          refine lv_iconst (v := 1) B.1 B.2.1 d_MC_countOf_76 (by decide) ?_
          refine lv_goto (tgt := 81) B.1 B.2.1 d_MC_countOf_77 (by decide) ?_
          exact hb81 1 u _ _ _ hf hI (lv_sub hl [] rfl)
    · rw [if_neg hc3] at hf
      refine lv_iload_n B.1 B.2.1 d_MC_countOf_44 rfl (lv_at hl 3 rfl) ?_
      refine lv_if_eq (tgt := 57) B.1 B.2.1 d_MC_countOf_45 (by decide) (fun hc6 => ?_) (fun hc6 => ?_)
      · rw [if_pos hc6] at hf
        refine lv_aload_n B.1 B.2.1 d_MC_countOf_57 rfl (lv_at hl 1 rfl) ?_
        refine rx_get (v := .ref (a 1)) B hI hcl_MC hin_MC 0 (wM_at_0 a z u) 1 (by decide) hf_MC_1 zw_409 rfl d_MC_countOf_58 ?_
        refine lv_iload_n B.1 B.2.1 d_MC_countOf_61 rfl (lv_at hl 0 rfl) ?_
        obtain ⟨hi7, hf⟩ := zck_some hf
        refine rx_iald B hI 1 (wM_at_1 a z u) hi7 d_MC_countOf_62 ?_
        refine lv_goto (tgt := 81) B.1 B.2.1 d_MC_countOf_63 (by decide) ?_
        exact hb81 (ga u 0 (ga u 12 x1)) u _ _ _ hf hI (lv_sub hl [] rfl)
      · rw [if_neg hc6] at hf
        refine lv_aload_n B.1 B.2.1 d_MC_countOf_48 rfl (lv_at hl 1 rfl) ?_
        refine rx_get (v := .ref (a 2)) B hI hcl_MC hin_MC 0 (wM_at_0 a z u) 2 (by decide) hf_MC_2 zw_406 rfl d_MC_countOf_49 ?_
        refine lv_iload_n B.1 B.2.1 d_MC_countOf_52 rfl (lv_at hl 0 rfl) ?_
        obtain ⟨hi8, hf⟩ := zck_some hf
        refine rx_iald B hI 2 (wM_at_2 a z u) hi8 d_MC_countOf_53 ?_
        refine lv_goto (tgt := 81) B.1 B.2.1 d_MC_countOf_54 (by decide) ?_
        exact hb81 (ga u 1 (ga u 12 x1)) u _ _ _ hf hI (lv_sub hl [] rfl)
  · rw [if_pos hc1] at hf
    refine lv_iload_n B.1 B.2.1 d_MC_countOf_4 rfl (lv_at hl 2 rfl) ?_
    refine lv_if_ne (tgt := 12) B.1 B.2.1 d_MC_countOf_5 (by decide) (fun hc9 => ?_) (fun hc9 => ?_)
    · rw [if_neg hc9] at hf
      refine lv_aload_n B.1 B.2.1 d_MC_countOf_12 rfl (lv_at hl 0 rfl) ?_
      refine rx_get (v := .int (gi u 2)) B hI hcl_MC hin_MC 0 (wM_at_0 a z u) 10 (by decide) hf_MC_10 zw_414 rfl d_MC_countOf_13 ?_
      refine lv_if_eq (tgt := 31) B.1 B.2.1 d_MC_countOf_16 (by decide) (fun hc10 => ?_) (fun hc10 => ?_)
      · rw [if_pos hc10] at hf
        refine lv_iconst (v := 1) B.1 B.2.1 d_MC_countOf_31 (by decide) ?_
        exact hb32 1 u _ _ _ hf hI (lv_sub hl [] rfl)
      · rw [if_neg hc10] at hf
        refine lv_aload_n B.1 B.2.1 d_MC_countOf_19 rfl (lv_at hl 0 rfl) ?_
        refine rx_get (v := .ref (a 2)) B hI hcl_MC hin_MC 0 (wM_at_0 a z u) 2 (by decide) hf_MC_2 zw_406 rfl d_MC_countOf_20 ?_
        refine lv_aload_n B.1 B.2.1 d_MC_countOf_23 rfl (lv_at hl 0 rfl) ?_
        refine rx_get (v := .int (gi u 4)) B hI hcl_MC hin_MC 0 (wM_at_0 a z u) 12 (by decide) hf_MC_12 zw_428 rfl d_MC_countOf_24 ?_
        obtain ⟨hi11, hf⟩ := zck_some hf
        refine rx_iald B hI 2 (wM_at_2 a z u) hi11 d_MC_countOf_27 ?_
        refine lv_goto (tgt := 32) B.1 B.2.1 d_MC_countOf_28 (by decide) ?_
        exact hb32 (ga u 1 (gi u 4)) u _ _ _ hf hI (lv_sub hl [] rfl)
    · rw [if_pos hc9] at hf
      refine lv_iconst (v := 0) B.1 B.2.1 d_MC_countOf_8 (by decide) ?_
      refine lv_goto (tgt := 32) B.1 B.2.1 d_MC_countOf_9 (by decide) ?_
      exact hb32 0 u _ _ _ hf hI (lv_sub hl [] rfl)
set_option maxHeartbeats 4000000 in
set_option maxRecDepth 100000 in
theorem zc_MMC_partOf_0 (l : Launch) (D : va_G) (z : zZ) (a : Nat → Nat) (N : Nat) (x1 : Int32) (x2 : Int32) (x3 : Int32) (u : zU) (r : Int32) (u1 : zU) (hf : zf_MMC_partOf_0 N x1 x2 x3 u = some (r, u1)) : zMet l D z y_MC_partOf (.code y_MC_partOf b_MC_partOf 5 (some (.int))) { frames := 0, cells := 0, slots := 0, locals := 0 } [.ref (a 0), .int x1, .int x2, .int x3] (wM a z u) (zQi D r (wM a z u1)) := by
  refine zM_i (own := R_MC) [.ref (a 0), .int x1, .int x2, .int x3] (wM a z u) r (wM a z u1) (by decide) rfl (Nat.le_of_ble_eq_true rfl) ?_
  intro p e s m args below meth c A ls B hr hlk hI hl
  have hl : lv_has ls 5 [(0, .ref (a 0)), (1, .int x1), (2, .int x2), (3, .int x3)] := hl
  revert hf
  revert hI hl
  have hb86 : ∀ (s0 : Int32) (u : zU) (H : Heap) (locs : List Loc) (ls : Array Slot), zf_MMC_partOf_0_b86 N  s0 u = some (r, u1) → iw D A s (wM a z u) H locs → lv_has ls 5 [] → W p l e ({ frames := 0, cells := 0, slots := 0, locals := 0 } : Room) s m args below meth c H locs 0 0 (MQ below (zQi D r (wM a z u1) A) args s 0 0 A) (F0 m 86 ls [.int s0]) := by
    intro s0 u H locs ls hf hI hl
    unfold zf_MMC_partOf_0_b86 at hf
    obtain ⟨e1, e2⟩ := zrt hf
    exact zr_i (wM a z) B hI hr hlk e1 e2 d_MC_partOf_86
  have hb32 : ∀ (s0 : Int32) (u : zU) (H : Heap) (locs : List Loc) (ls : Array Slot), zf_MMC_partOf_0_b32 N  s0 u = some (r, u1) → iw D A s (wM a z u) H locs → lv_has ls 5 [] → W p l e ({ frames := 0, cells := 0, slots := 0, locals := 0 } : Room) s m args below meth c H locs 0 0 (MQ below (zQi D r (wM a z u1) A) args s 0 0 A) (F0 m 32 ls [.int s0]) := by
    intro s0 u H locs ls hf hI hl
    unfold zf_MMC_partOf_0_b32 at hf
    obtain ⟨e1, e2⟩ := zrt hf
    exact zr_i (wM a z) B hI hr hlk e1 e2 d_MC_partOf_32
  intro hI hl hf
  unfold zf_MMC_partOf_0 at hf
  refine lv_iload_n B.1 B.2.1 d_MC_partOf_0 rfl (lv_at hl 1 rfl) ?_
  refine lv_if_ne (tgt := 33) B.1 B.2.1 d_MC_partOf_1 (by decide) (fun hc1 => ?_) (fun hc1 => ?_)
  · rw [if_neg hc1] at hf
    refine lv_aload_n B.1 B.2.1 d_MC_partOf_33 rfl (lv_at hl 0 rfl) ?_
    refine rx_get (v := .ref (a 14)) B hI hcl_MC hin_MC 0 (wM_at_0 a z u) 25 (by decide) hf_MC_25 zw_531 rfl d_MC_partOf_34 ?_
    refine lv_iload_n B.1 B.2.1 d_MC_partOf_37 rfl (lv_at hl 1 rfl) ?_
    obtain ⟨hi2, hf⟩ := zck_some hf
    refine rx_iald B hI 14 (wM_at_14 a z u) hi2 d_MC_partOf_38 ?_
    refine lv_istore (lv' := [(4, .int (ga u 12 x1)), (0, .ref (a 0)), (1, .int x1), (2, .int x2), (3, .int x3)]) B.1 B.2.1 d_MC_partOf_39 hl (by decide) rfl (fun ls hl => ?_)
    refine lv_iload B.1 B.2.1 d_MC_partOf_41 (lv_at hl 0 rfl) ?_
    refine lv_if_lt (tgt := 80) B.1 B.2.1 d_MC_partOf_43 (by decide) (fun hc3 => ?_) (fun hc3 => ?_)
    · rw [if_pos hc3] at hf
      refine lv_iload B.1 B.2.1 d_MC_partOf_80 (lv_at hl 0 rfl) ?_
      refine lv_sipush (v := 128) B.1 B.2.1 d_MC_partOf_82 (by decide) ?_
      refine lv_iadd B.1 B.2.1 d_MC_partOf_85 ?_
      exact hb86 ((ga u 12 x1) + 128) u _ _ _ hf hI (lv_sub hl [] rfl)
    · rw [if_neg hc3] at hf
      refine lv_iload_n B.1 B.2.1 d_MC_partOf_46 rfl (lv_at hl 3 rfl) ?_
      refine lv_if_eq (tgt := 65) B.1 B.2.1 d_MC_partOf_47 (by decide) (fun hc4 => ?_) (fun hc4 => ?_)
      · rw [if_pos hc4] at hf
        refine lv_aload_n B.1 B.2.1 d_MC_partOf_65 rfl (lv_at hl 1 rfl) ?_
        refine rx_get (v := .ref (a 3)) B hI hcl_MC hin_MC 0 (wM_at_0 a z u) 3 (by decide) hf_MC_3 zw_408 rfl d_MC_partOf_66 ?_
        refine lv_bipush (v := 12) B.1 B.2.1 d_MC_partOf_69 (by decide) ?_
        refine lv_iload B.1 B.2.1 d_MC_partOf_71 (lv_at hl 0 rfl) ?_
        refine lv_imul B.1 B.2.1 d_MC_partOf_73 ?_
        refine lv_iload_n B.1 B.2.1 d_MC_partOf_74 rfl (lv_at hl 4 rfl) ?_
        refine lv_iadd B.1 B.2.1 d_MC_partOf_75 ?_
        obtain ⟨hi5, hf⟩ := zck_some hf
        refine rx_iald B hI 3 (wM_at_3 a z u) hi5 d_MC_partOf_76 ?_
        refine lv_goto (tgt := 86) B.1 B.2.1 d_MC_partOf_77 (by decide) ?_
        exact hb86 (ga u 2 ((12 * (ga u 12 x1)) + x3)) u _ _ _ hf hI (lv_sub hl [] rfl)
      · rw [if_neg hc4] at hf
        refine lv_aload_n B.1 B.2.1 d_MC_partOf_50 rfl (lv_at hl 1 rfl) ?_
        refine rx_get (v := .ref (a 4)) B hI hcl_MC hin_MC 0 (wM_at_0 a z u) 4 (by decide) hf_MC_4 zw_407 rfl d_MC_partOf_51 ?_
        refine lv_bipush (v := 12) B.1 B.2.1 d_MC_partOf_54 (by decide) ?_
        refine lv_iload B.1 B.2.1 d_MC_partOf_56 (lv_at hl 0 rfl) ?_
        refine lv_imul B.1 B.2.1 d_MC_partOf_58 ?_
        refine lv_iload_n B.1 B.2.1 d_MC_partOf_59 rfl (lv_at hl 4 rfl) ?_
        refine lv_iadd B.1 B.2.1 d_MC_partOf_60 ?_
        obtain ⟨hi6, hf⟩ := zck_some hf
        refine rx_iald B hI 4 (wM_at_4 a z u) hi6 d_MC_partOf_61 ?_
        refine lv_goto (tgt := 86) B.1 B.2.1 d_MC_partOf_62 (by decide) ?_
        exact hb86 (ga u 3 ((12 * (ga u 12 x1)) + x3)) u _ _ _ hf hI (lv_sub hl [] rfl)
  · rw [if_pos hc1] at hf
    refine lv_aload_n B.1 B.2.1 d_MC_partOf_4 rfl (lv_at hl 0 rfl) ?_
    refine rx_get (v := .int (gi u 2)) B hI hcl_MC hin_MC 0 (wM_at_0 a z u) 10 (by decide) hf_MC_10 zw_414 rfl d_MC_partOf_5 ?_
    refine lv_if_eq (tgt := 28) B.1 B.2.1 d_MC_partOf_8 (by decide) (fun hc7 => ?_) (fun hc7 => ?_)
    · rw [if_pos hc7] at hf
      refine lv_aload_n B.1 B.2.1 d_MC_partOf_28 rfl (lv_at hl 0 rfl) ?_
      refine rx_get (v := .int (gi u 5)) B hI hcl_MC hin_MC 0 (wM_at_0 a z u) 13 (by decide) hf_MC_13 zw_435 rfl d_MC_partOf_29 ?_
      exact hb32 (gi u 5) u _ _ _ hf hI (lv_sub hl [] rfl)
    · rw [if_neg hc7] at hf
      refine lv_aload_n B.1 B.2.1 d_MC_partOf_11 rfl (lv_at hl 0 rfl) ?_
      refine rx_get (v := .ref (a 4)) B hI hcl_MC hin_MC 0 (wM_at_0 a z u) 4 (by decide) hf_MC_4 zw_407 rfl d_MC_partOf_12 ?_
      refine lv_bipush (v := 12) B.1 B.2.1 d_MC_partOf_15 (by decide) ?_
      refine lv_aload_n B.1 B.2.1 d_MC_partOf_17 rfl (lv_at hl 0 rfl) ?_
      refine rx_get (v := .int (gi u 4)) B hI hcl_MC hin_MC 0 (wM_at_0 a z u) 12 (by decide) hf_MC_12 zw_428 rfl d_MC_partOf_18 ?_
      refine lv_imul B.1 B.2.1 d_MC_partOf_21 ?_
      refine lv_iload_n B.1 B.2.1 d_MC_partOf_22 rfl (lv_at hl 3 rfl) ?_
      refine lv_iadd B.1 B.2.1 d_MC_partOf_23 ?_
      obtain ⟨hi8, hf⟩ := zck_some hf
      refine rx_iald B hI 4 (wM_at_4 a z u) hi8 d_MC_partOf_24 ?_
      refine lv_goto (tgt := 32) B.1 B.2.1 d_MC_partOf_25 (by decide) ?_
      exact hb32 (ga u 3 ((12 * (gi u 4)) + x3)) u _ _ _ hf hI (lv_sub hl [] rfl)
set_option maxHeartbeats 4000000 in
set_option maxRecDepth 100000 in
theorem zc_MMC_wantBlock_0 (l : Launch) (D : va_G) (z : zZ) (a : Nat → Nat) (N : Nat) (x1 : Int32) (x2 : Int32) (u : zU) (r : Unit) (u1 : zU) (hf : zf_MMC_wantBlock_0 N x1 x2 u = some (r, u1)) : zMet l D z y_MC_wantBlock (.code y_MC_wantBlock b_MC_wantBlock 4 none) { frames := 1, cells := 0, slots := 0, locals := 24 } [.ref (a 0), .int x1, .int x2] (wM a z u) (zQv D (wM a z u1)) := by
  refine zM_v (own := R_MC) [.ref (a 0), .int x1, .int x2] (wM a z u) (wM a z u1) (by decide) rfl (Nat.le_of_ble_eq_true rfl) ?_
  intro p e s m args below meth c A ls B hr hlk hI hl
  have hl : lv_has ls 4 [(0, .ref (a 0)), (1, .int x1), (2, .int x2)] := hl
  revert hf
  revert hI hl
  have hb2 : ∀ (n : Nat) (x1 : Int32) (x2 : Int32) (x3 : Int32) (u : zU) (H : Heap) (locs : List Loc) (ls : Array Slot), zf_MMC_wantBlock_0_b2 N  n x1 x2 x3 u = some (r, u1) → iw D A s (wM a z u) H locs → lv_has ls 4 [(0, .ref (a 0)), (1, .int x1), (2, .int x2), (3, .int x3)] → W p l e ({ frames := 1, cells := 0, slots := 0, locals := 24 } : Room) s m args below meth c H locs 0 0 (MQ below (zQv D (wM a z u1) A) args s 0 0 A) (F0 m 2 ls []) := by
    intro n2
    induction n2 with
    | zero => intro x1 x2 x3 u H locs ls hf; exact absurd hf (by rw [zf_MMC_wantBlock_0_b2]; exact fun h => by cases h)
    | succ n2 ih2 =>
      intro x1 x2 x3 u H locs ls hf hI hl
      rw [zf_MMC_wantBlock_0_b2] at hf
      refine lv_iload_n B.1 B.2.1 d_MC_wantBlock_2 rfl (lv_at hl 3 rfl) ?_
      refine lv_aload_n B.1 B.2.1 d_MC_wantBlock_3 rfl (lv_at hl 0 rfl) ?_
      refine lv_iload_n B.1 B.2.1 d_MC_wantBlock_4 rfl (lv_at hl 1 rfl) ?_
      refine lv_iload_n B.1 B.2.1 d_MC_wantBlock_5 rfl (lv_at hl 2 rfl) ?_
      obtain ⟨r1, u2, h3, hf⟩ := zbd_some hf
      refine rx_Vi (n := 2) (As := [.int x1, .int x2]) (rest := [.int x3]) B hI hl.1 (zc_MMC_countOf_0 l D z a N x1 x2 u r1 u2 h3) zw_532 zw_534 zw_535 zw_399 zw_533 (by decide +kernel) 0 (wM_at_0 a z u) hcl_MC rfl rfl (Nat.le_of_ble_eq_true rfl) d_MC_wantBlock_6 ⟨Nat.le_of_ble_eq_true rfl, Nat.le_of_ble_eq_true rfl⟩ rfl rfl ⟨Nat.zero_le _, Nat.zero_le _⟩ (fun H locs hI => ?_)
      refine lv_icmp_ge (tgt := 29) B.1 B.2.1 d_MC_wantBlock_9 (by decide) (fun hc4 => ?_) (fun hc4 => ?_)
      · rw [if_pos hc4] at hf
        obtain ⟨e5, e6⟩ := zrt hf
        exact zr_v (wM a z) B hI hr hlk e6 d_MC_wantBlock_29
      · rw [if_neg hc4] at hf
        refine lv_aload_n B.1 B.2.1 d_MC_wantBlock_12 rfl (lv_at hl 0 rfl) ?_
        refine lv_aload_n B.1 B.2.1 d_MC_wantBlock_13 rfl (lv_at hl 0 rfl) ?_
        refine lv_iload_n B.1 B.2.1 d_MC_wantBlock_14 rfl (lv_at hl 1 rfl) ?_
        refine lv_iload_n B.1 B.2.1 d_MC_wantBlock_15 rfl (lv_at hl 2 rfl) ?_
        refine lv_iload_n B.1 B.2.1 d_MC_wantBlock_16 rfl (lv_at hl 3 rfl) ?_
        obtain ⟨r7, u8, h9, hf⟩ := zbd_some hf
        refine rx_Vi (n := 3) (As := [.int x1, .int x2, .int x3]) (rest := [.ref (a 0)]) B hI hl.1 (zc_MMC_partOf_0 l D z a N x1 x2 x3 u2 r7 u8 h9) zw_536 zw_538 zw_539 zw_399 zw_537 (by decide +kernel) 0 (wM_at_0 a z u2) hcl_MC rfl rfl (Nat.le_of_ble_eq_true rfl) d_MC_wantBlock_17 ⟨Nat.le_of_ble_eq_true rfl, Nat.le_of_ble_eq_true rfl⟩ rfl rfl ⟨Nat.zero_le _, Nat.zero_le _⟩ (fun H locs hI => ?_)
        obtain ⟨r10, u11, h12, hf⟩ := zbd_some hf
        refine rx_Vv (n := 1) (As := [.int r7]) (rest := []) B hI hl.1 (zc_MMC_wantOne_0 l D z a N r7 u8 r10 u11 h12) zw_502 zw_504 zw_505 zw_399 zw_503 (by decide +kernel) 0 (wM_at_0 a z u8) hcl_MC rfl rfl (Nat.le_of_ble_eq_true rfl) d_MC_wantBlock_20 ⟨Nat.le_of_ble_eq_true rfl, Nat.le_of_ble_eq_true rfl⟩ rfl rfl ⟨Nat.zero_le _, Nat.zero_le _⟩ (fun H locs hI => ?_)
        refine lv_iinc (v := (x3 + 1)) (lv' := [(3, .int (x3 + 1)), (0, .ref (a 0)), (1, .int x1), (2, .int x2)]) B.1 B.2.1 d_MC_wantBlock_23 hl (k := 3) rfl (by rfl) (by decide) rfl (fun ls hl => ?_)
        refine lv_goto (tgt := 2) B.1 B.2.1 d_MC_wantBlock_26 (by decide) ?_
        exact ih2 x1 x2 (x3 + 1) u11 _ _ _ hf hI (lv_sub hl [1, 2, 3, 0] rfl)
  intro hI hl hf
  unfold zf_MMC_wantBlock_0 at hf
  refine lv_iconst (v := 0) B.1 B.2.1 d_MC_wantBlock_0 (by decide) ?_
  refine lv_istore_n (lv' := [(3, .int 0), (0, .ref (a 0)), (1, .int x1), (2, .int x2)]) B.1 B.2.1 d_MC_wantBlock_1 rfl hl (by decide) rfl (fun ls hl => ?_)
  exact hb2 N x1 x2 0 u _ _ _ hf hI (lv_sub hl [1, 2, 3, 0] rfl)
set_option maxHeartbeats 4000000 in
set_option maxRecDepth 100000 in
theorem zc_MMC_die_0 (l : Launch) (D : va_G) (z : zZ) (a : Nat → Nat) (N : Nat)  (u : zU) (r : Unit) (u1 : zU) (hf : zf_MMC_die_0 N  u = some (r, u1)) : zMet l D z y_MC_die (.code y_MC_die b_MC_die 1 none) { frames := 0, cells := 0, slots := 0, locals := 0 } [.ref (a 0)] (wM a z u) (zQv D (wM a z u1)) := by
  refine zM_v (own := R_MC) [.ref (a 0)] (wM a z u) (wM a z u1) (by decide) rfl (Nat.le_of_ble_eq_true rfl) ?_
  intro p e s m args below meth c A ls B hr hlk hI hl
  have hl : lv_has ls 1 [(0, .ref (a 0))] := hl
  revert hf
  revert hI hl
  intro hI hl hf
  unfold zf_MMC_die_0 at hf
  refine lv_aload_n B.1 B.2.1 d_MC_die_0 rfl (lv_at hl 0 rfl) ?_
  refine rx_get (v := .int (gi u 11)) B hI hcl_MC hin_MC 0 (wM_at_0 a z u) 28 (by decide) hf_MC_28 zw_439 rfl d_MC_die_1 ?_
  refine lv_if_le (tgt := 8) B.1 B.2.1 d_MC_die_4 (by decide) (fun hc1 => ?_) (fun hc1 => ?_)
  · rw [if_pos hc1] at hf
    refine lv_aload_n B.1 B.2.1 d_MC_die_8 rfl (lv_at hl 0 rfl) ?_
    refine lv_aload_n B.1 B.2.1 d_MC_die_9 rfl (lv_at hl 0 rfl) ?_
    refine rx_get (v := .ref (a 15)) B hI hcl_MC hin_MC 0 (wM_at_0 a z u) 26 (by decide) hf_MC_26 zw_422 rfl d_MC_die_10 ?_
    refine lv_aload_n B.1 B.2.1 d_MC_die_13 rfl (lv_at hl 0 rfl) ?_
    refine rx_get (v := .int (gi u 10)) B hI hcl_MC hin_MC 0 (wM_at_0 a z u) 22 (by decide) hf_MC_22 zw_420 rfl d_MC_die_14 ?_
    refine lv_iconst (v := 1) B.1 B.2.1 d_MC_die_17 (by decide) ?_
    refine lv_isub B.1 B.2.1 d_MC_die_18 ?_
    obtain ⟨hi2, hf⟩ := zck_some hf
    refine rx_iald B hI 15 (wM_at_15 a z u) hi2 d_MC_die_19 ?_
    refine rx_put B hI hcl_MC hin_MC hty_MC hnm_MC 0 (wM_at_0 a z u) 30 (by decide) hf_MC_30 zw_440 rfl (ty := .int) (by decide +kernel) rfl rfl (Nat.le_of_ble_eq_true rfl) (wM_si_13 a z u (ga u 13 ((gi u 10) - 1))) d_MC_die_20 (fun H locs hI => ?_)
    refine lv_aload_n B.1 B.2.1 d_MC_die_23 rfl (lv_at hl 0 rfl) ?_
    refine lv_iconst (v := 1) B.1 B.2.1 d_MC_die_24 (by decide) ?_
    refine rx_put B hI hcl_MC hin_MC hty_MC hnm_MC 0 (wM_at_0 a z (si u 13 (ga u 13 ((gi u 10) - 1)))) 32 (by decide) hf_MC_32 zw_443 rfl (ty := .boolean) (by decide +kernel) (by decide) (by decide) (Nat.le_of_ble_eq_true rfl) (wM_si_14 a z (si u 13 (ga u 13 ((gi u 10) - 1))) 1) d_MC_die_25 (fun H locs hI => ?_)
    obtain ⟨e3, e4⟩ := zrt hf
    exact zr_v (wM a z) B hI hr hlk e4 d_MC_die_28
  · rw [if_neg hc1] at hf
    obtain ⟨e5, e6⟩ := zrt hf
    exact zr_v (wM a z) B hI hr hlk e6 d_MC_die_7
set_option maxHeartbeats 4000000 in
set_option maxRecDepth 100000 in
theorem zc_MMC_blockOf_0 (l : Launch) (D : va_G) (z : zZ) (a : Nat → Nat) (N : Nat) (x1 : Int32) (u : zU) (r : Int32) (u1 : zU) (hf : zf_MMC_blockOf_0 N x1 u = some (r, u1)) : zMet l D z y_MC_blockOf (.code y_MC_blockOf b_MC_blockOf 2 (some (.int))) { frames := 0, cells := 0, slots := 0, locals := 0 } [.ref (a 0), .int x1] (wM a z u) (zQi D r (wM a z u1)) := by
  refine zM_i (own := R_MC) [.ref (a 0), .int x1] (wM a z u) r (wM a z u1) (by decide) rfl (Nat.le_of_ble_eq_true rfl) ?_
  intro p e s m args below meth c A ls B hr hlk hI hl
  have hl : lv_has ls 2 [(0, .ref (a 0)), (1, .int x1)] := hl
  revert hf
  revert hI hl
  intro hI hl hf
  unfold zf_MMC_blockOf_0 at hf
  refine lv_aload_n B.1 B.2.1 d_MC_blockOf_0 rfl (lv_at hl 0 rfl) ?_
  refine rx_get (v := .int (gi u 10)) B hI hcl_MC hin_MC 0 (wM_at_0 a z u) 22 (by decide) hf_MC_22 zw_420 rfl d_MC_blockOf_1 ?_
  refine lv_iconst (v := 1) B.1 B.2.1 d_MC_blockOf_4 (by decide) ?_
  refine lv_isub B.1 B.2.1 d_MC_blockOf_5 ?_
  refine lv_iload_n B.1 B.2.1 d_MC_blockOf_6 rfl (lv_at hl 1 rfl) ?_
  refine lv_isub B.1 B.2.1 d_MC_blockOf_7 ?_
  obtain ⟨e1, e2⟩ := zrt hf
  exact zr_i (wM a z) B hI hr hlk e1 e2 d_MC_blockOf_8
set_option maxHeartbeats 4000000 in
set_option maxRecDepth 100000 in
theorem zc_MMC_labelCount_0 (l : Launch) (D : va_G) (z : zZ) (a : Nat → Nat) (N : Nat) (x1 : Int32) (u : zU) (r : Int32) (u1 : zU) (hf : zf_MMC_labelCount_0 N x1 u = some (r, u1)) : zMet l D z y_MC_labelCount (.code y_MC_labelCount b_MC_labelCount 2 (some (.int))) { frames := 1, cells := 0, slots := 0, locals := 23 } [.ref (a 0), .int x1] (wM a z u) (zQi D r (wM a z u1)) := by
  refine zM_i (own := R_MC) [.ref (a 0), .int x1] (wM a z u) r (wM a z u1) (by decide) rfl (Nat.le_of_ble_eq_true rfl) ?_
  intro p e s m args below meth c A ls B hr hlk hI hl
  have hl : lv_has ls 2 [(0, .ref (a 0)), (1, .int x1)] := hl
  revert hf
  revert hI hl
  have hb25 : ∀ (s0 : Int32) (s1 : Int32) (u : zU) (H : Heap) (locs : List Loc) (ls : Array Slot), zf_MMC_labelCount_0_b25 N  s0 s1 u = some (r, u1) → iw D A s (wM a z u) H locs → lv_has ls 2 [] → W p l e ({ frames := 1, cells := 0, slots := 0, locals := 23 } : Room) s m args below meth c H locs 0 0 (MQ below (zQi D r (wM a z u1) A) args s 0 0 A) (F0 m 25 ls [.int s0, .int s1, .ref (a 0)]) := by
    intro s0 s1 u H locs ls hf hI hl
    unfold zf_MMC_labelCount_0_b25 at hf
    obtain ⟨r1, u2, h3, hf⟩ := zbd_some hf
    refine rx_Vi (n := 2) (As := [.int s1, .int s0]) (rest := []) B hI hl.1 (zc_MMC_countOf_0 l D z a N s1 s0 u r1 u2 h3) zw_532 zw_534 zw_535 zw_399 zw_533 (by decide +kernel) 0 (wM_at_0 a z u) hcl_MC rfl rfl (Nat.le_of_ble_eq_true rfl) d_MC_labelCount_25 ⟨Nat.le_of_ble_eq_true rfl, Nat.le_of_ble_eq_true rfl⟩ rfl rfl ⟨Nat.zero_le _, Nat.zero_le _⟩ (fun H locs hI => ?_)
    obtain ⟨e4, e5⟩ := zrt hf
    exact zr_i (wM a z) B hI hr hlk e4 e5 d_MC_labelCount_28
  intro hI hl hf
  unfold zf_MMC_labelCount_0 at hf
  refine lv_aload_n B.1 B.2.1 d_MC_labelCount_0 rfl (lv_at hl 0 rfl) ?_
  refine lv_aload_n B.1 B.2.1 d_MC_labelCount_1 rfl (lv_at hl 0 rfl) ?_
  refine lv_iload_n B.1 B.2.1 d_MC_labelCount_2 rfl (lv_at hl 1 rfl) ?_
  obtain ⟨r1, u2, h3, hf⟩ := zbd_some hf
  refine rx_Vi (n := 1) (As := [.int x1]) (rest := [.ref (a 0)]) B hI hl.1 (zc_MMC_blockOf_0 l D z a N x1 u r1 u2 h3) zw_548 zw_550 zw_551 zw_399 zw_549 (by decide +kernel) 0 (wM_at_0 a z u) hcl_MC rfl rfl (Nat.le_of_ble_eq_true rfl) d_MC_labelCount_3 ⟨Nat.le_of_ble_eq_true rfl, Nat.le_of_ble_eq_true rfl⟩ rfl rfl ⟨Nat.zero_le _, Nat.zero_le _⟩ (fun H locs hI => ?_)
  refine lv_aload_n B.1 B.2.1 d_MC_labelCount_6 rfl (lv_at hl 0 rfl) ?_
  refine rx_get (v := .ref (a 13)) B hI hcl_MC hin_MC 0 (wM_at_0 a z u2) 24 (by decide) hf_MC_24 zw_421 rfl d_MC_labelCount_7 ?_
  refine lv_aload_n B.1 B.2.1 d_MC_labelCount_10 rfl (lv_at hl 0 rfl) ?_
  refine lv_iload_n B.1 B.2.1 d_MC_labelCount_11 rfl (lv_at hl 1 rfl) ?_
  obtain ⟨r4, u5, h6, hf⟩ := zbd_some hf
  refine rx_Vi (n := 1) (As := [.int x1]) (rest := [.ref (a 13), .int r1, .ref (a 0)]) B hI hl.1 (zc_MMC_blockOf_0 l D z a N x1 u2 r4 u5 h6) zw_548 zw_550 zw_551 zw_399 zw_549 (by decide +kernel) 0 (wM_at_0 a z u2) hcl_MC rfl rfl (Nat.le_of_ble_eq_true rfl) d_MC_labelCount_12 ⟨Nat.le_of_ble_eq_true rfl, Nat.le_of_ble_eq_true rfl⟩ rfl rfl ⟨Nat.zero_le _, Nat.zero_le _⟩ (fun H locs hI => ?_)
  obtain ⟨hi7, hf⟩ := zck_some hf
  refine rx_iald B hI 13 (wM_at_13 a z u5) hi7 d_MC_labelCount_15 ?_
  refine lv_iconst (v := 3) B.1 B.2.1 d_MC_labelCount_16 (by decide) ?_
  refine lv_icmp_eq (tgt := 24) B.1 B.2.1 d_MC_labelCount_17 (by decide) (fun hc8 => ?_) (fun hc8 => ?_)
  · rw [if_pos hc8] at hf
    refine lv_iconst (v := 0) B.1 B.2.1 d_MC_labelCount_24 (by decide) ?_
    exact hb25 0 r1 u5 _ _ _ hf hI (lv_sub hl [] rfl)
  · rw [if_neg hc8] at hf
    refine lv_iconst (v := 1) B.1 B.2.1 d_MC_labelCount_20 (by decide) ?_
    refine lv_goto (tgt := 25) B.1 B.2.1 d_MC_labelCount_21 (by decide) ?_
    exact hb25 1 r1 u5 _ _ _ hf hI (lv_sub hl [] rfl)
set_option maxHeartbeats 4000000 in
set_option maxRecDepth 100000 in
theorem zc_MMC_labelPart_0 (l : Launch) (D : va_G) (z : zZ) (a : Nat → Nat) (N : Nat) (x1 : Int32) (x2 : Int32) (u : zU) (r : Int32) (u1 : zU) (hf : zf_MMC_labelPart_0 N x1 x2 u = some (r, u1)) : zMet l D z y_MC_labelPart (.code y_MC_labelPart b_MC_labelPart 3 (some (.int))) { frames := 1, cells := 0, slots := 0, locals := 24 } [.ref (a 0), .int x1, .int x2] (wM a z u) (zQi D r (wM a z u1)) := by
  refine zM_i (own := R_MC) [.ref (a 0), .int x1, .int x2] (wM a z u) r (wM a z u1) (by decide) rfl (Nat.le_of_ble_eq_true rfl) ?_
  intro p e s m args below meth c A ls B hr hlk hI hl
  have hl : lv_has ls 3 [(0, .ref (a 0)), (1, .int x1), (2, .int x2)] := hl
  revert hf
  revert hI hl
  have hb25 : ∀ (x2 : Int32) (s0 : Int32) (s1 : Int32) (u : zU) (H : Heap) (locs : List Loc) (ls : Array Slot), zf_MMC_labelPart_0_b25 N  x2 s0 s1 u = some (r, u1) → iw D A s (wM a z u) H locs → lv_has ls 3 [(2, .int x2)] → W p l e ({ frames := 1, cells := 0, slots := 0, locals := 24 } : Room) s m args below meth c H locs 0 0 (MQ below (zQi D r (wM a z u1) A) args s 0 0 A) (F0 m 25 ls [.int s0, .int s1, .ref (a 0)]) := by
    intro x2 s0 s1 u H locs ls hf hI hl
    unfold zf_MMC_labelPart_0_b25 at hf
    refine lv_iload_n B.1 B.2.1 d_MC_labelPart_25 rfl (lv_at hl 0 rfl) ?_
    obtain ⟨r1, u2, h3, hf⟩ := zbd_some hf
    refine rx_Vi (n := 3) (As := [.int s1, .int s0, .int x2]) (rest := []) B hI hl.1 (zc_MMC_partOf_0 l D z a N s1 s0 x2 u r1 u2 h3) zw_536 zw_538 zw_539 zw_399 zw_537 (by decide +kernel) 0 (wM_at_0 a z u) hcl_MC rfl rfl (Nat.le_of_ble_eq_true rfl) d_MC_labelPart_26 ⟨Nat.le_of_ble_eq_true rfl, Nat.le_of_ble_eq_true rfl⟩ rfl rfl ⟨Nat.zero_le _, Nat.zero_le _⟩ (fun H locs hI => ?_)
    obtain ⟨e4, e5⟩ := zrt hf
    exact zr_i (wM a z) B hI hr hlk e4 e5 d_MC_labelPart_29
  intro hI hl hf
  unfold zf_MMC_labelPart_0 at hf
  refine lv_aload_n B.1 B.2.1 d_MC_labelPart_0 rfl (lv_at hl 0 rfl) ?_
  refine lv_aload_n B.1 B.2.1 d_MC_labelPart_1 rfl (lv_at hl 0 rfl) ?_
  refine lv_iload_n B.1 B.2.1 d_MC_labelPart_2 rfl (lv_at hl 1 rfl) ?_
  obtain ⟨r1, u2, h3, hf⟩ := zbd_some hf
  refine rx_Vi (n := 1) (As := [.int x1]) (rest := [.ref (a 0)]) B hI hl.1 (zc_MMC_blockOf_0 l D z a N x1 u r1 u2 h3) zw_548 zw_550 zw_551 zw_399 zw_549 (by decide +kernel) 0 (wM_at_0 a z u) hcl_MC rfl rfl (Nat.le_of_ble_eq_true rfl) d_MC_labelPart_3 ⟨Nat.le_of_ble_eq_true rfl, Nat.le_of_ble_eq_true rfl⟩ rfl rfl ⟨Nat.zero_le _, Nat.zero_le _⟩ (fun H locs hI => ?_)
  refine lv_aload_n B.1 B.2.1 d_MC_labelPart_6 rfl (lv_at hl 0 rfl) ?_
  refine rx_get (v := .ref (a 13)) B hI hcl_MC hin_MC 0 (wM_at_0 a z u2) 24 (by decide) hf_MC_24 zw_421 rfl d_MC_labelPart_7 ?_
  refine lv_aload_n B.1 B.2.1 d_MC_labelPart_10 rfl (lv_at hl 0 rfl) ?_
  refine lv_iload_n B.1 B.2.1 d_MC_labelPart_11 rfl (lv_at hl 1 rfl) ?_
  obtain ⟨r4, u5, h6, hf⟩ := zbd_some hf
  refine rx_Vi (n := 1) (As := [.int x1]) (rest := [.ref (a 13), .int r1, .ref (a 0)]) B hI hl.1 (zc_MMC_blockOf_0 l D z a N x1 u2 r4 u5 h6) zw_548 zw_550 zw_551 zw_399 zw_549 (by decide +kernel) 0 (wM_at_0 a z u2) hcl_MC rfl rfl (Nat.le_of_ble_eq_true rfl) d_MC_labelPart_12 ⟨Nat.le_of_ble_eq_true rfl, Nat.le_of_ble_eq_true rfl⟩ rfl rfl ⟨Nat.zero_le _, Nat.zero_le _⟩ (fun H locs hI => ?_)
  obtain ⟨hi7, hf⟩ := zck_some hf
  refine rx_iald B hI 13 (wM_at_13 a z u5) hi7 d_MC_labelPart_15 ?_
  refine lv_iconst (v := 3) B.1 B.2.1 d_MC_labelPart_16 (by decide) ?_
  refine lv_icmp_eq (tgt := 24) B.1 B.2.1 d_MC_labelPart_17 (by decide) (fun hc8 => ?_) (fun hc8 => ?_)
  · rw [if_pos hc8] at hf
    refine lv_iconst (v := 0) B.1 B.2.1 d_MC_labelPart_24 (by decide) ?_
    exact hb25 x2 0 r1 u5 _ _ _ hf hI (lv_sub hl [2] rfl)
  · rw [if_neg hc8] at hf
    refine lv_iconst (v := 1) B.1 B.2.1 d_MC_labelPart_20 (by decide) ?_
    refine lv_goto (tgt := 25) B.1 B.2.1 d_MC_labelPart_21 (by decide) ?_
    exact hb25 x2 1 r1 u5 _ _ _ hf hI (lv_sub hl [2] rfl)
set_option maxHeartbeats 4000000 in
set_option maxRecDepth 100000 in
theorem zc_MMC_wantLabel_0 (l : Launch) (D : va_G) (z : zZ) (a : Nat → Nat) (N : Nat) (x1 : Int32) (u : zU) (r : Unit) (u1 : zU) (hf : zf_MMC_wantLabel_0 N x1 u = some (r, u1)) : zMet l D z y_MC_wantLabel (.code y_MC_wantLabel b_MC_wantLabel 3 none) { frames := 2, cells := 0, slots := 0, locals := 46 } [.ref (a 0), .int x1] (wM a z u) (zQv D (wM a z u1)) := by
  refine zM_v (own := R_MC) [.ref (a 0), .int x1] (wM a z u) (wM a z u1) (by decide) rfl (Nat.le_of_ble_eq_true rfl) ?_
  intro p e s m args below meth c A ls B hr hlk hI hl
  have hl : lv_has ls 3 [(0, .ref (a 0)), (1, .int x1)] := hl
  revert hf
  revert hI hl
  have hb2 : ∀ (n : Nat) (x1 : Int32) (x2 : Int32) (u : zU) (H : Heap) (locs : List Loc) (ls : Array Slot), zf_MMC_wantLabel_0_b2 N  n x1 x2 u = some (r, u1) → iw D A s (wM a z u) H locs → lv_has ls 3 [(0, .ref (a 0)), (1, .int x1), (2, .int x2)] → W p l e ({ frames := 2, cells := 0, slots := 0, locals := 46 } : Room) s m args below meth c H locs 0 0 (MQ below (zQv D (wM a z u1) A) args s 0 0 A) (F0 m 2 ls []) := by
    intro n2
    induction n2 with
    | zero => intro x1 x2 u H locs ls hf; exact absurd hf (by rw [zf_MMC_wantLabel_0_b2]; exact fun h => by cases h)
    | succ n2 ih2 =>
      intro x1 x2 u H locs ls hf hI hl
      rw [zf_MMC_wantLabel_0_b2] at hf
      refine lv_iload_n B.1 B.2.1 d_MC_wantLabel_2 rfl (lv_at hl 2 rfl) ?_
      refine lv_aload_n B.1 B.2.1 d_MC_wantLabel_3 rfl (lv_at hl 0 rfl) ?_
      refine lv_iload_n B.1 B.2.1 d_MC_wantLabel_4 rfl (lv_at hl 1 rfl) ?_
      obtain ⟨r1, u2, h3, hf⟩ := zbd_some hf
      refine rx_Vi (n := 1) (As := [.int x1]) (rest := [.int x2]) B hI hl.1 (zc_MMC_labelCount_0 l D z a N x1 u r1 u2 h3) zw_552 zw_554 zw_555 zw_399 zw_553 (by decide +kernel) 0 (wM_at_0 a z u) hcl_MC rfl rfl (Nat.le_of_ble_eq_true rfl) d_MC_wantLabel_5 ⟨Nat.le_of_ble_eq_true rfl, Nat.le_of_ble_eq_true rfl⟩ rfl rfl ⟨Nat.zero_le _, Nat.zero_le _⟩ (fun H locs hI => ?_)
      refine lv_icmp_ge (tgt := 27) B.1 B.2.1 d_MC_wantLabel_8 (by decide) (fun hc4 => ?_) (fun hc4 => ?_)
      · rw [if_pos hc4] at hf
        obtain ⟨e5, e6⟩ := zrt hf
        exact zr_v (wM a z) B hI hr hlk e6 d_MC_wantLabel_27
      · rw [if_neg hc4] at hf
        refine lv_aload_n B.1 B.2.1 d_MC_wantLabel_11 rfl (lv_at hl 0 rfl) ?_
        refine lv_aload_n B.1 B.2.1 d_MC_wantLabel_12 rfl (lv_at hl 0 rfl) ?_
        refine lv_iload_n B.1 B.2.1 d_MC_wantLabel_13 rfl (lv_at hl 1 rfl) ?_
        refine lv_iload_n B.1 B.2.1 d_MC_wantLabel_14 rfl (lv_at hl 2 rfl) ?_
        obtain ⟨r7, u8, h9, hf⟩ := zbd_some hf
        refine rx_Vi (n := 2) (As := [.int x1, .int x2]) (rest := [.ref (a 0)]) B hI hl.1 (zc_MMC_labelPart_0 l D z a N x1 x2 u2 r7 u8 h9) zw_556 zw_558 zw_559 zw_399 zw_557 (by decide +kernel) 0 (wM_at_0 a z u2) hcl_MC rfl rfl (Nat.le_of_ble_eq_true rfl) d_MC_wantLabel_15 ⟨Nat.le_of_ble_eq_true rfl, Nat.le_of_ble_eq_true rfl⟩ rfl rfl ⟨Nat.zero_le _, Nat.zero_le _⟩ (fun H locs hI => ?_)
        obtain ⟨r10, u11, h12, hf⟩ := zbd_some hf
        refine rx_Vv (n := 1) (As := [.int r7]) (rest := []) B hI hl.1 (zc_MMC_wantOne_0 l D z a N r7 u8 r10 u11 h12) zw_502 zw_504 zw_505 zw_399 zw_503 (by decide +kernel) 0 (wM_at_0 a z u8) hcl_MC rfl rfl (Nat.le_of_ble_eq_true rfl) d_MC_wantLabel_18 ⟨Nat.le_of_ble_eq_true rfl, Nat.le_of_ble_eq_true rfl⟩ rfl rfl ⟨Nat.zero_le _, Nat.zero_le _⟩ (fun H locs hI => ?_)
        refine lv_iinc (v := (x2 + 1)) (lv' := [(2, .int (x2 + 1)), (0, .ref (a 0)), (1, .int x1)]) B.1 B.2.1 d_MC_wantLabel_21 hl (k := 2) rfl (by rfl) (by decide) rfl (fun ls hl => ?_)
        refine lv_goto (tgt := 2) B.1 B.2.1 d_MC_wantLabel_24 (by decide) ?_
        exact ih2 x1 (x2 + 1) u11 _ _ _ hf hI (lv_sub hl [1, 2, 0] rfl)
  intro hI hl hf
  unfold zf_MMC_wantLabel_0 at hf
  refine lv_iconst (v := 0) B.1 B.2.1 d_MC_wantLabel_0 (by decide) ?_
  refine lv_istore_n (lv' := [(2, .int 0), (0, .ref (a 0)), (1, .int x1)]) B.1 B.2.1 d_MC_wantLabel_1 rfl hl (by decide) rfl (fun ls hl => ?_)
  exact hb2 N x1 0 u _ _ _ hf hI (lv_sub hl [1, 2, 0] rfl)
set_option maxHeartbeats 4000000 in
set_option maxRecDepth 100000 in
theorem zc_MMC_table_0 (l : Launch) (D : va_G) (z : zZ) (a : Nat → Nat) (N : Nat) (x1 : Int32) (u : zU) (r : Unit) (u1 : zU) (hf : zf_MMC_table_0 N x1 u = some (r, u1)) : zMet l D z y_MC_table (.code y_MC_table b_MC_table 5 none) { frames := 3, cells := 0, slots := 0, locals := 68 } [.ref (a 0), .int x1] (wM a z u) (zQv D (wM a z u1)) := by
  refine zM_v (own := R_MC) [.ref (a 0), .int x1] (wM a z u) (wM a z u1) (by decide) rfl (Nat.le_of_ble_eq_true rfl) ?_
  intro p e s m args below meth c A ls B hr hlk hI hl
  have hl : lv_has ls 5 [(0, .ref (a 0)), (1, .int x1)] := hl
  revert hf
  revert hI hl
  have hb14 : ∀ (n : Nat) (x1 : Int32) (x2 : Int32) (x3 : Int32) (u : zU) (H : Heap) (locs : List Loc) (ls : Array Slot), zf_MMC_table_0_b14 N  n x1 x2 x3 u = some (r, u1) → iw D A s (wM a z u) H locs → lv_has ls 5 [(0, .ref (a 0)), (1, .int x1), (2, .int x2), (3, .int x3)] → W p l e ({ frames := 3, cells := 0, slots := 0, locals := 68 } : Room) s m args below meth c H locs 0 0 (MQ below (zQv D (wM a z u1) A) args s 0 0 A) (F0 m 14 ls []) := by
    intro n14
    induction n14 with
    | zero => intro x1 x2 x3 u H locs ls hf; exact absurd hf (by rw [zf_MMC_table_0_b14]; exact fun h => by cases h)
    | succ n14 ih14 =>
      have hb106 : ∀ (n : Nat) (x1 : Int32) (x2 : Int32) (x3 : Int32) (x4 : Int32) (u : zU) (H : Heap) (locs : List Loc) (ls : Array Slot), zf_MMC_table_0_b106 N (zf_MMC_table_0_b14 N  n14) n x1 x2 x3 x4 u = some (r, u1) → iw D A s (wM a z u) H locs → lv_has ls 5 [(0, .ref (a 0)), (1, .int x1), (2, .int x2), (3, .int x3), (4, .int x4)] → W p l e ({ frames := 3, cells := 0, slots := 0, locals := 68 } : Room) s m args below meth c H locs 0 0 (MQ below (zQv D (wM a z u1) A) args s 0 0 A) (F0 m 106 ls []) := by
        intro n106
        induction n106 with
        | zero => intro x1 x2 x3 x4 u H locs ls hf; exact absurd hf (by rw [zf_MMC_table_0_b106]; exact fun h => by cases h)
        | succ n106 ih106 =>
          intro x1 x2 x3 x4 u H locs ls hf hI hl
          rw [zf_MMC_table_0_b106] at hf
          refine lv_iload B.1 B.2.1 d_MC_table_106 (lv_at hl 4 rfl) ?_
          refine lv_aload_n B.1 B.2.1 d_MC_table_108 rfl (lv_at hl 0 rfl) ?_
          refine rx_get (v := .int (gi u 18)) B hI hcl_MC hin_MC 0 (wM_at_0 a z u) 37 (by decide) hf_MC_37 zw_496 rfl d_MC_table_109 ?_
          refine lv_icmp_ge (tgt := 132) B.1 B.2.1 d_MC_table_112 (by decide) (fun hc1 => ?_) (fun hc1 => ?_)
          · rw [if_pos hc1] at hf
            refine lv_iinc (v := (x3 + 1)) (lv' := [(3, .int (x3 + 1)), (0, .ref (a 0)), (1, .int x1), (2, .int x2), (4, .int x4)]) B.1 B.2.1 d_MC_table_132 hl (k := 3) rfl (by rfl) (by decide) rfl (fun ls hl => ?_)
            refine lv_goto (tgt := 14) B.1 B.2.1 d_MC_table_135 (by decide) ?_
            exact ih14 x1 x2 (x3 + 1) u _ _ _ hf hI (lv_sub hl [1, 2, 3, 0] rfl)
          · rw [if_neg hc1] at hf
            refine lv_aload_n B.1 B.2.1 d_MC_table_115 rfl (lv_at hl 0 rfl) ?_
            refine lv_aload_n B.1 B.2.1 d_MC_table_116 rfl (lv_at hl 0 rfl) ?_
            refine rx_get (v := .ref (a 19)) B hI hcl_MC hin_MC 0 (wM_at_0 a z u) 38 (by decide) hf_MC_38 zw_564 rfl d_MC_table_117 ?_
            refine lv_iload B.1 B.2.1 d_MC_table_120 (lv_at hl 4 rfl) ?_
            obtain ⟨hi2, hf⟩ := zck_some hf
            refine rx_iald B hI 19 (wM_at_19 a z u) hi2 d_MC_table_122 ?_
            obtain ⟨r3, u4, h5, hf⟩ := zbd_some hf
            refine rx_Vv (n := 1) (As := [.int (ga u 17 x4)]) (rest := []) B hI hl.1 (zc_MMC_give_0 l D z a N (ga u 17 x4) u r3 u4 h5) zw_519 zw_521 zw_522 zw_399 zw_520 (by decide +kernel) 0 (wM_at_0 a z u) hcl_MC rfl rfl (Nat.le_of_ble_eq_true rfl) d_MC_table_123 ⟨Nat.le_of_ble_eq_true rfl, Nat.le_of_ble_eq_true rfl⟩ rfl rfl ⟨Nat.zero_le _, Nat.zero_le _⟩ (fun H locs hI => ?_)
            refine lv_iinc (v := (x4 + 1)) (lv' := [(4, .int (x4 + 1)), (0, .ref (a 0)), (1, .int x1), (2, .int x2), (3, .int x3)]) B.1 B.2.1 d_MC_table_126 hl (k := 4) rfl (by rfl) (by decide) rfl (fun ls hl => ?_)
            refine lv_goto (tgt := 106) B.1 B.2.1 d_MC_table_129 (by decide) ?_
            exact ih106 x1 x2 x3 (x4 + 1) u4 _ _ _ hf hI (lv_sub hl [1, 2, 3, 4, 0] rfl)
      have hb103 : ∀ (x1 : Int32) (x2 : Int32) (x3 : Int32) (u : zU) (H : Heap) (locs : List Loc) (ls : Array Slot), zf_MMC_table_0_b103 N (zf_MMC_table_0_b14 N  n14) x1 x2 x3 u = some (r, u1) → iw D A s (wM a z u) H locs → lv_has ls 5 [(0, .ref (a 0)), (1, .int x1), (2, .int x2), (3, .int x3)] → W p l e ({ frames := 3, cells := 0, slots := 0, locals := 68 } : Room) s m args below meth c H locs 0 0 (MQ below (zQv D (wM a z u1) A) args s 0 0 A) (F0 m 103 ls []) := by
        intro x1 x2 x3 u H locs ls hf hI hl
        unfold zf_MMC_table_0_b103 at hf
        refine lv_iconst (v := 0) B.1 B.2.1 d_MC_table_103 (by decide) ?_
        refine lv_istore (lv' := [(4, .int 0), (0, .ref (a 0)), (1, .int x1), (2, .int x2), (3, .int x3)]) B.1 B.2.1 d_MC_table_104 hl (by decide) rfl (fun ls hl => ?_)
        exact hb106 N x1 x2 x3 0 u _ _ _ hf hI (lv_sub hl [1, 2, 3, 4, 0] rfl)
      have hb63 : ∀ (n : Nat) (x1 : Int32) (x2 : Int32) (x3 : Int32) (x4 : Int32) (u : zU) (H : Heap) (locs : List Loc) (ls : Array Slot), zf_MMC_table_0_b63 N (zf_MMC_table_0_b14 N  n14) n x1 x2 x3 x4 u = some (r, u1) → iw D A s (wM a z u) H locs → lv_has ls 5 [(0, .ref (a 0)), (1, .int x1), (2, .int x2), (3, .int x3), (4, .int x4)] → W p l e ({ frames := 3, cells := 0, slots := 0, locals := 68 } : Room) s m args below meth c H locs 0 0 (MQ below (zQv D (wM a z u1) A) args s 0 0 A) (F0 m 63 ls []) := by
        intro n63
        induction n63 with
        | zero => intro x1 x2 x3 x4 u H locs ls hf; exact absurd hf (by rw [zf_MMC_table_0_b63]; exact fun h => by cases h)
        | succ n63 ih63 =>
          intro x1 x2 x3 x4 u H locs ls hf hI hl
          rw [zf_MMC_table_0_b63] at hf
          refine lv_iload B.1 B.2.1 d_MC_table_63 (lv_at hl 4 rfl) ?_
          refine lv_if_lt (tgt := 103) B.1 B.2.1 d_MC_table_65 (by decide) (fun hc1 => ?_) (fun hc1 => ?_)
          · rw [if_pos hc1] at hf
            exact hb103 x1 x2 x3 u _ _ _ hf hI (lv_sub hl [0, 1, 2, 3] rfl)
          · rw [if_neg hc1] at hf
            refine lv_aload_n B.1 B.2.1 d_MC_table_68 rfl (lv_at hl 0 rfl) ?_
            refine rx_get (v := .int (gi u 11)) B hI hcl_MC hin_MC 0 (wM_at_0 a z u) 28 (by decide) hf_MC_28 zw_439 rfl d_MC_table_69 ?_
            refine lv_if_ne (tgt := 103) B.1 B.2.1 d_MC_table_72 (by decide) (fun hc2 => ?_) (fun hc2 => ?_)
            · rw [if_neg hc2] at hf
              exact hb103 x1 x2 x3 u _ _ _ hf hI (lv_sub hl [0, 1, 2, 3] rfl)
            · rw [if_pos hc2] at hf
              refine lv_aload_n B.1 B.2.1 d_MC_table_75 rfl (lv_at hl 0 rfl) ?_
              refine lv_aload_n B.1 B.2.1 d_MC_table_76 rfl (lv_at hl 0 rfl) ?_
              refine rx_get (v := .ref (a 18)) B hI hcl_MC hin_MC 0 (wM_at_0 a z u) 36 (by decide) hf_MC_36 zw_501 rfl d_MC_table_77 ?_
              refine lv_iload B.1 B.2.1 d_MC_table_80 (lv_at hl 4 rfl) ?_
              obtain ⟨hi3, hf⟩ := zck_some hf
              refine rx_iald B hI 18 (wM_at_18 a z u) hi3 d_MC_table_82 ?_
              obtain ⟨r4, u5, h6, hf⟩ := zbd_some hf
              refine rx_Vv (n := 1) (As := [.int (ga u 16 x4)]) (rest := []) B hI hl.1 (zc_MMC_take_0 l D z a N (ga u 16 x4) u r4 u5 h6) zw_511 zw_513 zw_514 zw_399 zw_512 (by decide +kernel) 0 (wM_at_0 a z u) hcl_MC rfl rfl (Nat.le_of_ble_eq_true rfl) d_MC_table_83 ⟨Nat.le_of_ble_eq_true rfl, Nat.le_of_ble_eq_true rfl⟩ rfl rfl ⟨Nat.zero_le _, Nat.zero_le _⟩ (fun H locs hI => ?_)
              refine lv_aload_n B.1 B.2.1 d_MC_table_86 rfl (lv_at hl 0 rfl) ?_
              refine rx_get (v := .ref (a 19)) B hI hcl_MC hin_MC 0 (wM_at_0 a z u5) 38 (by decide) hf_MC_38 zw_564 rfl d_MC_table_87 ?_
              refine lv_iload B.1 B.2.1 d_MC_table_90 (lv_at hl 4 rfl) ?_
              refine lv_aload_n B.1 B.2.1 d_MC_table_92 rfl (lv_at hl 0 rfl) ?_
              refine rx_get (v := .int (gi u5 12)) B hI hcl_MC hin_MC 0 (wM_at_0 a z u5) 29 (by decide) hf_MC_29 zw_510 rfl d_MC_table_93 ?_
              obtain ⟨hi7, hf⟩ := zck_some hf
              refine rx_iast B hI 19 (wM_at_19 a z u5) hi7 (wM_sa_17 a z u5 x4 (gi u5 12)) d_MC_table_96 (fun H locs hI => ?_)
              refine lv_iinc (v := (x4 + (-1))) (lv' := [(4, .int (x4 + (-1))), (0, .ref (a 0)), (1, .int x1), (2, .int x2), (3, .int x3)]) B.1 B.2.1 d_MC_table_97 hl (k := 4) rfl (by rfl) (by decide) rfl (fun ls hl => ?_)
              refine lv_goto (tgt := 63) B.1 B.2.1 d_MC_table_100 (by decide) ?_
              exact ih63 x1 x2 x3 (x4 + (-1)) (sa u5 17 x4 (gi u5 12)) _ _ _ hf hI (lv_sub hl [1, 2, 3, 4, 0] rfl)
      have hb41 : ∀ (x1 : Int32) (x2 : Int32) (x3 : Int32) (u : zU) (H : Heap) (locs : List Loc) (ls : Array Slot), zf_MMC_table_0_b41 N (zf_MMC_table_0_b14 N  n14) x1 x2 x3 u = some (r, u1) → iw D A s (wM a z u) H locs → lv_has ls 5 [(0, .ref (a 0)), (1, .int x1), (2, .int x2), (3, .int x3)] → W p l e ({ frames := 3, cells := 0, slots := 0, locals := 68 } : Room) s m args below meth c H locs 0 0 (MQ below (zQv D (wM a z u1) A) args s 0 0 A) (F0 m 41 ls []) := by
        intro x1 x2 x3 u H locs ls hf hI hl
        unfold zf_MMC_table_0_b41 at hf
        refine lv_aload_n B.1 B.2.1 d_MC_table_41 rfl (lv_at hl 0 rfl) ?_
        obtain ⟨r1, u2, h3, hf⟩ := zbd_some hf
        refine rx_Vv (n := 0) (As := []) (rest := []) B hI hl.1 (zc_MMC_wantNothing_0 l D z a N  u r1 u2 h3) zw_497 zw_499 zw_500 zw_399 zw_498 (by decide +kernel) 0 (wM_at_0 a z u) hcl_MC rfl rfl (Nat.le_of_ble_eq_true rfl) d_MC_table_42 ⟨Nat.le_of_ble_eq_true rfl, Nat.le_of_ble_eq_true rfl⟩ rfl rfl ⟨Nat.zero_le _, Nat.zero_le _⟩ (fun H locs hI => ?_)
        refine lv_aload_n B.1 B.2.1 d_MC_table_45 rfl (lv_at hl 0 rfl) ?_
        refine lv_aload_n B.1 B.2.1 d_MC_table_46 rfl (lv_at hl 0 rfl) ?_
        refine rx_get (v := .ref (a 11)) B hI hcl_MC hin_MC 0 (wM_at_0 a z u2) 20 (by decide) hf_MC_20 zw_438 rfl d_MC_table_47 ?_
        refine lv_iload_n B.1 B.2.1 d_MC_table_50 rfl (lv_at hl 3 rfl) ?_
        obtain ⟨hi4, hf⟩ := zck_some hf
        refine rx_iald B hI 11 (wM_at_11 a z u2) hi4 d_MC_table_51 ?_
        obtain ⟨r5, u6, h7, hf⟩ := zbd_some hf
        refine rx_Vv (n := 1) (As := [.int (ga u2 9 x3)]) (rest := []) B hI hl.1 (zc_MMC_wantLabel_0 l D z a N (ga u2 9 x3) u2 r5 u6 h7) zw_560 zw_562 zw_563 zw_399 zw_561 (by decide +kernel) 0 (wM_at_0 a z u2) hcl_MC rfl rfl (Nat.le_of_ble_eq_true rfl) d_MC_table_52 ⟨Nat.le_of_ble_eq_true rfl, Nat.le_of_ble_eq_true rfl⟩ rfl rfl ⟨Nat.zero_le _, Nat.zero_le _⟩ (fun H locs hI => ?_)
        refine lv_aload_n B.1 B.2.1 d_MC_table_55 rfl (lv_at hl 0 rfl) ?_
        refine rx_get (v := .int (gi u6 18)) B hI hcl_MC hin_MC 0 (wM_at_0 a z u6) 37 (by decide) hf_MC_37 zw_496 rfl d_MC_table_56 ?_
        refine lv_iconst (v := 1) B.1 B.2.1 d_MC_table_59 (by decide) ?_
        refine lv_isub B.1 B.2.1 d_MC_table_60 ?_
        refine lv_istore (lv' := [(4, .int ((gi u6 18) - 1)), (0, .ref (a 0)), (1, .int x1), (2, .int x2), (3, .int x3)]) B.1 B.2.1 d_MC_table_61 hl (by decide) rfl (fun ls hl => ?_)
        exact hb63 N x1 x2 x3 ((gi u6 18) - 1) u6 _ _ _ hf hI (lv_sub hl [1, 2, 3, 4, 0] rfl)
      intro x1 x2 x3 u H locs ls hf hI hl
      rw [zf_MMC_table_0_b14] at hf
      refine lv_iload_n B.1 B.2.1 d_MC_table_14 rfl (lv_at hl 3 rfl) ?_
      refine lv_aload_n B.1 B.2.1 d_MC_table_15 rfl (lv_at hl 0 rfl) ?_
      refine rx_get (v := .int (gi u 8)) B hI hcl_MC hin_MC 0 (wM_at_0 a z u) 19 (by decide) hf_MC_19 zw_418 rfl d_MC_table_16 ?_
      refine lv_icmp_ge (tgt := 138) B.1 B.2.1 d_MC_table_19 (by decide) (fun hc1 => ?_) (fun hc1 => ?_)
      · rw [if_pos hc1] at hf
        refine lv_aload_n B.1 B.2.1 d_MC_table_138 rfl (lv_at hl 0 rfl) ?_
        obtain ⟨r2, u3, h4, hf⟩ := zbd_some hf
        refine rx_Vv (n := 0) (As := []) (rest := []) B hI hl.1 (zc_MMC_wantNothing_0 l D z a N  u r2 u3 h4) zw_497 zw_499 zw_500 zw_399 zw_498 (by decide +kernel) 0 (wM_at_0 a z u) hcl_MC rfl rfl (Nat.le_of_ble_eq_true rfl) d_MC_table_139 ⟨Nat.le_of_ble_eq_true rfl, Nat.le_of_ble_eq_true rfl⟩ rfl rfl ⟨Nat.zero_le _, Nat.zero_le _⟩ (fun H locs hI => ?_)
        refine lv_aload_n B.1 B.2.1 d_MC_table_142 rfl (lv_at hl 0 rfl) ?_
        refine lv_iload_n B.1 B.2.1 d_MC_table_143 rfl (lv_at hl 1 rfl) ?_
        obtain ⟨r5, u6, h7, hf⟩ := zbd_some hf
        refine rx_Vv (n := 1) (As := [.int x1]) (rest := []) B hI hl.1 (zc_MMC_wantLabel_0 l D z a N x1 u3 r5 u6 h7) zw_560 zw_562 zw_563 zw_399 zw_561 (by decide +kernel) 0 (wM_at_0 a z u3) hcl_MC rfl rfl (Nat.le_of_ble_eq_true rfl) d_MC_table_144 ⟨Nat.le_of_ble_eq_true rfl, Nat.le_of_ble_eq_true rfl⟩ rfl rfl ⟨Nat.zero_le _, Nat.zero_le _⟩ (fun H locs hI => ?_)
        refine lv_aload_n B.1 B.2.1 d_MC_table_147 rfl (lv_at hl 0 rfl) ?_
        obtain ⟨r8, u9, h10, hf⟩ := zbd_some hf
        refine rx_Vv (n := 0) (As := []) (rest := []) B hI hl.1 (zc_MMC_takeWanted_0 l D z a N  u6 r8 u9 h10) zw_515 zw_517 zw_518 zw_399 zw_516 (by decide +kernel) 0 (wM_at_0 a z u6) hcl_MC rfl rfl (Nat.le_of_ble_eq_true rfl) d_MC_table_148 ⟨Nat.le_of_ble_eq_true rfl, Nat.le_of_ble_eq_true rfl⟩ rfl rfl ⟨Nat.zero_le _, Nat.zero_le _⟩ (fun H locs hI => ?_)
        refine lv_aload_n B.1 B.2.1 d_MC_table_151 rfl (lv_at hl 0 rfl) ?_
        obtain ⟨r11, u12, h13, hf⟩ := zbd_some hf
        refine rx_Vv (n := 0) (As := []) (rest := []) B hI hl.1 (zc_MMC_die_0 l D z a N  u9 r11 u12 h13) zw_544 zw_546 zw_547 zw_399 zw_545 (by decide +kernel) 0 (wM_at_0 a z u9) hcl_MC rfl rfl (Nat.le_of_ble_eq_true rfl) d_MC_table_152 ⟨Nat.le_of_ble_eq_true rfl, Nat.le_of_ble_eq_true rfl⟩ rfl rfl ⟨Nat.zero_le _, Nat.zero_le _⟩ (fun H locs hI => ?_)
        obtain ⟨e14, e15⟩ := zrt hf
        exact zr_v (wM a z) B hI hr hlk e15 d_MC_table_155
      · rw [if_neg hc1] at hf
        refine lv_aload_n B.1 B.2.1 d_MC_table_22 rfl (lv_at hl 0 rfl) ?_
        refine lv_aload_n B.1 B.2.1 d_MC_table_23 rfl (lv_at hl 0 rfl) ?_
        refine rx_get (v := .ref (a 11)) B hI hcl_MC hin_MC 0 (wM_at_0 a z u) 20 (by decide) hf_MC_20 zw_438 rfl d_MC_table_24 ?_
        refine lv_iload_n B.1 B.2.1 d_MC_table_27 rfl (lv_at hl 3 rfl) ?_
        obtain ⟨hi16, hf⟩ := zck_some hf
        refine rx_iald B hI 11 (wM_at_11 a z u) hi16 d_MC_table_28 ?_
        obtain ⟨r17, u18, h19, hf⟩ := zbd_some hf
        refine rx_Vi (n := 1) (As := [.int (ga u 9 x3)]) (rest := []) B hI hl.1 (zc_MMC_labelCount_0 l D z a N (ga u 9 x3) u r17 u18 h19) zw_552 zw_554 zw_555 zw_399 zw_553 (by decide +kernel) 0 (wM_at_0 a z u) hcl_MC rfl rfl (Nat.le_of_ble_eq_true rfl) d_MC_table_29 ⟨Nat.le_of_ble_eq_true rfl, Nat.le_of_ble_eq_true rfl⟩ rfl rfl ⟨Nat.zero_le _, Nat.zero_le _⟩ (fun H locs hI => ?_)
        refine lv_iload_n B.1 B.2.1 d_MC_table_32 rfl (lv_at hl 2 rfl) ?_
        refine lv_icmp_eq (tgt := 41) B.1 B.2.1 d_MC_table_33 (by decide) (fun hc20 => ?_) (fun hc20 => ?_)
        · rw [if_pos hc20] at hf
          exact hb41 x1 x2 x3 u18 _ _ _ hf hI (lv_sub hl [0, 1, 2, 3] rfl)
        · rw [if_neg hc20] at hf
          refine lv_aload_n B.1 B.2.1 d_MC_table_36 rfl (lv_at hl 0 rfl) ?_
          refine lv_iconst (v := 5) B.1 B.2.1 d_MC_table_37 (by decide) ?_
          obtain ⟨r21, u22, h23, hf⟩ := zbd_some hf
          refine rx_Vv (n := 1) (As := [.int 5]) (rest := []) B hI hl.1 (zc_MMC_stop_0 l D z a N 5 u18 r21 u22 h23) zw_456 zw_458 zw_459 zw_399 zw_457 (by decide +kernel) 0 (wM_at_0 a z u18) hcl_MC rfl rfl (Nat.le_of_ble_eq_true rfl) d_MC_table_38 ⟨Nat.le_of_ble_eq_true rfl, Nat.le_of_ble_eq_true rfl⟩ rfl rfl ⟨Nat.zero_le _, Nat.zero_le _⟩ (fun H locs hI => ?_)
          exact hb41 x1 x2 x3 u22 _ _ _ hf hI (lv_sub hl [0, 1, 2, 3] rfl)
  intro hI hl hf
  unfold zf_MMC_table_0 at hf
  refine lv_aload_n B.1 B.2.1 d_MC_table_0 rfl (lv_at hl 0 rfl) ?_
  refine lv_bipush (v := 127) B.1 B.2.1 d_MC_table_1 (by decide) ?_
  obtain ⟨r1, u2, h3, hf⟩ := zbd_some hf
  refine rx_Vv (n := 1) (As := [.int 127]) (rest := []) B hI hl.1 (zc_MMC_take_0 l D z a N 127 u r1 u2 h3) zw_511 zw_513 zw_514 zw_399 zw_512 (by decide +kernel) 0 (wM_at_0 a z u) hcl_MC rfl rfl (Nat.le_of_ble_eq_true rfl) d_MC_table_3 ⟨Nat.le_of_ble_eq_true rfl, Nat.le_of_ble_eq_true rfl⟩ rfl rfl ⟨Nat.zero_le _, Nat.zero_le _⟩ (fun H locs hI => ?_)
  refine lv_aload_n B.1 B.2.1 d_MC_table_6 rfl (lv_at hl 0 rfl) ?_
  refine lv_iload_n B.1 B.2.1 d_MC_table_7 rfl (lv_at hl 1 rfl) ?_
  obtain ⟨r4, u5, h6, hf⟩ := zbd_some hf
  refine rx_Vi (n := 1) (As := [.int x1]) (rest := []) B hI hl.1 (zc_MMC_labelCount_0 l D z a N x1 u2 r4 u5 h6) zw_552 zw_554 zw_555 zw_399 zw_553 (by decide +kernel) 0 (wM_at_0 a z u2) hcl_MC rfl rfl (Nat.le_of_ble_eq_true rfl) d_MC_table_8 ⟨Nat.le_of_ble_eq_true rfl, Nat.le_of_ble_eq_true rfl⟩ rfl rfl ⟨Nat.zero_le _, Nat.zero_le _⟩ (fun H locs hI => ?_)
  refine lv_istore_n (lv' := [(2, .int r4), (0, .ref (a 0)), (1, .int x1)]) B.1 B.2.1 d_MC_table_11 rfl hl (by decide) rfl (fun ls hl => ?_)
  refine lv_iconst (v := 0) B.1 B.2.1 d_MC_table_12 (by decide) ?_
  refine lv_istore_n (lv' := [(3, .int 0), (2, .int r4), (0, .ref (a 0)), (1, .int x1)]) B.1 B.2.1 d_MC_table_13 rfl hl (by decide) rfl (fun ls hl => ?_)
  exact hb14 N x1 r4 0 u5 _ _ _ hf hI (lv_sub hl [2, 3, 1, 0] rfl)
