set_option maxHeartbeats 4000000 in
set_option maxRecDepth 100000 in
theorem zc_MMC_close_0 (l : Launch) (D : va_G) (z : zZ) (a : Nat → Nat) (N : Nat)  (u : zU) (r : Unit) (u1 : zU) (hf : zf_MMC_close_0 N  u = some (r, u1)) : zMet l D z y_MC_close (.code y_MC_close b_MC_close 1 none) { frames := 3, cells := 0, slots := 0, locals := 64 } [.ref (a 0)] (wM a z u) (zQv D (wM a z u1)) := by
  refine zM_v (own := R_MC) [.ref (a 0)] (wM a z u) (wM a z u1) (by decide) rfl (Nat.le_of_ble_eq_true rfl) ?_
  intro p e s m args below meth c A ls B hr hlk hI hl
  have hl : lv_has ls 1 [(0, .ref (a 0))] := hl
  revert hf
  revert hI hl
  have hb45 : ∀  (u : zU) (H : Heap) (locs : List Loc) (ls : Array Slot), zf_MMC_close_0_b45 N   u = some (r, u1) → iw D A s (wM a z u) H locs → lv_has ls 1 [] → W p l e ({ frames := 3, cells := 0, slots := 0, locals := 64 } : Room) s m args below meth c H locs 0 0 (MQ below (zQv D (wM a z u1) A) args s 0 0 A) (F0 m 45 ls []) := by
    intro  u H locs ls hf hI hl
    unfold zf_MMC_close_0_b45 at hf
    obtain ⟨e1, e2⟩ := zrt hf
    exact zr_v (wM a z) B hI hr hlk e2 d_MC_close_45
  intro hI hl hf
  unfold zf_MMC_close_0 at hf
  refine lv_aload_n B.1 B.2.1 d_MC_close_0 rfl (lv_at hl 0 rfl) ?_
  refine lv_aload_n B.1 B.2.1 d_MC_close_1 rfl (lv_at hl 0 rfl) ?_
  refine rx_get (v := .int (gi u 10)) B hI hcl_MC hin_MC 0 (wM_at_0 a z u) 22 (by decide) hf_MC_22 zw_420 rfl d_MC_close_2 ?_
  refine lv_iconst (v := 1) B.1 B.2.1 d_MC_close_5 (by decide) ?_
  refine lv_isub B.1 B.2.1 d_MC_close_6 ?_
  refine lv_iconst (v := 1) B.1 B.2.1 d_MC_close_7 (by decide) ?_
  obtain ⟨r1, u2, h3, hf⟩ := zbd_some hf
  refine rx_Vv (n := 2) (As := [.int ((gi u 10) - 1), .int 1]) (rest := []) B hI hl.1 (zc_MMC_wantBlock_0 l D z a N ((gi u 10) - 1) 1 u r1 u2 h3) zw_540 zw_542 zw_543 zw_399 zw_541 (by decide +kernel) 0 (wM_at_0 a z u) hcl_MC rfl rfl (Nat.le_of_ble_eq_true rfl) d_MC_close_8 ⟨Nat.le_of_ble_eq_true rfl, Nat.le_of_ble_eq_true rfl⟩ rfl rfl ⟨Nat.zero_le _, Nat.zero_le _⟩ (fun H locs hI => ?_)
  refine lv_aload_n B.1 B.2.1 d_MC_close_11 rfl (lv_at hl 0 rfl) ?_
  obtain ⟨r4, u5, h6, hf⟩ := zbd_some hf
  refine rx_Vv (n := 0) (As := []) (rest := []) B hI hl.1 (zc_MMC_takeWanted_0 l D z a N  u2 r4 u5 h6) zw_515 zw_517 zw_518 zw_399 zw_516 (by decide +kernel) 0 (wM_at_0 a z u2) hcl_MC rfl rfl (Nat.le_of_ble_eq_true rfl) d_MC_close_12 ⟨Nat.le_of_ble_eq_true rfl, Nat.le_of_ble_eq_true rfl⟩ rfl rfl ⟨Nat.zero_le _, Nat.zero_le _⟩ (fun H locs hI => ?_)
  refine lv_aload_n B.1 B.2.1 d_MC_close_15 rfl (lv_at hl 0 rfl) ?_
  refine rx_get (v := .int (gi u5 11)) B hI hcl_MC hin_MC 0 (wM_at_0 a z u5) 28 (by decide) hf_MC_28 zw_439 rfl d_MC_close_16 ?_
  refine lv_if_ne (tgt := 45) B.1 B.2.1 d_MC_close_19 (by decide) (fun hc7 => ?_) (fun hc7 => ?_)
  · rw [if_neg hc7] at hf
    exact hb45  u5 _ _ _ hf hI (lv_sub hl [] rfl)
  · rw [if_pos hc7] at hf
    refine lv_aload_n B.1 B.2.1 d_MC_close_22 rfl (lv_at hl 0 rfl) ?_
    refine rx_get (v := .int (gi u5 13)) B hI hcl_MC hin_MC 0 (wM_at_0 a z u5) 30 (by decide) hf_MC_30 zw_440 rfl d_MC_close_23 ?_
    refine lv_aload_n B.1 B.2.1 d_MC_close_26 rfl (lv_at hl 0 rfl) ?_
    refine rx_get (v := .ref (a 15)) B hI hcl_MC hin_MC 0 (wM_at_0 a z u5) 26 (by decide) hf_MC_26 zw_422 rfl d_MC_close_27 ?_
    refine lv_aload_n B.1 B.2.1 d_MC_close_30 rfl (lv_at hl 0 rfl) ?_
    refine rx_get (v := .int (gi u5 10)) B hI hcl_MC hin_MC 0 (wM_at_0 a z u5) 22 (by decide) hf_MC_22 zw_420 rfl d_MC_close_31 ?_
    refine lv_iconst (v := 1) B.1 B.2.1 d_MC_close_34 (by decide) ?_
    refine lv_isub B.1 B.2.1 d_MC_close_35 ?_
    obtain ⟨hi8, hf⟩ := zck_some hf
    refine rx_iald B hI 15 (wM_at_15 a z u5) hi8 d_MC_close_36 ?_
    refine lv_icmp_le (tgt := 45) B.1 B.2.1 d_MC_close_37 (by decide) (fun hc9 => ?_) (fun hc9 => ?_)
    · rw [if_pos hc9] at hf
      exact hb45  u5 _ _ _ hf hI (lv_sub hl [] rfl)
    · rw [if_neg hc9] at hf
      refine lv_aload_n B.1 B.2.1 d_MC_close_40 rfl (lv_at hl 0 rfl) ?_
      refine lv_iconst (v := 3) B.1 B.2.1 d_MC_close_41 (by decide) ?_
      obtain ⟨r10, u11, h12, hf⟩ := zbd_some hf
      refine rx_Vv (n := 1) (As := [.int 3]) (rest := []) B hI hl.1 (zc_MMC_stop_0 l D z a N 3 u5 r10 u11 h12) zw_456 zw_458 zw_459 zw_399 zw_457 (by decide +kernel) 0 (wM_at_0 a z u5) hcl_MC rfl rfl (Nat.le_of_ble_eq_true rfl) d_MC_close_42 ⟨Nat.le_of_ble_eq_true rfl, Nat.le_of_ble_eq_true rfl⟩ rfl rfl ⟨Nat.zero_le _, Nat.zero_le _⟩ (fun H locs hI => ?_)
      exact hb45  u11 _ _ _ hf hI (lv_sub hl [] rfl)
set_option maxHeartbeats 4000000 in
set_option maxRecDepth 100000 in
theorem zc_MMC_end_0 (l : Launch) (D : va_G) (z : zZ) (a : Nat → Nat) (N : Nat)  (u : zU) (r : Unit) (u1 : zU) (hf : zf_MMC_end_0 N  u = some (r, u1)) : zMet l D z y_MC_end (.code y_MC_end b_MC_end 4 none) { frames := 4, cells := 0, slots := 0, locals := 84 } [.ref (a 0)] (wM a z u) (zQv D (wM a z u1)) := by
  refine zM_v (own := R_MC) [.ref (a 0)] (wM a z u) (wM a z u1) (by decide) rfl (Nat.le_of_ble_eq_true rfl) ?_
  intro p e s m args below meth c A ls B hr hlk hI hl
  have hl : lv_has ls 4 [(0, .ref (a 0))] := hl
  revert hf
  revert hI hl
  have hb113 : ∀ (s0 : Int32) (u : zU) (H : Heap) (locs : List Loc) (ls : Array Slot), zf_MMC_end_0_b113 N  s0 u = some (r, u1) → iw D A s (wM a z u) H locs → lv_has ls 4 [] → W p l e ({ frames := 4, cells := 0, slots := 0, locals := 84 } : Room) s m args below meth c H locs 0 0 (MQ below (zQv D (wM a z u1) A) args s 0 0 A) (F0 m 113 ls [.int s0, .ref (a 0)]) := by
    intro s0 u H locs ls hf hI hl
    unfold zf_MMC_end_0_b113 at hf
    obtain ⟨hz1, hf⟩ := zck_some hf
    refine rx_put B hI hcl_MC hin_MC hty_MC hnm_MC 0 (wM_at_0 a z u) 34 (by decide) hf_MC_34 zw_445 rfl (ty := .boolean) (by decide +kernel) (znar hz1) (zfit hz1) (Nat.le_of_ble_eq_true rfl) (wM_si_16 a z u s0) d_MC_end_113 (fun H locs hI => ?_)
    obtain ⟨e2, e3⟩ := zrt hf
    exact zr_v (wM a z) B hI hr hlk e3 d_MC_end_116
  have hb96 : ∀  (u : zU) (H : Heap) (locs : List Loc) (ls : Array Slot), zf_MMC_end_0_b96 N   u = some (r, u1) → iw D A s (wM a z u) H locs → lv_has ls 4 [(0, .ref (a 0))] → W p l e ({ frames := 4, cells := 0, slots := 0, locals := 84 } : Room) s m args below meth c H locs 0 0 (MQ below (zQv D (wM a z u1) A) args s 0 0 A) (F0 m 96 ls []) := by
    intro  u H locs ls hf hI hl
    unfold zf_MMC_end_0_b96 at hf
    refine lv_aload_n B.1 B.2.1 d_MC_end_96 rfl (lv_at hl 0 rfl) ?_
    obtain ⟨r1, u2, h3, hf⟩ := zbd_some hf
    refine rx_Vv (n := 0) (As := []) (rest := []) B hI hl.1 (zc_MMC_giveWanted_0 l D z a N  u r1 u2 h3) zw_523 zw_525 zw_526 zw_399 zw_524 (by decide +kernel) 0 (wM_at_0 a z u) hcl_MC rfl rfl (Nat.le_of_ble_eq_true rfl) d_MC_end_97 ⟨Nat.le_of_ble_eq_true rfl, Nat.le_of_ble_eq_true rfl⟩ rfl rfl ⟨Nat.zero_le _, Nat.zero_le _⟩ (fun H locs hI => ?_)
    refine lv_aload_n B.1 B.2.1 d_MC_end_100 rfl (lv_at hl 0 rfl) ?_
    refine lv_aload_n B.1 B.2.1 d_MC_end_101 rfl (lv_at hl 0 rfl) ?_
    refine rx_get (v := .int (gi u2 11)) B hI hcl_MC hin_MC 0 (wM_at_0 a z u2) 28 (by decide) hf_MC_28 zw_439 rfl d_MC_end_102 ?_
    refine lv_if_ne (tgt := 112) B.1 B.2.1 d_MC_end_105 (by decide) (fun hc4 => ?_) (fun hc4 => ?_)
    · rw [if_neg hc4] at hf
      refine lv_iconst (v := 0) B.1 B.2.1 d_MC_end_112 (by decide) ?_
      exact hb113 0 u2 _ _ _ hf hI (lv_sub hl [] rfl)
    · rw [if_pos hc4] at hf
      refine lv_iconst (v := 1) B.1 B.2.1 d_MC_end_108 (by decide) ?_
      refine lv_goto (tgt := 113) B.1 B.2.1 d_MC_end_109 (by decide) ?_
      exact hb113 1 u2 _ _ _ hf hI (lv_sub hl [] rfl)
  have hb77 : ∀ (x1 : Int32) (x2 : Int32) (u : zU) (H : Heap) (locs : List Loc) (ls : Array Slot), zf_MMC_end_0_b77 N  x1 x2 u = some (r, u1) → iw D A s (wM a z u) H locs → lv_has ls 4 [(0, .ref (a 0)), (1, .int x1), (2, .int x2)] → W p l e ({ frames := 4, cells := 0, slots := 0, locals := 84 } : Room) s m args below meth c H locs 0 0 (MQ below (zQv D (wM a z u1) A) args s 0 0 A) (F0 m 77 ls []) := by
    intro x1 x2 u H locs ls hf hI hl
    unfold zf_MMC_end_0_b77 at hf
    refine lv_aload_n B.1 B.2.1 d_MC_end_77 rfl (lv_at hl 0 rfl) ?_
    refine rx_get (v := .ref (a 13)) B hI hcl_MC hin_MC 0 (wM_at_0 a z u) 24 (by decide) hf_MC_24 zw_421 rfl d_MC_end_78 ?_
    refine lv_iload_n B.1 B.2.1 d_MC_end_81 rfl (lv_at hl 1 rfl) ?_
    obtain ⟨hi1, hf⟩ := zck_some hf
    refine rx_iald B hI 13 (wM_at_13 a z u) hi1 d_MC_end_82 ?_
    refine lv_iconst (v := 4) B.1 B.2.1 d_MC_end_83 (by decide) ?_
    refine lv_icmp_ne (tgt := 96) B.1 B.2.1 d_MC_end_84 (by decide) (fun hc2 => ?_) (fun hc2 => ?_)
    · rw [if_neg hc2] at hf
      exact hb96  u _ _ _ hf hI (lv_sub hl [0] rfl)
    · rw [if_pos hc2] at hf
      refine lv_iload_n B.1 B.2.1 d_MC_end_87 rfl (lv_at hl 2 rfl) ?_
      refine lv_if_ne (tgt := 96) B.1 B.2.1 d_MC_end_88 (by decide) (fun hc3 => ?_) (fun hc3 => ?_)
      · rw [if_neg hc3] at hf
        exact hb96  u _ _ _ hf hI (lv_sub hl [0] rfl)
      · rw [if_pos hc3] at hf
        refine lv_aload_n B.1 B.2.1 d_MC_end_91 rfl (lv_at hl 0 rfl) ?_
        refine lv_iconst (v := 4) B.1 B.2.1 d_MC_end_92 (by decide) ?_
        obtain ⟨r4, u5, h6, hf⟩ := zbd_some hf
        refine rx_Vv (n := 1) (As := [.int 4]) (rest := []) B hI hl.1 (zc_MMC_stop_0 l D z a N 4 u r4 u5 h6) zw_456 zw_458 zw_459 zw_399 zw_457 (by decide +kernel) 0 (wM_at_0 a z u) hcl_MC rfl rfl (Nat.le_of_ble_eq_true rfl) d_MC_end_93 ⟨Nat.le_of_ble_eq_true rfl, Nat.le_of_ble_eq_true rfl⟩ rfl rfl ⟨Nat.zero_le _, Nat.zero_le _⟩ (fun H locs hI => ?_)
        exact hb96  u5 _ _ _ hf hI (lv_sub hl [0] rfl)
  have hb34 : ∀ (n : Nat) (x1 : Int32) (x2 : Int32) (x3 : Int32) (u : zU) (H : Heap) (locs : List Loc) (ls : Array Slot), zf_MMC_end_0_b34 N  n x1 x2 x3 u = some (r, u1) → iw D A s (wM a z u) H locs → lv_has ls 4 [(0, .ref (a 0)), (1, .int x1), (2, .int x2), (3, .int x3)] → W p l e ({ frames := 4, cells := 0, slots := 0, locals := 84 } : Room) s m args below meth c H locs 0 0 (MQ below (zQv D (wM a z u1) A) args s 0 0 A) (F0 m 34 ls []) := by
    intro n34
    induction n34 with
    | zero => intro x1 x2 x3 u H locs ls hf; exact absurd hf (by rw [zf_MMC_end_0_b34]; exact fun h => by cases h)
    | succ n34 ih34 =>
      have hb70 : ∀ (x1 : Int32) (x3 : Int32) (s0 : Int32) (u : zU) (H : Heap) (locs : List Loc) (ls : Array Slot), zf_MMC_end_0_b70 N (zf_MMC_end_0_b34 N  n34) x1 x3 s0 u = some (r, u1) → iw D A s (wM a z u) H locs → lv_has ls 4 [(0, .ref (a 0)), (1, .int x1), (3, .int x3)] → W p l e ({ frames := 4, cells := 0, slots := 0, locals := 84 } : Room) s m args below meth c H locs 0 0 (MQ below (zQv D (wM a z u1) A) args s 0 0 A) (F0 m 70 ls [.int s0]) := by
        intro x1 x3 s0 u H locs ls hf hI hl
        unfold zf_MMC_end_0_b70 at hf
        refine lv_istore_n (lv' := [(2, .int s0), (0, .ref (a 0)), (1, .int x1), (3, .int x3)]) B.1 B.2.1 d_MC_end_70 rfl hl (by decide) rfl (fun ls hl => ?_)
        refine lv_iinc (v := (x3 + 1)) (lv' := [(3, .int (x3 + 1)), (2, .int s0), (0, .ref (a 0)), (1, .int x1)]) B.1 B.2.1 d_MC_end_71 hl (k := 3) rfl (by rfl) (by decide) rfl (fun ls hl => ?_)
        refine lv_goto (tgt := 34) B.1 B.2.1 d_MC_end_74 (by decide) ?_
        exact ih34 x1 s0 (x3 + 1) u _ _ _ hf hI (lv_sub hl [2, 3, 1, 0] rfl)
      intro x1 x2 x3 u H locs ls hf hI hl
      rw [zf_MMC_end_0_b34] at hf
      refine lv_iload_n B.1 B.2.1 d_MC_end_34 rfl (lv_at hl 3 rfl) ?_
      refine lv_aload_n B.1 B.2.1 d_MC_end_35 rfl (lv_at hl 0 rfl) ?_
      refine lv_iload_n B.1 B.2.1 d_MC_end_36 rfl (lv_at hl 1 rfl) ?_
      refine lv_iconst (v := 1) B.1 B.2.1 d_MC_end_37 (by decide) ?_
      obtain ⟨r1, u2, h3, hf⟩ := zbd_some hf
      refine rx_Vi (n := 2) (As := [.int x1, .int 1]) (rest := [.int x3]) B hI hl.1 (zc_MMC_countOf_0 l D z a N x1 1 u r1 u2 h3) zw_532 zw_534 zw_535 zw_399 zw_533 (by decide +kernel) 0 (wM_at_0 a z u) hcl_MC rfl rfl (Nat.le_of_ble_eq_true rfl) d_MC_end_38 ⟨Nat.le_of_ble_eq_true rfl, Nat.le_of_ble_eq_true rfl⟩ rfl rfl ⟨Nat.zero_le _, Nat.zero_le _⟩ (fun H locs hI => ?_)
      refine lv_icmp_ge (tgt := 77) B.1 B.2.1 d_MC_end_41 (by decide) (fun hc4 => ?_) (fun hc4 => ?_)
      · rw [if_pos hc4] at hf
        exact hb77 x1 x2 u2 _ _ _ hf hI (lv_sub hl [0, 1, 2] rfl)
      · rw [if_neg hc4] at hf
        refine lv_iload_n B.1 B.2.1 d_MC_end_44 rfl (lv_at hl 2 rfl) ?_
        refine lv_if_eq (tgt := 77) B.1 B.2.1 d_MC_end_45 (by decide) (fun hc5 => ?_) (fun hc5 => ?_)
        · rw [if_pos hc5] at hf
          exact hb77 x1 x2 u2 _ _ _ hf hI (lv_sub hl [0, 1, 2] rfl)
        · rw [if_neg hc5] at hf
          refine lv_aload_n B.1 B.2.1 d_MC_end_48 rfl (lv_at hl 0 rfl) ?_
          refine lv_iload_n B.1 B.2.1 d_MC_end_49 rfl (lv_at hl 1 rfl) ?_
          refine lv_iconst (v := 0) B.1 B.2.1 d_MC_end_50 (by decide) ?_
          refine lv_iload_n B.1 B.2.1 d_MC_end_51 rfl (lv_at hl 3 rfl) ?_
          obtain ⟨r6, u7, h8, hf⟩ := zbd_some hf
          refine rx_Vi (n := 3) (As := [.int x1, .int 0, .int x3]) (rest := []) B hI hl.1 (zc_MMC_partOf_0 l D z a N x1 0 x3 u2 r6 u7 h8) zw_536 zw_538 zw_539 zw_399 zw_537 (by decide +kernel) 0 (wM_at_0 a z u2) hcl_MC rfl rfl (Nat.le_of_ble_eq_true rfl) d_MC_end_52 ⟨Nat.le_of_ble_eq_true rfl, Nat.le_of_ble_eq_true rfl⟩ rfl rfl ⟨Nat.zero_le _, Nat.zero_le _⟩ (fun H locs hI => ?_)
          refine lv_aload_n B.1 B.2.1 d_MC_end_55 rfl (lv_at hl 0 rfl) ?_
          refine lv_iload_n B.1 B.2.1 d_MC_end_56 rfl (lv_at hl 1 rfl) ?_
          refine lv_iconst (v := 1) B.1 B.2.1 d_MC_end_57 (by decide) ?_
          refine lv_iload_n B.1 B.2.1 d_MC_end_58 rfl (lv_at hl 3 rfl) ?_
          obtain ⟨r9, u10, h11, hf⟩ := zbd_some hf
          refine rx_Vi (n := 3) (As := [.int x1, .int 1, .int x3]) (rest := [.int r6]) B hI hl.1 (zc_MMC_partOf_0 l D z a N x1 1 x3 u7 r9 u10 h11) zw_536 zw_538 zw_539 zw_399 zw_537 (by decide +kernel) 0 (wM_at_0 a z u7) hcl_MC rfl rfl (Nat.le_of_ble_eq_true rfl) d_MC_end_59 ⟨Nat.le_of_ble_eq_true rfl, Nat.le_of_ble_eq_true rfl⟩ rfl rfl ⟨Nat.zero_le _, Nat.zero_le _⟩ (fun H locs hI => ?_)
          refine lv_icmp_ne (tgt := 69) B.1 B.2.1 d_MC_end_62 (by decide) (fun hc12 => ?_) (fun hc12 => ?_)
          · rw [if_neg hc12] at hf
            refine lv_iconst (v := 0) B.1 B.2.1 d_MC_end_69 (by decide) ?_
            exact hb70 x1 x3 0 u10 _ _ _ hf hI (lv_sub hl [0, 1, 3] rfl)
          · rw [if_pos hc12] at hf
            refine lv_iconst (v := 1) B.1 B.2.1 d_MC_end_65 (by decide) ?_
            refine lv_goto (tgt := 70) B.1 B.2.1 d_MC_end_66 (by decide) ?_
            exact hb70 x1 x3 1 u10 _ _ _ hf hI (lv_sub hl [0, 1, 3] rfl)
  have hb31 : ∀ (x1 : Int32) (s0 : Int32) (u : zU) (H : Heap) (locs : List Loc) (ls : Array Slot), zf_MMC_end_0_b31 N  x1 s0 u = some (r, u1) → iw D A s (wM a z u) H locs → lv_has ls 4 [(0, .ref (a 0)), (1, .int x1)] → W p l e ({ frames := 4, cells := 0, slots := 0, locals := 84 } : Room) s m args below meth c H locs 0 0 (MQ below (zQv D (wM a z u1) A) args s 0 0 A) (F0 m 31 ls [.int s0]) := by
    intro x1 s0 u H locs ls hf hI hl
    unfold zf_MMC_end_0_b31 at hf
    refine lv_istore_n (lv' := [(2, .int s0), (0, .ref (a 0)), (1, .int x1)]) B.1 B.2.1 d_MC_end_31 rfl hl (by decide) rfl (fun ls hl => ?_)
    refine lv_iconst (v := 0) B.1 B.2.1 d_MC_end_32 (by decide) ?_
    refine lv_istore_n (lv' := [(3, .int 0), (2, .int s0), (0, .ref (a 0)), (1, .int x1)]) B.1 B.2.1 d_MC_end_33 rfl hl (by decide) rfl (fun ls hl => ?_)
    exact hb34 N x1 s0 0 u _ _ _ hf hI (lv_sub hl [2, 3, 1, 0] rfl)
  intro hI hl hf
  unfold zf_MMC_end_0 at hf
  refine lv_aload_n B.1 B.2.1 d_MC_end_0 rfl (lv_at hl 0 rfl) ?_
  obtain ⟨r1, u2, h3, hf⟩ := zbd_some hf
  refine rx_Vv (n := 0) (As := []) (rest := []) B hI hl.1 (zc_MMC_close_0 l D z a N  u r1 u2 h3) zw_569 zw_571 zw_572 zw_399 zw_570 (by decide +kernel) 0 (wM_at_0 a z u) hcl_MC rfl rfl (Nat.le_of_ble_eq_true rfl) d_MC_end_1 ⟨Nat.le_of_ble_eq_true rfl, Nat.le_of_ble_eq_true rfl⟩ rfl rfl ⟨Nat.zero_le _, Nat.zero_le _⟩ (fun H locs hI => ?_)
  refine lv_aload_n B.1 B.2.1 d_MC_end_4 rfl (lv_at hl 0 rfl) ?_
  refine rx_get (v := .int (gi u2 10)) B hI hcl_MC hin_MC 0 (wM_at_0 a z u2) 22 (by decide) hf_MC_22 zw_420 rfl d_MC_end_5 ?_
  refine lv_iconst (v := 1) B.1 B.2.1 d_MC_end_8 (by decide) ?_
  refine lv_isub B.1 B.2.1 d_MC_end_9 ?_
  refine lv_istore_n (lv' := [(1, .int ((gi u2 10) - 1)), (0, .ref (a 0))]) B.1 B.2.1 d_MC_end_10 rfl hl (by decide) rfl (fun ls hl => ?_)
  refine lv_aload_n B.1 B.2.1 d_MC_end_11 rfl (lv_at hl 1 rfl) ?_
  refine lv_iload_n B.1 B.2.1 d_MC_end_12 rfl (lv_at hl 0 rfl) ?_
  refine lv_iconst (v := 0) B.1 B.2.1 d_MC_end_13 (by decide) ?_
  obtain ⟨r4, u5, h6, hf⟩ := zbd_some hf
  refine rx_Vi (n := 2) (As := [.int ((gi u2 10) - 1), .int 0]) (rest := []) B hI hl.1 (zc_MMC_countOf_0 l D z a N ((gi u2 10) - 1) 0 u2 r4 u5 h6) zw_532 zw_534 zw_535 zw_399 zw_533 (by decide +kernel) 0 (wM_at_0 a z u2) hcl_MC rfl rfl (Nat.le_of_ble_eq_true rfl) d_MC_end_14 ⟨Nat.le_of_ble_eq_true rfl, Nat.le_of_ble_eq_true rfl⟩ rfl rfl ⟨Nat.zero_le _, Nat.zero_le _⟩ (fun H locs hI => ?_)
  refine lv_aload_n B.1 B.2.1 d_MC_end_17 rfl (lv_at hl 1 rfl) ?_
  refine lv_iload_n B.1 B.2.1 d_MC_end_18 rfl (lv_at hl 0 rfl) ?_
  refine lv_iconst (v := 1) B.1 B.2.1 d_MC_end_19 (by decide) ?_
  obtain ⟨r7, u8, h9, hf⟩ := zbd_some hf
  refine rx_Vi (n := 2) (As := [.int ((gi u2 10) - 1), .int 1]) (rest := [.int r4]) B hI hl.1 (zc_MMC_countOf_0 l D z a N ((gi u2 10) - 1) 1 u5 r7 u8 h9) zw_532 zw_534 zw_535 zw_399 zw_533 (by decide +kernel) 0 (wM_at_0 a z u5) hcl_MC rfl rfl (Nat.le_of_ble_eq_true rfl) d_MC_end_20 ⟨Nat.le_of_ble_eq_true rfl, Nat.le_of_ble_eq_true rfl⟩ rfl rfl ⟨Nat.zero_le _, Nat.zero_le _⟩ (fun H locs hI => ?_)
  refine lv_icmp_ne (tgt := 30) B.1 B.2.1 d_MC_end_23 (by decide) (fun hc10 => ?_) (fun hc10 => ?_)
  · rw [if_neg hc10] at hf
    refine lv_iconst (v := 0) B.1 B.2.1 d_MC_end_30 (by decide) ?_
    exact hb31 ((gi u2 10) - 1) 0 u8 _ _ _ hf hI (lv_sub hl [1, 0] rfl)
  · rw [if_pos hc10] at hf
    refine lv_iconst (v := 1) B.1 B.2.1 d_MC_end_26 (by decide) ?_
    refine lv_goto (tgt := 31) B.1 B.2.1 d_MC_end_27 (by decide) ?_
    exact hb31 ((gi u2 10) - 1) 1 u8 _ _ _ hf hI (lv_sub hl [1, 0] rfl)
set_option maxHeartbeats 4000000 in
set_option maxRecDepth 100000 in
theorem zc_MMC_choose_0 (l : Launch) (D : va_G) (z : zZ) (a : Nat → Nat) (N : Nat)  (u : zU) (r : Unit) (u1 : zU) (hf : zf_MMC_choose_0 N  u = some (r, u1)) : zMet l D z y_MC_choose (.code y_MC_choose b_MC_choose 1 none) { frames := 4, cells := 0, slots := 0, locals := 84 } [.ref (a 0)] (wM a z u) (zQv D (wM a z u1)) := by
  refine zM_v (own := R_MC) [.ref (a 0)] (wM a z u) (wM a z u1) (by decide) rfl (Nat.le_of_ble_eq_true rfl) ?_
  intro p e s m args below meth c A ls B hr hlk hI hl
  have hl : lv_has ls 1 [(0, .ref (a 0))] := hl
  revert hf
  revert hI hl
  have hb56 : ∀ (s0 : Int32) (u : zU) (H : Heap) (locs : List Loc) (ls : Array Slot), zf_MMC_choose_0_b56 N  s0 u = some (r, u1) → iw D A s (wM a z u) H locs → lv_has ls 1 [] → W p l e ({ frames := 4, cells := 0, slots := 0, locals := 84 } : Room) s m args below meth c H locs 0 0 (MQ below (zQv D (wM a z u1) A) args s 0 0 A) (F0 m 56 ls [.int s0, .ref (a 0)]) := by
    intro s0 u H locs ls hf hI hl
    unfold zf_MMC_choose_0_b56 at hf
    obtain ⟨hz1, hf⟩ := zck_some hf
    refine rx_put B hI hcl_MC hin_MC hty_MC hnm_MC 0 (wM_at_0 a z u) 35 (by decide) hf_MC_35 zw_446 rfl (ty := .boolean) (by decide +kernel) (znar hz1) (zfit hz1) (Nat.le_of_ble_eq_true rfl) (wM_si_17 a z u s0) d_MC_choose_56 (fun H locs hI => ?_)
    obtain ⟨e2, e3⟩ := zrt hf
    exact zr_v (wM a z) B hI hr hlk e3 d_MC_choose_59
  have hb20 : ∀  (u : zU) (H : Heap) (locs : List Loc) (ls : Array Slot), zf_MMC_choose_0_b20 N   u = some (r, u1) → iw D A s (wM a z u) H locs → lv_has ls 1 [(0, .ref (a 0))] → W p l e ({ frames := 4, cells := 0, slots := 0, locals := 84 } : Room) s m args below meth c H locs 0 0 (MQ below (zQv D (wM a z u1) A) args s 0 0 A) (F0 m 20 ls []) := by
    intro  u H locs ls hf hI hl
    unfold zf_MMC_choose_0_b20 at hf
    refine lv_aload_n B.1 B.2.1 d_MC_choose_20 rfl (lv_at hl 0 rfl) ?_
    obtain ⟨r1, u2, h3, hf⟩ := zbd_some hf
    refine rx_Vv (n := 0) (As := []) (rest := []) B hI hl.1 (zc_MMC_close_0 l D z a N  u r1 u2 h3) zw_569 zw_571 zw_572 zw_399 zw_570 (by decide +kernel) 0 (wM_at_0 a z u) hcl_MC rfl rfl (Nat.le_of_ble_eq_true rfl) d_MC_choose_21 ⟨Nat.le_of_ble_eq_true rfl, Nat.le_of_ble_eq_true rfl⟩ rfl rfl ⟨Nat.zero_le _, Nat.zero_le _⟩ (fun H locs hI => ?_)
    refine lv_aload_n B.1 B.2.1 d_MC_choose_24 rfl (lv_at hl 0 rfl) ?_
    obtain ⟨r4, u5, h6, hf⟩ := zbd_some hf
    refine rx_Vv (n := 0) (As := []) (rest := []) B hI hl.1 (zc_MMC_wantNothing_0 l D z a N  u2 r4 u5 h6) zw_497 zw_499 zw_500 zw_399 zw_498 (by decide +kernel) 0 (wM_at_0 a z u2) hcl_MC rfl rfl (Nat.le_of_ble_eq_true rfl) d_MC_choose_25 ⟨Nat.le_of_ble_eq_true rfl, Nat.le_of_ble_eq_true rfl⟩ rfl rfl ⟨Nat.zero_le _, Nat.zero_le _⟩ (fun H locs hI => ?_)
    refine lv_aload_n B.1 B.2.1 d_MC_choose_28 rfl (lv_at hl 0 rfl) ?_
    refine lv_aload_n B.1 B.2.1 d_MC_choose_29 rfl (lv_at hl 0 rfl) ?_
    refine rx_get (v := .int (gi u5 10)) B hI hcl_MC hin_MC 0 (wM_at_0 a z u5) 22 (by decide) hf_MC_22 zw_420 rfl d_MC_choose_30 ?_
    refine lv_iconst (v := 1) B.1 B.2.1 d_MC_choose_33 (by decide) ?_
    refine lv_isub B.1 B.2.1 d_MC_choose_34 ?_
    refine lv_iconst (v := 0) B.1 B.2.1 d_MC_choose_35 (by decide) ?_
    obtain ⟨r7, u8, h9, hf⟩ := zbd_some hf
    refine rx_Vv (n := 2) (As := [.int ((gi u5 10) - 1), .int 0]) (rest := []) B hI hl.1 (zc_MMC_wantBlock_0 l D z a N ((gi u5 10) - 1) 0 u5 r7 u8 h9) zw_540 zw_542 zw_543 zw_399 zw_541 (by decide +kernel) 0 (wM_at_0 a z u5) hcl_MC rfl rfl (Nat.le_of_ble_eq_true rfl) d_MC_choose_36 ⟨Nat.le_of_ble_eq_true rfl, Nat.le_of_ble_eq_true rfl⟩ rfl rfl ⟨Nat.zero_le _, Nat.zero_le _⟩ (fun H locs hI => ?_)
    refine lv_aload_n B.1 B.2.1 d_MC_choose_39 rfl (lv_at hl 0 rfl) ?_
    obtain ⟨r10, u11, h12, hf⟩ := zbd_some hf
    refine rx_Vv (n := 0) (As := []) (rest := []) B hI hl.1 (zc_MMC_giveWanted_0 l D z a N  u8 r10 u11 h12) zw_523 zw_525 zw_526 zw_399 zw_524 (by decide +kernel) 0 (wM_at_0 a z u8) hcl_MC rfl rfl (Nat.le_of_ble_eq_true rfl) d_MC_choose_40 ⟨Nat.le_of_ble_eq_true rfl, Nat.le_of_ble_eq_true rfl⟩ rfl rfl ⟨Nat.zero_le _, Nat.zero_le _⟩ (fun H locs hI => ?_)
    refine lv_aload_n B.1 B.2.1 d_MC_choose_43 rfl (lv_at hl 0 rfl) ?_
    refine lv_aload_n B.1 B.2.1 d_MC_choose_44 rfl (lv_at hl 0 rfl) ?_
    refine rx_get (v := .int (gi u11 11)) B hI hcl_MC hin_MC 0 (wM_at_0 a z u11) 28 (by decide) hf_MC_28 zw_439 rfl d_MC_choose_45 ?_
    refine lv_if_ne (tgt := 55) B.1 B.2.1 d_MC_choose_48 (by decide) (fun hc13 => ?_) (fun hc13 => ?_)
    · rw [if_neg hc13] at hf
      refine lv_iconst (v := 0) B.1 B.2.1 d_MC_choose_55 (by decide) ?_
      exact hb56 0 u11 _ _ _ hf hI (lv_sub hl [] rfl)
    · rw [if_pos hc13] at hf
      refine lv_iconst (v := 1) B.1 B.2.1 d_MC_choose_51 (by decide) ?_
      refine lv_goto (tgt := 56) B.1 B.2.1 d_MC_choose_52 (by decide) ?_
      exact hb56 1 u11 _ _ _ hf hI (lv_sub hl [] rfl)
  intro hI hl hf
  unfold zf_MMC_choose_0 at hf
  refine lv_aload_n B.1 B.2.1 d_MC_choose_0 rfl (lv_at hl 0 rfl) ?_
  refine rx_get (v := .ref (a 13)) B hI hcl_MC hin_MC 0 (wM_at_0 a z u) 24 (by decide) hf_MC_24 zw_421 rfl d_MC_choose_1 ?_
  refine lv_aload_n B.1 B.2.1 d_MC_choose_4 rfl (lv_at hl 0 rfl) ?_
  refine rx_get (v := .int (gi u 10)) B hI hcl_MC hin_MC 0 (wM_at_0 a z u) 22 (by decide) hf_MC_22 zw_420 rfl d_MC_choose_5 ?_
  refine lv_iconst (v := 1) B.1 B.2.1 d_MC_choose_8 (by decide) ?_
  refine lv_isub B.1 B.2.1 d_MC_choose_9 ?_
  obtain ⟨hi1, hf⟩ := zck_some hf
  refine rx_iald B hI 13 (wM_at_13 a z u) hi1 d_MC_choose_10 ?_
  refine lv_iconst (v := 4) B.1 B.2.1 d_MC_choose_11 (by decide) ?_
  refine lv_icmp_eq (tgt := 20) B.1 B.2.1 d_MC_choose_12 (by decide) (fun hc2 => ?_) (fun hc2 => ?_)
  · rw [if_pos hc2] at hf
    exact hb20  u _ _ _ hf hI (lv_sub hl [0] rfl)
  · rw [if_neg hc2] at hf
    refine lv_aload_n B.1 B.2.1 d_MC_choose_15 rfl (lv_at hl 0 rfl) ?_
    refine lv_iconst (v := 2) B.1 B.2.1 d_MC_choose_16 (by decide) ?_
    obtain ⟨r3, u4, h5, hf⟩ := zbd_some hf
    refine rx_Vv (n := 1) (As := [.int 2]) (rest := []) B hI hl.1 (zc_MMC_stop_0 l D z a N 2 u r3 u4 h5) zw_456 zw_458 zw_459 zw_399 zw_457 (by decide +kernel) 0 (wM_at_0 a z u) hcl_MC rfl rfl (Nat.le_of_ble_eq_true rfl) d_MC_choose_17 ⟨Nat.le_of_ble_eq_true rfl, Nat.le_of_ble_eq_true rfl⟩ rfl rfl ⟨Nat.zero_le _, Nat.zero_le _⟩ (fun H locs hI => ?_)
    exact hb20  u4 _ _ _ hf hI (lv_sub hl [0] rfl)
set_option maxHeartbeats 4000000 in
set_option maxRecDepth 100000 in
theorem zc_MMC_open_0 (l : Launch) (D : va_G) (z : zZ) (a : Nat → Nat) (N : Nat) (x1 : Int32) (x2 : Int32) (u : zU) (r : Unit) (u1 : zU) (hf : zf_MMC_open_0 N x1 x2 u = some (r, u1)) : zMet l D z y_MC_open (.code y_MC_open b_MC_open 3 none) { frames := 3, cells := 0, slots := 0, locals := 64 } [.ref (a 0), .int x1, .int x2] (wM a z u) (zQv D (wM a z u1)) := by
  refine zM_v (own := R_MC) [.ref (a 0), .int x1, .int x2] (wM a z u) (wM a z u1) (by decide) rfl (Nat.le_of_ble_eq_true rfl) ?_
  intro p e s m args below meth c A ls B hr hlk hI hl
  have hl : lv_has ls 3 [(0, .ref (a 0)), (1, .int x1), (2, .int x2)] := hl
  revert hf
  revert hI hl
  have hb40 : ∀ (x1 : Int32) (x2 : Int32) (u : zU) (H : Heap) (locs : List Loc) (ls : Array Slot), zf_MMC_open_0_b40 N  x1 x2 u = some (r, u1) → iw D A s (wM a z u) H locs → lv_has ls 3 [(0, .ref (a 0)), (1, .int x1), (2, .int x2)] → W p l e ({ frames := 3, cells := 0, slots := 0, locals := 64 } : Room) s m args below meth c H locs 0 0 (MQ below (zQv D (wM a z u1) A) args s 0 0 A) (F0 m 40 ls []) := by
    intro x1 x2 u H locs ls hf hI hl
    unfold zf_MMC_open_0_b40 at hf
    refine lv_aload_n B.1 B.2.1 d_MC_open_40 rfl (lv_at hl 0 rfl) ?_
    refine rx_get (v := .int (gi u 11)) B hI hcl_MC hin_MC 0 (wM_at_0 a z u) 28 (by decide) hf_MC_28 zw_439 rfl d_MC_open_41 ?_
    refine lv_if_le (tgt := 48) B.1 B.2.1 d_MC_open_44 (by decide) (fun hc1 => ?_) (fun hc1 => ?_)
    · rw [if_pos hc1] at hf
      refine lv_aload_n B.1 B.2.1 d_MC_open_48 rfl (lv_at hl 0 rfl) ?_
      refine rx_get (v := .ref (a 13)) B hI hcl_MC hin_MC 0 (wM_at_0 a z u) 24 (by decide) hf_MC_24 zw_421 rfl d_MC_open_49 ?_
      refine lv_aload_n B.1 B.2.1 d_MC_open_52 rfl (lv_at hl 0 rfl) ?_
      refine rx_get (v := .int (gi u 10)) B hI hcl_MC hin_MC 0 (wM_at_0 a z u) 22 (by decide) hf_MC_22 zw_420 rfl d_MC_open_53 ?_
      refine lv_iload_n B.1 B.2.1 d_MC_open_56 rfl (lv_at hl 1 rfl) ?_
      obtain ⟨hi2, hf⟩ := zck_some hf
      refine rx_iast B hI 13 (wM_at_13 a z u) hi2 (wM_sa_11 a z u (gi u 10) x1) d_MC_open_57 (fun H locs hI => ?_)
      refine lv_aload_n B.1 B.2.1 d_MC_open_58 rfl (lv_at hl 0 rfl) ?_
      refine rx_get (v := .ref (a 14)) B hI hcl_MC hin_MC 0 (wM_at_0 a z (sa u 11 (gi u 10) x1)) 25 (by decide) hf_MC_25 zw_531 rfl d_MC_open_59 ?_
      refine lv_aload_n B.1 B.2.1 d_MC_open_62 rfl (lv_at hl 0 rfl) ?_
      refine rx_get (v := .int (gi u 10)) B hI hcl_MC hin_MC 0 (wM_at_0 a z (sa u 11 (gi u 10) x1)) 22 (by decide) hf_MC_22 zw_420 rfl d_MC_open_63 ?_
      refine lv_iload_n B.1 B.2.1 d_MC_open_66 rfl (lv_at hl 2 rfl) ?_
      obtain ⟨hi3, hf⟩ := zck_some hf
      refine rx_iast B hI 14 (wM_at_14 a z (sa u 11 (gi u 10) x1)) hi3 (wM_sa_12 a z (sa u 11 (gi u 10) x1) (gi u 10) x2) d_MC_open_67 (fun H locs hI => ?_)
      refine lv_aload_n B.1 B.2.1 d_MC_open_68 rfl (lv_at hl 0 rfl) ?_
      refine rx_get (v := .ref (a 15)) B hI hcl_MC hin_MC 0 (wM_at_0 a z (sa (sa u 11 (gi u 10) x1) 12 (gi u 10) x2)) 26 (by decide) hf_MC_26 zw_422 rfl d_MC_open_69 ?_
      refine lv_aload_n B.1 B.2.1 d_MC_open_72 rfl (lv_at hl 0 rfl) ?_
      refine rx_get (v := .int (gi u 10)) B hI hcl_MC hin_MC 0 (wM_at_0 a z (sa (sa u 11 (gi u 10) x1) 12 (gi u 10) x2)) 22 (by decide) hf_MC_22 zw_420 rfl d_MC_open_73 ?_
      refine lv_aload_n B.1 B.2.1 d_MC_open_76 rfl (lv_at hl 0 rfl) ?_
      refine rx_get (v := .int (gi u 13)) B hI hcl_MC hin_MC 0 (wM_at_0 a z (sa (sa u 11 (gi u 10) x1) 12 (gi u 10) x2)) 30 (by decide) hf_MC_30 zw_440 rfl d_MC_open_77 ?_
      obtain ⟨hi4, hf⟩ := zck_some hf
      refine rx_iast B hI 15 (wM_at_15 a z (sa (sa u 11 (gi u 10) x1) 12 (gi u 10) x2)) hi4 (wM_sa_13 a z (sa (sa u 11 (gi u 10) x1) 12 (gi u 10) x2) (gi u 10) (gi u 13)) d_MC_open_80 (fun H locs hI => ?_)
      refine lv_aload_n B.1 B.2.1 d_MC_open_81 rfl (lv_at hl 0 rfl) ?_
      refine rx_get (v := .ref (a 16)) B hI hcl_MC hin_MC 0 (wM_at_0 a z (sa (sa (sa u 11 (gi u 10) x1) 12 (gi u 10) x2) 13 (gi u 10) (gi u 13))) 27 (by decide) hf_MC_27 zw_423 rfl d_MC_open_82 ?_
      refine lv_aload_n B.1 B.2.1 d_MC_open_85 rfl (lv_at hl 0 rfl) ?_
      refine rx_get (v := .int (gi u 10)) B hI hcl_MC hin_MC 0 (wM_at_0 a z (sa (sa (sa u 11 (gi u 10) x1) 12 (gi u 10) x2) 13 (gi u 10) (gi u 13))) 22 (by decide) hf_MC_22 zw_420 rfl d_MC_open_86 ?_
      refine lv_iconst (v := 0) B.1 B.2.1 d_MC_open_89 (by decide) ?_
      obtain ⟨hi5, hf⟩ := zck_some hf
      refine rx_zast B hI 16 (wM_at_16 a z (sa (sa (sa u 11 (gi u 10) x1) 12 (gi u 10) x2) 13 (gi u 10) (gi u 13))) hi5 (wM_sa_14 a z (sa (sa (sa u 11 (gi u 10) x1) 12 (gi u 10) x2) 13 (gi u 10) (gi u 13)) (gi u 10) (vp_nar .boolean 0)) d_MC_open_90 (fun H locs hI => ?_)
      refine lv_aload_n B.1 B.2.1 d_MC_open_91 rfl (lv_at hl 0 rfl) ?_
      obtain ⟨r6, u7, h8, hf⟩ := zbd_some hf
      refine rx_Vv (n := 0) (As := []) (rest := []) B hI hl.1 (zc_MMC_giveWanted_0 l D z a N  (sa (sa (sa (sa u 11 (gi u 10) x1) 12 (gi u 10) x2) 13 (gi u 10) (gi u 13)) 14 (gi u 10) (vp_nar .boolean 0)) r6 u7 h8) zw_523 zw_525 zw_526 zw_399 zw_524 (by decide +kernel) 0 (wM_at_0 a z (sa (sa (sa (sa u 11 (gi u 10) x1) 12 (gi u 10) x2) 13 (gi u 10) (gi u 13)) 14 (gi u 10) (vp_nar .boolean 0))) hcl_MC rfl rfl (Nat.le_of_ble_eq_true rfl) d_MC_open_92 ⟨Nat.le_of_ble_eq_true rfl, Nat.le_of_ble_eq_true rfl⟩ rfl rfl ⟨Nat.zero_le _, Nat.zero_le _⟩ (fun H locs hI => ?_)
      refine lv_aload_n B.1 B.2.1 d_MC_open_95 rfl (lv_at hl 0 rfl) ?_
      refine lv_iconst (v := 1) B.1 B.2.1 d_MC_open_96 (by decide) ?_
      refine rx_put B hI hcl_MC hin_MC hty_MC hnm_MC 0 (wM_at_0 a z u7) 33 (by decide) hf_MC_33 zw_444 rfl (ty := .boolean) (by decide +kernel) (by decide) (by decide) (Nat.le_of_ble_eq_true rfl) (wM_si_15 a z u7 1) d_MC_open_97 (fun H locs hI => ?_)
      obtain ⟨e9, e10⟩ := zrt hf
      exact zr_v (wM a z) B hI hr hlk e10 d_MC_open_100
    · rw [if_neg hc1] at hf
      obtain ⟨e11, e12⟩ := zrt hf
      exact zr_v (wM a z) B hI hr hlk e12 d_MC_open_47
  have hb21 : ∀ (x1 : Int32) (x2 : Int32) (u : zU) (H : Heap) (locs : List Loc) (ls : Array Slot), zf_MMC_open_0_b21 N  x1 x2 u = some (r, u1) → iw D A s (wM a z u) H locs → lv_has ls 3 [(0, .ref (a 0)), (1, .int x1), (2, .int x2)] → W p l e ({ frames := 3, cells := 0, slots := 0, locals := 64 } : Room) s m args below meth c H locs 0 0 (MQ below (zQv D (wM a z u1) A) args s 0 0 A) (F0 m 21 ls []) := by
    intro x1 x2 u H locs ls hf hI hl
    unfold zf_MMC_open_0_b21 at hf
    refine lv_aload_n B.1 B.2.1 d_MC_open_21 rfl (lv_at hl 0 rfl) ?_
    obtain ⟨r1, u2, h3, hf⟩ := zbd_some hf
    refine rx_Vv (n := 0) (As := []) (rest := []) B hI hl.1 (zc_MMC_takeWanted_0 l D z a N  u r1 u2 h3) zw_515 zw_517 zw_518 zw_399 zw_516 (by decide +kernel) 0 (wM_at_0 a z u) hcl_MC rfl rfl (Nat.le_of_ble_eq_true rfl) d_MC_open_22 ⟨Nat.le_of_ble_eq_true rfl, Nat.le_of_ble_eq_true rfl⟩ rfl rfl ⟨Nat.zero_le _, Nat.zero_le _⟩ (fun H locs hI => ?_)
    refine lv_aload_n B.1 B.2.1 d_MC_open_25 rfl (lv_at hl 0 rfl) ?_
    refine rx_get (v := .int (gi u2 10)) B hI hcl_MC hin_MC 0 (wM_at_0 a z u2) 22 (by decide) hf_MC_22 zw_420 rfl d_MC_open_26 ?_
    refine lv_bipush (v := 60) B.1 B.2.1 d_MC_open_29 (by decide) ?_
    refine lv_icmp_ne (tgt := 40) B.1 B.2.1 d_MC_open_31 (by decide) (fun hc4 => ?_) (fun hc4 => ?_)
    · rw [if_neg hc4] at hf
      exact hb40 x1 x2 u2 _ _ _ hf hI (lv_sub hl [0, 1, 2] rfl)
    · rw [if_pos hc4] at hf
      refine lv_aload_n B.1 B.2.1 d_MC_open_34 rfl (lv_at hl 0 rfl) ?_
      refine lv_bipush (v := 15) B.1 B.2.1 d_MC_open_35 (by decide) ?_
      obtain ⟨r5, u6, h7, hf⟩ := zbd_some hf
      refine rx_Vv (n := 1) (As := [.int 15]) (rest := []) B hI hl.1 (zc_MMC_stop_0 l D z a N 15 u2 r5 u6 h7) zw_456 zw_458 zw_459 zw_399 zw_457 (by decide +kernel) 0 (wM_at_0 a z u2) hcl_MC rfl rfl (Nat.le_of_ble_eq_true rfl) d_MC_open_37 ⟨Nat.le_of_ble_eq_true rfl, Nat.le_of_ble_eq_true rfl⟩ rfl rfl ⟨Nat.zero_le _, Nat.zero_le _⟩ (fun H locs hI => ?_)
      exact hb40 x1 x2 u6 _ _ _ hf hI (lv_sub hl [0, 1, 2] rfl)
  have hb11 : ∀ (x1 : Int32) (x2 : Int32) (u : zU) (H : Heap) (locs : List Loc) (ls : Array Slot), zf_MMC_open_0_b11 N  x1 x2 u = some (r, u1) → iw D A s (wM a z u) H locs → lv_has ls 3 [(0, .ref (a 0)), (1, .int x1), (2, .int x2)] → W p l e ({ frames := 3, cells := 0, slots := 0, locals := 64 } : Room) s m args below meth c H locs 0 0 (MQ below (zQv D (wM a z u1) A) args s 0 0 A) (F0 m 11 ls []) := by
    intro x1 x2 u H locs ls hf hI hl
    unfold zf_MMC_open_0_b11 at hf
    refine lv_iload_n B.1 B.2.1 d_MC_open_11 rfl (lv_at hl 2 rfl) ?_
    refine lv_if_lt (tgt := 21) B.1 B.2.1 d_MC_open_12 (by decide) (fun hc1 => ?_) (fun hc1 => ?_)
    · rw [if_pos hc1] at hf
      exact hb21 x1 x2 u _ _ _ hf hI (lv_sub hl [0, 1, 2] rfl)
    · rw [if_neg hc1] at hf
      refine lv_aload_n B.1 B.2.1 d_MC_open_15 rfl (lv_at hl 0 rfl) ?_
      refine lv_iload_n B.1 B.2.1 d_MC_open_16 rfl (lv_at hl 2 rfl) ?_
      refine lv_iconst (v := 0) B.1 B.2.1 d_MC_open_17 (by decide) ?_
      obtain ⟨r2, u3, h4, hf⟩ := zbd_some hf
      refine rx_Vv (n := 2) (As := [.int x2, .int 0]) (rest := []) B hI hl.1 (zc_MMC_wantParts_0 l D z a N x2 0 u r2 u3 h4) zw_506 zw_508 zw_509 zw_399 zw_507 (by decide +kernel) 0 (wM_at_0 a z u) hcl_MC rfl rfl (Nat.le_of_ble_eq_true rfl) d_MC_open_18 ⟨Nat.le_of_ble_eq_true rfl, Nat.le_of_ble_eq_true rfl⟩ rfl rfl ⟨Nat.zero_le _, Nat.zero_le _⟩ (fun H locs hI => ?_)
      exact hb21 x1 x2 u3 _ _ _ hf hI (lv_sub hl [0, 1, 2] rfl)
  intro hI hl hf
  unfold zf_MMC_open_0 at hf
  refine lv_iload_n B.1 B.2.1 d_MC_open_0 rfl (lv_at hl 1 rfl) ?_
  refine lv_iconst (v := 4) B.1 B.2.1 d_MC_open_1 (by decide) ?_
  refine lv_icmp_ne (tgt := 11) B.1 B.2.1 d_MC_open_2 (by decide) (fun hc1 => ?_) (fun hc1 => ?_)
  · rw [if_neg hc1] at hf
    exact hb11 x1 x2 u _ _ _ hf hI (lv_sub hl [0, 1, 2] rfl)
  · rw [if_pos hc1] at hf
    refine lv_aload_n B.1 B.2.1 d_MC_open_5 rfl (lv_at hl 0 rfl) ?_
    refine lv_bipush (v := 127) B.1 B.2.1 d_MC_open_6 (by decide) ?_
    obtain ⟨r2, u3, h4, hf⟩ := zbd_some hf
    refine rx_Vv (n := 1) (As := [.int 127]) (rest := []) B hI hl.1 (zc_MMC_take_0 l D z a N 127 u r2 u3 h4) zw_511 zw_513 zw_514 zw_399 zw_512 (by decide +kernel) 0 (wM_at_0 a z u) hcl_MC rfl rfl (Nat.le_of_ble_eq_true rfl) d_MC_open_8 ⟨Nat.le_of_ble_eq_true rfl, Nat.le_of_ble_eq_true rfl⟩ rfl rfl ⟨Nat.zero_le _, Nat.zero_le _⟩ (fun H locs hI => ?_)
    exact hb11 x1 x2 u3 _ _ _ hf hI (lv_sub hl [0, 1, 2] rfl)
set_option maxHeartbeats 4000000 in
set_option maxRecDepth 100000 in
theorem zc_MMC_control_0 (l : Launch) (D : va_G) (z : zZ) (a : Nat → Nat) (N : Nat) (x1 : Int32) (x2 : Int32) (x3 : Int32) (u : zU) (r : Unit) (u1 : zU) (hf : zf_MMC_control_0 N x1 x2 x3 u = some (r, u1)) : zMet l D z y_MC_control (.code y_MC_control b_MC_control 4 none) { frames := 5, cells := 0, slots := 0, locals := 107 } [.ref (a 0), .int x1, .int x2, .int x3] (wM a z u) (zQv D (wM a z u1)) := by
  refine zM_v (own := R_MC) [.ref (a 0), .int x1, .int x2, .int x3] (wM a z u) (wM a z u1) (by decide) rfl (Nat.le_of_ble_eq_true rfl) ?_
  intro p e s m args below meth c A ls B hr hlk hI hl
  have hl : lv_has ls 4 [(0, .ref (a 0)), (1, .int x1), (2, .int x2), (3, .int x3)] := hl
  revert hf
  revert hI hl
  have hb208 : ∀  (u : zU) (H : Heap) (locs : List Loc) (ls : Array Slot), zf_MMC_control_0_b208 N   u = some (r, u1) → iw D A s (wM a z u) H locs → lv_has ls 4 [] → W p l e ({ frames := 5, cells := 0, slots := 0, locals := 107 } : Room) s m args below meth c H locs 0 0 (MQ below (zQv D (wM a z u1) A) args s 0 0 A) (F0 m 208 ls []) := by
    intro  u H locs ls hf hI hl
    unfold zf_MMC_control_0_b208 at hf
    obtain ⟨e1, e2⟩ := zrt hf
    exact zr_v (wM a z) B hI hr hlk e2 d_MC_control_208
  have hb98 : ∀ (x1 : Int32) (x2 : Int32) (u : zU) (H : Heap) (locs : List Loc) (ls : Array Slot), zf_MMC_control_0_b98 N  x1 x2 u = some (r, u1) → iw D A s (wM a z u) H locs → lv_has ls 4 [(0, .ref (a 0)), (1, .int x1), (2, .int x2)] → W p l e ({ frames := 5, cells := 0, slots := 0, locals := 107 } : Room) s m args below meth c H locs 0 0 (MQ below (zQv D (wM a z u1) A) args s 0 0 A) (F0 m 98 ls []) := by
    intro x1 x2 u H locs ls hf hI hl
    unfold zf_MMC_control_0_b98 at hf
    refine lv_aload_n B.1 B.2.1 d_MC_control_98 rfl (lv_at hl 0 rfl) ?_
    refine lv_iload_n B.1 B.2.1 d_MC_control_99 rfl (lv_at hl 1 rfl) ?_
    refine lv_iload_n B.1 B.2.1 d_MC_control_100 rfl (lv_at hl 2 rfl) ?_
    obtain ⟨r1, u2, h3, hf⟩ := zbd_some hf
    refine rx_Vv (n := 2) (As := [.int x1, .int x2]) (rest := []) B hI hl.1 (zc_MMC_open_0 l D z a N x1 x2 u r1 u2 h3) zw_581 zw_583 zw_584 zw_399 zw_582 (by decide +kernel) 0 (wM_at_0 a z u) hcl_MC rfl rfl (Nat.le_of_ble_eq_true rfl) d_MC_control_101 ⟨Nat.le_of_ble_eq_true rfl, Nat.le_of_ble_eq_true rfl⟩ rfl rfl ⟨Nat.zero_le _, Nat.zero_le _⟩ (fun H locs hI => ?_)
    refine lv_goto (tgt := 208) B.1 B.2.1 d_MC_control_104 (by decide) ?_
    exact hb208  u2 _ _ _ hf hI (lv_sub hl [] rfl)
  have hb197 : ∀ (x2 : Int32) (u : zU) (H : Heap) (locs : List Loc) (ls : Array Slot), zf_MMC_control_0_b197 N  x2 u = some (r, u1) → iw D A s (wM a z u) H locs → lv_has ls 4 [(0, .ref (a 0)), (2, .int x2)] → W p l e ({ frames := 5, cells := 0, slots := 0, locals := 107 } : Room) s m args below meth c H locs 0 0 (MQ below (zQv D (wM a z u1) A) args s 0 0 A) (F0 m 197 ls []) := by
    intro x2 u H locs ls hf hI hl
    unfold zf_MMC_control_0_b197 at hf
    refine lv_aload_n B.1 B.2.1 d_MC_control_197 rfl (lv_at hl 0 rfl) ?_
    refine lv_bipush (v := 127) B.1 B.2.1 d_MC_control_198 (by decide) ?_
    obtain ⟨r1, u2, h3, hf⟩ := zbd_some hf
    refine rx_Vv (n := 1) (As := [.int 127]) (rest := []) B hI hl.1 (zc_MMC_take_0 l D z a N 127 u r1 u2 h3) zw_511 zw_513 zw_514 zw_399 zw_512 (by decide +kernel) 0 (wM_at_0 a z u) hcl_MC rfl rfl (Nat.le_of_ble_eq_true rfl) d_MC_control_200 ⟨Nat.le_of_ble_eq_true rfl, Nat.le_of_ble_eq_true rfl⟩ rfl rfl ⟨Nat.zero_le _, Nat.zero_le _⟩ (fun H locs hI => ?_)
    refine lv_aload_n B.1 B.2.1 d_MC_control_203 rfl (lv_at hl 0 rfl) ?_
    refine lv_iload_n B.1 B.2.1 d_MC_control_204 rfl (lv_at hl 1 rfl) ?_
    obtain ⟨r4, u5, h6, hf⟩ := zbd_some hf
    refine rx_Vv (n := 1) (As := [.int x2]) (rest := []) B hI hl.1 (zc_MMC_call_0 l D z a N x2 u2 r4 u5 h6) zw_527 zw_529 zw_530 zw_399 zw_528 (by decide +kernel) 0 (wM_at_0 a z u2) hcl_MC rfl rfl (Nat.le_of_ble_eq_true rfl) d_MC_control_205 ⟨Nat.le_of_ble_eq_true rfl, Nat.le_of_ble_eq_true rfl⟩ rfl rfl ⟨Nat.zero_le _, Nat.zero_le _⟩ (fun H locs hI => ?_)
    exact hb208  u5 _ _ _ hf hI (lv_sub hl [] rfl)
  intro hI hl hf
  unfold zf_MMC_control_0 at hf
  refine lv_aload_n B.1 B.2.1 d_MC_control_0 rfl (lv_at hl 0 rfl) ?_
  obtain ⟨r1, u2, h3, hf⟩ := zbd_some hf
  refine rx_Vv (n := 0) (As := []) (rest := []) B hI hl.1 (zc_MMC_wantNothing_0 l D z a N  u r1 u2 h3) zw_497 zw_499 zw_500 zw_399 zw_498 (by decide +kernel) 0 (wM_at_0 a z u) hcl_MC rfl rfl (Nat.le_of_ble_eq_true rfl) d_MC_control_1 ⟨Nat.le_of_ble_eq_true rfl, Nat.le_of_ble_eq_true rfl⟩ rfl rfl ⟨Nat.zero_le _, Nat.zero_le _⟩ (fun H locs hI => ?_)
  refine lv_iload_n B.1 B.2.1 d_MC_control_4 rfl (lv_at hl 1 rfl) ?_
  by_cases hc4 : x1 = 0
  · rw [if_pos hc4] at hf
    refine lv_tableIn (off := 83) (tgt := 88) B.1 B.2.1 d_MC_control_5 (by rw [hc4]; decide +kernel) (by rw [hc4]; decide +kernel) (by rw [hc4]; decide +kernel) (by decide) ?_
    refine lv_aload_n B.1 B.2.1 d_MC_control_88 rfl (lv_at hl 0 rfl) ?_
    obtain ⟨r5, u6, h7, hf⟩ := zbd_some hf
    refine rx_Vv (n := 0) (As := []) (rest := []) B hI hl.1 (zc_MMC_die_0 l D z a N  u2 r5 u6 h7) zw_544 zw_546 zw_547 zw_399 zw_545 (by decide +kernel) 0 (wM_at_0 a z u2) hcl_MC rfl rfl (Nat.le_of_ble_eq_true rfl) d_MC_control_89 ⟨Nat.le_of_ble_eq_true rfl, Nat.le_of_ble_eq_true rfl⟩ rfl rfl ⟨Nat.zero_le _, Nat.zero_le _⟩ (fun H locs hI => ?_)
    refine lv_goto (tgt := 208) B.1 B.2.1 d_MC_control_92 (by decide) ?_
    exact hb208  u6 _ _ _ hf hI (lv_sub hl [] rfl)
  rw [if_neg hc4] at hf
  by_cases hc8 : x1 = 1
  · rw [if_pos hc8] at hf
    refine lv_tableIn (off := 90) (tgt := 95) B.1 B.2.1 d_MC_control_5 (by rw [hc8]; decide +kernel) (by rw [hc8]; decide +kernel) (by rw [hc8]; decide +kernel) (by decide) ?_
    refine lv_goto (tgt := 208) B.1 B.2.1 d_MC_control_95 (by decide) ?_
    exact hb208  u2 _ _ _ hf hI (lv_sub hl [] rfl)
  rw [if_neg hc8] at hf
  by_cases hc9 : x1 = 2
  · rw [if_pos hc9] at hf
    refine lv_tableIn (off := 93) (tgt := 98) B.1 B.2.1 d_MC_control_5 (by rw [hc9]; decide +kernel) (by rw [hc9]; decide +kernel) (by rw [hc9]; decide +kernel) (by decide) ?_
    exact hb98 x1 x2 u2 _ _ _ hf hI (lv_sub hl [0, 1, 2] rfl)
  rw [if_neg hc9] at hf
  by_cases hc10 : x1 = 3
  · rw [if_pos hc10] at hf
    refine lv_tableIn (off := 93) (tgt := 98) B.1 B.2.1 d_MC_control_5 (by rw [hc10]; decide +kernel) (by rw [hc10]; decide +kernel) (by rw [hc10]; decide +kernel) (by decide) ?_
    exact hb98 x1 x2 u2 _ _ _ hf hI (lv_sub hl [0, 1, 2] rfl)
  rw [if_neg hc10] at hf
  by_cases hc11 : x1 = 4
  · rw [if_pos hc11] at hf
    refine lv_tableIn (off := 93) (tgt := 98) B.1 B.2.1 d_MC_control_5 (by rw [hc11]; decide +kernel) (by rw [hc11]; decide +kernel) (by rw [hc11]; decide +kernel) (by decide) ?_
    exact hb98 x1 x2 u2 _ _ _ hf hI (lv_sub hl [0, 1, 2] rfl)
  rw [if_neg hc11] at hf
  by_cases hc12 : x1 = 5
  · rw [if_pos hc12] at hf
    refine lv_tableIn (off := 102) (tgt := 107) B.1 B.2.1 d_MC_control_5 (by rw [hc12]; decide +kernel) (by rw [hc12]; decide +kernel) (by rw [hc12]; decide +kernel) (by decide) ?_
    refine lv_aload_n B.1 B.2.1 d_MC_control_107 rfl (lv_at hl 0 rfl) ?_
    obtain ⟨r13, u14, h15, hf⟩ := zbd_some hf
    refine rx_Vv (n := 0) (As := []) (rest := []) B hI hl.1 (zc_MMC_choose_0 l D z a N  u2 r13 u14 h15) zw_577 zw_579 zw_580 zw_399 zw_578 (by decide +kernel) 0 (wM_at_0 a z u2) hcl_MC rfl rfl (Nat.le_of_ble_eq_true rfl) d_MC_control_108 ⟨Nat.le_of_ble_eq_true rfl, Nat.le_of_ble_eq_true rfl⟩ rfl rfl ⟨Nat.zero_le _, Nat.zero_le _⟩ (fun H locs hI => ?_)
    refine lv_goto (tgt := 208) B.1 B.2.1 d_MC_control_111 (by decide) ?_
    exact hb208  u14 _ _ _ hf hI (lv_sub hl [] rfl)
  rw [if_neg hc12] at hf
  by_cases hc16 : x1 = 6
  · rw [if_pos hc16] at hf
    refine lv_tableIn (off := 192) (tgt := 197) B.1 B.2.1 d_MC_control_5 (by rw [hc16]; decide +kernel) (by rw [hc16]; decide +kernel) (by rw [hc16]; decide +kernel) (by decide) ?_
    exact hb197 x2 u2 _ _ _ hf hI (lv_sub hl [0, 2] rfl)
  rw [if_neg hc16] at hf
  by_cases hc17 : x1 = 7
  · rw [if_pos hc17] at hf
    refine lv_tableIn (off := 192) (tgt := 197) B.1 B.2.1 d_MC_control_5 (by rw [hc17]; decide +kernel) (by rw [hc17]; decide +kernel) (by rw [hc17]; decide +kernel) (by decide) ?_
    exact hb197 x2 u2 _ _ _ hf hI (lv_sub hl [0, 2] rfl)
  rw [if_neg hc17] at hf
  by_cases hc18 : x1 = 8
  · rw [if_pos hc18] at hf
    refine lv_tableIn (off := 192) (tgt := 197) B.1 B.2.1 d_MC_control_5 (by rw [hc18]; decide +kernel) (by rw [hc18]; decide +kernel) (by rw [hc18]; decide +kernel) (by decide) ?_
    exact hb197 x2 u2 _ _ _ hf hI (lv_sub hl [0, 2] rfl)
  rw [if_neg hc18] at hf
  by_cases hc19 : x1 = 9
  · rw [if_pos hc19] at hf
    refine lv_tableIn (off := 192) (tgt := 197) B.1 B.2.1 d_MC_control_5 (by rw [hc19]; decide +kernel) (by rw [hc19]; decide +kernel) (by rw [hc19]; decide +kernel) (by decide) ?_
    exact hb197 x2 u2 _ _ _ hf hI (lv_sub hl [0, 2] rfl)
  rw [if_neg hc19] at hf
  by_cases hc20 : x1 = 10
  · rw [if_pos hc20] at hf
    refine lv_tableIn (off := 192) (tgt := 197) B.1 B.2.1 d_MC_control_5 (by rw [hc20]; decide +kernel) (by rw [hc20]; decide +kernel) (by rw [hc20]; decide +kernel) (by decide) ?_
    exact hb197 x2 u2 _ _ _ hf hI (lv_sub hl [0, 2] rfl)
  rw [if_neg hc20] at hf
  by_cases hc21 : x1 = 11
  · rw [if_pos hc21] at hf
    refine lv_tableIn (off := 109) (tgt := 114) B.1 B.2.1 d_MC_control_5 (by rw [hc21]; decide +kernel) (by rw [hc21]; decide +kernel) (by rw [hc21]; decide +kernel) (by decide) ?_
    refine lv_aload_n B.1 B.2.1 d_MC_control_114 rfl (lv_at hl 0 rfl) ?_
    obtain ⟨r22, u23, h24, hf⟩ := zbd_some hf
    refine rx_Vv (n := 0) (As := []) (rest := []) B hI hl.1 (zc_MMC_end_0 l D z a N  u2 r22 u23 h24) zw_573 zw_575 zw_576 zw_399 zw_574 (by decide +kernel) 0 (wM_at_0 a z u2) hcl_MC rfl rfl (Nat.le_of_ble_eq_true rfl) d_MC_control_115 ⟨Nat.le_of_ble_eq_true rfl, Nat.le_of_ble_eq_true rfl⟩ rfl rfl ⟨Nat.zero_le _, Nat.zero_le _⟩ (fun H locs hI => ?_)
    refine lv_goto (tgt := 208) B.1 B.2.1 d_MC_control_118 (by decide) ?_
    exact hb208  u23 _ _ _ hf hI (lv_sub hl [] rfl)
  rw [if_neg hc21] at hf
  by_cases hc25 : x1 = 12
  · rw [if_pos hc25] at hf
    refine lv_tableIn (off := 116) (tgt := 121) B.1 B.2.1 d_MC_control_5 (by rw [hc25]; decide +kernel) (by rw [hc25]; decide +kernel) (by rw [hc25]; decide +kernel) (by decide) ?_
    refine lv_aload_n B.1 B.2.1 d_MC_control_121 rfl (lv_at hl 0 rfl) ?_
    refine lv_iload_n B.1 B.2.1 d_MC_control_122 rfl (lv_at hl 2 rfl) ?_
    obtain ⟨r26, u27, h28, hf⟩ := zbd_some hf
    refine rx_Vv (n := 1) (As := [.int x2]) (rest := []) B hI hl.1 (zc_MMC_wantLabel_0 l D z a N x2 u2 r26 u27 h28) zw_560 zw_562 zw_563 zw_399 zw_561 (by decide +kernel) 0 (wM_at_0 a z u2) hcl_MC rfl rfl (Nat.le_of_ble_eq_true rfl) d_MC_control_123 ⟨Nat.le_of_ble_eq_true rfl, Nat.le_of_ble_eq_true rfl⟩ rfl rfl ⟨Nat.zero_le _, Nat.zero_le _⟩ (fun H locs hI => ?_)
    refine lv_aload_n B.1 B.2.1 d_MC_control_126 rfl (lv_at hl 0 rfl) ?_
    obtain ⟨r29, u30, h31, hf⟩ := zbd_some hf
    refine rx_Vv (n := 0) (As := []) (rest := []) B hI hl.1 (zc_MMC_takeWanted_0 l D z a N  u27 r29 u30 h31) zw_515 zw_517 zw_518 zw_399 zw_516 (by decide +kernel) 0 (wM_at_0 a z u27) hcl_MC rfl rfl (Nat.le_of_ble_eq_true rfl) d_MC_control_127 ⟨Nat.le_of_ble_eq_true rfl, Nat.le_of_ble_eq_true rfl⟩ rfl rfl ⟨Nat.zero_le _, Nat.zero_le _⟩ (fun H locs hI => ?_)
    refine lv_aload_n B.1 B.2.1 d_MC_control_130 rfl (lv_at hl 0 rfl) ?_
    obtain ⟨r32, u33, h34, hf⟩ := zbd_some hf
    refine rx_Vv (n := 0) (As := []) (rest := []) B hI hl.1 (zc_MMC_die_0 l D z a N  u30 r32 u33 h34) zw_544 zw_546 zw_547 zw_399 zw_545 (by decide +kernel) 0 (wM_at_0 a z u30) hcl_MC rfl rfl (Nat.le_of_ble_eq_true rfl) d_MC_control_131 ⟨Nat.le_of_ble_eq_true rfl, Nat.le_of_ble_eq_true rfl⟩ rfl rfl ⟨Nat.zero_le _, Nat.zero_le _⟩ (fun H locs hI => ?_)
    refine lv_goto (tgt := 208) B.1 B.2.1 d_MC_control_134 (by decide) ?_
    exact hb208  u33 _ _ _ hf hI (lv_sub hl [] rfl)
  rw [if_neg hc25] at hf
  by_cases hc35 : x1 = 13
  · rw [if_pos hc35] at hf
    refine lv_tableIn (off := 132) (tgt := 137) B.1 B.2.1 d_MC_control_5 (by rw [hc35]; decide +kernel) (by rw [hc35]; decide +kernel) (by rw [hc35]; decide +kernel) (by decide) ?_
    refine lv_aload_n B.1 B.2.1 d_MC_control_137 rfl (lv_at hl 0 rfl) ?_
    refine lv_bipush (v := 127) B.1 B.2.1 d_MC_control_138 (by decide) ?_
    obtain ⟨r36, u37, h38, hf⟩ := zbd_some hf
    refine rx_Vv (n := 1) (As := [.int 127]) (rest := []) B hI hl.1 (zc_MMC_take_0 l D z a N 127 u2 r36 u37 h38) zw_511 zw_513 zw_514 zw_399 zw_512 (by decide +kernel) 0 (wM_at_0 a z u2) hcl_MC rfl rfl (Nat.le_of_ble_eq_true rfl) d_MC_control_140 ⟨Nat.le_of_ble_eq_true rfl, Nat.le_of_ble_eq_true rfl⟩ rfl rfl ⟨Nat.zero_le _, Nat.zero_le _⟩ (fun H locs hI => ?_)
    refine lv_aload_n B.1 B.2.1 d_MC_control_143 rfl (lv_at hl 0 rfl) ?_
    refine lv_iload_n B.1 B.2.1 d_MC_control_144 rfl (lv_at hl 2 rfl) ?_
    obtain ⟨r39, u40, h41, hf⟩ := zbd_some hf
    refine rx_Vv (n := 1) (As := [.int x2]) (rest := []) B hI hl.1 (zc_MMC_wantLabel_0 l D z a N x2 u37 r39 u40 h41) zw_560 zw_562 zw_563 zw_399 zw_561 (by decide +kernel) 0 (wM_at_0 a z u37) hcl_MC rfl rfl (Nat.le_of_ble_eq_true rfl) d_MC_control_145 ⟨Nat.le_of_ble_eq_true rfl, Nat.le_of_ble_eq_true rfl⟩ rfl rfl ⟨Nat.zero_le _, Nat.zero_le _⟩ (fun H locs hI => ?_)
    refine lv_aload_n B.1 B.2.1 d_MC_control_148 rfl (lv_at hl 0 rfl) ?_
    obtain ⟨r42, u43, h44, hf⟩ := zbd_some hf
    refine rx_Vv (n := 0) (As := []) (rest := []) B hI hl.1 (zc_MMC_takeWanted_0 l D z a N  u40 r42 u43 h44) zw_515 zw_517 zw_518 zw_399 zw_516 (by decide +kernel) 0 (wM_at_0 a z u40) hcl_MC rfl rfl (Nat.le_of_ble_eq_true rfl) d_MC_control_149 ⟨Nat.le_of_ble_eq_true rfl, Nat.le_of_ble_eq_true rfl⟩ rfl rfl ⟨Nat.zero_le _, Nat.zero_le _⟩ (fun H locs hI => ?_)
    refine lv_aload_n B.1 B.2.1 d_MC_control_152 rfl (lv_at hl 0 rfl) ?_
    obtain ⟨r45, u46, h47, hf⟩ := zbd_some hf
    refine rx_Vv (n := 0) (As := []) (rest := []) B hI hl.1 (zc_MMC_giveWanted_0 l D z a N  u43 r45 u46 h47) zw_523 zw_525 zw_526 zw_399 zw_524 (by decide +kernel) 0 (wM_at_0 a z u43) hcl_MC rfl rfl (Nat.le_of_ble_eq_true rfl) d_MC_control_153 ⟨Nat.le_of_ble_eq_true rfl, Nat.le_of_ble_eq_true rfl⟩ rfl rfl ⟨Nat.zero_le _, Nat.zero_le _⟩ (fun H locs hI => ?_)
    refine lv_goto (tgt := 208) B.1 B.2.1 d_MC_control_156 (by decide) ?_
    exact hb208  u46 _ _ _ hf hI (lv_sub hl [] rfl)
  rw [if_neg hc35] at hf
  by_cases hc48 : x1 = 14
  · rw [if_pos hc48] at hf
    refine lv_tableIn (off := 154) (tgt := 159) B.1 B.2.1 d_MC_control_5 (by rw [hc48]; decide +kernel) (by rw [hc48]; decide +kernel) (by rw [hc48]; decide +kernel) (by decide) ?_
    refine lv_aload_n B.1 B.2.1 d_MC_control_159 rfl (lv_at hl 0 rfl) ?_
    refine lv_iload_n B.1 B.2.1 d_MC_control_160 rfl (lv_at hl 2 rfl) ?_
    obtain ⟨r49, u50, h51, hf⟩ := zbd_some hf
    refine rx_Vv (n := 1) (As := [.int x2]) (rest := []) B hI hl.1 (zc_MMC_table_0 l D z a N x2 u2 r49 u50 h51) zw_565 zw_567 zw_568 zw_399 zw_566 (by decide +kernel) 0 (wM_at_0 a z u2) hcl_MC rfl rfl (Nat.le_of_ble_eq_true rfl) d_MC_control_161 ⟨Nat.le_of_ble_eq_true rfl, Nat.le_of_ble_eq_true rfl⟩ rfl rfl ⟨Nat.zero_le _, Nat.zero_le _⟩ (fun H locs hI => ?_)
    refine lv_goto (tgt := 208) B.1 B.2.1 d_MC_control_164 (by decide) ?_
    exact hb208  u50 _ _ _ hf hI (lv_sub hl [] rfl)
  rw [if_neg hc48] at hf
  by_cases hc52 : x1 = 15
  · rw [if_pos hc52] at hf
    refine lv_tableIn (off := 162) (tgt := 167) B.1 B.2.1 d_MC_control_5 (by rw [hc52]; decide +kernel) (by rw [hc52]; decide +kernel) (by rw [hc52]; decide +kernel) (by decide) ?_
    refine lv_aload_n B.1 B.2.1 d_MC_control_167 rfl (lv_at hl 0 rfl) ?_
    refine lv_iconst (v := 0) B.1 B.2.1 d_MC_control_168 (by decide) ?_
    refine lv_iconst (v := 1) B.1 B.2.1 d_MC_control_169 (by decide) ?_
    obtain ⟨r53, u54, h55, hf⟩ := zbd_some hf
    refine rx_Vv (n := 2) (As := [.int 0, .int 1]) (rest := []) B hI hl.1 (zc_MMC_wantBlock_0 l D z a N 0 1 u2 r53 u54 h55) zw_540 zw_542 zw_543 zw_399 zw_541 (by decide +kernel) 0 (wM_at_0 a z u2) hcl_MC rfl rfl (Nat.le_of_ble_eq_true rfl) d_MC_control_170 ⟨Nat.le_of_ble_eq_true rfl, Nat.le_of_ble_eq_true rfl⟩ rfl rfl ⟨Nat.zero_le _, Nat.zero_le _⟩ (fun H locs hI => ?_)
    refine lv_aload_n B.1 B.2.1 d_MC_control_173 rfl (lv_at hl 0 rfl) ?_
    obtain ⟨r56, u57, h58, hf⟩ := zbd_some hf
    refine rx_Vv (n := 0) (As := []) (rest := []) B hI hl.1 (zc_MMC_takeWanted_0 l D z a N  u54 r56 u57 h58) zw_515 zw_517 zw_518 zw_399 zw_516 (by decide +kernel) 0 (wM_at_0 a z u54) hcl_MC rfl rfl (Nat.le_of_ble_eq_true rfl) d_MC_control_174 ⟨Nat.le_of_ble_eq_true rfl, Nat.le_of_ble_eq_true rfl⟩ rfl rfl ⟨Nat.zero_le _, Nat.zero_le _⟩ (fun H locs hI => ?_)
    refine lv_aload_n B.1 B.2.1 d_MC_control_177 rfl (lv_at hl 0 rfl) ?_
    obtain ⟨r59, u60, h61, hf⟩ := zbd_some hf
    refine rx_Vv (n := 0) (As := []) (rest := []) B hI hl.1 (zc_MMC_die_0 l D z a N  u57 r59 u60 h61) zw_544 zw_546 zw_547 zw_399 zw_545 (by decide +kernel) 0 (wM_at_0 a z u57) hcl_MC rfl rfl (Nat.le_of_ble_eq_true rfl) d_MC_control_178 ⟨Nat.le_of_ble_eq_true rfl, Nat.le_of_ble_eq_true rfl⟩ rfl rfl ⟨Nat.zero_le _, Nat.zero_le _⟩ (fun H locs hI => ?_)
    refine lv_goto (tgt := 208) B.1 B.2.1 d_MC_control_181 (by decide) ?_
    exact hb208  u60 _ _ _ hf hI (lv_sub hl [] rfl)
  rw [if_neg hc52] at hf
  by_cases hc62 : x1 = 16
  · rw [if_pos hc62] at hf
    refine lv_tableIn (off := 179) (tgt := 184) B.1 B.2.1 d_MC_control_5 (by rw [hc62]; decide +kernel) (by rw [hc62]; decide +kernel) (by rw [hc62]; decide +kernel) (by decide) ?_
    refine lv_aload_n B.1 B.2.1 d_MC_control_184 rfl (lv_at hl 0 rfl) ?_
    refine lv_aload_n B.1 B.2.1 d_MC_control_185 rfl (lv_at hl 0 rfl) ?_
    refine lv_iconst (v := 0) B.1 B.2.1 d_MC_control_186 (by decide) ?_
    refine lv_iload_n B.1 B.2.1 d_MC_control_187 rfl (lv_at hl 2 rfl) ?_
    obtain ⟨r63, u64, h65, hf⟩ := zbd_some hf
    refine rx_Vi (n := 2) (As := [.int 0, .int x2]) (rest := [.ref (a 0)]) B hI hl.1 (zc_MMC_attribute_0 l D z a N 0 x2 u2 r63 u64 h65) zw_480 zw_482 zw_483 zw_399 zw_481 (by decide +kernel) 0 (wM_at_0 a z u2) hcl_MC rfl rfl (Nat.le_of_ble_eq_true rfl) d_MC_control_188 ⟨Nat.le_of_ble_eq_true rfl, Nat.le_of_ble_eq_true rfl⟩ rfl rfl ⟨Nat.zero_le _, Nat.zero_le _⟩ (fun H locs hI => ?_)
    obtain ⟨r66, u67, h68, hf⟩ := zbd_some hf
    refine rx_Vv (n := 1) (As := [.int r63]) (rest := []) B hI hl.1 (zc_MMC_call_0 l D z a N r63 u64 r66 u67 h68) zw_527 zw_529 zw_530 zw_399 zw_528 (by decide +kernel) 0 (wM_at_0 a z u64) hcl_MC rfl rfl (Nat.le_of_ble_eq_true rfl) d_MC_control_191 ⟨Nat.le_of_ble_eq_true rfl, Nat.le_of_ble_eq_true rfl⟩ rfl rfl ⟨Nat.zero_le _, Nat.zero_le _⟩ (fun H locs hI => ?_)
    refine lv_goto (tgt := 208) B.1 B.2.1 d_MC_control_194 (by decide) ?_
    exact hb208  u67 _ _ _ hf hI (lv_sub hl [] rfl)
  rw [if_neg hc62] at hf
  have ghc4 := lv_neT (a := 0) hc4 (by decide)
  have ghc8 := lv_neT (a := 1) hc8 (by decide)
  have ghc9 := lv_neT (a := 2) hc9 (by decide)
  have ghc10 := lv_neT (a := 3) hc10 (by decide)
  have ghc11 := lv_neT (a := 4) hc11 (by decide)
  have ghc12 := lv_neT (a := 5) hc12 (by decide)
  have ghc16 := lv_neT (a := 6) hc16 (by decide)
  have ghc17 := lv_neT (a := 7) hc17 (by decide)
  have ghc18 := lv_neT (a := 8) hc18 (by decide)
  have ghc19 := lv_neT (a := 9) hc19 (by decide)
  have ghc20 := lv_neT (a := 10) hc20 (by decide)
  have ghc21 := lv_neT (a := 11) hc21 (by decide)
  have ghc25 := lv_neT (a := 12) hc25 (by decide)
  have ghc35 := lv_neT (a := 13) hc35 (by decide)
  have ghc48 := lv_neT (a := 14) hc48 (by decide)
  have ghc52 := lv_neT (a := 15) hc52 (by decide)
  have ghc62 := lv_neT (a := 16) hc62 (by decide)
  refine lv_tableOut (tgt := 197) B.1 B.2.1 d_MC_control_5 (by omega) (by decide) ?_
  exact hb197 x2 u2 _ _ _ hf hI (lv_sub hl [0, 2] rfl)
set_option maxHeartbeats 4000000 in
set_option maxRecDepth 100000 in
theorem zc_MMC_one_0 (l : Launch) (D : va_G) (z : zZ) (a : Nat → Nat) (N : Nat) (x1 : Int32) (x2 : Int32) (u : zU) (r : Unit) (u1 : zU) (hf : zf_MMC_one_0 N x1 x2 u = some (r, u1)) : zMet l D z y_MC_one (.code y_MC_one b_MC_one 3 none) { frames := 2, cells := 0, slots := 0, locals := 43 } [.ref (a 0), .int x1, .int x2] (wM a z u) (zQv D (wM a z u1)) := by
  refine zM_v (own := R_MC) [.ref (a 0), .int x1, .int x2] (wM a z u) (wM a z u1) (by decide) rfl (Nat.le_of_ble_eq_true rfl) ?_
  intro p e s m args below meth c A ls B hr hlk hI hl
  have hl : lv_has ls 3 [(0, .ref (a 0)), (1, .int x1), (2, .int x2)] := hl
  revert hf
  revert hI hl
  intro hI hl hf
  unfold zf_MMC_one_0 at hf
  refine lv_aload_n B.1 B.2.1 d_MC_one_0 rfl (lv_at hl 0 rfl) ?_
  refine lv_iload_n B.1 B.2.1 d_MC_one_1 rfl (lv_at hl 1 rfl) ?_
  obtain ⟨r1, u2, h3, hf⟩ := zbd_some hf
  refine rx_Vv (n := 1) (As := [.int x1]) (rest := []) B hI hl.1 (zc_MMC_take_0 l D z a N x1 u r1 u2 h3) zw_511 zw_513 zw_514 zw_399 zw_512 (by decide +kernel) 0 (wM_at_0 a z u) hcl_MC rfl rfl (Nat.le_of_ble_eq_true rfl) d_MC_one_2 ⟨Nat.le_of_ble_eq_true rfl, Nat.le_of_ble_eq_true rfl⟩ rfl rfl ⟨Nat.zero_le _, Nat.zero_le _⟩ (fun H locs hI => ?_)
  refine lv_aload_n B.1 B.2.1 d_MC_one_5 rfl (lv_at hl 0 rfl) ?_
  refine lv_iload_n B.1 B.2.1 d_MC_one_6 rfl (lv_at hl 2 rfl) ?_
  obtain ⟨r4, u5, h6, hf⟩ := zbd_some hf
  refine rx_Vv (n := 1) (As := [.int x2]) (rest := []) B hI hl.1 (zc_MMC_give_0 l D z a N x2 u2 r4 u5 h6) zw_519 zw_521 zw_522 zw_399 zw_520 (by decide +kernel) 0 (wM_at_0 a z u2) hcl_MC rfl rfl (Nat.le_of_ble_eq_true rfl) d_MC_one_7 ⟨Nat.le_of_ble_eq_true rfl, Nat.le_of_ble_eq_true rfl⟩ rfl rfl ⟨Nat.zero_le _, Nat.zero_le _⟩ (fun H locs hI => ?_)
  obtain ⟨e7, e8⟩ := zrt hf
  exact zr_v (wM a z) B hI hr hlk e8 d_MC_one_10
set_option maxHeartbeats 4000000 in
set_option maxRecDepth 100000 in
theorem zc_MMC_takeTwo_0 (l : Launch) (D : va_G) (z : zZ) (a : Nat → Nat) (N : Nat) (x1 : Int32) (x2 : Int32) (u : zU) (r : Unit) (u1 : zU) (hf : zf_MMC_takeTwo_0 N x1 x2 u = some (r, u1)) : zMet l D z y_MC_takeTwo (.code y_MC_takeTwo b_MC_takeTwo 3 none) { frames := 2, cells := 0, slots := 0, locals := 43 } [.ref (a 0), .int x1, .int x2] (wM a z u) (zQv D (wM a z u1)) := by
  refine zM_v (own := R_MC) [.ref (a 0), .int x1, .int x2] (wM a z u) (wM a z u1) (by decide) rfl (Nat.le_of_ble_eq_true rfl) ?_
  intro p e s m args below meth c A ls B hr hlk hI hl
  have hl : lv_has ls 3 [(0, .ref (a 0)), (1, .int x1), (2, .int x2)] := hl
  revert hf
  revert hI hl
  intro hI hl hf
  unfold zf_MMC_takeTwo_0 at hf
  refine lv_aload_n B.1 B.2.1 d_MC_takeTwo_0 rfl (lv_at hl 0 rfl) ?_
  refine lv_iload_n B.1 B.2.1 d_MC_takeTwo_1 rfl (lv_at hl 2 rfl) ?_
  obtain ⟨r1, u2, h3, hf⟩ := zbd_some hf
  refine rx_Vv (n := 1) (As := [.int x2]) (rest := []) B hI hl.1 (zc_MMC_take_0 l D z a N x2 u r1 u2 h3) zw_511 zw_513 zw_514 zw_399 zw_512 (by decide +kernel) 0 (wM_at_0 a z u) hcl_MC rfl rfl (Nat.le_of_ble_eq_true rfl) d_MC_takeTwo_2 ⟨Nat.le_of_ble_eq_true rfl, Nat.le_of_ble_eq_true rfl⟩ rfl rfl ⟨Nat.zero_le _, Nat.zero_le _⟩ (fun H locs hI => ?_)
  refine lv_aload_n B.1 B.2.1 d_MC_takeTwo_5 rfl (lv_at hl 0 rfl) ?_
  refine lv_iload_n B.1 B.2.1 d_MC_takeTwo_6 rfl (lv_at hl 1 rfl) ?_
  obtain ⟨r4, u5, h6, hf⟩ := zbd_some hf
  refine rx_Vv (n := 1) (As := [.int x1]) (rest := []) B hI hl.1 (zc_MMC_take_0 l D z a N x1 u2 r4 u5 h6) zw_511 zw_513 zw_514 zw_399 zw_512 (by decide +kernel) 0 (wM_at_0 a z u2) hcl_MC rfl rfl (Nat.le_of_ble_eq_true rfl) d_MC_takeTwo_7 ⟨Nat.le_of_ble_eq_true rfl, Nat.le_of_ble_eq_true rfl⟩ rfl rfl ⟨Nat.zero_le _, Nat.zero_le _⟩ (fun H locs hI => ?_)
  obtain ⟨e7, e8⟩ := zrt hf
  exact zr_v (wM a z) B hI hr hlk e8 d_MC_takeTwo_10
