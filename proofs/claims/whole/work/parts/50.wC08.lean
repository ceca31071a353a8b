set_option maxHeartbeats 4000000 in
set_option maxRecDepth 100000 in
theorem zc_CCStack_passLabel_31 (l : Launch) (D : va_G) (z : zZ) (a : Nat → Nat) (N : Nat) (x1 : Int32) (x2 : Int32) (u : zU) (r : Unit) (u1 : zU) (hf : zf_CCStack_passLabel_31 N x1 x2 u = some (r, u1)) : zMet l D z y_CStack_passLabel (.code y_CStack_passLabel b_CStack_passLabel 7 none) { frames := 2, cells := 0, slots := 0, locals := 44 } [.ref (a 31), .int x1, .int x2] (wC a z u) (zQv D (wC a z u1)) := by
  refine zM_v (own := R_CStack) [.ref (a 31), .int x1, .int x2] (wC a z u) (wC a z u1) (by decide) rfl (Nat.le_of_ble_eq_true rfl) ?_
  intro p e s m args below meth c A ls B hr hlk hI hl
  have hl : lv_has ls 7 [(0, .ref (a 31)), (1, .int x1), (2, .int x2)] := hl
  revert hf
  revert hI hl
  have hb41 : ∀  (u : zU) (H : Heap) (locs : List Loc) (ls : Array Slot), zf_CCStack_passLabel_31_b41 N   u = some (r, u1) → iw D A s (wC a z u) H locs → lv_has ls 7 [(0, .ref (a 31))] → W p l e ({ frames := 2, cells := 0, slots := 0, locals := 44 } : Room) s m args below meth c H locs 0 0 (MQ below (zQv D (wC a z u1) A) args s 0 0 A) (F0 m 41 ls []) := by
    intro  u H locs ls hf hI hl
    unfold zf_CCStack_passLabel_31_b41 at hf
    refine lv_aload_n B.1 B.2.1 d_CStack_passLabel_41 rfl (lv_at hl 0 rfl) ?_
    refine lv_iconst (v := 5) B.1 B.2.1 d_CStack_passLabel_42 (by decide) ?_
    obtain ⟨r1, u2, h3, hf⟩ := zbd_some hf
    refine rx_Vv (n := 1) (As := [.int 5]) (rest := []) B hI hl.1 (zc_CCStack_fail_31 l D z a N 5 u r1 u2 h3) zw_219 zw_221 zw_222 zw_82 zw_220 (by decide +kernel) 31 (wC_at_31 a z u) hcl_CStack rfl rfl (Nat.le_of_ble_eq_true rfl) d_CStack_passLabel_43 ⟨Nat.le_of_ble_eq_true rfl, Nat.le_of_ble_eq_true rfl⟩ rfl rfl ⟨Nat.zero_le _, Nat.zero_le _⟩ (fun H locs hI => ?_)
    obtain ⟨e4, e5⟩ := zrt hf
    exact zr_v (wC a z) B hI hr hlk e5 d_CStack_passLabel_46
  have hb86 : ∀ (n : Nat) (x5 : Int32) (x6 : Int32) (u : zU) (H : Heap) (locs : List Loc) (ls : Array Slot), zf_CCStack_passLabel_31_b86 N  n x5 x6 u = some (r, u1) → iw D A s (wC a z u) H locs → lv_has ls 7 [(0, .ref (a 31)), (5, .int x5), (6, .int x6)] → W p l e ({ frames := 2, cells := 0, slots := 0, locals := 44 } : Room) s m args below meth c H locs 0 0 (MQ below (zQv D (wC a z u1) A) args s 0 0 A) (F0 m 86 ls []) := by
    intro n86
    induction n86 with
    | zero => intro x5 x6 u H locs ls hf; exact absurd hf (by rw [zf_CCStack_passLabel_31_b86]; exact fun h => by cases h)
    | succ n86 ih86 =>
      intro x5 x6 u H locs ls hf hI hl
      rw [zf_CCStack_passLabel_31_b86] at hf
      refine lv_iload B.1 B.2.1 d_CStack_passLabel_86 (lv_at hl 2 rfl) ?_
      refine lv_iload B.1 B.2.1 d_CStack_passLabel_88 (lv_at hl 1 rfl) ?_
      refine lv_icmp_ge (tgt := 110) B.1 B.2.1 d_CStack_passLabel_90 (by decide) (fun hc1 => ?_) (fun hc1 => ?_)
      · rw [if_pos hc1] at hf
        obtain ⟨e2, e3⟩ := zrt hf
        exact zr_v (wC a z) B hI hr hlk e3 d_CStack_passLabel_110
      · rw [if_neg hc1] at hf
        refine lv_aload_n B.1 B.2.1 d_CStack_passLabel_93 rfl (lv_at hl 0 rfl) ?_
        refine lv_aload_n B.1 B.2.1 d_CStack_passLabel_94 rfl (lv_at hl 0 rfl) ?_
        refine rx_get (v := .ref (a 37)) B hI hcl_CStack hin_CStack 31 (wC_at_31 a z u) 6 (by decide) hf_CStack_6 zw_320 rfl d_CStack_passLabel_95 ?_
        refine lv_iload B.1 B.2.1 d_CStack_passLabel_98 (lv_at hl 2 rfl) ?_
        obtain ⟨hi4, hf⟩ := zck_some hf
        refine rx_iald B hI 37 (wC_at_37 a z u) hi4 d_CStack_passLabel_100 ?_
        obtain ⟨r5, u6, h7, hf⟩ := zbd_some hf
        refine rx_Vv (n := 1) (As := [.int (ga u 23 x6)]) (rest := []) B hI hl.1 (zc_CCStack_give_31 l D z a N (ga u 23 x6) u r5 u6 h7) zw_274 zw_233 zw_234 zw_82 zw_232 (by decide +kernel) 31 (wC_at_31 a z u) hcl_CStack rfl rfl (Nat.le_of_ble_eq_true rfl) d_CStack_passLabel_101 ⟨Nat.le_of_ble_eq_true rfl, Nat.le_of_ble_eq_true rfl⟩ rfl rfl ⟨Nat.zero_le _, Nat.zero_le _⟩ (fun H locs hI => ?_)
        refine lv_iinc (v := (x6 + 1)) (lv' := [(6, .int (x6 + 1)), (0, .ref (a 31)), (5, .int x5)]) B.1 B.2.1 d_CStack_passLabel_104 hl (k := 2) rfl (by rfl) (by decide) rfl (fun ls hl => ?_)
        refine lv_goto (tgt := 86) B.1 B.2.1 d_CStack_passLabel_107 (by decide) ?_
        exact ih86 x5 (x6 + 1) u6 _ _ _ hf hI (lv_sub hl [1, 2, 0] rfl)
  have hb83 : ∀ (x5 : Int32) (u : zU) (H : Heap) (locs : List Loc) (ls : Array Slot), zf_CCStack_passLabel_31_b83 N  x5 u = some (r, u1) → iw D A s (wC a z u) H locs → lv_has ls 7 [(0, .ref (a 31)), (5, .int x5)] → W p l e ({ frames := 2, cells := 0, slots := 0, locals := 44 } : Room) s m args below meth c H locs 0 0 (MQ below (zQv D (wC a z u1) A) args s 0 0 A) (F0 m 83 ls []) := by
    intro x5 u H locs ls hf hI hl
    unfold zf_CCStack_passLabel_31_b83 at hf
    refine lv_iconst (v := 0) B.1 B.2.1 d_CStack_passLabel_83 (by decide) ?_
    refine lv_istore (lv' := [(6, .int 0), (0, .ref (a 31)), (5, .int x5)]) B.1 B.2.1 d_CStack_passLabel_84 hl (by decide) rfl (fun ls hl => ?_)
    exact hb86 N x5 0 u _ _ _ hf hI (lv_sub hl [1, 2, 0] rfl)
  have hb53a : ∀ (n : Nat) (x4 : Int32) (x5 : Int32) (x6 : Int32) (u : zU) (H : Heap) (locs : List Loc) (ls : Array Slot), zf_CCStack_passLabel_31_b53a N  n x4 x5 x6 u = some (r, u1) → iw D A s (wC a z u) H locs → lv_has ls 7 [(0, .ref (a 31)), (3, .ref (a 2)), (4, .int x4), (5, .int x5), (6, .int x6)] → W p l e ({ frames := 2, cells := 0, slots := 0, locals := 44 } : Room) s m args below meth c H locs 0 0 (MQ below (zQv D (wC a z u1) A) args s 0 0 A) (F0 m 53 ls []) := by
    intro n53
    induction n53 with
    | zero => intro x4 x5 x6 u H locs ls hf; exact absurd hf (by rw [zf_CCStack_passLabel_31_b53a]; exact fun h => by cases h)
    | succ n53 ih53 =>
      intro x4 x5 x6 u H locs ls hf hI hl
      rw [zf_CCStack_passLabel_31_b53a] at hf
      refine lv_iload B.1 B.2.1 d_CStack_passLabel_53 (lv_at hl 4 rfl) ?_
      refine lv_if_lt (tgt := 83) B.1 B.2.1 d_CStack_passLabel_55 (by decide) (fun hc1 => ?_) (fun hc1 => ?_)
      · rw [if_pos hc1] at hf
        exact hb83 x5 u _ _ _ hf hI (lv_sub hl [0, 3] rfl)
      · rw [if_neg hc1] at hf
        refine lv_aload_n B.1 B.2.1 d_CStack_passLabel_58 rfl (lv_at hl 0 rfl) ?_
        refine rx_get (v := .ref (a 37)) B hI hcl_CStack hin_CStack 31 (wC_at_31 a z u) 6 (by decide) hf_CStack_6 zw_320 rfl d_CStack_passLabel_59 ?_
        refine lv_iload B.1 B.2.1 d_CStack_passLabel_62 (lv_at hl 4 rfl) ?_
        refine lv_aload_n B.1 B.2.1 d_CStack_passLabel_64 rfl (lv_at hl 0 rfl) ?_
        refine lv_aload_n B.1 B.2.1 d_CStack_passLabel_65 rfl (lv_at hl 1 rfl) ?_
        refine lv_iload B.1 B.2.1 d_CStack_passLabel_66 (lv_at hl 2 rfl) ?_
        refine lv_iload B.1 B.2.1 d_CStack_passLabel_68 (lv_at hl 4 rfl) ?_
        obtain ⟨r2, u3, h4, hf⟩ := zbd_some hf
        refine rx_Vi (n := 2) (As := [.int x4, .int x6]) (rest := [.ref (a 31), .int x6, .ref (a 37)]) B hI hl.1 (zc_CCRows_partOf_2 l D z a N x4 x6 u r2 u3 h4) zw_247 zw_111 zw_112 zw_25 zw_110 (by decide +kernel) 2 (wC_at_2 a z u) hcl_CRows rfl rfl (Nat.le_of_ble_eq_true rfl) d_CStack_passLabel_70 ⟨Nat.le_of_ble_eq_true rfl, Nat.le_of_ble_eq_true rfl⟩ rfl rfl ⟨Nat.zero_le _, Nat.zero_le _⟩ (fun H locs hI => ?_)
        obtain ⟨r5, u6, h7, hf⟩ := zbd_some hf
        refine rx_Vi (n := 1) (As := [.int r2]) (rest := [.int x6, .ref (a 37)]) B hI hl.1 (zc_CCStack_take_31 l D z a N r2 u3 r5 u6 h7) zw_223 zw_225 zw_226 zw_82 zw_224 (by decide +kernel) 31 (wC_at_31 a z u3) hcl_CStack rfl rfl (Nat.le_of_ble_eq_true rfl) d_CStack_passLabel_73 ⟨Nat.le_of_ble_eq_true rfl, Nat.le_of_ble_eq_true rfl⟩ rfl rfl ⟨Nat.zero_le _, Nat.zero_le _⟩ (fun H locs hI => ?_)
        obtain ⟨hi8, hf⟩ := zck_some hf
        refine rx_iast B hI 37 (wC_at_37 a z u6) hi8 (wC_sa_23 a z u6 x6 r5) d_CStack_passLabel_76 (fun H locs hI => ?_)
        refine lv_iinc (v := (x6 + (-1))) (lv' := [(6, .int (x6 + (-1))), (0, .ref (a 31)), (3, .ref (a 2)), (4, .int x4), (5, .int x5)]) B.1 B.2.1 d_CStack_passLabel_77 hl (k := 4) rfl (by rfl) (by decide) rfl (fun ls hl => ?_)
        refine lv_goto (tgt := 53) B.1 B.2.1 d_CStack_passLabel_80 (by decide) ?_
        exact ih53 x4 x5 (x6 + (-1)) (sa u6 23 x6 r5) _ _ _ hf hI (lv_sub hl [1, 2, 3, 4, 0] rfl)
  have hb53b : ∀ (n : Nat) (x4 : Int32) (x5 : Int32) (x6 : Int32) (u : zU) (H : Heap) (locs : List Loc) (ls : Array Slot), zf_CCStack_passLabel_31_b53b N  n x4 x5 x6 u = some (r, u1) → iw D A s (wC a z u) H locs → lv_has ls 7 [(0, .ref (a 31)), (3, .ref (a 5)), (4, .int x4), (5, .int x5), (6, .int x6)] → W p l e ({ frames := 2, cells := 0, slots := 0, locals := 44 } : Room) s m args below meth c H locs 0 0 (MQ below (zQv D (wC a z u1) A) args s 0 0 A) (F0 m 53 ls []) := by
    intro n53
    induction n53 with
    | zero => intro x4 x5 x6 u H locs ls hf; exact absurd hf (by rw [zf_CCStack_passLabel_31_b53b]; exact fun h => by cases h)
    | succ n53 ih53 =>
      intro x4 x5 x6 u H locs ls hf hI hl
      rw [zf_CCStack_passLabel_31_b53b] at hf
      refine lv_iload B.1 B.2.1 d_CStack_passLabel_53 (lv_at hl 4 rfl) ?_
      refine lv_if_lt (tgt := 83) B.1 B.2.1 d_CStack_passLabel_55 (by decide) (fun hc1 => ?_) (fun hc1 => ?_)
      · rw [if_pos hc1] at hf
        exact hb83 x5 u _ _ _ hf hI (lv_sub hl [0, 3] rfl)
      · rw [if_neg hc1] at hf
        refine lv_aload_n B.1 B.2.1 d_CStack_passLabel_58 rfl (lv_at hl 0 rfl) ?_
        refine rx_get (v := .ref (a 37)) B hI hcl_CStack hin_CStack 31 (wC_at_31 a z u) 6 (by decide) hf_CStack_6 zw_320 rfl d_CStack_passLabel_59 ?_
        refine lv_iload B.1 B.2.1 d_CStack_passLabel_62 (lv_at hl 4 rfl) ?_
        refine lv_aload_n B.1 B.2.1 d_CStack_passLabel_64 rfl (lv_at hl 0 rfl) ?_
        refine lv_aload_n B.1 B.2.1 d_CStack_passLabel_65 rfl (lv_at hl 1 rfl) ?_
        refine lv_iload B.1 B.2.1 d_CStack_passLabel_66 (lv_at hl 2 rfl) ?_
        refine lv_iload B.1 B.2.1 d_CStack_passLabel_68 (lv_at hl 4 rfl) ?_
        obtain ⟨r2, u3, h4, hf⟩ := zbd_some hf
        refine rx_Vi (n := 2) (As := [.int x4, .int x6]) (rest := [.ref (a 31), .int x6, .ref (a 37)]) B hI hl.1 (zc_CCRows_partOf_5 l D z a N x4 x6 u r2 u3 h4) zw_247 zw_111 zw_112 zw_25 zw_110 (by decide +kernel) 5 (wC_at_5 a z u) hcl_CRows rfl rfl (Nat.le_of_ble_eq_true rfl) d_CStack_passLabel_70 ⟨Nat.le_of_ble_eq_true rfl, Nat.le_of_ble_eq_true rfl⟩ rfl rfl ⟨Nat.zero_le _, Nat.zero_le _⟩ (fun H locs hI => ?_)
        obtain ⟨r5, u6, h7, hf⟩ := zbd_some hf
        refine rx_Vi (n := 1) (As := [.int r2]) (rest := [.int x6, .ref (a 37)]) B hI hl.1 (zc_CCStack_take_31 l D z a N r2 u3 r5 u6 h7) zw_223 zw_225 zw_226 zw_82 zw_224 (by decide +kernel) 31 (wC_at_31 a z u3) hcl_CStack rfl rfl (Nat.le_of_ble_eq_true rfl) d_CStack_passLabel_73 ⟨Nat.le_of_ble_eq_true rfl, Nat.le_of_ble_eq_true rfl⟩ rfl rfl ⟨Nat.zero_le _, Nat.zero_le _⟩ (fun H locs hI => ?_)
        obtain ⟨hi8, hf⟩ := zck_some hf
        refine rx_iast B hI 37 (wC_at_37 a z u6) hi8 (wC_sa_23 a z u6 x6 r5) d_CStack_passLabel_76 (fun H locs hI => ?_)
        refine lv_iinc (v := (x6 + (-1))) (lv' := [(6, .int (x6 + (-1))), (0, .ref (a 31)), (3, .ref (a 5)), (4, .int x4), (5, .int x5)]) B.1 B.2.1 d_CStack_passLabel_77 hl (k := 4) rfl (by rfl) (by decide) rfl (fun ls hl => ?_)
        refine lv_goto (tgt := 53) B.1 B.2.1 d_CStack_passLabel_80 (by decide) ?_
        exact ih53 x4 x5 (x6 + (-1)) (sa u6 23 x6 r5) _ _ _ hf hI (lv_sub hl [1, 2, 3, 4, 0] rfl)
  intro hI hl hf
  unfold zf_CCStack_passLabel_31 at hf
  refine lv_aload_n B.1 B.2.1 d_CStack_passLabel_0 rfl (lv_at hl 0 rfl) ?_
  refine lv_iload_n B.1 B.2.1 d_CStack_passLabel_1 rfl (lv_at hl 1 rfl) ?_
  obtain ⟨r1, u2, h3, hf⟩ := zbd_some hf
  refine rx_Vr (n := 1) (As := [.int x1]) (rest := []) B hI hl.1 (zc_CCStack_labelRows_31 l D z a N x1 u r1 u2 h3) zw_312 zw_314 zw_315 zw_82 zw_313 (by decide +kernel) 31 (wC_at_31 a z u) hcl_CStack rfl rfl (Nat.le_of_ble_eq_true rfl) d_CStack_passLabel_2 ⟨Nat.le_of_ble_eq_true rfl, Nat.le_of_ble_eq_true rfl⟩ rfl rfl ⟨Nat.zero_le _, Nat.zero_le _⟩ (fun H locs hI => ?_)
  by_cases hc4 : r1 = 2
  · rw [if_pos hc4] at hf
    rw [hc4]
    refine lv_astore_n (lv' := [(3, .ref (a 2)), (0, .ref (a 31)), (1, .int x1), (2, .int x2)]) B.1 B.2.1 d_CStack_passLabel_5 rfl hl (by decide) rfl (fun ls hl => ?_)
    refine lv_aload_n B.1 B.2.1 d_CStack_passLabel_6 rfl (lv_at hl 1 rfl) ?_
    refine lv_aload_n B.1 B.2.1 d_CStack_passLabel_7 rfl (lv_at hl 1 rfl) ?_
    refine rx_get (v := .ref (a 33)) B hI hcl_CStack hin_CStack 31 (wC_at_31 a z u2) 2 (by decide) hf_CStack_2 zw_77 rfl d_CStack_passLabel_8 ?_
    refine lv_iload_n B.1 B.2.1 d_CStack_passLabel_11 rfl (lv_at hl 2 rfl) ?_
    obtain ⟨r5, u6, h7, hf⟩ := zbd_some hf
    refine rx_Vi (n := 2) (As := [.ref (a 33), .int x1]) (rest := []) B hI hl.1 (zc_CCStack_ofBlock_31_33 l D z a N x1 u2 r5 u6 h7) zw_240 zw_242 zw_243 zw_82 zw_241 (by decide +kernel) 31 (wC_at_31 a z u2) hcl_CStack rfl rfl (Nat.le_of_ble_eq_true rfl) d_CStack_passLabel_12 ⟨Nat.le_of_ble_eq_true rfl, Nat.le_of_ble_eq_true rfl⟩ rfl rfl ⟨Nat.zero_le _, Nat.zero_le _⟩ (fun H locs hI => ?_)
    refine lv_istore (lv' := [(4, .int r5), (3, .ref (a 2)), (0, .ref (a 31)), (1, .int x1), (2, .int x2)]) B.1 B.2.1 d_CStack_passLabel_15 hl (by decide) rfl (fun ls hl => ?_)
    refine lv_aload_n B.1 B.2.1 d_CStack_passLabel_17 rfl (lv_at hl 1 rfl) ?_
    refine lv_iload B.1 B.2.1 d_CStack_passLabel_18 (lv_at hl 0 rfl) ?_
    obtain ⟨r8, u9, h10, hf⟩ := zbd_some hf
    refine rx_Vi (n := 1) (As := [.int r5]) (rest := []) B hI hl.1 (zc_CCRows_sizeOf_2 l D z a N r5 u6 r8 u9 h10) zw_246 zw_27 zw_28 zw_25 zw_26 (by decide +kernel) 2 (wC_at_2 a z u6) hcl_CRows rfl rfl (Nat.le_of_ble_eq_true rfl) d_CStack_passLabel_20 ⟨Nat.le_of_ble_eq_true rfl, Nat.le_of_ble_eq_true rfl⟩ rfl rfl ⟨Nat.zero_le _, Nat.zero_le _⟩ (fun H locs hI => ?_)
    refine lv_istore (lv' := [(5, .int r8), (4, .int r5), (3, .ref (a 2)), (0, .ref (a 31)), (1, .int x1), (2, .int x2)]) B.1 B.2.1 d_CStack_passLabel_23 hl (by decide) rfl (fun ls hl => ?_)
    refine lv_iload B.1 B.2.1 d_CStack_passLabel_25 (lv_at hl 0 rfl) ?_
    refine lv_iload_n B.1 B.2.1 d_CStack_passLabel_27 rfl (lv_at hl 5 rfl) ?_
    refine lv_icmp_ne (tgt := 41) B.1 B.2.1 d_CStack_passLabel_28 (by decide) (fun hc11 => ?_) (fun hc11 => ?_)
    · rw [if_neg hc11] at hf
      exact hb41  u9 _ _ _ hf hI (lv_sub hl [3] rfl)
    · rw [if_pos hc11] at hf
      refine lv_iload B.1 B.2.1 d_CStack_passLabel_31 (lv_at hl 0 rfl) ?_
      refine lv_aload_n B.1 B.2.1 d_CStack_passLabel_33 rfl (lv_at hl 3 rfl) ?_
      refine rx_get (v := .ref (a 37)) B hI hcl_CStack hin_CStack 31 (wC_at_31 a z u9) 6 (by decide) hf_CStack_6 zw_320 rfl d_CStack_passLabel_34 ?_
      refine rx_alen (v := 12) B hI 37 0 (wC_at_37 a z u9) rfl rfl d_CStack_passLabel_37 ?_
      refine lv_icmp_le (tgt := 47) B.1 B.2.1 d_CStack_passLabel_38 (by decide) (fun hc12 => ?_) (fun hc12 => ?_)
      · rw [if_pos hc12] at hf
        refine lv_iload B.1 B.2.1 d_CStack_passLabel_47 (lv_at hl 0 rfl) ?_
        refine lv_iconst (v := 1) B.1 B.2.1 d_CStack_passLabel_49 (by decide) ?_
        refine lv_isub B.1 B.2.1 d_CStack_passLabel_50 ?_
        refine lv_istore (lv' := [(6, .int (r8 - 1)), (5, .int r8), (4, .int r5), (3, .ref (a 2)), (0, .ref (a 31)), (1, .int x1), (2, .int x2)]) B.1 B.2.1 d_CStack_passLabel_51 hl (by decide) rfl (fun ls hl => ?_)
        exact hb53a N r5 r8 (r8 - 1) u9 _ _ _ hf hI (lv_sub hl [4, 3, 2, 1, 0] rfl)
      · rw [if_neg hc12] at hf
        exact hb41  u9 _ _ _ hf hI (lv_sub hl [3] rfl)
  rw [if_neg hc4] at hf
  by_cases hc13 : r1 = 5
  · rw [if_pos hc13] at hf
    rw [hc13]
    refine lv_astore_n (lv' := [(3, .ref (a 5)), (0, .ref (a 31)), (1, .int x1), (2, .int x2)]) B.1 B.2.1 d_CStack_passLabel_5 rfl hl (by decide) rfl (fun ls hl => ?_)
    refine lv_aload_n B.1 B.2.1 d_CStack_passLabel_6 rfl (lv_at hl 1 rfl) ?_
    refine lv_aload_n B.1 B.2.1 d_CStack_passLabel_7 rfl (lv_at hl 1 rfl) ?_
    refine rx_get (v := .ref (a 33)) B hI hcl_CStack hin_CStack 31 (wC_at_31 a z u2) 2 (by decide) hf_CStack_2 zw_77 rfl d_CStack_passLabel_8 ?_
    refine lv_iload_n B.1 B.2.1 d_CStack_passLabel_11 rfl (lv_at hl 2 rfl) ?_
    obtain ⟨r14, u15, h16, hf⟩ := zbd_some hf
    refine rx_Vi (n := 2) (As := [.ref (a 33), .int x1]) (rest := []) B hI hl.1 (zc_CCStack_ofBlock_31_33 l D z a N x1 u2 r14 u15 h16) zw_240 zw_242 zw_243 zw_82 zw_241 (by decide +kernel) 31 (wC_at_31 a z u2) hcl_CStack rfl rfl (Nat.le_of_ble_eq_true rfl) d_CStack_passLabel_12 ⟨Nat.le_of_ble_eq_true rfl, Nat.le_of_ble_eq_true rfl⟩ rfl rfl ⟨Nat.zero_le _, Nat.zero_le _⟩ (fun H locs hI => ?_)
    refine lv_istore (lv' := [(4, .int r14), (3, .ref (a 5)), (0, .ref (a 31)), (1, .int x1), (2, .int x2)]) B.1 B.2.1 d_CStack_passLabel_15 hl (by decide) rfl (fun ls hl => ?_)
    refine lv_aload_n B.1 B.2.1 d_CStack_passLabel_17 rfl (lv_at hl 1 rfl) ?_
    refine lv_iload B.1 B.2.1 d_CStack_passLabel_18 (lv_at hl 0 rfl) ?_
    obtain ⟨r17, u18, h19, hf⟩ := zbd_some hf
    refine rx_Vi (n := 1) (As := [.int r14]) (rest := []) B hI hl.1 (zc_CCRows_sizeOf_5 l D z a N r14 u15 r17 u18 h19) zw_246 zw_27 zw_28 zw_25 zw_26 (by decide +kernel) 5 (wC_at_5 a z u15) hcl_CRows rfl rfl (Nat.le_of_ble_eq_true rfl) d_CStack_passLabel_20 ⟨Nat.le_of_ble_eq_true rfl, Nat.le_of_ble_eq_true rfl⟩ rfl rfl ⟨Nat.zero_le _, Nat.zero_le _⟩ (fun H locs hI => ?_)
    refine lv_istore (lv' := [(5, .int r17), (4, .int r14), (3, .ref (a 5)), (0, .ref (a 31)), (1, .int x1), (2, .int x2)]) B.1 B.2.1 d_CStack_passLabel_23 hl (by decide) rfl (fun ls hl => ?_)
    refine lv_iload B.1 B.2.1 d_CStack_passLabel_25 (lv_at hl 0 rfl) ?_
    refine lv_iload_n B.1 B.2.1 d_CStack_passLabel_27 rfl (lv_at hl 5 rfl) ?_
    refine lv_icmp_ne (tgt := 41) B.1 B.2.1 d_CStack_passLabel_28 (by decide) (fun hc20 => ?_) (fun hc20 => ?_)
    · rw [if_neg hc20] at hf
      exact hb41  u18 _ _ _ hf hI (lv_sub hl [3] rfl)
    · rw [if_pos hc20] at hf
      refine lv_iload B.1 B.2.1 d_CStack_passLabel_31 (lv_at hl 0 rfl) ?_
      refine lv_aload_n B.1 B.2.1 d_CStack_passLabel_33 rfl (lv_at hl 3 rfl) ?_
      refine rx_get (v := .ref (a 37)) B hI hcl_CStack hin_CStack 31 (wC_at_31 a z u18) 6 (by decide) hf_CStack_6 zw_320 rfl d_CStack_passLabel_34 ?_
      refine rx_alen (v := 12) B hI 37 0 (wC_at_37 a z u18) rfl rfl d_CStack_passLabel_37 ?_
      refine lv_icmp_le (tgt := 47) B.1 B.2.1 d_CStack_passLabel_38 (by decide) (fun hc21 => ?_) (fun hc21 => ?_)
      · rw [if_pos hc21] at hf
        refine lv_iload B.1 B.2.1 d_CStack_passLabel_47 (lv_at hl 0 rfl) ?_
        refine lv_iconst (v := 1) B.1 B.2.1 d_CStack_passLabel_49 (by decide) ?_
        refine lv_isub B.1 B.2.1 d_CStack_passLabel_50 ?_
        refine lv_istore (lv' := [(6, .int (r17 - 1)), (5, .int r17), (4, .int r14), (3, .ref (a 5)), (0, .ref (a 31)), (1, .int x1), (2, .int x2)]) B.1 B.2.1 d_CStack_passLabel_51 hl (by decide) rfl (fun ls hl => ?_)
        exact hb53b N r14 r17 (r17 - 1) u18 _ _ _ hf hI (lv_sub hl [4, 3, 2, 1, 0] rfl)
      · rw [if_neg hc21] at hf
        exact hb41  u18 _ _ _ hf hI (lv_sub hl [3] rfl)
  rw [if_neg hc13] at hf
  cases hf
set_option maxHeartbeats 4000000 in
set_option maxRecDepth 100000 in
theorem zc_CCStack_takeLabel_31 (l : Launch) (D : va_G) (z : zZ) (a : Nat → Nat) (N : Nat) (x1 : Int32) (u : zU) (r : Unit) (u1 : zU) (hf : zf_CCStack_takeLabel_31 N x1 u = some (r, u1)) : zMet l D z y_CStack_takeLabel (.code y_CStack_takeLabel b_CStack_takeLabel 2 none) { frames := 3, cells := 0, slots := 0, locals := 67 } [.ref (a 31), .int x1] (wC a z u) (zQv D (wC a z u1)) := by
  refine zM_v (own := R_CStack) [.ref (a 31), .int x1] (wC a z u) (wC a z u1) (by decide) rfl (Nat.le_of_ble_eq_true rfl) ?_
  intro p e s m args below meth c A ls B hr hlk hI hl
  have hl : lv_has ls 2 [(0, .ref (a 31)), (1, .int x1)] := hl
  revert hf
  revert hI hl
  intro hI hl hf
  unfold zf_CCStack_takeLabel_31 at hf
  refine lv_aload_n B.1 B.2.1 d_CStack_takeLabel_0 rfl (lv_at hl 0 rfl) ?_
  refine lv_aload_n B.1 B.2.1 d_CStack_takeLabel_1 rfl (lv_at hl 0 rfl) ?_
  refine lv_iload_n B.1 B.2.1 d_CStack_takeLabel_2 rfl (lv_at hl 1 rfl) ?_
  obtain ⟨r1, u2, h3, hf⟩ := zbd_some hf
  refine rx_Vr (n := 1) (As := [.int x1]) (rest := [.ref (a 31)]) B hI hl.1 (zc_CCStack_labelRows_31 l D z a N x1 u r1 u2 h3) zw_312 zw_314 zw_315 zw_82 zw_313 (by decide +kernel) 31 (wC_at_31 a z u) hcl_CStack rfl rfl (Nat.le_of_ble_eq_true rfl) d_CStack_takeLabel_3 ⟨Nat.le_of_ble_eq_true rfl, Nat.le_of_ble_eq_true rfl⟩ rfl rfl ⟨Nat.zero_le _, Nat.zero_le _⟩ (fun H locs hI => ?_)
  by_cases hc4 : r1 = 2
  · rw [if_pos hc4] at hf
    rw [hc4]
    refine lv_aload_n B.1 B.2.1 d_CStack_takeLabel_6 rfl (lv_at hl 0 rfl) ?_
    refine lv_aload_n B.1 B.2.1 d_CStack_takeLabel_7 rfl (lv_at hl 0 rfl) ?_
    refine rx_get (v := .ref (a 33)) B hI hcl_CStack hin_CStack 31 (wC_at_31 a z u2) 2 (by decide) hf_CStack_2 zw_77 rfl d_CStack_takeLabel_8 ?_
    refine lv_iload_n B.1 B.2.1 d_CStack_takeLabel_11 rfl (lv_at hl 1 rfl) ?_
    obtain ⟨r5, u6, h7, hf⟩ := zbd_some hf
    refine rx_Vi (n := 2) (As := [.ref (a 33), .int x1]) (rest := [.ref (a 2), .ref (a 31)]) B hI hl.1 (zc_CCStack_ofBlock_31_33 l D z a N x1 u2 r5 u6 h7) zw_240 zw_242 zw_243 zw_82 zw_241 (by decide +kernel) 31 (wC_at_31 a z u2) hcl_CStack rfl rfl (Nat.le_of_ble_eq_true rfl) d_CStack_takeLabel_12 ⟨Nat.le_of_ble_eq_true rfl, Nat.le_of_ble_eq_true rfl⟩ rfl rfl ⟨Nat.zero_le _, Nat.zero_le _⟩ (fun H locs hI => ?_)
    obtain ⟨r8, u9, h10, hf⟩ := zbd_some hf
    refine rx_Vv (n := 2) (As := [.ref (a 2), .int r5]) (rest := []) B hI hl.1 (zc_CCStack_takeRow_31_2 l D z a N r5 u6 r8 u9 h10) zw_248 zw_250 zw_251 zw_82 zw_249 (by decide +kernel) 31 (wC_at_31 a z u6) hcl_CStack rfl rfl (Nat.le_of_ble_eq_true rfl) d_CStack_takeLabel_15 ⟨Nat.le_of_ble_eq_true rfl, Nat.le_of_ble_eq_true rfl⟩ rfl rfl ⟨Nat.zero_le _, Nat.zero_le _⟩ (fun H locs hI => ?_)
    obtain ⟨e11, e12⟩ := zrt hf
    exact zr_v (wC a z) B hI hr hlk e12 d_CStack_takeLabel_18
  rw [if_neg hc4] at hf
  by_cases hc13 : r1 = 5
  · rw [if_pos hc13] at hf
    rw [hc13]
    refine lv_aload_n B.1 B.2.1 d_CStack_takeLabel_6 rfl (lv_at hl 0 rfl) ?_
    refine lv_aload_n B.1 B.2.1 d_CStack_takeLabel_7 rfl (lv_at hl 0 rfl) ?_
    refine rx_get (v := .ref (a 33)) B hI hcl_CStack hin_CStack 31 (wC_at_31 a z u2) 2 (by decide) hf_CStack_2 zw_77 rfl d_CStack_takeLabel_8 ?_
    refine lv_iload_n B.1 B.2.1 d_CStack_takeLabel_11 rfl (lv_at hl 1 rfl) ?_
    obtain ⟨r14, u15, h16, hf⟩ := zbd_some hf
    refine rx_Vi (n := 2) (As := [.ref (a 33), .int x1]) (rest := [.ref (a 5), .ref (a 31)]) B hI hl.1 (zc_CCStack_ofBlock_31_33 l D z a N x1 u2 r14 u15 h16) zw_240 zw_242 zw_243 zw_82 zw_241 (by decide +kernel) 31 (wC_at_31 a z u2) hcl_CStack rfl rfl (Nat.le_of_ble_eq_true rfl) d_CStack_takeLabel_12 ⟨Nat.le_of_ble_eq_true rfl, Nat.le_of_ble_eq_true rfl⟩ rfl rfl ⟨Nat.zero_le _, Nat.zero_le _⟩ (fun H locs hI => ?_)
    obtain ⟨r17, u18, h19, hf⟩ := zbd_some hf
    refine rx_Vv (n := 2) (As := [.ref (a 5), .int r14]) (rest := []) B hI hl.1 (zc_CCStack_takeRow_31_5 l D z a N r14 u15 r17 u18 h19) zw_248 zw_250 zw_251 zw_82 zw_249 (by decide +kernel) 31 (wC_at_31 a z u15) hcl_CStack rfl rfl (Nat.le_of_ble_eq_true rfl) d_CStack_takeLabel_15 ⟨Nat.le_of_ble_eq_true rfl, Nat.le_of_ble_eq_true rfl⟩ rfl rfl ⟨Nat.zero_le _, Nat.zero_le _⟩ (fun H locs hI => ?_)
    obtain ⟨e20, e21⟩ := zrt hf
    exact zr_v (wC a z) B hI hr hlk e21 d_CStack_takeLabel_18
  rw [if_neg hc13] at hf
  cases hf
set_option maxHeartbeats 4000000 in
set_option maxRecDepth 100000 in
theorem zc_CCCode_branchByRow_26 (l : Launch) (D : va_G) (z : zZ) (a : Nat → Nat) (N : Nat) (x1 : Int32) (u : zU) (r : Unit) (u1 : zU) (hf : zf_CCCode_branchByRow_26 N x1 u = some (r, u1)) : zMet l D z y_CCode_branchByRow (.code y_CCode_branchByRow b_CCode_branchByRow 4 none) { frames := 4, cells := 0, slots := 0, locals := 88 } [.ref (a 26), .int x1] (wC a z u) (zQv D (wC a z u1)) := by
  refine zM_v (own := R_CCode) [.ref (a 26), .int x1] (wC a z u) (wC a z u1) (by decide) rfl (Nat.le_of_ble_eq_true rfl) ?_
  intro p e s m args below meth c A ls B hr hlk hI hl
  have hl : lv_has ls 4 [(0, .ref (a 26)), (1, .int x1)] := hl
  revert hf
  revert hI hl
  have hb58 : ∀ (x1 : Int32) (u : zU) (H : Heap) (locs : List Loc) (ls : Array Slot), zf_CCCode_branchByRow_26_b58 N  x1 u = some (r, u1) → iw D A s (wC a z u) H locs → lv_has ls 4 [(0, .ref (a 26)), (1, .int x1)] → W p l e ({ frames := 4, cells := 0, slots := 0, locals := 88 } : Room) s m args below meth c H locs 0 0 (MQ below (zQv D (wC a z u1) A) args s 0 0 A) (F0 m 58 ls []) := by
    intro x1 u H locs ls hf hI hl
    unfold zf_CCCode_branchByRow_26_b58 at hf
    refine lv_aload_n B.1 B.2.1 d_CCode_branchByRow_58 rfl (lv_at hl 0 rfl) ?_
    refine rx_get (v := .ref (a 31)) B hI hcl_CCode hin_CCode 26 (wC_at_26 a z u) 1 (by decide) hf_CCode_1 zw_73 rfl d_CCode_branchByRow_59 ?_
    refine lv_iload_n B.1 B.2.1 d_CCode_branchByRow_62 rfl (lv_at hl 1 rfl) ?_
    obtain ⟨r1, u2, h3, hf⟩ := zbd_some hf
    refine rx_Vv (n := 1) (As := [.int x1]) (rest := []) B hI hl.1 (zc_CCStack_takeLabel_31 l D z a N x1 u r1 u2 h3) zw_325 zw_327 zw_328 zw_82 zw_326 (by decide +kernel) 31 (wC_at_31 a z u) hcl_CStack rfl rfl (Nat.le_of_ble_eq_true rfl) d_CCode_branchByRow_63 ⟨Nat.le_of_ble_eq_true rfl, Nat.le_of_ble_eq_true rfl⟩ rfl rfl ⟨Nat.zero_le _, Nat.zero_le _⟩ (fun H locs hI => ?_)
    refine lv_aload_n B.1 B.2.1 d_CCode_branchByRow_66 rfl (lv_at hl 0 rfl) ?_
    refine rx_get (v := .ref (a 31)) B hI hcl_CCode hin_CCode 26 (wC_at_26 a z u2) 1 (by decide) hf_CCode_1 zw_73 rfl d_CCode_branchByRow_67 ?_
    obtain ⟨r4, u5, h6, hf⟩ := zbd_some hf
    refine rx_Vv (n := 0) (As := []) (rest := []) B hI hl.1 (zc_CCStack_die_31 l D z a N  u2 r4 u5 h6) zw_293 zw_295 zw_296 zw_82 zw_294 (by decide +kernel) 31 (wC_at_31 a z u2) hcl_CStack rfl rfl (Nat.le_of_ble_eq_true rfl) d_CCode_branchByRow_70 ⟨Nat.le_of_ble_eq_true rfl, Nat.le_of_ble_eq_true rfl⟩ rfl rfl ⟨Nat.zero_le _, Nat.zero_le _⟩ (fun H locs hI => ?_)
    obtain ⟨e7, e8⟩ := zrt hf
    exact zr_v (wC a z) B hI hr hlk e8 d_CCode_branchByRow_73
  have hb21 : ∀ (n : Nat) (x1 : Int32) (x2 : Int32) (x3 : Int32) (u : zU) (H : Heap) (locs : List Loc) (ls : Array Slot), zf_CCCode_branchByRow_26_b21 N  n x1 x2 x3 u = some (r, u1) → iw D A s (wC a z u) H locs → lv_has ls 4 [(0, .ref (a 26)), (1, .int x1), (2, .int x2), (3, .int x3)] → W p l e ({ frames := 4, cells := 0, slots := 0, locals := 88 } : Room) s m args below meth c H locs 0 0 (MQ below (zQv D (wC a z u1) A) args s 0 0 A) (F0 m 21 ls []) := by
    intro n21
    induction n21 with
    | zero => intro x1 x2 x3 u H locs ls hf; exact absurd hf (by rw [zf_CCCode_branchByRow_26_b21]; exact fun h => by cases h)
    | succ n21 ih21 =>
      intro x1 x2 x3 u H locs ls hf hI hl
      rw [zf_CCCode_branchByRow_26_b21] at hf
      refine lv_iload_n B.1 B.2.1 d_CCode_branchByRow_21 rfl (lv_at hl 3 rfl) ?_
      refine lv_aload_n B.1 B.2.1 d_CCode_branchByRow_22 rfl (lv_at hl 0 rfl) ?_
      refine rx_get (v := .int (gi u 7)) B hI hcl_CCode hin_CCode 26 (wC_at_26 a z u) 4 (by decide) hf_CCode_4 zw_98 rfl d_CCode_branchByRow_23 ?_
      refine lv_icmp_ge (tgt := 58) B.1 B.2.1 d_CCode_branchByRow_26 (by decide) (fun hc1 => ?_) (fun hc1 => ?_)
      · rw [if_pos hc1] at hf
        exact hb58 x1 u _ _ _ hf hI (lv_sub hl [0, 1] rfl)
      · rw [if_neg hc1] at hf
        refine lv_iload_n B.1 B.2.1 d_CCode_branchByRow_29 rfl (lv_at hl 3 rfl) ?_
        refine lv_aload_n B.1 B.2.1 d_CCode_branchByRow_30 rfl (lv_at hl 0 rfl) ?_
        refine rx_get (v := .ref (a 30)) B hI hcl_CCode hin_CCode 26 (wC_at_26 a z u) 3 (by decide) hf_CCode_3 zw_138 rfl d_CCode_branchByRow_31 ?_
        refine rx_alen (v := 20) B hI 30 0 (wC_at_30 a z u) rfl rfl d_CCode_branchByRow_34 ?_
        refine lv_icmp_ge (tgt := 58) B.1 B.2.1 d_CCode_branchByRow_35 (by decide) (fun hc2 => ?_) (fun hc2 => ?_)
        · rw [if_pos hc2] at hf
          exact hb58 x1 u _ _ _ hf hI (lv_sub hl [0, 1] rfl)
        · rw [if_neg hc2] at hf
          refine lv_aload_n B.1 B.2.1 d_CCode_branchByRow_38 rfl (lv_at hl 0 rfl) ?_
          refine rx_get (v := .ref (a 31)) B hI hcl_CCode hin_CCode 26 (wC_at_26 a z u) 1 (by decide) hf_CCode_1 zw_73 rfl d_CCode_branchByRow_39 ?_
          refine lv_aload_n B.1 B.2.1 d_CCode_branchByRow_42 rfl (lv_at hl 0 rfl) ?_
          refine rx_get (v := .ref (a 30)) B hI hcl_CCode hin_CCode 26 (wC_at_26 a z u) 3 (by decide) hf_CCode_3 zw_138 rfl d_CCode_branchByRow_43 ?_
          refine lv_iload_n B.1 B.2.1 d_CCode_branchByRow_46 rfl (lv_at hl 3 rfl) ?_
          obtain ⟨hi3, hf⟩ := zck_some hf
          refine rx_iald B hI 30 (wC_at_30 a z u) hi3 d_CCode_branchByRow_47 ?_
          refine lv_iload_n B.1 B.2.1 d_CCode_branchByRow_48 rfl (lv_at hl 2 rfl) ?_
          obtain ⟨r4, u5, h6, hf⟩ := zbd_some hf
          refine rx_Vv (n := 2) (As := [.int (ga u 17 x3), .int x2]) (rest := []) B hI hl.1 (zc_CCStack_passLabel_31 l D z a N (ga u 17 x3) x2 u r4 u5 h6) zw_321 zw_323 zw_324 zw_82 zw_322 (by decide +kernel) 31 (wC_at_31 a z u) hcl_CStack rfl rfl (Nat.le_of_ble_eq_true rfl) d_CCode_branchByRow_49 ⟨Nat.le_of_ble_eq_true rfl, Nat.le_of_ble_eq_true rfl⟩ rfl rfl ⟨Nat.zero_le _, Nat.zero_le _⟩ (fun H locs hI => ?_)
          refine lv_iinc (v := (x3 + 1)) (lv' := [(3, .int (x3 + 1)), (0, .ref (a 26)), (1, .int x1), (2, .int x2)]) B.1 B.2.1 d_CCode_branchByRow_52 hl (k := 3) rfl (by rfl) (by decide) rfl (fun ls hl => ?_)
          refine lv_goto (tgt := 21) B.1 B.2.1 d_CCode_branchByRow_55 (by decide) ?_
          exact ih21 x1 x2 (x3 + 1) u5 _ _ _ hf hI (lv_sub hl [1, 2, 3, 0] rfl)
  intro hI hl hf
  unfold zf_CCCode_branchByRow_26 at hf
  refine lv_aload_n B.1 B.2.1 d_CCode_branchByRow_0 rfl (lv_at hl 0 rfl) ?_
  refine rx_get (v := .ref (a 31)) B hI hcl_CCode hin_CCode 26 (wC_at_26 a z u) 1 (by decide) hf_CCode_1 zw_73 rfl d_CCode_branchByRow_1 ?_
  refine lv_bipush (v := 127) B.1 B.2.1 d_CCode_branchByRow_4 (by decide) ?_
  obtain ⟨r1, u2, h3, hf⟩ := zbd_some hf
  refine rx_Vi (n := 1) (As := [.int 127]) (rest := []) B hI hl.1 (zc_CCStack_take_31 l D z a N 127 u r1 u2 h3) zw_288 zw_225 zw_226 zw_82 zw_224 (by decide +kernel) 31 (wC_at_31 a z u) hcl_CStack rfl rfl (Nat.le_of_ble_eq_true rfl) d_CCode_branchByRow_6 ⟨Nat.le_of_ble_eq_true rfl, Nat.le_of_ble_eq_true rfl⟩ rfl rfl ⟨Nat.zero_le _, Nat.zero_le _⟩ (fun H locs hI => ?_)
  refine lv_pop B.1 B.2.1 d_CCode_branchByRow_9 rfl ?_
  refine lv_aload_n B.1 B.2.1 d_CCode_branchByRow_10 rfl (lv_at hl 0 rfl) ?_
  refine rx_get (v := .ref (a 31)) B hI hcl_CCode hin_CCode 26 (wC_at_26 a z u2) 1 (by decide) hf_CCode_1 zw_73 rfl d_CCode_branchByRow_11 ?_
  refine lv_iload_n B.1 B.2.1 d_CCode_branchByRow_14 rfl (lv_at hl 1 rfl) ?_
  obtain ⟨r4, u5, h6, hf⟩ := zbd_some hf
  refine rx_Vi (n := 1) (As := [.int x1]) (rest := []) B hI hl.1 (zc_CCStack_labelSize_31 l D z a N x1 u2 r4 u5 h6) zw_316 zw_318 zw_319 zw_82 zw_317 (by decide +kernel) 31 (wC_at_31 a z u2) hcl_CStack rfl rfl (Nat.le_of_ble_eq_true rfl) d_CCode_branchByRow_15 ⟨Nat.le_of_ble_eq_true rfl, Nat.le_of_ble_eq_true rfl⟩ rfl rfl ⟨Nat.zero_le _, Nat.zero_le _⟩ (fun H locs hI => ?_)
  refine lv_istore_n (lv' := [(2, .int r4), (0, .ref (a 26)), (1, .int x1)]) B.1 B.2.1 d_CCode_branchByRow_18 rfl hl (by decide) rfl (fun ls hl => ?_)
  refine lv_iconst (v := 0) B.1 B.2.1 d_CCode_branchByRow_19 (by decide) ?_
  refine lv_istore_n (lv' := [(3, .int 0), (2, .int r4), (0, .ref (a 26)), (1, .int x1)]) B.1 B.2.1 d_CCode_branchByRow_20 rfl hl (by decide) rfl (fun ls hl => ?_)
  exact hb21 N x1 r4 0 u5 _ _ _ hf hI (lv_sub hl [2, 3, 1, 0] rfl)
set_option maxHeartbeats 4000000 in
set_option maxRecDepth 100000 in
theorem zc_CCStack_giveLabel_31 (l : Launch) (D : va_G) (z : zZ) (a : Nat → Nat) (N : Nat) (x1 : Int32) (u : zU) (r : Unit) (u1 : zU) (hf : zf_CCStack_giveLabel_31 N x1 u = some (r, u1)) : zMet l D z y_CStack_giveLabel (.code y_CStack_giveLabel b_CStack_giveLabel 2 none) { frames := 2, cells := 0, slots := 0, locals := 46 } [.ref (a 31), .int x1] (wC a z u) (zQv D (wC a z u1)) := by
  refine zM_v (own := R_CStack) [.ref (a 31), .int x1] (wC a z u) (wC a z u1) (by decide) rfl (Nat.le_of_ble_eq_true rfl) ?_
  intro p e s m args below meth c A ls B hr hlk hI hl
  have hl : lv_has ls 2 [(0, .ref (a 31)), (1, .int x1)] := hl
  revert hf
  revert hI hl
  intro hI hl hf
  unfold zf_CCStack_giveLabel_31 at hf
  refine lv_aload_n B.1 B.2.1 d_CStack_giveLabel_0 rfl (lv_at hl 0 rfl) ?_
  refine lv_aload_n B.1 B.2.1 d_CStack_giveLabel_1 rfl (lv_at hl 0 rfl) ?_
  refine lv_iload_n B.1 B.2.1 d_CStack_giveLabel_2 rfl (lv_at hl 1 rfl) ?_
  obtain ⟨r1, u2, h3, hf⟩ := zbd_some hf
  refine rx_Vr (n := 1) (As := [.int x1]) (rest := [.ref (a 31)]) B hI hl.1 (zc_CCStack_labelRows_31 l D z a N x1 u r1 u2 h3) zw_312 zw_314 zw_315 zw_82 zw_313 (by decide +kernel) 31 (wC_at_31 a z u) hcl_CStack rfl rfl (Nat.le_of_ble_eq_true rfl) d_CStack_giveLabel_3 ⟨Nat.le_of_ble_eq_true rfl, Nat.le_of_ble_eq_true rfl⟩ rfl rfl ⟨Nat.zero_le _, Nat.zero_le _⟩ (fun H locs hI => ?_)
  by_cases hc4 : r1 = 2
  · rw [if_pos hc4] at hf
    rw [hc4]
    refine lv_aload_n B.1 B.2.1 d_CStack_giveLabel_6 rfl (lv_at hl 0 rfl) ?_
    refine lv_aload_n B.1 B.2.1 d_CStack_giveLabel_7 rfl (lv_at hl 0 rfl) ?_
    refine rx_get (v := .ref (a 33)) B hI hcl_CStack hin_CStack 31 (wC_at_31 a z u2) 2 (by decide) hf_CStack_2 zw_77 rfl d_CStack_giveLabel_8 ?_
    refine lv_iload_n B.1 B.2.1 d_CStack_giveLabel_11 rfl (lv_at hl 1 rfl) ?_
    obtain ⟨r5, u6, h7, hf⟩ := zbd_some hf
    refine rx_Vi (n := 2) (As := [.ref (a 33), .int x1]) (rest := [.ref (a 2), .ref (a 31)]) B hI hl.1 (zc_CCStack_ofBlock_31_33 l D z a N x1 u2 r5 u6 h7) zw_240 zw_242 zw_243 zw_82 zw_241 (by decide +kernel) 31 (wC_at_31 a z u2) hcl_CStack rfl rfl (Nat.le_of_ble_eq_true rfl) d_CStack_giveLabel_12 ⟨Nat.le_of_ble_eq_true rfl, Nat.le_of_ble_eq_true rfl⟩ rfl rfl ⟨Nat.zero_le _, Nat.zero_le _⟩ (fun H locs hI => ?_)
    obtain ⟨r8, u9, h10, hf⟩ := zbd_some hf
    refine rx_Vv (n := 2) (As := [.ref (a 2), .int r5]) (rest := []) B hI hl.1 (zc_CCStack_giveRow_31_2 l D z a N r5 u6 r8 u9 h10) zw_275 zw_277 zw_278 zw_82 zw_276 (by decide +kernel) 31 (wC_at_31 a z u6) hcl_CStack rfl rfl (Nat.le_of_ble_eq_true rfl) d_CStack_giveLabel_15 ⟨Nat.le_of_ble_eq_true rfl, Nat.le_of_ble_eq_true rfl⟩ rfl rfl ⟨Nat.zero_le _, Nat.zero_le _⟩ (fun H locs hI => ?_)
    obtain ⟨e11, e12⟩ := zrt hf
    exact zr_v (wC a z) B hI hr hlk e12 d_CStack_giveLabel_18
  rw [if_neg hc4] at hf
  by_cases hc13 : r1 = 5
  · rw [if_pos hc13] at hf
    rw [hc13]
    refine lv_aload_n B.1 B.2.1 d_CStack_giveLabel_6 rfl (lv_at hl 0 rfl) ?_
    refine lv_aload_n B.1 B.2.1 d_CStack_giveLabel_7 rfl (lv_at hl 0 rfl) ?_
    refine rx_get (v := .ref (a 33)) B hI hcl_CStack hin_CStack 31 (wC_at_31 a z u2) 2 (by decide) hf_CStack_2 zw_77 rfl d_CStack_giveLabel_8 ?_
    refine lv_iload_n B.1 B.2.1 d_CStack_giveLabel_11 rfl (lv_at hl 1 rfl) ?_
    obtain ⟨r14, u15, h16, hf⟩ := zbd_some hf
    refine rx_Vi (n := 2) (As := [.ref (a 33), .int x1]) (rest := [.ref (a 5), .ref (a 31)]) B hI hl.1 (zc_CCStack_ofBlock_31_33 l D z a N x1 u2 r14 u15 h16) zw_240 zw_242 zw_243 zw_82 zw_241 (by decide +kernel) 31 (wC_at_31 a z u2) hcl_CStack rfl rfl (Nat.le_of_ble_eq_true rfl) d_CStack_giveLabel_12 ⟨Nat.le_of_ble_eq_true rfl, Nat.le_of_ble_eq_true rfl⟩ rfl rfl ⟨Nat.zero_le _, Nat.zero_le _⟩ (fun H locs hI => ?_)
    obtain ⟨r17, u18, h19, hf⟩ := zbd_some hf
    refine rx_Vv (n := 2) (As := [.ref (a 5), .int r14]) (rest := []) B hI hl.1 (zc_CCStack_giveRow_31_5 l D z a N r14 u15 r17 u18 h19) zw_275 zw_277 zw_278 zw_82 zw_276 (by decide +kernel) 31 (wC_at_31 a z u15) hcl_CStack rfl rfl (Nat.le_of_ble_eq_true rfl) d_CStack_giveLabel_15 ⟨Nat.le_of_ble_eq_true rfl, Nat.le_of_ble_eq_true rfl⟩ rfl rfl ⟨Nat.zero_le _, Nat.zero_le _⟩ (fun H locs hI => ?_)
    obtain ⟨e20, e21⟩ := zrt hf
    exact zr_v (wC a z) B hI hr hlk e21 d_CStack_giveLabel_18
  rw [if_neg hc13] at hf
  cases hf
set_option maxHeartbeats 4000000 in
set_option maxRecDepth 100000 in
theorem zc_CCCode_carryOutBranch_26 (l : Launch) (D : va_G) (z : zZ) (a : Nat → Nat) (N : Nat) (x1 : Int32) (x2 : Int32) (u : zU) (r : Unit) (u1 : zU) (hf : zf_CCCode_carryOutBranch_26 N x1 x2 u = some (r, u1)) : zMet l D z y_CCode_carryOutBranch (.code y_CCode_carryOutBranch b_CCode_carryOutBranch 3 none) { frames := 5, cells := 0, slots := 0, locals := 111 } [.ref (a 26), .int x1, .int x2] (wC a z u) (zQv D (wC a z u1)) := by
  refine zM_v (own := R_CCode) [.ref (a 26), .int x1, .int x2] (wC a z u) (wC a z u1) (by decide) rfl (Nat.le_of_ble_eq_true rfl) ?_
  intro p e s m args below meth c A ls B hr hlk hI hl
  have hl : lv_has ls 3 [(0, .ref (a 26)), (1, .int x1), (2, .int x2)] := hl
  revert hf
  revert hI hl
  have hb148 : ∀  (u : zU) (H : Heap) (locs : List Loc) (ls : Array Slot), zf_CCCode_carryOutBranch_26_b148 N   u = some (r, u1) → iw D A s (wC a z u) H locs → lv_has ls 3 [] → W p l e ({ frames := 5, cells := 0, slots := 0, locals := 111 } : Room) s m args below meth c H locs 0 0 (MQ below (zQv D (wC a z u1) A) args s 0 0 A) (F0 m 148 ls []) := by
    intro  u H locs ls hf hI hl
    unfold zf_CCCode_carryOutBranch_26_b148 at hf
    obtain ⟨e1, e2⟩ := zrt hf
    exact zr_v (wC a z) B hI hr hlk e2 d_CCode_carryOutBranch_148
  intro hI hl hf
  unfold zf_CCCode_carryOutBranch_26 at hf
  refine lv_iload_n B.1 B.2.1 d_CCode_carryOutBranch_0 rfl (lv_at hl 1 rfl) ?_
  by_cases hc1 : x1 = 12
  · rw [if_pos hc1] at hf
    refine lv_tableIn (off := 39) (tgt := 40) B.1 B.2.1 d_CCode_carryOutBranch_1 (by rw [hc1]; decide +kernel) (by rw [hc1]; decide +kernel) (by rw [hc1]; decide +kernel) (by decide) ?_
    refine lv_aload_n B.1 B.2.1 d_CCode_carryOutBranch_40 rfl (lv_at hl 0 rfl) ?_
    refine rx_get (v := .ref (a 31)) B hI hcl_CCode hin_CCode 26 (wC_at_26 a z u) 1 (by decide) hf_CCode_1 zw_73 rfl d_CCode_carryOutBranch_41 ?_
    refine lv_iload_n B.1 B.2.1 d_CCode_carryOutBranch_44 rfl (lv_at hl 2 rfl) ?_
    obtain ⟨r2, u3, h4, hf⟩ := zbd_some hf
    refine rx_Vv (n := 1) (As := [.int x2]) (rest := []) B hI hl.1 (zc_CCStack_takeLabel_31 l D z a N x2 u r2 u3 h4) zw_325 zw_327 zw_328 zw_82 zw_326 (by decide +kernel) 31 (wC_at_31 a z u) hcl_CStack rfl rfl (Nat.le_of_ble_eq_true rfl) d_CCode_carryOutBranch_45 ⟨Nat.le_of_ble_eq_true rfl, Nat.le_of_ble_eq_true rfl⟩ rfl rfl ⟨Nat.zero_le _, Nat.zero_le _⟩ (fun H locs hI => ?_)
    refine lv_aload_n B.1 B.2.1 d_CCode_carryOutBranch_48 rfl (lv_at hl 0 rfl) ?_
    refine rx_get (v := .ref (a 31)) B hI hcl_CCode hin_CCode 26 (wC_at_26 a z u3) 1 (by decide) hf_CCode_1 zw_73 rfl d_CCode_carryOutBranch_49 ?_
    obtain ⟨r5, u6, h7, hf⟩ := zbd_some hf
    refine rx_Vv (n := 0) (As := []) (rest := []) B hI hl.1 (zc_CCStack_die_31 l D z a N  u3 r5 u6 h7) zw_293 zw_295 zw_296 zw_82 zw_294 (by decide +kernel) 31 (wC_at_31 a z u3) hcl_CStack rfl rfl (Nat.le_of_ble_eq_true rfl) d_CCode_carryOutBranch_52 ⟨Nat.le_of_ble_eq_true rfl, Nat.le_of_ble_eq_true rfl⟩ rfl rfl ⟨Nat.zero_le _, Nat.zero_le _⟩ (fun H locs hI => ?_)
    refine lv_goto (tgt := 148) B.1 B.2.1 d_CCode_carryOutBranch_55 (by decide) ?_
    exact hb148  u6 _ _ _ hf hI (lv_sub hl [] rfl)
  rw [if_neg hc1] at hf
  by_cases hc8 : x1 = 13
  · rw [if_pos hc8] at hf
    refine lv_tableIn (off := 57) (tgt := 58) B.1 B.2.1 d_CCode_carryOutBranch_1 (by rw [hc8]; decide +kernel) (by rw [hc8]; decide +kernel) (by rw [hc8]; decide +kernel) (by decide) ?_
    refine lv_aload_n B.1 B.2.1 d_CCode_carryOutBranch_58 rfl (lv_at hl 0 rfl) ?_
    refine rx_get (v := .ref (a 31)) B hI hcl_CCode hin_CCode 26 (wC_at_26 a z u) 1 (by decide) hf_CCode_1 zw_73 rfl d_CCode_carryOutBranch_59 ?_
    refine lv_bipush (v := 127) B.1 B.2.1 d_CCode_carryOutBranch_62 (by decide) ?_
    obtain ⟨r9, u10, h11, hf⟩ := zbd_some hf
    refine rx_Vi (n := 1) (As := [.int 127]) (rest := []) B hI hl.1 (zc_CCStack_take_31 l D z a N 127 u r9 u10 h11) zw_288 zw_225 zw_226 zw_82 zw_224 (by decide +kernel) 31 (wC_at_31 a z u) hcl_CStack rfl rfl (Nat.le_of_ble_eq_true rfl) d_CCode_carryOutBranch_64 ⟨Nat.le_of_ble_eq_true rfl, Nat.le_of_ble_eq_true rfl⟩ rfl rfl ⟨Nat.zero_le _, Nat.zero_le _⟩ (fun H locs hI => ?_)
    refine lv_pop B.1 B.2.1 d_CCode_carryOutBranch_67 rfl ?_
    refine lv_aload_n B.1 B.2.1 d_CCode_carryOutBranch_68 rfl (lv_at hl 0 rfl) ?_
    refine rx_get (v := .ref (a 31)) B hI hcl_CCode hin_CCode 26 (wC_at_26 a z u10) 1 (by decide) hf_CCode_1 zw_73 rfl d_CCode_carryOutBranch_69 ?_
    refine lv_iload_n B.1 B.2.1 d_CCode_carryOutBranch_72 rfl (lv_at hl 2 rfl) ?_
    obtain ⟨r12, u13, h14, hf⟩ := zbd_some hf
    refine rx_Vv (n := 1) (As := [.int x2]) (rest := []) B hI hl.1 (zc_CCStack_takeLabel_31 l D z a N x2 u10 r12 u13 h14) zw_325 zw_327 zw_328 zw_82 zw_326 (by decide +kernel) 31 (wC_at_31 a z u10) hcl_CStack rfl rfl (Nat.le_of_ble_eq_true rfl) d_CCode_carryOutBranch_73 ⟨Nat.le_of_ble_eq_true rfl, Nat.le_of_ble_eq_true rfl⟩ rfl rfl ⟨Nat.zero_le _, Nat.zero_le _⟩ (fun H locs hI => ?_)
    refine lv_aload_n B.1 B.2.1 d_CCode_carryOutBranch_76 rfl (lv_at hl 0 rfl) ?_
    refine rx_get (v := .ref (a 31)) B hI hcl_CCode hin_CCode 26 (wC_at_26 a z u13) 1 (by decide) hf_CCode_1 zw_73 rfl d_CCode_carryOutBranch_77 ?_
    refine lv_iload_n B.1 B.2.1 d_CCode_carryOutBranch_80 rfl (lv_at hl 2 rfl) ?_
    obtain ⟨r15, u16, h17, hf⟩ := zbd_some hf
    refine rx_Vv (n := 1) (As := [.int x2]) (rest := []) B hI hl.1 (zc_CCStack_giveLabel_31 l D z a N x2 u13 r15 u16 h17) zw_333 zw_335 zw_336 zw_82 zw_334 (by decide +kernel) 31 (wC_at_31 a z u13) hcl_CStack rfl rfl (Nat.le_of_ble_eq_true rfl) d_CCode_carryOutBranch_81 ⟨Nat.le_of_ble_eq_true rfl, Nat.le_of_ble_eq_true rfl⟩ rfl rfl ⟨Nat.zero_le _, Nat.zero_le _⟩ (fun H locs hI => ?_)
    refine lv_goto (tgt := 148) B.1 B.2.1 d_CCode_carryOutBranch_84 (by decide) ?_
    exact hb148  u16 _ _ _ hf hI (lv_sub hl [] rfl)
  rw [if_neg hc8] at hf
  by_cases hc18 : x1 = 14
  · rw [if_pos hc18] at hf
    refine lv_tableIn (off := 86) (tgt := 87) B.1 B.2.1 d_CCode_carryOutBranch_1 (by rw [hc18]; decide +kernel) (by rw [hc18]; decide +kernel) (by rw [hc18]; decide +kernel) (by decide) ?_
    refine lv_aload_n B.1 B.2.1 d_CCode_carryOutBranch_87 rfl (lv_at hl 0 rfl) ?_
    refine lv_iload_n B.1 B.2.1 d_CCode_carryOutBranch_88 rfl (lv_at hl 2 rfl) ?_
    obtain ⟨r19, u20, h21, hf⟩ := zbd_some hf
    refine rx_Vv (n := 1) (As := [.int x2]) (rest := []) B hI hl.1 (zc_CCCode_branchByRow_26 l D z a N x2 u r19 u20 h21) zw_329 zw_331 zw_332 zw_10 zw_330 (by decide +kernel) 26 (wC_at_26 a z u) hcl_CCode rfl rfl (Nat.le_of_ble_eq_true rfl) d_CCode_carryOutBranch_89 ⟨Nat.le_of_ble_eq_true rfl, Nat.le_of_ble_eq_true rfl⟩ rfl rfl ⟨Nat.zero_le _, Nat.zero_le _⟩ (fun H locs hI => ?_)
    refine lv_goto (tgt := 148) B.1 B.2.1 d_CCode_carryOutBranch_92 (by decide) ?_
    exact hb148  u20 _ _ _ hf hI (lv_sub hl [] rfl)
  rw [if_neg hc18] at hf
  by_cases hc22 : x1 = 15
  · rw [if_pos hc22] at hf
    refine lv_tableIn (off := 94) (tgt := 95) B.1 B.2.1 d_CCode_carryOutBranch_1 (by rw [hc22]; decide +kernel) (by rw [hc22]; decide +kernel) (by rw [hc22]; decide +kernel) (by decide) ?_
    refine lv_aload_n B.1 B.2.1 d_CCode_carryOutBranch_95 rfl (lv_at hl 0 rfl) ?_
    refine rx_get (v := .ref (a 31)) B hI hcl_CCode hin_CCode 26 (wC_at_26 a z u) 1 (by decide) hf_CCode_1 zw_73 rfl d_CCode_carryOutBranch_96 ?_
    obtain ⟨r23, u24, h25, hf⟩ := zbd_some hf
    refine rx_Vv (n := 0) (As := []) (rest := []) B hI hl.1 (zc_CCStack_takeOutermostResults_31 l D z a N  u r23 u24 h25) zw_308 zw_310 zw_311 zw_82 zw_309 (by decide +kernel) 31 (wC_at_31 a z u) hcl_CStack rfl rfl (Nat.le_of_ble_eq_true rfl) d_CCode_carryOutBranch_99 ⟨Nat.le_of_ble_eq_true rfl, Nat.le_of_ble_eq_true rfl⟩ rfl rfl ⟨Nat.zero_le _, Nat.zero_le _⟩ (fun H locs hI => ?_)
    refine lv_aload_n B.1 B.2.1 d_CCode_carryOutBranch_102 rfl (lv_at hl 0 rfl) ?_
    refine rx_get (v := .ref (a 31)) B hI hcl_CCode hin_CCode 26 (wC_at_26 a z u24) 1 (by decide) hf_CCode_1 zw_73 rfl d_CCode_carryOutBranch_103 ?_
    obtain ⟨r26, u27, h28, hf⟩ := zbd_some hf
    refine rx_Vv (n := 0) (As := []) (rest := []) B hI hl.1 (zc_CCStack_die_31 l D z a N  u24 r26 u27 h28) zw_293 zw_295 zw_296 zw_82 zw_294 (by decide +kernel) 31 (wC_at_31 a z u24) hcl_CStack rfl rfl (Nat.le_of_ble_eq_true rfl) d_CCode_carryOutBranch_106 ⟨Nat.le_of_ble_eq_true rfl, Nat.le_of_ble_eq_true rfl⟩ rfl rfl ⟨Nat.zero_le _, Nat.zero_le _⟩ (fun H locs hI => ?_)
    refine lv_goto (tgt := 148) B.1 B.2.1 d_CCode_carryOutBranch_109 (by decide) ?_
    exact hb148  u27 _ _ _ hf hI (lv_sub hl [] rfl)
  rw [if_neg hc22] at hf
  by_cases hc29 : x1 = 16
  · rw [if_pos hc29] at hf
    refine lv_tableIn (off := 111) (tgt := 112) B.1 B.2.1 d_CCode_carryOutBranch_1 (by rw [hc29]; decide +kernel) (by rw [hc29]; decide +kernel) (by rw [hc29]; decide +kernel) (by decide) ?_
    refine lv_aload_n B.1 B.2.1 d_CCode_carryOutBranch_112 rfl (lv_at hl 0 rfl) ?_
    refine lv_aload_n B.1 B.2.1 d_CCode_carryOutBranch_113 rfl (lv_at hl 0 rfl) ?_
    refine rx_get (v := .ref (a 1)) B hI hcl_CCode hin_CCode 26 (wC_at_26 a z u) 0 (by decide) hf_CCode_0 zw_106 rfl d_CCode_carryOutBranch_114 ?_
    refine rx_getN (v := .ref (a 8)) B hI hcl_CThings hin_CThings 1 (wC_at_1 a z u) 2 (by decide) hf_CThings_2 zw_174 rfl d_CCode_carryOutBranch_117 ?_
    refine lv_iload_n B.1 B.2.1 d_CCode_carryOutBranch_120 rfl (lv_at hl 2 rfl) ?_
    obtain ⟨r30, u31, h32, hf⟩ := zbd_some hf
    refine rx_Vi (n := 1) (As := [.int x2]) (rest := [.ref (a 26)]) B hI hl.1 (zc_CCShelf_typeOf_8 l D z a N x2 u r30 u31 h32) zw_197 zw_199 zw_200 zw_44 zw_198 (by decide +kernel) 8 (wC_at_8 a z u) hcl_CShelf rfl rfl (Nat.le_of_ble_eq_true rfl) d_CCode_carryOutBranch_121 ⟨Nat.le_of_ble_eq_true rfl, Nat.le_of_ble_eq_true rfl⟩ rfl rfl ⟨Nat.zero_le _, Nat.zero_le _⟩ (fun H locs hI => ?_)
    obtain ⟨r33, u34, h35, hf⟩ := zbd_some hf
    refine rx_Vv (n := 1) (As := [.int r30]) (rest := []) B hI hl.1 (zc_CCCode_enterFunction_26 l D z a N r30 u31 r33 u34 h35) zw_304 zw_306 zw_307 zw_10 zw_305 (by decide +kernel) 26 (wC_at_26 a z u31) hcl_CCode rfl rfl (Nat.le_of_ble_eq_true rfl) d_CCode_carryOutBranch_124 ⟨Nat.le_of_ble_eq_true rfl, Nat.le_of_ble_eq_true rfl⟩ rfl rfl ⟨Nat.zero_le _, Nat.zero_le _⟩ (fun H locs hI => ?_)
    refine lv_goto (tgt := 148) B.1 B.2.1 d_CCode_carryOutBranch_127 (by decide) ?_
    exact hb148  u34 _ _ _ hf hI (lv_sub hl [] rfl)
  rw [if_neg hc29] at hf
  by_cases hc36 : x1 = 17
  · rw [if_pos hc36] at hf
    refine lv_tableIn (off := 129) (tgt := 130) B.1 B.2.1 d_CCode_carryOutBranch_1 (by rw [hc36]; decide +kernel) (by rw [hc36]; decide +kernel) (by rw [hc36]; decide +kernel) (by decide) ?_
    refine lv_aload_n B.1 B.2.1 d_CCode_carryOutBranch_130 rfl (lv_at hl 0 rfl) ?_
    refine rx_get (v := .ref (a 31)) B hI hcl_CCode hin_CCode 26 (wC_at_26 a z u) 1 (by decide) hf_CCode_1 zw_73 rfl d_CCode_carryOutBranch_131 ?_
    refine lv_bipush (v := 127) B.1 B.2.1 d_CCode_carryOutBranch_134 (by decide) ?_
    obtain ⟨r37, u38, h39, hf⟩ := zbd_some hf
    refine rx_Vi (n := 1) (As := [.int 127]) (rest := []) B hI hl.1 (zc_CCStack_take_31 l D z a N 127 u r37 u38 h39) zw_288 zw_225 zw_226 zw_82 zw_224 (by decide +kernel) 31 (wC_at_31 a z u) hcl_CStack rfl rfl (Nat.le_of_ble_eq_true rfl) d_CCode_carryOutBranch_136 ⟨Nat.le_of_ble_eq_true rfl, Nat.le_of_ble_eq_true rfl⟩ rfl rfl ⟨Nat.zero_le _, Nat.zero_le _⟩ (fun H locs hI => ?_)
    refine lv_pop B.1 B.2.1 d_CCode_carryOutBranch_139 rfl ?_
    refine lv_aload_n B.1 B.2.1 d_CCode_carryOutBranch_140 rfl (lv_at hl 0 rfl) ?_
    refine lv_iload_n B.1 B.2.1 d_CCode_carryOutBranch_141 rfl (lv_at hl 2 rfl) ?_
    obtain ⟨r40, u41, h42, hf⟩ := zbd_some hf
    refine rx_Vv (n := 1) (As := [.int x2]) (rest := []) B hI hl.1 (zc_CCCode_enterFunction_26 l D z a N x2 u38 r40 u41 h42) zw_304 zw_306 zw_307 zw_10 zw_305 (by decide +kernel) 26 (wC_at_26 a z u38) hcl_CCode rfl rfl (Nat.le_of_ble_eq_true rfl) d_CCode_carryOutBranch_142 ⟨Nat.le_of_ble_eq_true rfl, Nat.le_of_ble_eq_true rfl⟩ rfl rfl ⟨Nat.zero_le _, Nat.zero_le _⟩ (fun H locs hI => ?_)
    refine lv_goto (tgt := 148) B.1 B.2.1 d_CCode_carryOutBranch_145 (by decide) ?_
    exact hb148  u41 _ _ _ hf hI (lv_sub hl [] rfl)
  rw [if_neg hc36] at hf
  have ghc1 := lv_neT (a := 12) hc1 (by decide)
  have ghc8 := lv_neT (a := 13) hc8 (by decide)
  have ghc18 := lv_neT (a := 14) hc18 (by decide)
  have ghc22 := lv_neT (a := 15) hc22 (by decide)
  have ghc29 := lv_neT (a := 16) hc29 (by decide)
  have ghc36 := lv_neT (a := 17) hc36 (by decide)
  refine lv_tableOut (tgt := 148) B.1 B.2.1 d_CCode_carryOutBranch_1 (by omega) (by decide) ?_
  exact hb148  u _ _ _ hf hI (lv_sub hl [] rfl)
set_option maxHeartbeats 4000000 in
set_option maxRecDepth 100000 in
theorem zc_CCShelf_typeOf_17 (l : Launch) (D : va_G) (z : zZ) (a : Nat → Nat) (N : Nat) (x1 : Int32) (u : zU) (r : Int32) (u1 : zU) (hf : zf_CCShelf_typeOf_17 N x1 u = some (r, u1)) : zMet l D z y_CShelf_typeOf (.code y_CShelf_typeOf b_CShelf_typeOf 2 (some (.int))) { frames := 1, cells := 0, slots := 0, locals := 21 } [.ref (a 17), .int x1] (wC a z u) (zQi D r (wC a z u1)) := by
  refine zM_i (own := R_CShelf) [.ref (a 17), .int x1] (wC a z u) r (wC a z u1) (by decide) rfl (Nat.le_of_ble_eq_true rfl) ?_
  intro p e s m args below meth c A ls B hr hlk hI hl
  have hl : lv_has ls 2 [(0, .ref (a 17)), (1, .int x1)] := hl
  revert hf
  revert hI hl
  have hb27 : ∀ (s0 : Int32) (u : zU) (H : Heap) (locs : List Loc) (ls : Array Slot), zf_CCShelf_typeOf_17_b27 N  s0 u = some (r, u1) → iw D A s (wC a z u) H locs → lv_has ls 2 [] → W p l e ({ frames := 1, cells := 0, slots := 0, locals := 21 } : Room) s m args below meth c H locs 0 0 (MQ below (zQi D r (wC a z u1) A) args s 0 0 A) (F0 m 27 ls [.int s0]) := by
    intro s0 u H locs ls hf hI hl
    unfold zf_CCShelf_typeOf_17_b27 at hf
    obtain ⟨e1, e2⟩ := zrt hf
    exact zr_i (wC a z) B hI hr hlk e1 e2 d_CShelf_typeOf_27
  have hb26 : ∀  (u : zU) (H : Heap) (locs : List Loc) (ls : Array Slot), zf_CCShelf_typeOf_17_b26 N   u = some (r, u1) → iw D A s (wC a z u) H locs → lv_has ls 2 [] → W p l e ({ frames := 1, cells := 0, slots := 0, locals := 21 } : Room) s m args below meth c H locs 0 0 (MQ below (zQi D r (wC a z u1) A) args s 0 0 A) (F0 m 26 ls []) := by
    intro  u H locs ls hf hI hl
    unfold zf_CCShelf_typeOf_17_b26 at hf
    refine lv_iconst (v := 0) B.1 B.2.1 d_CShelf_typeOf_26 (by decide) ?_
    exact hb27 0 u _ _ _ hf hI (lv_sub hl [] rfl)
  intro hI hl hf
  unfold zf_CCShelf_typeOf_17 at hf
  refine lv_aload_n B.1 B.2.1 d_CShelf_typeOf_0 rfl (lv_at hl 0 rfl) ?_
  refine lv_iload_n B.1 B.2.1 d_CShelf_typeOf_1 rfl (lv_at hl 1 rfl) ?_
  obtain ⟨r1, u2, h3, hf⟩ := zbd_some hf
  refine rx_Vi (n := 1) (As := [.int x1]) (rest := []) B hI hl.1 (zc_CCShelf_has_17 l D z a N x1 u r1 u2 h3) zw_64 zw_66 zw_67 zw_44 zw_65 (by decide +kernel) 17 (wC_at_17 a z u) hcl_CShelf rfl rfl (Nat.le_of_ble_eq_true rfl) d_CShelf_typeOf_2 ⟨Nat.le_of_ble_eq_true rfl, Nat.le_of_ble_eq_true rfl⟩ rfl rfl ⟨Nat.zero_le _, Nat.zero_le _⟩ (fun H locs hI => ?_)
  refine lv_if_eq (tgt := 26) B.1 B.2.1 d_CShelf_typeOf_5 (by decide) (fun hc4 => ?_) (fun hc4 => ?_)
  · rw [if_pos hc4] at hf
    exact hb26  u2 _ _ _ hf hI (lv_sub hl [] rfl)
  · rw [if_neg hc4] at hf
    refine lv_iload_n B.1 B.2.1 d_CShelf_typeOf_8 rfl (lv_at hl 1 rfl) ?_
    refine lv_aload_n B.1 B.2.1 d_CShelf_typeOf_9 rfl (lv_at hl 0 rfl) ?_
    refine rx_get (v := .ref (a 18)) B hI hcl_CShelf hin_CShelf 17 (wC_at_17 a z u2) 0 (by decide) hf_CShelf_0 zw_41 rfl d_CShelf_typeOf_10 ?_
    refine rx_alen (v := 40) B hI 18 0 (wC_at_18 a z u2) rfl rfl d_CShelf_typeOf_13 ?_
    refine lv_icmp_ge (tgt := 26) B.1 B.2.1 d_CShelf_typeOf_14 (by decide) (fun hc5 => ?_) (fun hc5 => ?_)
    · rw [if_pos hc5] at hf
      exact hb26  u2 _ _ _ hf hI (lv_sub hl [] rfl)
    · rw [if_neg hc5] at hf
      refine lv_aload_n B.1 B.2.1 d_CShelf_typeOf_17 rfl (lv_at hl 0 rfl) ?_
      refine rx_get (v := .ref (a 18)) B hI hcl_CShelf hin_CShelf 17 (wC_at_17 a z u2) 0 (by decide) hf_CShelf_0 zw_41 rfl d_CShelf_typeOf_18 ?_
      refine lv_iload_n B.1 B.2.1 d_CShelf_typeOf_21 rfl (lv_at hl 1 rfl) ?_
      obtain ⟨hi6, hf⟩ := zck_some hf
      refine rx_iald B hI 18 (wC_at_18 a z u2) hi6 d_CShelf_typeOf_22 ?_
      refine lv_goto (tgt := 27) B.1 B.2.1 d_CShelf_typeOf_23 (by decide) ?_
      exact hb27 (ga u2 10 x1) u2 _ _ _ hf hI (lv_sub hl [] rfl)
set_option maxHeartbeats 4000000 in
set_option maxRecDepth 100000 in
theorem zc_CCLocals_typeOf_27 (l : Launch) (D : va_G) (z : zZ) (a : Nat → Nat) (N : Nat) (x1 : Int32) (u : zU) (r : Int32) (u1 : zU) (hf : zf_CCLocals_typeOf_27 N x1 u = some (r, u1)) : zMet l D z y_CLocals_typeOf (.code y_CLocals_typeOf b_CLocals_typeOf 5 (some (.int))) { frames := 1, cells := 0, slots := 0, locals := 20 } [.ref (a 27), .int x1] (wC a z u) (zQi D r (wC a z u1)) := by
  refine zM_i (own := R_CLocals) [.ref (a 27), .int x1] (wC a z u) r (wC a z u1) (by decide) rfl (Nat.le_of_ble_eq_true rfl) ?_
  intro p e s m args below meth c A ls B hr hlk hI hl
  have hl : lv_has ls 5 [(0, .ref (a 27)), (1, .int x1)] := hl
  revert hf
  revert hI hl
  have hb63 : ∀  (u : zU) (H : Heap) (locs : List Loc) (ls : Array Slot), zf_CCLocals_typeOf_27_b63 N   u = some (r, u1) → iw D A s (wC a z u) H locs → lv_has ls 5 [] → W p l e ({ frames := 1, cells := 0, slots := 0, locals := 20 } : Room) s m args below meth c H locs 0 0 (MQ below (zQi D r (wC a z u1) A) args s 0 0 A) (F0 m 63 ls []) := by
    intro  u H locs ls hf hI hl
    unfold zf_CCLocals_typeOf_27_b63 at hf
    refine lv_iconst (v := 0) B.1 B.2.1 d_CLocals_typeOf_63 (by decide) ?_
    obtain ⟨e1, e2⟩ := zrt hf
    exact zr_i (wC a z) B hI hr hlk e1 e2 d_CLocals_typeOf_64
  have hb8 : ∀ (n : Nat) (x2 : Int64) (x4 : Int32) (u : zU) (H : Heap) (locs : List Loc) (ls : Array Slot), zf_CCLocals_typeOf_27_b8 N  n x2 x4 u = some (r, u1) → iw D A s (wC a z u) H locs → lv_has ls 5 [(0, .ref (a 27)), (2, .long x2), (4, .int x4)] → W p l e ({ frames := 1, cells := 0, slots := 0, locals := 20 } : Room) s m args below meth c H locs 0 0 (MQ below (zQi D r (wC a z u1) A) args s 0 0 A) (F0 m 8 ls []) := by
    intro n8
    induction n8 with
    | zero => intro x2 x4 u H locs ls hf; exact absurd hf (by rw [zf_CCLocals_typeOf_27_b8]; exact fun h => by cases h)
    | succ n8 ih8 =>
      intro x2 x4 u H locs ls hf hI hl
      rw [zf_CCLocals_typeOf_27_b8] at hf
      refine lv_iload B.1 B.2.1 d_CLocals_typeOf_8 (lv_at hl 2 rfl) ?_
      refine lv_aload_n B.1 B.2.1 d_CLocals_typeOf_10 rfl (lv_at hl 0 rfl) ?_
      refine rx_get (v := .int (gi u 13)) B hI hcl_CLocals hin_CLocals 27 (wC_at_27 a z u) 2 (by decide) hf_CLocals_2 zw_91 rfl d_CLocals_typeOf_11 ?_
      refine lv_icmp_ge (tgt := 63) B.1 B.2.1 d_CLocals_typeOf_14 (by decide) (fun hc1 => ?_) (fun hc1 => ?_)
      · rw [if_pos hc1] at hf
        exact hb63  u _ _ _ hf hI (lv_sub hl [] rfl)
      · rw [if_neg hc1] at hf
        refine lv_iload B.1 B.2.1 d_CLocals_typeOf_17 (lv_at hl 2 rfl) ?_
        refine lv_aload_n B.1 B.2.1 d_CLocals_typeOf_19 rfl (lv_at hl 0 rfl) ?_
        refine rx_get (v := .ref (a 28)) B hI hcl_CLocals hin_CLocals 27 (wC_at_27 a z u) 0 (by decide) hf_CLocals_0 zw_113 rfl d_CLocals_typeOf_20 ?_
        refine rx_alen (v := 52) B hI 28 0 (wC_at_28 a z u) rfl rfl d_CLocals_typeOf_23 ?_
        refine lv_icmp_ge (tgt := 63) B.1 B.2.1 d_CLocals_typeOf_24 (by decide) (fun hc2 => ?_) (fun hc2 => ?_)
        · rw [if_pos hc2] at hf
          exact hb63  u _ _ _ hf hI (lv_sub hl [] rfl)
        · rw [if_neg hc2] at hf
          refine lv_iload B.1 B.2.1 d_CLocals_typeOf_27 (lv_at hl 2 rfl) ?_
          refine lv_aload_n B.1 B.2.1 d_CLocals_typeOf_29 rfl (lv_at hl 0 rfl) ?_
          refine rx_get (v := .ref (a 29)) B hI hcl_CLocals hin_CLocals 27 (wC_at_27 a z u) 1 (by decide) hf_CLocals_1 zw_114 rfl d_CLocals_typeOf_30 ?_
          refine rx_alen (v := 52) B hI 29 2 (wC_at_29 a z u) rfl rfl d_CLocals_typeOf_33 ?_
          refine lv_icmp_ge (tgt := 63) B.1 B.2.1 d_CLocals_typeOf_34 (by decide) (fun hc3 => ?_) (fun hc3 => ?_)
          · rw [if_pos hc3] at hf
            exact hb63  u _ _ _ hf hI (lv_sub hl [] rfl)
          · rw [if_neg hc3] at hf
            refine lv_lload_n B.1 B.2.1 d_CLocals_typeOf_37 rfl (lv_at hl 1 rfl) ?_
            refine lv_aload_n B.1 B.2.1 d_CLocals_typeOf_38 rfl (lv_at hl 0 rfl) ?_
            refine rx_get (v := .ref (a 29)) B hI hcl_CLocals hin_CLocals 27 (wC_at_27 a z u) 1 (by decide) hf_CLocals_1 zw_114 rfl d_CLocals_typeOf_39 ?_
            refine lv_iload B.1 B.2.1 d_CLocals_typeOf_42 (lv_at hl 2 rfl) ?_
            obtain ⟨hi4, hf⟩ := zck_some hf
            refine rx_lald B hI 29 (wC_at_29 a z u) hi4 d_CLocals_typeOf_44 ?_
            refine W.lcmp B.1 B.2.1 d_CLocals_typeOf_45 ?_
            refine lv_if_ge (tgt := 57) B.1 B.2.1 d_CLocals_typeOf_46 (by decide) (fun hc5 => ?_) (fun hc5 => ?_)
            · rw [if_pos hc5] at hf
              refine lv_iinc (v := (x4 + 1)) (lv' := [(4, .int (x4 + 1)), (0, .ref (a 27)), (2, .long x2)]) B.1 B.2.1 d_CLocals_typeOf_57 hl (k := 2) rfl (by rfl) (by decide) rfl (fun ls hl => ?_)
              refine lv_goto (tgt := 8) B.1 B.2.1 d_CLocals_typeOf_60 (by decide) ?_
              exact ih8 x2 (x4 + 1) u _ _ _ hf hI (lv_sub hl [1, 2, 0] rfl)
            · rw [if_neg hc5] at hf
              refine lv_aload_n B.1 B.2.1 d_CLocals_typeOf_49 rfl (lv_at hl 0 rfl) ?_
              refine rx_get (v := .ref (a 28)) B hI hcl_CLocals hin_CLocals 27 (wC_at_27 a z u) 0 (by decide) hf_CLocals_0 zw_113 rfl d_CLocals_typeOf_50 ?_
              refine lv_iload B.1 B.2.1 d_CLocals_typeOf_53 (lv_at hl 2 rfl) ?_
              obtain ⟨hi6, hf⟩ := zck_some hf
              refine rx_iald B hI 28 (wC_at_28 a z u) hi6 d_CLocals_typeOf_55 ?_
              obtain ⟨e7, e8⟩ := zrt hf
              exact zr_i (wC a z) B hI hr hlk e7 e8 d_CLocals_typeOf_56
  intro hI hl hf
  unfold zf_CCLocals_typeOf_27 at hf
  refine lv_iload_n B.1 B.2.1 d_CLocals_typeOf_0 rfl (lv_at hl 1 rfl) ?_
  obtain ⟨r1, u2, h3, hf⟩ := zbd_some hf
  refine rx_Ml (n := 1) (As := [.int x1]) (rest := []) B hI hl.1 (zc_CCC_withoutSign l D z a N x1 u r1 u2 h3) zw_168 zw_133 zw_15 zw_132 (by decide +kernel) rfl rfl (Nat.le_of_ble_eq_true rfl) d_CLocals_typeOf_1 ⟨Nat.le_of_ble_eq_true rfl, Nat.le_of_ble_eq_true rfl⟩ rfl rfl ⟨Nat.zero_le _, Nat.zero_le _⟩ (fun H locs hI => ?_)
  refine lv_lstore_n (lv' := [(2, .long r1), (0, .ref (a 27)), (1, .int x1)]) B.1 B.2.1 d_CLocals_typeOf_4 rfl hl (by decide) rfl (fun ls hl => ?_)
  refine lv_iconst (v := 0) B.1 B.2.1 d_CLocals_typeOf_5 (by decide) ?_
  refine lv_istore (lv' := [(4, .int 0), (2, .long r1), (0, .ref (a 27)), (1, .int x1)]) B.1 B.2.1 d_CLocals_typeOf_6 hl (by decide) rfl (fun ls hl => ?_)
  exact hb8 N r1 0 u2 _ _ _ hf hI (lv_sub hl [2, 1, 0] rfl)
