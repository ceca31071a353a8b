set_option maxHeartbeats 4000000 in
set_option maxRecDepth 100000 in
theorem zc_CCStack_giveRow_31_2 (l : Launch) (D : va_G) (z : zZ) (a : Nat → Nat) (N : Nat) (x2 : Int32) (u : zU) (r : Unit) (u1 : zU) (hf : zf_CCStack_giveRow_31_2 N x2 u = some (r, u1)) : zMet l D z y_CStack_giveRow (.code y_CStack_giveRow b_CStack_giveRow 5 none) { frames := 1, cells := 0, slots := 0, locals := 22 } [.ref (a 31), .ref (a 2), .int x2] (wC a z u) (zQv D (wC a z u1)) := by
  refine zM_v (own := R_CStack) [.ref (a 31), .ref (a 2), .int x2] (wC a z u) (wC a z u1) (by decide) rfl (Nat.le_of_ble_eq_true rfl) ?_
  intro p e s m args below meth c A ls B hr hlk hI hl
  have hl : lv_has ls 5 [(0, .ref (a 31)), (1, .ref (a 2)), (2, .int x2)] := hl
  revert hf
  revert hI hl
  have hb9 : ∀ (n : Nat) (x2 : Int32) (x3 : Int32) (x4 : Int32) (u : zU) (H : Heap) (locs : List Loc) (ls : Array Slot), zf_CCStack_giveRow_31_2_b9 N  n x2 x3 x4 u = some (r, u1) → iw D A s (wC a z u) H locs → lv_has ls 5 [(0, .ref (a 31)), (1, .ref (a 2)), (2, .int x2), (3, .int x3), (4, .int x4)] → W p l e ({ frames := 1, cells := 0, slots := 0, locals := 22 } : Room) s m args below meth c H locs 0 0 (MQ below (zQv D (wC a z u1) A) args s 0 0 A) (F0 m 9 ls []) := by
    intro n9
    induction n9 with
    | zero => intro x2 x3 x4 u H locs ls hf; exact absurd hf (by rw [zf_CCStack_giveRow_31_2_b9]; exact fun h => by cases h)
    | succ n9 ih9 =>
      intro x2 x3 x4 u H locs ls hf hI hl
      rw [zf_CCStack_giveRow_31_2_b9] at hf
      refine lv_iload B.1 B.2.1 d_CStack_giveRow_9 (lv_at hl 4 rfl) ?_
      refine lv_iload_n B.1 B.2.1 d_CStack_giveRow_11 rfl (lv_at hl 3 rfl) ?_
      refine lv_icmp_ge (tgt := 32) B.1 B.2.1 d_CStack_giveRow_12 (by decide) (fun hc1 => ?_) (fun hc1 => ?_)
      · rw [if_pos hc1] at hf
        obtain ⟨e2, e3⟩ := zrt hf
        exact zr_v (wC a z) B hI hr hlk e3 d_CStack_giveRow_32
      · rw [if_neg hc1] at hf
        refine lv_aload_n B.1 B.2.1 d_CStack_giveRow_15 rfl (lv_at hl 0 rfl) ?_
        refine lv_aload_n B.1 B.2.1 d_CStack_giveRow_16 rfl (lv_at hl 1 rfl) ?_
        refine lv_iload_n B.1 B.2.1 d_CStack_giveRow_17 rfl (lv_at hl 2 rfl) ?_
        refine lv_iload B.1 B.2.1 d_CStack_giveRow_18 (lv_at hl 4 rfl) ?_
        obtain ⟨r4, u5, h6, hf⟩ := zbd_some hf
        refine rx_Vi (n := 2) (As := [.int x2, .int x4]) (rest := [.ref (a 31)]) B hI hl.1 (zc_CCRows_partOf_2 l D z a N x2 x4 u r4 u5 h6) zw_247 zw_111 zw_112 zw_25 zw_110 (by decide +kernel) 2 (wC_at_2 a z u) hcl_CRows rfl rfl (Nat.le_of_ble_eq_true rfl) d_CStack_giveRow_20 ⟨Nat.le_of_ble_eq_true rfl, Nat.le_of_ble_eq_true rfl⟩ rfl rfl ⟨Nat.zero_le _, Nat.zero_le _⟩ (fun H locs hI => ?_)
        obtain ⟨r7, u8, h9, hf⟩ := zbd_some hf
        refine rx_Vv (n := 1) (As := [.int r4]) (rest := []) B hI hl.1 (zc_CCStack_give_31 l D z a N r4 u5 r7 u8 h9) zw_274 zw_233 zw_234 zw_82 zw_232 (by decide +kernel) 31 (wC_at_31 a z u5) hcl_CStack rfl rfl (Nat.le_of_ble_eq_true rfl) d_CStack_giveRow_23 ⟨Nat.le_of_ble_eq_true rfl, Nat.le_of_ble_eq_true rfl⟩ rfl rfl ⟨Nat.zero_le _, Nat.zero_le _⟩ (fun H locs hI => ?_)
        refine lv_iinc (v := (x4 + 1)) (lv' := [(4, .int (x4 + 1)), (0, .ref (a 31)), (1, .ref (a 2)), (2, .int x2), (3, .int x3)]) B.1 B.2.1 d_CStack_giveRow_26 hl (k := 4) rfl (by rfl) (by decide) rfl (fun ls hl => ?_)
        refine lv_goto (tgt := 9) B.1 B.2.1 d_CStack_giveRow_29 (by decide) ?_
        exact ih9 x2 x3 (x4 + 1) u8 _ _ _ hf hI (lv_sub hl [1, 2, 3, 4, 0] rfl)
  intro hI hl hf
  unfold zf_CCStack_giveRow_31_2 at hf
  refine lv_aload_n B.1 B.2.1 d_CStack_giveRow_0 rfl (lv_at hl 1 rfl) ?_
  refine lv_iload_n B.1 B.2.1 d_CStack_giveRow_1 rfl (lv_at hl 2 rfl) ?_
  obtain ⟨r1, u2, h3, hf⟩ := zbd_some hf
  refine rx_Vi (n := 1) (As := [.int x2]) (rest := []) B hI hl.1 (zc_CCRows_sizeOf_2 l D z a N x2 u r1 u2 h3) zw_246 zw_27 zw_28 zw_25 zw_26 (by decide +kernel) 2 (wC_at_2 a z u) hcl_CRows rfl rfl (Nat.le_of_ble_eq_true rfl) d_CStack_giveRow_2 ⟨Nat.le_of_ble_eq_true rfl, Nat.le_of_ble_eq_true rfl⟩ rfl rfl ⟨Nat.zero_le _, Nat.zero_le _⟩ (fun H locs hI => ?_)
  refine lv_istore_n (lv' := [(3, .int r1), (0, .ref (a 31)), (1, .ref (a 2)), (2, .int x2)]) B.1 B.2.1 d_CStack_giveRow_5 rfl hl (by decide) rfl (fun ls hl => ?_)
  refine lv_iconst (v := 0) B.1 B.2.1 d_CStack_giveRow_6 (by decide) ?_
  refine lv_istore (lv' := [(4, .int 0), (3, .int r1), (0, .ref (a 31)), (1, .ref (a 2)), (2, .int x2)]) B.1 B.2.1 d_CStack_giveRow_7 hl (by decide) rfl (fun ls hl => ?_)
  exact hb9 N x2 r1 0 u2 _ _ _ hf hI (lv_sub hl [2, 3, 4, 1, 0] rfl)
set_option maxHeartbeats 4000000 in
set_option maxRecDepth 100000 in
theorem zc_CCStack_turnToElse_31 (l : Launch) (D : va_G) (z : zZ) (a : Nat → Nat) (N : Nat)  (u : zU) (r : Unit) (u1 : zU) (hf : zf_CCStack_turnToElse_31 N  u = some (r, u1)) : zMet l D z y_CStack_turnToElse (.code y_CStack_turnToElse b_CStack_turnToElse 2 none) { frames := 3, cells := 0, slots := 0, locals := 67 } [.ref (a 31)] (wC a z u) (zQv D (wC a z u1)) := by
  refine zM_v (own := R_CStack) [.ref (a 31)] (wC a z u) (wC a z u1) (by decide) rfl (Nat.le_of_ble_eq_true rfl) ?_
  intro p e s m args below meth c A ls B hr hlk hI hl
  have hl : lv_has ls 2 [(0, .ref (a 31))] := hl
  revert hf
  revert hI hl
  have hb15 : ∀  (u : zU) (H : Heap) (locs : List Loc) (ls : Array Slot), zf_CCStack_turnToElse_31_b15 N   u = some (r, u1) → iw D A s (wC a z u) H locs → lv_has ls 2 [(0, .ref (a 31))] → W p l e ({ frames := 3, cells := 0, slots := 0, locals := 67 } : Room) s m args below meth c H locs 0 0 (MQ below (zQv D (wC a z u1) A) args s 0 0 A) (F0 m 15 ls []) := by
    intro  u H locs ls hf hI hl
    unfold zf_CCStack_turnToElse_31_b15 at hf
    refine lv_aload_n B.1 B.2.1 d_CStack_turnToElse_15 rfl (lv_at hl 0 rfl) ?_
    refine lv_iconst (v := 2) B.1 B.2.1 d_CStack_turnToElse_16 (by decide) ?_
    obtain ⟨r1, u2, h3, hf⟩ := zbd_some hf
    refine rx_Vv (n := 1) (As := [.int 2]) (rest := []) B hI hl.1 (zc_CCStack_fail_31 l D z a N 2 u r1 u2 h3) zw_219 zw_221 zw_222 zw_82 zw_220 (by decide +kernel) 31 (wC_at_31 a z u) hcl_CStack rfl rfl (Nat.le_of_ble_eq_true rfl) d_CStack_turnToElse_17 ⟨Nat.le_of_ble_eq_true rfl, Nat.le_of_ble_eq_true rfl⟩ rfl rfl ⟨Nat.zero_le _, Nat.zero_le _⟩ (fun H locs hI => ?_)
    obtain ⟨e4, e5⟩ := zrt hf
    exact zr_v (wC a z) B hI hr hlk e5 d_CStack_turnToElse_20
  intro hI hl hf
  unfold zf_CCStack_turnToElse_31 at hf
  refine lv_aload_n B.1 B.2.1 d_CStack_turnToElse_0 rfl (lv_at hl 0 rfl) ?_
  obtain ⟨r1, u2, h3, hf⟩ := zbd_some hf
  refine rx_Vi (n := 0) (As := []) (rest := []) B hI hl.1 (zc_CCStack_hasInnermost_31 l D z a N  u r1 u2 h3) zw_270 zw_272 zw_273 zw_82 zw_271 (by decide +kernel) 31 (wC_at_31 a z u) hcl_CStack rfl rfl (Nat.le_of_ble_eq_true rfl) d_CStack_turnToElse_1 ⟨Nat.le_of_ble_eq_true rfl, Nat.le_of_ble_eq_true rfl⟩ rfl rfl ⟨Nat.zero_le _, Nat.zero_le _⟩ (fun H locs hI => ?_)
  refine lv_if_eq (tgt := 15) B.1 B.2.1 d_CStack_turnToElse_4 (by decide) (fun hc4 => ?_) (fun hc4 => ?_)
  · rw [if_pos hc4] at hf
    exact hb15  u2 _ _ _ hf hI (lv_sub hl [0] rfl)
  · rw [if_neg hc4] at hf
    refine lv_aload_n B.1 B.2.1 d_CStack_turnToElse_7 rfl (lv_at hl 0 rfl) ?_
    obtain ⟨r5, u6, h7, hf⟩ := zbd_some hf
    refine rx_Vi (n := 0) (As := []) (rest := []) B hI hl.1 (zc_CCStack_opener_31 l D z a N  u2 r5 u6 h7) zw_260 zw_262 zw_263 zw_82 zw_261 (by decide +kernel) 31 (wC_at_31 a z u2) hcl_CStack rfl rfl (Nat.le_of_ble_eq_true rfl) d_CStack_turnToElse_8 ⟨Nat.le_of_ble_eq_true rfl, Nat.le_of_ble_eq_true rfl⟩ rfl rfl ⟨Nat.zero_le _, Nat.zero_le _⟩ (fun H locs hI => ?_)
    refine lv_iconst (v := 4) B.1 B.2.1 d_CStack_turnToElse_11 (by decide) ?_
    refine lv_icmp_eq (tgt := 21) B.1 B.2.1 d_CStack_turnToElse_12 (by decide) (fun hc8 => ?_) (fun hc8 => ?_)
    · rw [if_pos hc8] at hf
      refine lv_aload_n B.1 B.2.1 d_CStack_turnToElse_21 rfl (lv_at hl 0 rfl) ?_
      refine lv_aload_n B.1 B.2.1 d_CStack_turnToElse_22 rfl (lv_at hl 0 rfl) ?_
      refine rx_get (v := .ref (a 33)) B hI hcl_CStack hin_CStack 31 (wC_at_31 a z u6) 2 (by decide) hf_CStack_2 zw_77 rfl d_CStack_turnToElse_23 ?_
      refine lv_iconst (v := 0) B.1 B.2.1 d_CStack_turnToElse_26 (by decide) ?_
      obtain ⟨r9, u10, h11, hf⟩ := zbd_some hf
      refine rx_Vi (n := 2) (As := [.ref (a 33), .int 0]) (rest := []) B hI hl.1 (zc_CCStack_ofBlock_31_33 l D z a N 0 u6 r9 u10 h11) zw_240 zw_242 zw_243 zw_82 zw_241 (by decide +kernel) 31 (wC_at_31 a z u6) hcl_CStack rfl rfl (Nat.le_of_ble_eq_true rfl) d_CStack_turnToElse_27 ⟨Nat.le_of_ble_eq_true rfl, Nat.le_of_ble_eq_true rfl⟩ rfl rfl ⟨Nat.zero_le _, Nat.zero_le _⟩ (fun H locs hI => ?_)
      refine lv_istore_n (lv' := [(1, .int r9), (0, .ref (a 31))]) B.1 B.2.1 d_CStack_turnToElse_30 rfl hl (by decide) rfl (fun ls hl => ?_)
      refine lv_aload_n B.1 B.2.1 d_CStack_turnToElse_31 rfl (lv_at hl 1 rfl) ?_
      refine lv_aload_n B.1 B.2.1 d_CStack_turnToElse_32 rfl (lv_at hl 1 rfl) ?_
      refine rx_get (v := .ref (a 1)) B hI hcl_CStack hin_CStack 31 (wC_at_31 a z u10) 0 (by decide) hf_CStack_0 zw_244 rfl d_CStack_turnToElse_33 ?_
      refine rx_getN (v := .ref (a 5)) B hI hcl_CThings hin_CThings 1 (wC_at_1 a z u10) 1 (by decide) hf_CThings_1 zw_245 rfl d_CStack_turnToElse_36 ?_
      refine lv_iload_n B.1 B.2.1 d_CStack_turnToElse_39 rfl (lv_at hl 0 rfl) ?_
      obtain ⟨r12, u13, h14, hf⟩ := zbd_some hf
      refine rx_Vv (n := 2) (As := [.ref (a 5), .int r9]) (rest := []) B hI hl.1 (zc_CCStack_takeRow_31_5 l D z a N r9 u10 r12 u13 h14) zw_248 zw_250 zw_251 zw_82 zw_249 (by decide +kernel) 31 (wC_at_31 a z u10) hcl_CStack rfl rfl (Nat.le_of_ble_eq_true rfl) d_CStack_turnToElse_40 ⟨Nat.le_of_ble_eq_true rfl, Nat.le_of_ble_eq_true rfl⟩ rfl rfl ⟨Nat.zero_le _, Nat.zero_le _⟩ (fun H locs hI => ?_)
      refine lv_aload_n B.1 B.2.1 d_CStack_turnToElse_43 rfl (lv_at hl 1 rfl) ?_
      obtain ⟨r15, u16, h17, hf⟩ := zbd_some hf
      refine rx_Vv (n := 0) (As := []) (rest := []) B hI hl.1 (zc_CCStack_expectNoMoreOperands_31 l D z a N  u13 r15 u16 h17) zw_256 zw_258 zw_259 zw_82 zw_257 (by decide +kernel) 31 (wC_at_31 a z u13) hcl_CStack rfl rfl (Nat.le_of_ble_eq_true rfl) d_CStack_turnToElse_44 ⟨Nat.le_of_ble_eq_true rfl, Nat.le_of_ble_eq_true rfl⟩ rfl rfl ⟨Nat.zero_le _, Nat.zero_le _⟩ (fun H locs hI => ?_)
      refine lv_aload_n B.1 B.2.1 d_CStack_turnToElse_47 rfl (lv_at hl 1 rfl) ?_
      refine rx_get (v := .ref (a 35)) B hI hcl_CStack hin_CStack 31 (wC_at_31 a z u16) 4 (by decide) hf_CStack_4 zw_79 rfl d_CStack_turnToElse_48 ?_
      refine lv_aload_n B.1 B.2.1 d_CStack_turnToElse_51 rfl (lv_at hl 1 rfl) ?_
      refine rx_get (v := .int (gi u16 15)) B hI hcl_CStack hin_CStack 31 (wC_at_31 a z u16) 8 (by decide) hf_CStack_8 zw_75 rfl d_CStack_turnToElse_52 ?_
      refine lv_iconst (v := 1) B.1 B.2.1 d_CStack_turnToElse_55 (by decide) ?_
      refine lv_isub B.1 B.2.1 d_CStack_turnToElse_56 ?_
      refine lv_iconst (v := 5) B.1 B.2.1 d_CStack_turnToElse_57 (by decide) ?_
      obtain ⟨hi18, hf⟩ := zck_some hf
      refine rx_iast B hI 35 (wC_at_35 a z u16) hi18 (wC_sa_21 a z u16 ((gi u16 15) - 1) 5) d_CStack_turnToElse_58 (fun H locs hI => ?_)
      refine lv_aload_n B.1 B.2.1 d_CStack_turnToElse_59 rfl (lv_at hl 1 rfl) ?_
      refine rx_get (v := .ref (a 36)) B hI hcl_CStack hin_CStack 31 (wC_at_31 a z (sa u16 21 ((gi u16 15) - 1) 5)) 5 (by decide) hf_CStack_5 zw_80 rfl d_CStack_turnToElse_60 ?_
      refine lv_aload_n B.1 B.2.1 d_CStack_turnToElse_63 rfl (lv_at hl 1 rfl) ?_
      refine rx_get (v := .int (gi u16 15)) B hI hcl_CStack hin_CStack 31 (wC_at_31 a z (sa u16 21 ((gi u16 15) - 1) 5)) 8 (by decide) hf_CStack_8 zw_75 rfl d_CStack_turnToElse_64 ?_
      refine lv_iconst (v := 1) B.1 B.2.1 d_CStack_turnToElse_67 (by decide) ?_
      refine lv_isub B.1 B.2.1 d_CStack_turnToElse_68 ?_
      refine lv_iconst (v := 1) B.1 B.2.1 d_CStack_turnToElse_69 (by decide) ?_
      obtain ⟨hi19, hf⟩ := zck_some hf
      refine rx_zast B hI 36 (wC_at_36 a z (sa u16 21 ((gi u16 15) - 1) 5)) hi19 (wC_sa_22 a z (sa u16 21 ((gi u16 15) - 1) 5) ((gi u16 15) - 1) (vp_nar .boolean 1)) d_CStack_turnToElse_70 (fun H locs hI => ?_)
      refine lv_aload_n B.1 B.2.1 d_CStack_turnToElse_71 rfl (lv_at hl 1 rfl) ?_
      refine lv_aload_n B.1 B.2.1 d_CStack_turnToElse_72 rfl (lv_at hl 1 rfl) ?_
      refine rx_get (v := .ref (a 1)) B hI hcl_CStack hin_CStack 31 (wC_at_31 a z (sa (sa u16 21 ((gi u16 15) - 1) 5) 22 ((gi u16 15) - 1) (vp_nar .boolean 1))) 0 (by decide) hf_CStack_0 zw_244 rfl d_CStack_turnToElse_73 ?_
      refine rx_getN (v := .ref (a 2)) B hI hcl_CThings hin_CThings 1 (wC_at_1 a z (sa (sa u16 21 ((gi u16 15) - 1) 5) 22 ((gi u16 15) - 1) (vp_nar .boolean 1))) 0 (by decide) hf_CThings_0 zw_283 rfl d_CStack_turnToElse_76 ?_
      refine lv_iload_n B.1 B.2.1 d_CStack_turnToElse_79 rfl (lv_at hl 0 rfl) ?_
      obtain ⟨r20, u21, h22, hf⟩ := zbd_some hf
      refine rx_Vv (n := 2) (As := [.ref (a 2), .int r9]) (rest := []) B hI hl.1 (zc_CCStack_giveRow_31_2 l D z a N r9 (sa (sa u16 21 ((gi u16 15) - 1) 5) 22 ((gi u16 15) - 1) (vp_nar .boolean 1)) r20 u21 h22) zw_275 zw_277 zw_278 zw_82 zw_276 (by decide +kernel) 31 (wC_at_31 a z (sa (sa u16 21 ((gi u16 15) - 1) 5) 22 ((gi u16 15) - 1) (vp_nar .boolean 1))) hcl_CStack rfl rfl (Nat.le_of_ble_eq_true rfl) d_CStack_turnToElse_80 ⟨Nat.le_of_ble_eq_true rfl, Nat.le_of_ble_eq_true rfl⟩ rfl rfl ⟨Nat.zero_le _, Nat.zero_le _⟩ (fun H locs hI => ?_)
      obtain ⟨e23, e24⟩ := zrt hf
      exact zr_v (wC a z) B hI hr hlk e24 d_CStack_turnToElse_83
    · rw [if_neg hc8] at hf
      exact hb15  u6 _ _ _ hf hI (lv_sub hl [0] rfl)
set_option maxHeartbeats 4000000 in
set_option maxRecDepth 100000 in
theorem zc_CCStack_takeRow_31_2 (l : Launch) (D : va_G) (z : zZ) (a : Nat → Nat) (N : Nat) (x2 : Int32) (u : zU) (r : Unit) (u1 : zU) (hf : zf_CCStack_takeRow_31_2 N x2 u = some (r, u1)) : zMet l D z y_CStack_takeRow (.code y_CStack_takeRow b_CStack_takeRow 4 none) { frames := 2, cells := 0, slots := 0, locals := 44 } [.ref (a 31), .ref (a 2), .int x2] (wC a z u) (zQv D (wC a z u1)) := by
  refine zM_v (own := R_CStack) [.ref (a 31), .ref (a 2), .int x2] (wC a z u) (wC a z u1) (by decide) rfl (Nat.le_of_ble_eq_true rfl) ?_
  intro p e s m args below meth c A ls B hr hlk hI hl
  have hl : lv_has ls 4 [(0, .ref (a 31)), (1, .ref (a 2)), (2, .int x2)] := hl
  revert hf
  revert hI hl
  have hb8 : ∀ (n : Nat) (x2 : Int32) (x3 : Int32) (u : zU) (H : Heap) (locs : List Loc) (ls : Array Slot), zf_CCStack_takeRow_31_2_b8 N  n x2 x3 u = some (r, u1) → iw D A s (wC a z u) H locs → lv_has ls 4 [(0, .ref (a 31)), (1, .ref (a 2)), (2, .int x2), (3, .int x3)] → W p l e ({ frames := 2, cells := 0, slots := 0, locals := 44 } : Room) s m args below meth c H locs 0 0 (MQ below (zQv D (wC a z u1) A) args s 0 0 A) (F0 m 8 ls []) := by
    intro n8
    induction n8 with
    | zero => intro x2 x3 u H locs ls hf; exact absurd hf (by rw [zf_CCStack_takeRow_31_2_b8]; exact fun h => by cases h)
    | succ n8 ih8 =>
      intro x2 x3 u H locs ls hf hI hl
      rw [zf_CCStack_takeRow_31_2_b8] at hf
      refine lv_iload_n B.1 B.2.1 d_CStack_takeRow_8 rfl (lv_at hl 3 rfl) ?_
      refine lv_if_lt (tgt := 29) B.1 B.2.1 d_CStack_takeRow_9 (by decide) (fun hc1 => ?_) (fun hc1 => ?_)
      · rw [if_pos hc1] at hf
        obtain ⟨e2, e3⟩ := zrt hf
        exact zr_v (wC a z) B hI hr hlk e3 d_CStack_takeRow_29
      · rw [if_neg hc1] at hf
        refine lv_aload_n B.1 B.2.1 d_CStack_takeRow_12 rfl (lv_at hl 0 rfl) ?_
        refine lv_aload_n B.1 B.2.1 d_CStack_takeRow_13 rfl (lv_at hl 1 rfl) ?_
        refine lv_iload_n B.1 B.2.1 d_CStack_takeRow_14 rfl (lv_at hl 2 rfl) ?_
        refine lv_iload_n B.1 B.2.1 d_CStack_takeRow_15 rfl (lv_at hl 3 rfl) ?_
        obtain ⟨r4, u5, h6, hf⟩ := zbd_some hf
        refine rx_Vi (n := 2) (As := [.int x2, .int x3]) (rest := [.ref (a 31)]) B hI hl.1 (zc_CCRows_partOf_2 l D z a N x2 x3 u r4 u5 h6) zw_247 zw_111 zw_112 zw_25 zw_110 (by decide +kernel) 2 (wC_at_2 a z u) hcl_CRows rfl rfl (Nat.le_of_ble_eq_true rfl) d_CStack_takeRow_16 ⟨Nat.le_of_ble_eq_true rfl, Nat.le_of_ble_eq_true rfl⟩ rfl rfl ⟨Nat.zero_le _, Nat.zero_le _⟩ (fun H locs hI => ?_)
        obtain ⟨r7, u8, h9, hf⟩ := zbd_some hf
        refine rx_Vi (n := 1) (As := [.int r4]) (rest := []) B hI hl.1 (zc_CCStack_take_31 l D z a N r4 u5 r7 u8 h9) zw_223 zw_225 zw_226 zw_82 zw_224 (by decide +kernel) 31 (wC_at_31 a z u5) hcl_CStack rfl rfl (Nat.le_of_ble_eq_true rfl) d_CStack_takeRow_19 ⟨Nat.le_of_ble_eq_true rfl, Nat.le_of_ble_eq_true rfl⟩ rfl rfl ⟨Nat.zero_le _, Nat.zero_le _⟩ (fun H locs hI => ?_)
        refine lv_pop B.1 B.2.1 d_CStack_takeRow_22 rfl ?_
        refine lv_iinc (v := (x3 + (-1))) (lv' := [(3, .int (x3 + (-1))), (0, .ref (a 31)), (1, .ref (a 2)), (2, .int x2)]) B.1 B.2.1 d_CStack_takeRow_23 hl (k := 3) rfl (by rfl) (by decide) rfl (fun ls hl => ?_)
        refine lv_goto (tgt := 8) B.1 B.2.1 d_CStack_takeRow_26 (by decide) ?_
        exact ih8 x2 (x3 + (-1)) u8 _ _ _ hf hI (lv_sub hl [1, 2, 3, 0] rfl)
  intro hI hl hf
  unfold zf_CCStack_takeRow_31_2 at hf
  refine lv_aload_n B.1 B.2.1 d_CStack_takeRow_0 rfl (lv_at hl 1 rfl) ?_
  refine lv_iload_n B.1 B.2.1 d_CStack_takeRow_1 rfl (lv_at hl 2 rfl) ?_
  obtain ⟨r1, u2, h3, hf⟩ := zbd_some hf
  refine rx_Vi (n := 1) (As := [.int x2]) (rest := []) B hI hl.1 (zc_CCRows_sizeOf_2 l D z a N x2 u r1 u2 h3) zw_246 zw_27 zw_28 zw_25 zw_26 (by decide +kernel) 2 (wC_at_2 a z u) hcl_CRows rfl rfl (Nat.le_of_ble_eq_true rfl) d_CStack_takeRow_2 ⟨Nat.le_of_ble_eq_true rfl, Nat.le_of_ble_eq_true rfl⟩ rfl rfl ⟨Nat.zero_le _, Nat.zero_le _⟩ (fun H locs hI => ?_)
  refine lv_iconst (v := 1) B.1 B.2.1 d_CStack_takeRow_5 (by decide) ?_
  refine lv_isub B.1 B.2.1 d_CStack_takeRow_6 ?_
  refine lv_istore_n (lv' := [(3, .int (r1 - 1)), (0, .ref (a 31)), (1, .ref (a 2)), (2, .int x2)]) B.1 B.2.1 d_CStack_takeRow_7 rfl hl (by decide) rfl (fun ls hl => ?_)
  exact hb8 N x2 (r1 - 1) u2 _ _ _ hf hI (lv_sub hl [1, 2, 3, 0] rfl)
set_option maxHeartbeats 4000000 in
set_option maxRecDepth 100000 in
theorem zc_CCStack_openBlock_31 (l : Launch) (D : va_G) (z : zZ) (a : Nat → Nat) (N : Nat) (x1 : Int32) (x2 : Int32) (u : zU) (r : Unit) (u1 : zU) (hf : zf_CCStack_openBlock_31 N x1 x2 u = some (r, u1)) : zMet l D z y_CStack_openBlock (.code y_CStack_openBlock b_CStack_openBlock 3 none) { frames := 3, cells := 0, slots := 0, locals := 67 } [.ref (a 31), .int x1, .int x2] (wC a z u) (zQv D (wC a z u1)) := by
  refine zM_v (own := R_CStack) [.ref (a 31), .int x1, .int x2] (wC a z u) (wC a z u1) (by decide) rfl (Nat.le_of_ble_eq_true rfl) ?_
  intro p e s m args below meth c A ls B hr hlk hI hl
  have hl : lv_has ls 3 [(0, .ref (a 31)), (1, .int x1), (2, .int x2)] := hl
  revert hf
  revert hI hl
  intro hI hl hf
  unfold zf_CCStack_openBlock_31 at hf
  refine lv_aload_n B.1 B.2.1 d_CStack_openBlock_0 rfl (lv_at hl 0 rfl) ?_
  refine lv_aload_n B.1 B.2.1 d_CStack_openBlock_1 rfl (lv_at hl 0 rfl) ?_
  refine rx_get (v := .ref (a 1)) B hI hcl_CStack hin_CStack 31 (wC_at_31 a z u) 0 (by decide) hf_CStack_0 zw_244 rfl d_CStack_openBlock_2 ?_
  refine rx_getN (v := .ref (a 2)) B hI hcl_CThings hin_CThings 1 (wC_at_1 a z u) 0 (by decide) hf_CThings_0 zw_283 rfl d_CStack_openBlock_5 ?_
  refine lv_iload_n B.1 B.2.1 d_CStack_openBlock_8 rfl (lv_at hl 2 rfl) ?_
  obtain ⟨r1, u2, h3, hf⟩ := zbd_some hf
  refine rx_Vv (n := 2) (As := [.ref (a 2), .int x2]) (rest := []) B hI hl.1 (zc_CCStack_takeRow_31_2 l D z a N x2 u r1 u2 h3) zw_248 zw_250 zw_251 zw_82 zw_249 (by decide +kernel) 31 (wC_at_31 a z u) hcl_CStack rfl rfl (Nat.le_of_ble_eq_true rfl) d_CStack_openBlock_9 ⟨Nat.le_of_ble_eq_true rfl, Nat.le_of_ble_eq_true rfl⟩ rfl rfl ⟨Nat.zero_le _, Nat.zero_le _⟩ (fun H locs hI => ?_)
  refine lv_aload_n B.1 B.2.1 d_CStack_openBlock_12 rfl (lv_at hl 0 rfl) ?_
  refine lv_iload_n B.1 B.2.1 d_CStack_openBlock_13 rfl (lv_at hl 1 rfl) ?_
  refine lv_iload_n B.1 B.2.1 d_CStack_openBlock_14 rfl (lv_at hl 2 rfl) ?_
  obtain ⟨r4, u5, h6, hf⟩ := zbd_some hf
  refine rx_Vv (n := 2) (As := [.int x1, .int x2]) (rest := []) B hI hl.1 (zc_CCStack_pushBlock_31 l D z a N x1 x2 u2 r4 u5 h6) zw_81 zw_84 zw_85 zw_82 zw_83 (by decide +kernel) 31 (wC_at_31 a z u2) hcl_CStack rfl rfl (Nat.le_of_ble_eq_true rfl) d_CStack_openBlock_15 ⟨Nat.le_of_ble_eq_true rfl, Nat.le_of_ble_eq_true rfl⟩ rfl rfl ⟨Nat.zero_le _, Nat.zero_le _⟩ (fun H locs hI => ?_)
  refine lv_aload_n B.1 B.2.1 d_CStack_openBlock_18 rfl (lv_at hl 0 rfl) ?_
  refine lv_aload_n B.1 B.2.1 d_CStack_openBlock_19 rfl (lv_at hl 0 rfl) ?_
  refine rx_get (v := .ref (a 1)) B hI hcl_CStack hin_CStack 31 (wC_at_31 a z u5) 0 (by decide) hf_CStack_0 zw_244 rfl d_CStack_openBlock_20 ?_
  refine rx_getN (v := .ref (a 2)) B hI hcl_CThings hin_CThings 1 (wC_at_1 a z u5) 0 (by decide) hf_CThings_0 zw_283 rfl d_CStack_openBlock_23 ?_
  refine lv_iload_n B.1 B.2.1 d_CStack_openBlock_26 rfl (lv_at hl 2 rfl) ?_
  obtain ⟨r7, u8, h9, hf⟩ := zbd_some hf
  refine rx_Vv (n := 2) (As := [.ref (a 2), .int x2]) (rest := []) B hI hl.1 (zc_CCStack_giveRow_31_2 l D z a N x2 u5 r7 u8 h9) zw_275 zw_277 zw_278 zw_82 zw_276 (by decide +kernel) 31 (wC_at_31 a z u5) hcl_CStack rfl rfl (Nat.le_of_ble_eq_true rfl) d_CStack_openBlock_27 ⟨Nat.le_of_ble_eq_true rfl, Nat.le_of_ble_eq_true rfl⟩ rfl rfl ⟨Nat.zero_le _, Nat.zero_le _⟩ (fun H locs hI => ?_)
  obtain ⟨e10, e11⟩ := zrt hf
  exact zr_v (wC a z) B hI hr hlk e11 d_CStack_openBlock_30
set_option maxHeartbeats 4000000 in
set_option maxRecDepth 100000 in
theorem zc_CCStack_die_31 (l : Launch) (D : va_G) (z : zZ) (a : Nat → Nat) (N : Nat)  (u : zU) (r : Unit) (u1 : zU) (hf : zf_CCStack_die_31 N  u = some (r, u1)) : zMet l D z y_CStack_die (.code y_CStack_die b_CStack_die 1 none) { frames := 1, cells := 0, slots := 0, locals := 20 } [.ref (a 31)] (wC a z u) (zQv D (wC a z u1)) := by
  refine zM_v (own := R_CStack) [.ref (a 31)] (wC a z u) (wC a z u1) (by decide) rfl (Nat.le_of_ble_eq_true rfl) ?_
  intro p e s m args below meth c A ls B hr hlk hI hl
  have hl : lv_has ls 1 [(0, .ref (a 31))] := hl
  revert hf
  revert hI hl
  have hb14 : ∀  (u : zU) (H : Heap) (locs : List Loc) (ls : Array Slot), zf_CCStack_die_31_b14 N   u = some (r, u1) → iw D A s (wC a z u) H locs → lv_has ls 1 [] → W p l e ({ frames := 1, cells := 0, slots := 0, locals := 20 } : Room) s m args below meth c H locs 0 0 (MQ below (zQv D (wC a z u1) A) args s 0 0 A) (F0 m 14 ls []) := by
    intro  u H locs ls hf hI hl
    unfold zf_CCStack_die_31_b14 at hf
    obtain ⟨e1, e2⟩ := zrt hf
    exact zr_v (wC a z) B hI hr hlk e2 d_CStack_die_14
  intro hI hl hf
  unfold zf_CCStack_die_31 at hf
  refine lv_aload_n B.1 B.2.1 d_CStack_die_0 rfl (lv_at hl 0 rfl) ?_
  refine rx_get (v := .int (gi u 16)) B hI hcl_CStack hin_CStack 31 (wC_at_31 a z u) 9 (by decide) hf_CStack_9 zw_76 rfl d_CStack_die_1 ?_
  refine lv_if_ne (tgt := 14) B.1 B.2.1 d_CStack_die_4 (by decide) (fun hc1 => ?_) (fun hc1 => ?_)
  · rw [if_neg hc1] at hf
    exact hb14  u _ _ _ hf hI (lv_sub hl [] rfl)
  · rw [if_pos hc1] at hf
    refine lv_aload_n B.1 B.2.1 d_CStack_die_7 rfl (lv_at hl 0 rfl) ?_
    obtain ⟨r2, u3, h4, hf⟩ := zbd_some hf
    refine rx_Vi (n := 0) (As := []) (rest := []) B hI hl.1 (zc_CCStack_hasInnermost_31 l D z a N  u r2 u3 h4) zw_270 zw_272 zw_273 zw_82 zw_271 (by decide +kernel) 31 (wC_at_31 a z u) hcl_CStack rfl rfl (Nat.le_of_ble_eq_true rfl) d_CStack_die_8 ⟨Nat.le_of_ble_eq_true rfl, Nat.le_of_ble_eq_true rfl⟩ rfl rfl ⟨Nat.zero_le _, Nat.zero_le _⟩ (fun H locs hI => ?_)
    refine lv_if_ne (tgt := 15) B.1 B.2.1 d_CStack_die_11 (by decide) (fun hc5 => ?_) (fun hc5 => ?_)
    · rw [if_neg hc5] at hf
      refine lv_aload_n B.1 B.2.1 d_CStack_die_15 rfl (lv_at hl 0 rfl) ?_
      refine lv_aload_n B.1 B.2.1 d_CStack_die_16 rfl (lv_at hl 0 rfl) ?_
      refine rx_get (v := .ref (a 34)) B hI hcl_CStack hin_CStack 31 (wC_at_31 a z u3) 3 (by decide) hf_CStack_3 zw_78 rfl d_CStack_die_17 ?_
      refine lv_aload_n B.1 B.2.1 d_CStack_die_20 rfl (lv_at hl 0 rfl) ?_
      refine rx_get (v := .int (gi u3 15)) B hI hcl_CStack hin_CStack 31 (wC_at_31 a z u3) 8 (by decide) hf_CStack_8 zw_75 rfl d_CStack_die_21 ?_
      refine lv_iconst (v := 1) B.1 B.2.1 d_CStack_die_24 (by decide) ?_
      refine lv_isub B.1 B.2.1 d_CStack_die_25 ?_
      obtain ⟨hi6, hf⟩ := zck_some hf
      refine rx_iald B hI 34 (wC_at_34 a z u3) hi6 d_CStack_die_26 ?_
      refine rx_put B hI hcl_CStack hin_CStack hty_CStack hnm_CStack 31 (wC_at_31 a z u3) 7 (by decide) hf_CStack_7 zw_74 rfl (ty := .int) (by decide +kernel) rfl rfl (Nat.le_of_ble_eq_true rfl) (wC_si_14 a z u3 (ga u3 20 ((gi u3 15) - 1))) d_CStack_die_27 (fun H locs hI => ?_)
      refine lv_aload_n B.1 B.2.1 d_CStack_die_30 rfl (lv_at hl 0 rfl) ?_
      refine rx_get (v := .ref (a 36)) B hI hcl_CStack hin_CStack 31 (wC_at_31 a z (si u3 14 (ga u3 20 ((gi u3 15) - 1)))) 5 (by decide) hf_CStack_5 zw_80 rfl d_CStack_die_31 ?_
      refine lv_aload_n B.1 B.2.1 d_CStack_die_34 rfl (lv_at hl 0 rfl) ?_
      refine rx_get (v := .int (gi u3 15)) B hI hcl_CStack hin_CStack 31 (wC_at_31 a z (si u3 14 (ga u3 20 ((gi u3 15) - 1)))) 8 (by decide) hf_CStack_8 zw_75 rfl d_CStack_die_35 ?_
      refine lv_iconst (v := 1) B.1 B.2.1 d_CStack_die_38 (by decide) ?_
      refine lv_isub B.1 B.2.1 d_CStack_die_39 ?_
      refine lv_iconst (v := 0) B.1 B.2.1 d_CStack_die_40 (by decide) ?_
      obtain ⟨hi7, hf⟩ := zck_some hf
      refine rx_zast B hI 36 (wC_at_36 a z (si u3 14 (ga u3 20 ((gi u3 15) - 1)))) hi7 (wC_sa_22 a z (si u3 14 (ga u3 20 ((gi u3 15) - 1))) ((gi u3 15) - 1) (vp_nar .boolean 0)) d_CStack_die_41 (fun H locs hI => ?_)
      obtain ⟨e8, e9⟩ := zrt hf
      exact zr_v (wC a z) B hI hr hlk e9 d_CStack_die_42
    · rw [if_pos hc5] at hf
      exact hb14  u3 _ _ _ hf hI (lv_sub hl [] rfl)
set_option maxHeartbeats 4000000 in
set_option maxRecDepth 100000 in
theorem zc_CCCode_carryOutBlock_26 (l : Launch) (D : va_G) (z : zZ) (a : Nat → Nat) (N : Nat) (x1 : Int32) (x2 : Int32) (u : zU) (r : Unit) (u1 : zU) (hf : zf_CCCode_carryOutBlock_26 N x1 x2 u = some (r, u1)) : zMet l D z y_CCode_carryOutBlock (.code y_CCode_carryOutBlock b_CCode_carryOutBlock 3 none) { frames := 4, cells := 0, slots := 0, locals := 89 } [.ref (a 26), .int x1, .int x2] (wC a z u) (zQv D (wC a z u1)) := by
  refine zM_v (own := R_CCode) [.ref (a 26), .int x1, .int x2] (wC a z u) (wC a z u1) (by decide) rfl (Nat.le_of_ble_eq_true rfl) ?_
  intro p e s m args below meth c A ls B hr hlk hI hl
  have hl : lv_has ls 3 [(0, .ref (a 26)), (1, .int x1), (2, .int x2)] := hl
  revert hf
  revert hI hl
  have hb128 : ∀  (u : zU) (H : Heap) (locs : List Loc) (ls : Array Slot), zf_CCCode_carryOutBlock_26_b128 N   u = some (r, u1) → iw D A s (wC a z u) H locs → lv_has ls 3 [] → W p l e ({ frames := 4, cells := 0, slots := 0, locals := 89 } : Room) s m args below meth c H locs 0 0 (MQ below (zQv D (wC a z u1) A) args s 0 0 A) (F0 m 128 ls []) := by
    intro  u H locs ls hf hI hl
    unfold zf_CCCode_carryOutBlock_26_b128 at hf
    obtain ⟨e1, e2⟩ := zrt hf
    exact zr_v (wC a z) B hI hr hlk e2 d_CCode_carryOutBlock_128
  have hb74 : ∀ (x1 : Int32) (x2 : Int32) (u : zU) (H : Heap) (locs : List Loc) (ls : Array Slot), zf_CCCode_carryOutBlock_26_b74 N  x1 x2 u = some (r, u1) → iw D A s (wC a z u) H locs → lv_has ls 3 [(0, .ref (a 26)), (1, .int x1), (2, .int x2)] → W p l e ({ frames := 4, cells := 0, slots := 0, locals := 89 } : Room) s m args below meth c H locs 0 0 (MQ below (zQv D (wC a z u1) A) args s 0 0 A) (F0 m 74 ls []) := by
    intro x1 x2 u H locs ls hf hI hl
    unfold zf_CCCode_carryOutBlock_26_b74 at hf
    refine lv_aload_n B.1 B.2.1 d_CCode_carryOutBlock_74 rfl (lv_at hl 0 rfl) ?_
    refine rx_get (v := .ref (a 31)) B hI hcl_CCode hin_CCode 26 (wC_at_26 a z u) 1 (by decide) hf_CCode_1 zw_73 rfl d_CCode_carryOutBlock_75 ?_
    refine lv_iload_n B.1 B.2.1 d_CCode_carryOutBlock_78 rfl (lv_at hl 1 rfl) ?_
    refine lv_iload_n B.1 B.2.1 d_CCode_carryOutBlock_79 rfl (lv_at hl 2 rfl) ?_
    obtain ⟨r1, u2, h3, hf⟩ := zbd_some hf
    refine rx_Vv (n := 2) (As := [.int x1, .int x2]) (rest := []) B hI hl.1 (zc_CCStack_openBlock_31 l D z a N x1 x2 u r1 u2 h3) zw_289 zw_291 zw_292 zw_82 zw_290 (by decide +kernel) 31 (wC_at_31 a z u) hcl_CStack rfl rfl (Nat.le_of_ble_eq_true rfl) d_CCode_carryOutBlock_80 ⟨Nat.le_of_ble_eq_true rfl, Nat.le_of_ble_eq_true rfl⟩ rfl rfl ⟨Nat.zero_le _, Nat.zero_le _⟩ (fun H locs hI => ?_)
    refine lv_goto (tgt := 128) B.1 B.2.1 d_CCode_carryOutBlock_83 (by decide) ?_
    exact hb128  u2 _ _ _ hf hI (lv_sub hl [] rfl)
  intro hI hl hf
  unfold zf_CCCode_carryOutBlock_26 at hf
  refine lv_iload_n B.1 B.2.1 d_CCode_carryOutBlock_0 rfl (lv_at hl 1 rfl) ?_
  by_cases hc1 : x1 = 0
  · rw [if_pos hc1] at hf
    refine lv_tableIn (off := 63) (tgt := 64) B.1 B.2.1 d_CCode_carryOutBlock_1 (by rw [hc1]; decide +kernel) (by rw [hc1]; decide +kernel) (by rw [hc1]; decide +kernel) (by decide) ?_
    refine lv_aload_n B.1 B.2.1 d_CCode_carryOutBlock_64 rfl (lv_at hl 0 rfl) ?_
    refine rx_get (v := .ref (a 31)) B hI hcl_CCode hin_CCode 26 (wC_at_26 a z u) 1 (by decide) hf_CCode_1 zw_73 rfl d_CCode_carryOutBlock_65 ?_
    obtain ⟨r2, u3, h4, hf⟩ := zbd_some hf
    refine rx_Vv (n := 0) (As := []) (rest := []) B hI hl.1 (zc_CCStack_die_31 l D z a N  u r2 u3 h4) zw_293 zw_295 zw_296 zw_82 zw_294 (by decide +kernel) 31 (wC_at_31 a z u) hcl_CStack rfl rfl (Nat.le_of_ble_eq_true rfl) d_CCode_carryOutBlock_68 ⟨Nat.le_of_ble_eq_true rfl, Nat.le_of_ble_eq_true rfl⟩ rfl rfl ⟨Nat.zero_le _, Nat.zero_le _⟩ (fun H locs hI => ?_)
    refine lv_goto (tgt := 128) B.1 B.2.1 d_CCode_carryOutBlock_71 (by decide) ?_
    exact hb128  u3 _ _ _ hf hI (lv_sub hl [] rfl)
  rw [if_neg hc1] at hf
  by_cases hc5 : x1 = 1
  · rw [if_pos hc5] at hf
    refine lv_tableIn (off := 127) (tgt := 128) B.1 B.2.1 d_CCode_carryOutBlock_1 (by rw [hc5]; decide +kernel) (by rw [hc5]; decide +kernel) (by rw [hc5]; decide +kernel) (by decide) ?_
    exact hb128  u _ _ _ hf hI (lv_sub hl [] rfl)
  rw [if_neg hc5] at hf
  by_cases hc6 : x1 = 2
  · rw [if_pos hc6] at hf
    refine lv_tableIn (off := 73) (tgt := 74) B.1 B.2.1 d_CCode_carryOutBlock_1 (by rw [hc6]; decide +kernel) (by rw [hc6]; decide +kernel) (by rw [hc6]; decide +kernel) (by decide) ?_
    exact hb74 x1 x2 u _ _ _ hf hI (lv_sub hl [0, 1, 2] rfl)
  rw [if_neg hc6] at hf
  by_cases hc7 : x1 = 3
  · rw [if_pos hc7] at hf
    refine lv_tableIn (off := 73) (tgt := 74) B.1 B.2.1 d_CCode_carryOutBlock_1 (by rw [hc7]; decide +kernel) (by rw [hc7]; decide +kernel) (by rw [hc7]; decide +kernel) (by decide) ?_
    exact hb74 x1 x2 u _ _ _ hf hI (lv_sub hl [0, 1, 2] rfl)
  rw [if_neg hc7] at hf
  by_cases hc8 : x1 = 4
  · rw [if_pos hc8] at hf
    refine lv_tableIn (off := 85) (tgt := 86) B.1 B.2.1 d_CCode_carryOutBlock_1 (by rw [hc8]; decide +kernel) (by rw [hc8]; decide +kernel) (by rw [hc8]; decide +kernel) (by decide) ?_
    refine lv_aload_n B.1 B.2.1 d_CCode_carryOutBlock_86 rfl (lv_at hl 0 rfl) ?_
    refine rx_get (v := .ref (a 31)) B hI hcl_CCode hin_CCode 26 (wC_at_26 a z u) 1 (by decide) hf_CCode_1 zw_73 rfl d_CCode_carryOutBlock_87 ?_
    refine lv_bipush (v := 127) B.1 B.2.1 d_CCode_carryOutBlock_90 (by decide) ?_
    obtain ⟨r9, u10, h11, hf⟩ := zbd_some hf
    refine rx_Vi (n := 1) (As := [.int 127]) (rest := []) B hI hl.1 (zc_CCStack_take_31 l D z a N 127 u r9 u10 h11) zw_288 zw_225 zw_226 zw_82 zw_224 (by decide +kernel) 31 (wC_at_31 a z u) hcl_CStack rfl rfl (Nat.le_of_ble_eq_true rfl) d_CCode_carryOutBlock_92 ⟨Nat.le_of_ble_eq_true rfl, Nat.le_of_ble_eq_true rfl⟩ rfl rfl ⟨Nat.zero_le _, Nat.zero_le _⟩ (fun H locs hI => ?_)
    refine lv_pop B.1 B.2.1 d_CCode_carryOutBlock_95 rfl ?_
    refine lv_aload_n B.1 B.2.1 d_CCode_carryOutBlock_96 rfl (lv_at hl 0 rfl) ?_
    refine rx_get (v := .ref (a 31)) B hI hcl_CCode hin_CCode 26 (wC_at_26 a z u10) 1 (by decide) hf_CCode_1 zw_73 rfl d_CCode_carryOutBlock_97 ?_
    refine lv_iload_n B.1 B.2.1 d_CCode_carryOutBlock_100 rfl (lv_at hl 1 rfl) ?_
    refine lv_iload_n B.1 B.2.1 d_CCode_carryOutBlock_101 rfl (lv_at hl 2 rfl) ?_
    obtain ⟨r12, u13, h14, hf⟩ := zbd_some hf
    refine rx_Vv (n := 2) (As := [.int x1, .int x2]) (rest := []) B hI hl.1 (zc_CCStack_openBlock_31 l D z a N x1 x2 u10 r12 u13 h14) zw_289 zw_291 zw_292 zw_82 zw_290 (by decide +kernel) 31 (wC_at_31 a z u10) hcl_CStack rfl rfl (Nat.le_of_ble_eq_true rfl) d_CCode_carryOutBlock_102 ⟨Nat.le_of_ble_eq_true rfl, Nat.le_of_ble_eq_true rfl⟩ rfl rfl ⟨Nat.zero_le _, Nat.zero_le _⟩ (fun H locs hI => ?_)
    refine lv_goto (tgt := 128) B.1 B.2.1 d_CCode_carryOutBlock_105 (by decide) ?_
    exact hb128  u13 _ _ _ hf hI (lv_sub hl [] rfl)
  rw [if_neg hc8] at hf
  by_cases hc15 : x1 = 5
  · rw [if_pos hc15] at hf
    refine lv_tableIn (off := 107) (tgt := 108) B.1 B.2.1 d_CCode_carryOutBlock_1 (by rw [hc15]; decide +kernel) (by rw [hc15]; decide +kernel) (by rw [hc15]; decide +kernel) (by decide) ?_
    refine lv_aload_n B.1 B.2.1 d_CCode_carryOutBlock_108 rfl (lv_at hl 0 rfl) ?_
    refine rx_get (v := .ref (a 31)) B hI hcl_CCode hin_CCode 26 (wC_at_26 a z u) 1 (by decide) hf_CCode_1 zw_73 rfl d_CCode_carryOutBlock_109 ?_
    obtain ⟨r16, u17, h18, hf⟩ := zbd_some hf
    refine rx_Vv (n := 0) (As := []) (rest := []) B hI hl.1 (zc_CCStack_turnToElse_31 l D z a N  u r16 u17 h18) zw_284 zw_286 zw_287 zw_82 zw_285 (by decide +kernel) 31 (wC_at_31 a z u) hcl_CStack rfl rfl (Nat.le_of_ble_eq_true rfl) d_CCode_carryOutBlock_112 ⟨Nat.le_of_ble_eq_true rfl, Nat.le_of_ble_eq_true rfl⟩ rfl rfl ⟨Nat.zero_le _, Nat.zero_le _⟩ (fun H locs hI => ?_)
    refine lv_goto (tgt := 128) B.1 B.2.1 d_CCode_carryOutBlock_115 (by decide) ?_
    exact hb128  u17 _ _ _ hf hI (lv_sub hl [] rfl)
  rw [if_neg hc15] at hf
  by_cases hc19 : x1 = 6
  · rw [if_pos hc19] at hf
    refine lv_tableIn (off := 127) (tgt := 128) B.1 B.2.1 d_CCode_carryOutBlock_1 (by rw [hc19]; decide +kernel) (by rw [hc19]; decide +kernel) (by rw [hc19]; decide +kernel) (by decide) ?_
    exact hb128  u _ _ _ hf hI (lv_sub hl [] rfl)
  rw [if_neg hc19] at hf
  by_cases hc20 : x1 = 7
  · rw [if_pos hc20] at hf
    refine lv_tableIn (off := 127) (tgt := 128) B.1 B.2.1 d_CCode_carryOutBlock_1 (by rw [hc20]; decide +kernel) (by rw [hc20]; decide +kernel) (by rw [hc20]; decide +kernel) (by decide) ?_
    exact hb128  u _ _ _ hf hI (lv_sub hl [] rfl)
  rw [if_neg hc20] at hf
  by_cases hc21 : x1 = 8
  · rw [if_pos hc21] at hf
    refine lv_tableIn (off := 127) (tgt := 128) B.1 B.2.1 d_CCode_carryOutBlock_1 (by rw [hc21]; decide +kernel) (by rw [hc21]; decide +kernel) (by rw [hc21]; decide +kernel) (by decide) ?_
    exact hb128  u _ _ _ hf hI (lv_sub hl [] rfl)
  rw [if_neg hc21] at hf
  by_cases hc22 : x1 = 9
  · rw [if_pos hc22] at hf
    refine lv_tableIn (off := 127) (tgt := 128) B.1 B.2.1 d_CCode_carryOutBlock_1 (by rw [hc22]; decide +kernel) (by rw [hc22]; decide +kernel) (by rw [hc22]; decide +kernel) (by decide) ?_
    exact hb128  u _ _ _ hf hI (lv_sub hl [] rfl)
  rw [if_neg hc22] at hf
  by_cases hc23 : x1 = 10
  · rw [if_pos hc23] at hf
    refine lv_tableIn (off := 127) (tgt := 128) B.1 B.2.1 d_CCode_carryOutBlock_1 (by rw [hc23]; decide +kernel) (by rw [hc23]; decide +kernel) (by rw [hc23]; decide +kernel) (by decide) ?_
    exact hb128  u _ _ _ hf hI (lv_sub hl [] rfl)
  rw [if_neg hc23] at hf
  by_cases hc24 : x1 = 11
  · rw [if_pos hc24] at hf
    refine lv_tableIn (off := 117) (tgt := 118) B.1 B.2.1 d_CCode_carryOutBlock_1 (by rw [hc24]; decide +kernel) (by rw [hc24]; decide +kernel) (by rw [hc24]; decide +kernel) (by decide) ?_
    refine lv_aload_n B.1 B.2.1 d_CCode_carryOutBlock_118 rfl (lv_at hl 0 rfl) ?_
    refine rx_get (v := .ref (a 31)) B hI hcl_CCode hin_CCode 26 (wC_at_26 a z u) 1 (by decide) hf_CCode_1 zw_73 rfl d_CCode_carryOutBlock_119 ?_
    obtain ⟨r25, u26, h27, hf⟩ := zbd_some hf
    refine rx_Vv (n := 0) (As := []) (rest := []) B hI hl.1 (zc_CCStack_closeBlock_31 l D z a N  u r25 u26 h27) zw_279 zw_281 zw_282 zw_82 zw_280 (by decide +kernel) 31 (wC_at_31 a z u) hcl_CStack rfl rfl (Nat.le_of_ble_eq_true rfl) d_CCode_carryOutBlock_122 ⟨Nat.le_of_ble_eq_true rfl, Nat.le_of_ble_eq_true rfl⟩ rfl rfl ⟨Nat.zero_le _, Nat.zero_le _⟩ (fun H locs hI => ?_)
    refine lv_goto (tgt := 128) B.1 B.2.1 d_CCode_carryOutBlock_125 (by decide) ?_
    exact hb128  u26 _ _ _ hf hI (lv_sub hl [] rfl)
  rw [if_neg hc24] at hf
  have ghc1 := lv_neT (a := 0) hc1 (by decide)
  have ghc5 := lv_neT (a := 1) hc5 (by decide)
  have ghc6 := lv_neT (a := 2) hc6 (by decide)
  have ghc7 := lv_neT (a := 3) hc7 (by decide)
  have ghc8 := lv_neT (a := 4) hc8 (by decide)
  have ghc15 := lv_neT (a := 5) hc15 (by decide)
  have ghc19 := lv_neT (a := 6) hc19 (by decide)
  have ghc20 := lv_neT (a := 7) hc20 (by decide)
  have ghc21 := lv_neT (a := 8) hc21 (by decide)
  have ghc22 := lv_neT (a := 9) hc22 (by decide)
  have ghc23 := lv_neT (a := 10) hc23 (by decide)
  have ghc24 := lv_neT (a := 11) hc24 (by decide)
  refine lv_tableOut (tgt := 128) B.1 B.2.1 d_CCode_carryOutBlock_1 (by omega) (by decide) ?_
  exact hb128  u _ _ _ hf hI (lv_sub hl [] rfl)
set_option maxHeartbeats 4000000 in
set_option maxRecDepth 100000 in
theorem zc_CCCode_enterFunction_26 (l : Launch) (D : va_G) (z : zZ) (a : Nat → Nat) (N : Nat) (x1 : Int32) (u : zU) (r : Unit) (u1 : zU) (hf : zf_CCCode_enterFunction_26 N x1 u = some (r, u1)) : zMet l D z y_CCode_enterFunction (.code y_CCode_enterFunction b_CCode_enterFunction 2 none) { frames := 3, cells := 0, slots := 0, locals := 67 } [.ref (a 26), .int x1] (wC a z u) (zQv D (wC a z u1)) := by
  refine zM_v (own := R_CCode) [.ref (a 26), .int x1] (wC a z u) (wC a z u1) (by decide) rfl (Nat.le_of_ble_eq_true rfl) ?_
  intro p e s m args below meth c A ls B hr hlk hI hl
  have hl : lv_has ls 2 [(0, .ref (a 26)), (1, .int x1)] := hl
  revert hf
  revert hI hl
  intro hI hl hf
  unfold zf_CCCode_enterFunction_26 at hf
  refine lv_aload_n B.1 B.2.1 d_CCode_enterFunction_0 rfl (lv_at hl 0 rfl) ?_
  refine rx_get (v := .ref (a 31)) B hI hcl_CCode hin_CCode 26 (wC_at_26 a z u) 1 (by decide) hf_CCode_1 zw_73 rfl d_CCode_enterFunction_1 ?_
  refine lv_aload_n B.1 B.2.1 d_CCode_enterFunction_4 rfl (lv_at hl 0 rfl) ?_
  refine rx_get (v := .ref (a 1)) B hI hcl_CCode hin_CCode 26 (wC_at_26 a z u) 0 (by decide) hf_CCode_0 zw_106 rfl d_CCode_enterFunction_5 ?_
  refine rx_getN (v := .ref (a 2)) B hI hcl_CThings hin_CThings 1 (wC_at_1 a z u) 0 (by decide) hf_CThings_0 zw_107 rfl d_CCode_enterFunction_8 ?_
  refine lv_iload_n B.1 B.2.1 d_CCode_enterFunction_11 rfl (lv_at hl 1 rfl) ?_
  obtain ⟨r1, u2, h3, hf⟩ := zbd_some hf
  refine rx_Vv (n := 2) (As := [.ref (a 2), .int x1]) (rest := []) B hI hl.1 (zc_CCStack_takeRow_31_2 l D z a N x1 u r1 u2 h3) zw_301 zw_250 zw_251 zw_82 zw_249 (by decide +kernel) 31 (wC_at_31 a z u) hcl_CStack rfl rfl (Nat.le_of_ble_eq_true rfl) d_CCode_enterFunction_12 ⟨Nat.le_of_ble_eq_true rfl, Nat.le_of_ble_eq_true rfl⟩ rfl rfl ⟨Nat.zero_le _, Nat.zero_le _⟩ (fun H locs hI => ?_)
  refine lv_aload_n B.1 B.2.1 d_CCode_enterFunction_15 rfl (lv_at hl 0 rfl) ?_
  refine rx_get (v := .ref (a 31)) B hI hcl_CCode hin_CCode 26 (wC_at_26 a z u2) 1 (by decide) hf_CCode_1 zw_73 rfl d_CCode_enterFunction_16 ?_
  refine lv_aload_n B.1 B.2.1 d_CCode_enterFunction_19 rfl (lv_at hl 0 rfl) ?_
  refine rx_get (v := .ref (a 1)) B hI hcl_CCode hin_CCode 26 (wC_at_26 a z u2) 0 (by decide) hf_CCode_0 zw_106 rfl d_CCode_enterFunction_20 ?_
  refine rx_getN (v := .ref (a 5)) B hI hcl_CThings hin_CThings 1 (wC_at_1 a z u2) 1 (by decide) hf_CThings_1 zw_302 rfl d_CCode_enterFunction_23 ?_
  refine lv_iload_n B.1 B.2.1 d_CCode_enterFunction_26 rfl (lv_at hl 1 rfl) ?_
  obtain ⟨r4, u5, h6, hf⟩ := zbd_some hf
  refine rx_Vv (n := 2) (As := [.ref (a 5), .int x1]) (rest := []) B hI hl.1 (zc_CCStack_giveRow_31_5 l D z a N x1 u2 r4 u5 h6) zw_303 zw_277 zw_278 zw_82 zw_276 (by decide +kernel) 31 (wC_at_31 a z u2) hcl_CStack rfl rfl (Nat.le_of_ble_eq_true rfl) d_CCode_enterFunction_27 ⟨Nat.le_of_ble_eq_true rfl, Nat.le_of_ble_eq_true rfl⟩ rfl rfl ⟨Nat.zero_le _, Nat.zero_le _⟩ (fun H locs hI => ?_)
  obtain ⟨e7, e8⟩ := zrt hf
  exact zr_v (wC a z) B hI hr hlk e8 d_CCode_enterFunction_30
set_option maxHeartbeats 4000000 in
set_option maxRecDepth 100000 in
theorem zc_CCShelf_typeOf_8 (l : Launch) (D : va_G) (z : zZ) (a : Nat → Nat) (N : Nat) (x1 : Int32) (u : zU) (r : Int32) (u1 : zU) (hf : zf_CCShelf_typeOf_8 N x1 u = some (r, u1)) : zMet l D z y_CShelf_typeOf (.code y_CShelf_typeOf b_CShelf_typeOf 2 (some (.int))) { frames := 1, cells := 0, slots := 0, locals := 21 } [.ref (a 8), .int x1] (wC a z u) (zQi D r (wC a z u1)) := by
  refine zM_i (own := R_CShelf) [.ref (a 8), .int x1] (wC a z u) r (wC a z u1) (by decide) rfl (Nat.le_of_ble_eq_true rfl) ?_
  intro p e s m args below meth c A ls B hr hlk hI hl
  have hl : lv_has ls 2 [(0, .ref (a 8)), (1, .int x1)] := hl
  revert hf
  revert hI hl
  have hb27 : ∀ (s0 : Int32) (u : zU) (H : Heap) (locs : List Loc) (ls : Array Slot), zf_CCShelf_typeOf_8_b27 N  s0 u = some (r, u1) → iw D A s (wC a z u) H locs → lv_has ls 2 [] → W p l e ({ frames := 1, cells := 0, slots := 0, locals := 21 } : Room) s m args below meth c H locs 0 0 (MQ below (zQi D r (wC a z u1) A) args s 0 0 A) (F0 m 27 ls [.int s0]) := by
    intro s0 u H locs ls hf hI hl
    unfold zf_CCShelf_typeOf_8_b27 at hf
    obtain ⟨e1, e2⟩ := zrt hf
    exact zr_i (wC a z) B hI hr hlk e1 e2 d_CShelf_typeOf_27
  have hb26 : ∀  (u : zU) (H : Heap) (locs : List Loc) (ls : Array Slot), zf_CCShelf_typeOf_8_b26 N   u = some (r, u1) → iw D A s (wC a z u) H locs → lv_has ls 2 [] → W p l e ({ frames := 1, cells := 0, slots := 0, locals := 21 } : Room) s m args below meth c H locs 0 0 (MQ below (zQi D r (wC a z u1) A) args s 0 0 A) (F0 m 26 ls []) := by
    intro  u H locs ls hf hI hl
    unfold zf_CCShelf_typeOf_8_b26 at hf
    refine lv_iconst (v := 0) B.1 B.2.1 d_CShelf_typeOf_26 (by decide) ?_
    exact hb27 0 u _ _ _ hf hI (lv_sub hl [] rfl)
  intro hI hl hf
  unfold zf_CCShelf_typeOf_8 at hf
  refine lv_aload_n B.1 B.2.1 d_CShelf_typeOf_0 rfl (lv_at hl 0 rfl) ?_
  refine lv_iload_n B.1 B.2.1 d_CShelf_typeOf_1 rfl (lv_at hl 1 rfl) ?_
  obtain ⟨r1, u2, h3, hf⟩ := zbd_some hf
  refine rx_Vi (n := 1) (As := [.int x1]) (rest := []) B hI hl.1 (zc_CCShelf_has_8 l D z a N x1 u r1 u2 h3) zw_64 zw_66 zw_67 zw_44 zw_65 (by decide +kernel) 8 (wC_at_8 a z u) hcl_CShelf rfl rfl (Nat.le_of_ble_eq_true rfl) d_CShelf_typeOf_2 ⟨Nat.le_of_ble_eq_true rfl, Nat.le_of_ble_eq_true rfl⟩ rfl rfl ⟨Nat.zero_le _, Nat.zero_le _⟩ (fun H locs hI => ?_)
  refine lv_if_eq (tgt := 26) B.1 B.2.1 d_CShelf_typeOf_5 (by decide) (fun hc4 => ?_) (fun hc4 => ?_)
  · rw [if_pos hc4] at hf
    exact hb26  u2 _ _ _ hf hI (lv_sub hl [] rfl)
  · rw [if_neg hc4] at hf
    refine lv_iload_n B.1 B.2.1 d_CShelf_typeOf_8 rfl (lv_at hl 1 rfl) ?_
    refine lv_aload_n B.1 B.2.1 d_CShelf_typeOf_9 rfl (lv_at hl 0 rfl) ?_
    refine rx_get (v := .ref (a 9)) B hI hcl_CShelf hin_CShelf 8 (wC_at_8 a z u2) 0 (by decide) hf_CShelf_0 zw_41 rfl d_CShelf_typeOf_10 ?_
    refine rx_alen (v := 40) B hI 9 0 (wC_at_9 a z u2) rfl rfl d_CShelf_typeOf_13 ?_
    refine lv_icmp_ge (tgt := 26) B.1 B.2.1 d_CShelf_typeOf_14 (by decide) (fun hc5 => ?_) (fun hc5 => ?_)
    · rw [if_pos hc5] at hf
      exact hb26  u2 _ _ _ hf hI (lv_sub hl [] rfl)
    · rw [if_neg hc5] at hf
      refine lv_aload_n B.1 B.2.1 d_CShelf_typeOf_17 rfl (lv_at hl 0 rfl) ?_
      refine rx_get (v := .ref (a 9)) B hI hcl_CShelf hin_CShelf 8 (wC_at_8 a z u2) 0 (by decide) hf_CShelf_0 zw_41 rfl d_CShelf_typeOf_18 ?_
      refine lv_iload_n B.1 B.2.1 d_CShelf_typeOf_21 rfl (lv_at hl 1 rfl) ?_
      obtain ⟨hi6, hf⟩ := zck_some hf
      refine rx_iald B hI 9 (wC_at_9 a z u2) hi6 d_CShelf_typeOf_22 ?_
      refine lv_goto (tgt := 27) B.1 B.2.1 d_CShelf_typeOf_23 (by decide) ?_
      exact hb27 (ga u2 4 x1) u2 _ _ _ hf hI (lv_sub hl [] rfl)
set_option maxHeartbeats 4000000 in
set_option maxRecDepth 100000 in
theorem zc_CCStack_takeOutermostResults_31 (l : Launch) (D : va_G) (z : zZ) (a : Nat → Nat) (N : Nat)  (u : zU) (r : Unit) (u1 : zU) (hf : zf_CCStack_takeOutermostResults_31 N  u = some (r, u1)) : zMet l D z y_CStack_takeOutermostResults (.code y_CStack_takeOutermostResults b_CStack_takeOutermostResults 1 none) { frames := 3, cells := 0, slots := 0, locals := 67 } [.ref (a 31)] (wC a z u) (zQv D (wC a z u1)) := by
  refine zM_v (own := R_CStack) [.ref (a 31)] (wC a z u) (wC a z u1) (by decide) rfl (Nat.le_of_ble_eq_true rfl) ?_
  intro p e s m args below meth c A ls B hr hlk hI hl
  have hl : lv_has ls 1 [(0, .ref (a 31))] := hl
  revert hf
  revert hI hl
  intro hI hl hf
  unfold zf_CCStack_takeOutermostResults_31 at hf
  refine lv_aload_n B.1 B.2.1 d_CStack_takeOutermostResults_0 rfl (lv_at hl 0 rfl) ?_
  refine lv_aload_n B.1 B.2.1 d_CStack_takeOutermostResults_1 rfl (lv_at hl 0 rfl) ?_
  refine rx_get (v := .ref (a 1)) B hI hcl_CStack hin_CStack 31 (wC_at_31 a z u) 0 (by decide) hf_CStack_0 zw_244 rfl d_CStack_takeOutermostResults_2 ?_
  refine rx_getN (v := .ref (a 5)) B hI hcl_CThings hin_CThings 1 (wC_at_1 a z u) 1 (by decide) hf_CThings_1 zw_245 rfl d_CStack_takeOutermostResults_5 ?_
  refine lv_aload_n B.1 B.2.1 d_CStack_takeOutermostResults_8 rfl (lv_at hl 0 rfl) ?_
  refine lv_aload_n B.1 B.2.1 d_CStack_takeOutermostResults_9 rfl (lv_at hl 0 rfl) ?_
  refine rx_get (v := .ref (a 33)) B hI hcl_CStack hin_CStack 31 (wC_at_31 a z u) 2 (by decide) hf_CStack_2 zw_77 rfl d_CStack_takeOutermostResults_10 ?_
  refine lv_aload_n B.1 B.2.1 d_CStack_takeOutermostResults_13 rfl (lv_at hl 0 rfl) ?_
  refine rx_get (v := .int (gi u 15)) B hI hcl_CStack hin_CStack 31 (wC_at_31 a z u) 8 (by decide) hf_CStack_8 zw_75 rfl d_CStack_takeOutermostResults_14 ?_
  refine lv_iconst (v := 1) B.1 B.2.1 d_CStack_takeOutermostResults_17 (by decide) ?_
  refine lv_isub B.1 B.2.1 d_CStack_takeOutermostResults_18 ?_
  obtain ⟨r1, u2, h3, hf⟩ := zbd_some hf
  refine rx_Vi (n := 2) (As := [.ref (a 33), .int ((gi u 15) - 1)]) (rest := [.ref (a 5), .ref (a 31)]) B hI hl.1 (zc_CCStack_ofBlock_31_33 l D z a N ((gi u 15) - 1) u r1 u2 h3) zw_240 zw_242 zw_243 zw_82 zw_241 (by decide +kernel) 31 (wC_at_31 a z u) hcl_CStack rfl rfl (Nat.le_of_ble_eq_true rfl) d_CStack_takeOutermostResults_19 ⟨Nat.le_of_ble_eq_true rfl, Nat.le_of_ble_eq_true rfl⟩ rfl rfl ⟨Nat.zero_le _, Nat.zero_le _⟩ (fun H locs hI => ?_)
  obtain ⟨r4, u5, h6, hf⟩ := zbd_some hf
  refine rx_Vv (n := 2) (As := [.ref (a 5), .int r1]) (rest := []) B hI hl.1 (zc_CCStack_takeRow_31_5 l D z a N r1 u2 r4 u5 h6) zw_248 zw_250 zw_251 zw_82 zw_249 (by decide +kernel) 31 (wC_at_31 a z u2) hcl_CStack rfl rfl (Nat.le_of_ble_eq_true rfl) d_CStack_takeOutermostResults_22 ⟨Nat.le_of_ble_eq_true rfl, Nat.le_of_ble_eq_true rfl⟩ rfl rfl ⟨Nat.zero_le _, Nat.zero_le _⟩ (fun H locs hI => ?_)
  obtain ⟨e7, e8⟩ := zrt hf
  exact zr_v (wC a z) B hI hr hlk e8 d_CStack_takeOutermostResults_25
set_option maxHeartbeats 4000000 in
set_option maxRecDepth 100000 in
theorem zc_CCStack_labelRows_31 (l : Launch) (D : va_G) (z : zZ) (a : Nat → Nat) (N : Nat) (x1 : Int32) (u : zU) (r : Nat) (u1 : zU) (hf : zf_CCStack_labelRows_31 N x1 u = some (r, u1)) : zMet l D z y_CStack_labelRows (.code y_CStack_labelRows b_CStack_labelRows 2 (some (.object "CodeChecker$Rows"))) { frames := 1, cells := 0, slots := 0, locals := 23 } [.ref (a 31), .int x1] (wC a z u) (zQr D (a r) (wC a z u1)) := by
  refine zM_r (own := R_CStack) [.ref (a 31), .int x1] (wC a z u) (a r) (wC a z u1) (by decide) rfl (Nat.le_of_ble_eq_true rfl) ?_
  intro p e s m args below meth c A ls B hr hlk hI hl
  have hl : lv_has ls 2 [(0, .ref (a 31)), (1, .int x1)] := hl
  revert hf
  revert hI hl
  intro hI hl hf
  unfold zf_CCStack_labelRows_31 at hf
  refine lv_aload_n B.1 B.2.1 d_CStack_labelRows_0 rfl (lv_at hl 0 rfl) ?_
  refine lv_aload_n B.1 B.2.1 d_CStack_labelRows_1 rfl (lv_at hl 0 rfl) ?_
  refine rx_get (v := .ref (a 35)) B hI hcl_CStack hin_CStack 31 (wC_at_31 a z u) 4 (by decide) hf_CStack_4 zw_79 rfl d_CStack_labelRows_2 ?_
  refine lv_iload_n B.1 B.2.1 d_CStack_labelRows_5 rfl (lv_at hl 1 rfl) ?_
  obtain ⟨r1, u2, h3, hf⟩ := zbd_some hf
  refine rx_Vi (n := 2) (As := [.ref (a 35), .int x1]) (rest := []) B hI hl.1 (zc_CCStack_ofBlock_31_35 l D z a N x1 u r1 u2 h3) zw_240 zw_242 zw_243 zw_82 zw_241 (by decide +kernel) 31 (wC_at_31 a z u) hcl_CStack rfl rfl (Nat.le_of_ble_eq_true rfl) d_CStack_labelRows_6 ⟨Nat.le_of_ble_eq_true rfl, Nat.le_of_ble_eq_true rfl⟩ rfl rfl ⟨Nat.zero_le _, Nat.zero_le _⟩ (fun H locs hI => ?_)
  refine lv_iconst (v := 3) B.1 B.2.1 d_CStack_labelRows_9 (by decide) ?_
  refine lv_icmp_ne (tgt := 23) B.1 B.2.1 d_CStack_labelRows_10 (by decide) (fun hc4 => ?_) (fun hc4 => ?_)
  · rw [if_neg hc4] at hf
    refine lv_aload_n B.1 B.2.1 d_CStack_labelRows_23 rfl (lv_at hl 0 rfl) ?_
    refine rx_get (v := .ref (a 1)) B hI hcl_CStack hin_CStack 31 (wC_at_31 a z u2) 0 (by decide) hf_CStack_0 zw_244 rfl d_CStack_labelRows_24 ?_
    refine rx_getN (v := .ref (a 5)) B hI hcl_CThings hin_CThings 1 (wC_at_1 a z u2) 1 (by decide) hf_CThings_1 zw_245 rfl d_CStack_labelRows_27 ?_
    obtain ⟨e5, e6⟩ := zrt hf
    exact zr_r (wC a z) B hI hr hlk (congrArg a e5) e6 d_CStack_labelRows_30
  · rw [if_pos hc4] at hf
    refine lv_aload_n B.1 B.2.1 d_CStack_labelRows_13 rfl (lv_at hl 0 rfl) ?_
    refine rx_get (v := .ref (a 1)) B hI hcl_CStack hin_CStack 31 (wC_at_31 a z u2) 0 (by decide) hf_CStack_0 zw_244 rfl d_CStack_labelRows_14 ?_
    refine rx_getN (v := .ref (a 2)) B hI hcl_CThings hin_CThings 1 (wC_at_1 a z u2) 0 (by decide) hf_CThings_0 zw_283 rfl d_CStack_labelRows_17 ?_
    refine lv_goto (tgt := 30) B.1 B.2.1 d_CStack_labelRows_20 (by decide) ?_
    obtain ⟨e7, e8⟩ := zrt hf
    exact zr_r (wC a z) B hI hr hlk (congrArg a e7) e8 d_CStack_labelRows_30
set_option maxHeartbeats 4000000 in
set_option maxRecDepth 100000 in
theorem zc_CCStack_labelSize_31 (l : Launch) (D : va_G) (z : zZ) (a : Nat → Nat) (N : Nat) (x1 : Int32) (u : zU) (r : Int32) (u1 : zU) (hf : zf_CCStack_labelSize_31 N x1 u = some (r, u1)) : zMet l D z y_CStack_labelSize (.code y_CStack_labelSize b_CStack_labelSize 2 (some (.int))) { frames := 2, cells := 0, slots := 0, locals := 44 } [.ref (a 31), .int x1] (wC a z u) (zQi D r (wC a z u1)) := by
  refine zM_i (own := R_CStack) [.ref (a 31), .int x1] (wC a z u) r (wC a z u1) (by decide) rfl (Nat.le_of_ble_eq_true rfl) ?_
  intro p e s m args below meth c A ls B hr hlk hI hl
  have hl : lv_has ls 2 [(0, .ref (a 31)), (1, .int x1)] := hl
  revert hf
  revert hI hl
  intro hI hl hf
  unfold zf_CCStack_labelSize_31 at hf
  refine lv_aload_n B.1 B.2.1 d_CStack_labelSize_0 rfl (lv_at hl 0 rfl) ?_
  refine lv_iload_n B.1 B.2.1 d_CStack_labelSize_1 rfl (lv_at hl 1 rfl) ?_
  obtain ⟨r1, u2, h3, hf⟩ := zbd_some hf
  refine rx_Vr (n := 1) (As := [.int x1]) (rest := []) B hI hl.1 (zc_CCStack_labelRows_31 l D z a N x1 u r1 u2 h3) zw_312 zw_314 zw_315 zw_82 zw_313 (by decide +kernel) 31 (wC_at_31 a z u) hcl_CStack rfl rfl (Nat.le_of_ble_eq_true rfl) d_CStack_labelSize_2 ⟨Nat.le_of_ble_eq_true rfl, Nat.le_of_ble_eq_true rfl⟩ rfl rfl ⟨Nat.zero_le _, Nat.zero_le _⟩ (fun H locs hI => ?_)
  by_cases hc4 : r1 = 2
  · rw [if_pos hc4] at hf
    rw [hc4]
    refine lv_aload_n B.1 B.2.1 d_CStack_labelSize_5 rfl (lv_at hl 0 rfl) ?_
    refine lv_aload_n B.1 B.2.1 d_CStack_labelSize_6 rfl (lv_at hl 0 rfl) ?_
    refine rx_get (v := .ref (a 33)) B hI hcl_CStack hin_CStack 31 (wC_at_31 a z u2) 2 (by decide) hf_CStack_2 zw_77 rfl d_CStack_labelSize_7 ?_
    refine lv_iload_n B.1 B.2.1 d_CStack_labelSize_10 rfl (lv_at hl 1 rfl) ?_
    obtain ⟨r5, u6, h7, hf⟩ := zbd_some hf
    refine rx_Vi (n := 2) (As := [.ref (a 33), .int x1]) (rest := [.ref (a 2)]) B hI hl.1 (zc_CCStack_ofBlock_31_33 l D z a N x1 u2 r5 u6 h7) zw_240 zw_242 zw_243 zw_82 zw_241 (by decide +kernel) 31 (wC_at_31 a z u2) hcl_CStack rfl rfl (Nat.le_of_ble_eq_true rfl) d_CStack_labelSize_11 ⟨Nat.le_of_ble_eq_true rfl, Nat.le_of_ble_eq_true rfl⟩ rfl rfl ⟨Nat.zero_le _, Nat.zero_le _⟩ (fun H locs hI => ?_)
    obtain ⟨r8, u9, h10, hf⟩ := zbd_some hf
    refine rx_Vi (n := 1) (As := [.int r5]) (rest := []) B hI hl.1 (zc_CCRows_sizeOf_2 l D z a N r5 u6 r8 u9 h10) zw_246 zw_27 zw_28 zw_25 zw_26 (by decide +kernel) 2 (wC_at_2 a z u6) hcl_CRows rfl rfl (Nat.le_of_ble_eq_true rfl) d_CStack_labelSize_14 ⟨Nat.le_of_ble_eq_true rfl, Nat.le_of_ble_eq_true rfl⟩ rfl rfl ⟨Nat.zero_le _, Nat.zero_le _⟩ (fun H locs hI => ?_)
    obtain ⟨e11, e12⟩ := zrt hf
    exact zr_i (wC a z) B hI hr hlk e11 e12 d_CStack_labelSize_17
  rw [if_neg hc4] at hf
  by_cases hc13 : r1 = 5
  · rw [if_pos hc13] at hf
    rw [hc13]
    refine lv_aload_n B.1 B.2.1 d_CStack_labelSize_5 rfl (lv_at hl 0 rfl) ?_
    refine lv_aload_n B.1 B.2.1 d_CStack_labelSize_6 rfl (lv_at hl 0 rfl) ?_
    refine rx_get (v := .ref (a 33)) B hI hcl_CStack hin_CStack 31 (wC_at_31 a z u2) 2 (by decide) hf_CStack_2 zw_77 rfl d_CStack_labelSize_7 ?_
    refine lv_iload_n B.1 B.2.1 d_CStack_labelSize_10 rfl (lv_at hl 1 rfl) ?_
    obtain ⟨r14, u15, h16, hf⟩ := zbd_some hf
    refine rx_Vi (n := 2) (As := [.ref (a 33), .int x1]) (rest := [.ref (a 5)]) B hI hl.1 (zc_CCStack_ofBlock_31_33 l D z a N x1 u2 r14 u15 h16) zw_240 zw_242 zw_243 zw_82 zw_241 (by decide +kernel) 31 (wC_at_31 a z u2) hcl_CStack rfl rfl (Nat.le_of_ble_eq_true rfl) d_CStack_labelSize_11 ⟨Nat.le_of_ble_eq_true rfl, Nat.le_of_ble_eq_true rfl⟩ rfl rfl ⟨Nat.zero_le _, Nat.zero_le _⟩ (fun H locs hI => ?_)
    obtain ⟨r17, u18, h19, hf⟩ := zbd_some hf
    refine rx_Vi (n := 1) (As := [.int r14]) (rest := []) B hI hl.1 (zc_CCRows_sizeOf_5 l D z a N r14 u15 r17 u18 h19) zw_246 zw_27 zw_28 zw_25 zw_26 (by decide +kernel) 5 (wC_at_5 a z u15) hcl_CRows rfl rfl (Nat.le_of_ble_eq_true rfl) d_CStack_labelSize_14 ⟨Nat.le_of_ble_eq_true rfl, Nat.le_of_ble_eq_true rfl⟩ rfl rfl ⟨Nat.zero_le _, Nat.zero_le _⟩ (fun H locs hI => ?_)
    obtain ⟨e20, e21⟩ := zrt hf
    exact zr_i (wC a z) B hI hr hlk e20 e21 d_CStack_labelSize_17
  rw [if_neg hc13] at hf
  cases hf
