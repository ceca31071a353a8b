set_option maxHeartbeats 4000000 in
set_option maxRecDepth 100000 in
theorem zc_CCCode_carryOutPlain_26 (l : Launch) (D : va_G) (z : zZ) (a : Nat → Nat) (N : Nat) (x1 : Int32) (u : zU) (r : Unit) (u1 : zU) (hf : zf_CCCode_carryOutPlain_26 N x1 u = some (r, u1)) : zMet l D z y_CCode_carryOutPlain (.code y_CCode_carryOutPlain b_CCode_carryOutPlain 2 none) { frames := 3, cells := 0, slots := 0, locals := 67 } [.ref (a 26), .int x1] (wC a z u) (zQv D (wC a z u1)) := by
  refine zM_v (own := R_CCode) [.ref (a 26), .int x1] (wC a z u) (wC a z u1) (by decide) rfl (Nat.le_of_ble_eq_true rfl) ?_
  intro p e s m args below meth c A ls B hr hlk hI hl
  have hl : lv_has ls 2 [(0, .ref (a 26)), (1, .int x1)] := hl
  revert hf
  revert hI hl
  have hb14 : ∀  (u : zU) (H : Heap) (locs : List Loc) (ls : Array Slot), zf_CCCode_carryOutPlain_26_b14 N   u = some (r, u1) → iw D A s (wC a z u) H locs → lv_has ls 2 [] → W p l e ({ frames := 3, cells := 0, slots := 0, locals := 67 } : Room) s m args below meth c H locs 0 0 (MQ below (zQv D (wC a z u1) A) args s 0 0 A) (F0 m 14 ls []) := by
    intro  u H locs ls hf hI hl
    unfold zf_CCCode_carryOutPlain_26_b14 at hf
    obtain ⟨e1, e2⟩ := zrt hf
    exact zr_v (wC a z) B hI hr hlk e2 d_CCode_carryOutPlain_14
  have hb61 : ∀  (u : zU) (H : Heap) (locs : List Loc) (ls : Array Slot), zf_CCCode_carryOutPlain_26_b61 N   u = some (r, u1) → iw D A s (wC a z u) H locs → lv_has ls 2 [] → W p l e ({ frames := 3, cells := 0, slots := 0, locals := 67 } : Room) s m args below meth c H locs 0 0 (MQ below (zQv D (wC a z u1) A) args s 0 0 A) (F0 m 61 ls []) := by
    intro  u H locs ls hf hI hl
    unfold zf_CCCode_carryOutPlain_26_b61 at hf
    obtain ⟨e1, e2⟩ := zrt hf
    exact zr_v (wC a z) B hI hr hlk e2 d_CCode_carryOutPlain_61
  intro hI hl hf
  unfold zf_CCCode_carryOutPlain_26 at hf
  refine lv_iload_n B.1 B.2.1 d_CCode_carryOutPlain_0 rfl (lv_at hl 1 rfl) ?_
  refine lv_if_lt (tgt := 14) B.1 B.2.1 d_CCode_carryOutPlain_1 (by decide) (fun hc1 => ?_) (fun hc1 => ?_)
  · rw [if_pos hc1] at hf
    exact hb14  u _ _ _ hf hI (lv_sub hl [] rfl)
  · rw [if_neg hc1] at hf
    refine lv_iload_n B.1 B.2.1 d_CCode_carryOutPlain_4 rfl (lv_at hl 1 rfl) ?_
    refine lv_iconst (v := 4) B.1 B.2.1 d_CCode_carryOutPlain_5 (by decide) ?_
    refine lv_iadd B.1 B.2.1 d_CCode_carryOutPlain_6 ?_
    refine rx_getsN B hI 2 rfl zw_213 d_CCode_carryOutPlain_7 (fun t2 ht2 => ?_)
    refine rx_tlen (v := 235) B hI ht2 (by decide) d_CCode_carryOutPlain_10 ?_
    refine lv_icmp_lt (tgt := 15) B.1 B.2.1 d_CCode_carryOutPlain_11 (by decide) (fun hc3 => ?_) (fun hc3 => ?_)
    · rw [if_pos hc3] at hf
      refine lv_aload_n B.1 B.2.1 d_CCode_carryOutPlain_15 rfl (lv_at hl 0 rfl) ?_
      refine rx_get (v := .ref (a 31)) B hI hcl_CCode hin_CCode 26 (wC_at_26 a z u) 1 (by decide) hf_CCode_1 zw_73 rfl d_CCode_carryOutPlain_16 ?_
      refine rx_getsN B hI 2 rfl zw_213 d_CCode_carryOutPlain_19 (fun t4 ht4 => ?_)
      refine lv_iload_n B.1 B.2.1 d_CCode_carryOutPlain_22 rfl (lv_at hl 1 rfl) ?_
      refine lv_iconst (v := 3) B.1 B.2.1 d_CCode_carryOutPlain_23 (by decide) ?_
      refine lv_iadd B.1 B.2.1 d_CCode_carryOutPlain_24 ?_
      obtain ⟨hi5, hf⟩ := zck_some hf
      refine rx_ti B hI ht4 rfl hi5 d_CCode_carryOutPlain_25 ?_
      refine rx_getsN B hI 2 rfl zw_213 d_CCode_carryOutPlain_26 (fun t6 ht6 => ?_)
      refine lv_iload_n B.1 B.2.1 d_CCode_carryOutPlain_29 rfl (lv_at hl 1 rfl) ?_
      refine lv_iconst (v := 2) B.1 B.2.1 d_CCode_carryOutPlain_30 (by decide) ?_
      refine lv_iadd B.1 B.2.1 d_CCode_carryOutPlain_31 ?_
      obtain ⟨hi7, hf⟩ := zck_some hf
      refine rx_ti B hI ht6 rfl hi7 d_CCode_carryOutPlain_32 ?_
      obtain ⟨r8, u9, h10, hf⟩ := zbd_some hf
      refine rx_Vv (n := 2) (As := [.int (t_X_PLAIN.getD (x1 + 3).toNatClampNeg 0), .int (t_X_PLAIN.getD (x1 + 2).toNatClampNeg 0)]) (rest := []) B hI hl.1 (zc_CCStack_takeTimes_31 l D z a N (t_X_PLAIN.getD (x1 + 3).toNatClampNeg 0) (t_X_PLAIN.getD (x1 + 2).toNatClampNeg 0) u r8 u9 h10) zw_227 zw_229 zw_230 zw_82 zw_228 (by decide +kernel) 31 (wC_at_31 a z u) hcl_CStack rfl rfl (Nat.le_of_ble_eq_true rfl) d_CCode_carryOutPlain_33 ⟨Nat.le_of_ble_eq_true rfl, Nat.le_of_ble_eq_true rfl⟩ rfl rfl ⟨Nat.zero_le _, Nat.zero_le _⟩ (fun H locs hI => ?_)
      refine rx_getsN B hI 2 rfl zw_213 d_CCode_carryOutPlain_36 (fun t11 ht11 => ?_)
      refine lv_iload_n B.1 B.2.1 d_CCode_carryOutPlain_39 rfl (lv_at hl 1 rfl) ?_
      refine lv_iconst (v := 4) B.1 B.2.1 d_CCode_carryOutPlain_40 (by decide) ?_
      refine lv_iadd B.1 B.2.1 d_CCode_carryOutPlain_41 ?_
      obtain ⟨hi12, hf⟩ := zck_some hf
      refine rx_ti B hI ht11 rfl hi12 d_CCode_carryOutPlain_42 ?_
      refine lv_iconst (v := (-1)) B.1 B.2.1 d_CCode_carryOutPlain_43 (by decide) ?_
      refine lv_icmp_eq (tgt := 61) B.1 B.2.1 d_CCode_carryOutPlain_44 (by decide) (fun hc13 => ?_) (fun hc13 => ?_)
      · rw [if_pos hc13] at hf
        exact hb61  u9 _ _ _ hf hI (lv_sub hl [] rfl)
      · rw [if_neg hc13] at hf
        refine lv_aload_n B.1 B.2.1 d_CCode_carryOutPlain_47 rfl (lv_at hl 0 rfl) ?_
        refine rx_get (v := .ref (a 31)) B hI hcl_CCode hin_CCode 26 (wC_at_26 a z u9) 1 (by decide) hf_CCode_1 zw_73 rfl d_CCode_carryOutPlain_48 ?_
        refine rx_getsN B hI 2 rfl zw_213 d_CCode_carryOutPlain_51 (fun t14 ht14 => ?_)
        refine lv_iload_n B.1 B.2.1 d_CCode_carryOutPlain_54 rfl (lv_at hl 1 rfl) ?_
        refine lv_iconst (v := 4) B.1 B.2.1 d_CCode_carryOutPlain_55 (by decide) ?_
        refine lv_iadd B.1 B.2.1 d_CCode_carryOutPlain_56 ?_
        obtain ⟨hi15, hf⟩ := zck_some hf
        refine rx_ti B hI ht14 rfl hi15 d_CCode_carryOutPlain_57 ?_
        obtain ⟨r16, u17, h18, hf⟩ := zbd_some hf
        refine rx_Vv (n := 1) (As := [.int (t_X_PLAIN.getD (x1 + 4).toNatClampNeg 0)]) (rest := []) B hI hl.1 (zc_CCStack_give_31 l D z a N (t_X_PLAIN.getD (x1 + 4).toNatClampNeg 0) u9 r16 u17 h18) zw_231 zw_233 zw_234 zw_82 zw_232 (by decide +kernel) 31 (wC_at_31 a z u9) hcl_CStack rfl rfl (Nat.le_of_ble_eq_true rfl) d_CCode_carryOutPlain_58 ⟨Nat.le_of_ble_eq_true rfl, Nat.le_of_ble_eq_true rfl⟩ rfl rfl ⟨Nat.zero_le _, Nat.zero_le _⟩ (fun H locs hI => ?_)
        exact hb61  u17 _ _ _ hf hI (lv_sub hl [] rfl)
    · rw [if_neg hc3] at hf
      exact hb14  u _ _ _ hf hI (lv_sub hl [] rfl)
set_option maxHeartbeats 4000000 in
set_option maxRecDepth 100000 in
theorem zc_CCStack_ofBlock_31_33 (l : Launch) (D : va_G) (z : zZ) (a : Nat → Nat) (N : Nat) (x2 : Int32) (u : zU) (r : Int32) (u1 : zU) (hf : zf_CCStack_ofBlock_31_33 N x2 u = some (r, u1)) : zMet l D z y_CStack_ofBlock (.code y_CStack_ofBlock b_CStack_ofBlock 4 (some (.int))) { frames := 0, cells := 0, slots := 0, locals := 0 } [.ref (a 31), .ref (a 33), .int x2] (wC a z u) (zQi D r (wC a z u1)) := by
  refine zM_i (own := R_CStack) [.ref (a 31), .ref (a 33), .int x2] (wC a z u) r (wC a z u1) (by decide) rfl (Nat.le_of_ble_eq_true rfl) ?_
  intro p e s m args below meth c A ls B hr hlk hI hl
  have hl : lv_has ls 4 [(0, .ref (a 31)), (1, .ref (a 33)), (2, .int x2)] := hl
  revert hf
  revert hI hl
  have hb30 : ∀ (s0 : Int32) (u : zU) (H : Heap) (locs : List Loc) (ls : Array Slot), zf_CCStack_ofBlock_31_33_b30 N  s0 u = some (r, u1) → iw D A s (wC a z u) H locs → lv_has ls 4 [] → W p l e ({ frames := 0, cells := 0, slots := 0, locals := 0 } : Room) s m args below meth c H locs 0 0 (MQ below (zQi D r (wC a z u1) A) args s 0 0 A) (F0 m 30 ls [.int s0]) := by
    intro s0 u H locs ls hf hI hl
    unfold zf_CCStack_ofBlock_31_33_b30 at hf
    obtain ⟨e1, e2⟩ := zrt hf
    exact zr_i (wC a z) B hI hr hlk e1 e2 d_CStack_ofBlock_30
  have hb29 : ∀  (u : zU) (H : Heap) (locs : List Loc) (ls : Array Slot), zf_CCStack_ofBlock_31_33_b29 N   u = some (r, u1) → iw D A s (wC a z u) H locs → lv_has ls 4 [] → W p l e ({ frames := 0, cells := 0, slots := 0, locals := 0 } : Room) s m args below meth c H locs 0 0 (MQ below (zQi D r (wC a z u1) A) args s 0 0 A) (F0 m 29 ls []) := by
    intro  u H locs ls hf hI hl
    unfold zf_CCStack_ofBlock_31_33_b29 at hf
    refine lv_iconst (v := 0) B.1 B.2.1 d_CStack_ofBlock_29 (by decide) ?_
    exact hb30 0 u _ _ _ hf hI (lv_sub hl [] rfl)
  intro hI hl hf
  unfold zf_CCStack_ofBlock_31_33 at hf
  refine lv_aload_n B.1 B.2.1 d_CStack_ofBlock_0 rfl (lv_at hl 0 rfl) ?_
  refine rx_get (v := .int (gi u 15)) B hI hcl_CStack hin_CStack 31 (wC_at_31 a z u) 8 (by decide) hf_CStack_8 zw_75 rfl d_CStack_ofBlock_1 ?_
  refine lv_iconst (v := 1) B.1 B.2.1 d_CStack_ofBlock_4 (by decide) ?_
  refine lv_isub B.1 B.2.1 d_CStack_ofBlock_5 ?_
  refine lv_iload_n B.1 B.2.1 d_CStack_ofBlock_6 rfl (lv_at hl 2 rfl) ?_
  refine lv_isub B.1 B.2.1 d_CStack_ofBlock_7 ?_
  refine lv_istore_n (lv' := [(3, .int (((gi u 15) - 1) - x2)), (0, .ref (a 31)), (1, .ref (a 33)), (2, .int x2)]) B.1 B.2.1 d_CStack_ofBlock_8 rfl hl (by decide) rfl (fun ls hl => ?_)
  refine lv_iload_n B.1 B.2.1 d_CStack_ofBlock_9 rfl (lv_at hl 3 rfl) ?_
  refine lv_if_lt (tgt := 29) B.1 B.2.1 d_CStack_ofBlock_10 (by decide) (fun hc1 => ?_) (fun hc1 => ?_)
  · rw [if_pos hc1] at hf
    exact hb29  u _ _ _ hf hI (lv_sub hl [] rfl)
  · rw [if_neg hc1] at hf
    refine lv_iload_n B.1 B.2.1 d_CStack_ofBlock_13 rfl (lv_at hl 0 rfl) ?_
    refine lv_if_lt (tgt := 29) B.1 B.2.1 d_CStack_ofBlock_14 (by decide) (fun hc2 => ?_) (fun hc2 => ?_)
    · rw [if_pos hc2] at hf
      exact hb29  u _ _ _ hf hI (lv_sub hl [] rfl)
    · rw [if_neg hc2] at hf
      refine lv_iload_n B.1 B.2.1 d_CStack_ofBlock_17 rfl (lv_at hl 0 rfl) ?_
      refine lv_aload_n B.1 B.2.1 d_CStack_ofBlock_18 rfl (lv_at hl 2 rfl) ?_
      refine rx_alen (v := 60) B hI 33 0 (wC_at_33 a z u) rfl rfl d_CStack_ofBlock_19 ?_
      refine lv_icmp_ge (tgt := 29) B.1 B.2.1 d_CStack_ofBlock_20 (by decide) (fun hc3 => ?_) (fun hc3 => ?_)
      · rw [if_pos hc3] at hf
        exact hb29  u _ _ _ hf hI (lv_sub hl [] rfl)
      · rw [if_neg hc3] at hf
        refine lv_aload_n B.1 B.2.1 d_CStack_ofBlock_23 rfl (lv_at hl 2 rfl) ?_
        refine lv_iload_n B.1 B.2.1 d_CStack_ofBlock_24 rfl (lv_at hl 0 rfl) ?_
        obtain ⟨hi4, hf⟩ := zck_some hf
        refine rx_iald B hI 33 (wC_at_33 a z u) hi4 d_CStack_ofBlock_25 ?_
        refine lv_goto (tgt := 30) B.1 B.2.1 d_CStack_ofBlock_26 (by decide) ?_
        exact hb30 (ga u 19 (((gi u 15) - 1) - x2)) u _ _ _ hf hI (lv_sub hl [] rfl)
set_option maxHeartbeats 4000000 in
set_option maxRecDepth 100000 in
theorem zc_CCRows_partOf_5 (l : Launch) (D : va_G) (z : zZ) (a : Nat → Nat) (N : Nat) (x1 : Int32) (x2 : Int32) (u : zU) (r : Int32) (u1 : zU) (hf : zf_CCRows_partOf_5 N x1 x2 u = some (r, u1)) : zMet l D z y_CRows_partOf (.code y_CRows_partOf b_CRows_partOf 3 (some (.int))) { frames := 0, cells := 0, slots := 0, locals := 0 } [.ref (a 5), .int x1, .int x2] (wC a z u) (zQi D r (wC a z u1)) := by
  refine zM_i (own := R_CRows) [.ref (a 5), .int x1, .int x2] (wC a z u) r (wC a z u1) (by decide) rfl (Nat.le_of_ble_eq_true rfl) ?_
  intro p e s m args below meth c A ls B hr hlk hI hl
  have hl : lv_has ls 3 [(0, .ref (a 5)), (1, .int x1), (2, .int x2)] := hl
  revert hf
  revert hI hl
  have hb26 : ∀  (u : zU) (H : Heap) (locs : List Loc) (ls : Array Slot), zf_CCRows_partOf_5_b26 N   u = some (r, u1) → iw D A s (wC a z u) H locs → lv_has ls 3 [] → W p l e ({ frames := 0, cells := 0, slots := 0, locals := 0 } : Room) s m args below meth c H locs 0 0 (MQ below (zQi D r (wC a z u1) A) args s 0 0 A) (F0 m 26 ls []) := by
    intro  u H locs ls hf hI hl
    unfold zf_CCRows_partOf_5_b26 at hf
    refine lv_iconst (v := 0) B.1 B.2.1 d_CRows_partOf_26 (by decide) ?_
    obtain ⟨e1, e2⟩ := zrt hf
    exact zr_i (wC a z) B hI hr hlk e1 e2 d_CRows_partOf_27
  intro hI hl hf
  unfold zf_CCRows_partOf_5 at hf
  refine lv_iload_n B.1 B.2.1 d_CRows_partOf_0 rfl (lv_at hl 1 rfl) ?_
  refine lv_if_ge (tgt := 10) B.1 B.2.1 d_CRows_partOf_1 (by decide) (fun hc1 => ?_) (fun hc1 => ?_)
  · rw [if_pos hc1] at hf
    refine lv_iload_n B.1 B.2.1 d_CRows_partOf_10 rfl (lv_at hl 1 rfl) ?_
    refine lv_bipush (v := 40) B.1 B.2.1 d_CRows_partOf_11 (by decide) ?_
    refine lv_icmp_ge (tgt := 26) B.1 B.2.1 d_CRows_partOf_13 (by decide) (fun hc2 => ?_) (fun hc2 => ?_)
    · rw [if_pos hc2] at hf
      exact hb26  u _ _ _ hf hI (lv_sub hl [] rfl)
    · rw [if_neg hc2] at hf
      refine lv_iload_n B.1 B.2.1 d_CRows_partOf_16 rfl (lv_at hl 2 rfl) ?_
      refine lv_if_lt (tgt := 26) B.1 B.2.1 d_CRows_partOf_17 (by decide) (fun hc3 => ?_) (fun hc3 => ?_)
      · rw [if_pos hc3] at hf
        exact hb26  u _ _ _ hf hI (lv_sub hl [] rfl)
      · rw [if_neg hc3] at hf
        refine lv_iload_n B.1 B.2.1 d_CRows_partOf_20 rfl (lv_at hl 2 rfl) ?_
        refine lv_bipush (v := 12) B.1 B.2.1 d_CRows_partOf_21 (by decide) ?_
        refine lv_icmp_lt (tgt := 28) B.1 B.2.1 d_CRows_partOf_23 (by decide) (fun hc4 => ?_) (fun hc4 => ?_)
        · rw [if_pos hc4] at hf
          refine lv_aload_n B.1 B.2.1 d_CRows_partOf_28 rfl (lv_at hl 0 rfl) ?_
          refine rx_get (v := .ref (a 7)) B hI hcl_CRows hin_CRows 5 (wC_at_5 a z u) 2 (by decide) hf_CRows_2 zw_29 rfl d_CRows_partOf_29 ?_
          refine lv_iload_n B.1 B.2.1 d_CRows_partOf_32 rfl (lv_at hl 1 rfl) ?_
          refine lv_bipush (v := 12) B.1 B.2.1 d_CRows_partOf_33 (by decide) ?_
          refine lv_imul B.1 B.2.1 d_CRows_partOf_35 ?_
          refine lv_iload_n B.1 B.2.1 d_CRows_partOf_36 rfl (lv_at hl 2 rfl) ?_
          refine lv_iadd B.1 B.2.1 d_CRows_partOf_37 ?_
          obtain ⟨hi5, hf⟩ := zck_some hf
          refine rx_iald B hI 7 (wC_at_7 a z u) hi5 d_CRows_partOf_38 ?_
          obtain ⟨e6, e7⟩ := zrt hf
          exact zr_i (wC a z) B hI hr hlk e6 e7 d_CRows_partOf_39
        · rw [if_neg hc4] at hf
          exact hb26  u _ _ _ hf hI (lv_sub hl [] rfl)
  · rw [if_neg hc1] at hf
    refine lv_iload_n B.1 B.2.1 d_CRows_partOf_4 rfl (lv_at hl 1 rfl) ?_
    refine lv_sipush (v := 128) B.1 B.2.1 d_CRows_partOf_5 (by decide) ?_
    refine lv_iadd B.1 B.2.1 d_CRows_partOf_8 ?_
    obtain ⟨e8, e9⟩ := zrt hf
    exact zr_i (wC a z) B hI hr hlk e8 e9 d_CRows_partOf_9
set_option maxHeartbeats 4000000 in
set_option maxRecDepth 100000 in
theorem zc_CCStack_takeRow_31_5 (l : Launch) (D : va_G) (z : zZ) (a : Nat → Nat) (N : Nat) (x2 : Int32) (u : zU) (r : Unit) (u1 : zU) (hf : zf_CCStack_takeRow_31_5 N x2 u = some (r, u1)) : zMet l D z y_CStack_takeRow (.code y_CStack_takeRow b_CStack_takeRow 4 none) { frames := 2, cells := 0, slots := 0, locals := 44 } [.ref (a 31), .ref (a 5), .int x2] (wC a z u) (zQv D (wC a z u1)) := by
  refine zM_v (own := R_CStack) [.ref (a 31), .ref (a 5), .int x2] (wC a z u) (wC a z u1) (by decide) rfl (Nat.le_of_ble_eq_true rfl) ?_
  intro p e s m args below meth c A ls B hr hlk hI hl
  have hl : lv_has ls 4 [(0, .ref (a 31)), (1, .ref (a 5)), (2, .int x2)] := hl
  revert hf
  revert hI hl
  have hb8 : ∀ (n : Nat) (x2 : Int32) (x3 : Int32) (u : zU) (H : Heap) (locs : List Loc) (ls : Array Slot), zf_CCStack_takeRow_31_5_b8 N  n x2 x3 u = some (r, u1) → iw D A s (wC a z u) H locs → lv_has ls 4 [(0, .ref (a 31)), (1, .ref (a 5)), (2, .int x2), (3, .int x3)] → W p l e ({ frames := 2, cells := 0, slots := 0, locals := 44 } : Room) s m args below meth c H locs 0 0 (MQ below (zQv D (wC a z u1) A) args s 0 0 A) (F0 m 8 ls []) := by
    intro n8
    induction n8 with
    | zero => intro x2 x3 u H locs ls hf; exact absurd hf (by rw [zf_CCStack_takeRow_31_5_b8]; exact fun h => by cases h)
    | succ n8 ih8 =>
      intro x2 x3 u H locs ls hf hI hl
      rw [zf_CCStack_takeRow_31_5_b8] at hf
      refine lv_iload_n B.1 B.2.1 d_CStack_takeRow_8 rfl (lv_at hl 3 rfl) ?_
      refine lv_if_lt (tgt := 29) B.1 B.2.1 d_CStack_takeRow_9 (by decide) (fun hc1 => ?_) (fun hc1 => ?_)
      · rw [if_pos hc1] at hf
        obtain ⟨e2, e3⟩ := zrt hf
        exact zr_v (wC a z) B hI hr hlk e3 d_CStack_takeRow_29
      · rw [if_neg hc1] at hf
        refine lv_aload_n B.1 B.2.1 d_CStack_takeRow_12 rfl (lv_at hl 0 rfl) ?_
        refine lv_aload_n B.1 B.2.1 d_CStack_takeRow_13 rfl (lv_at hl 1 rfl) ?_
        refine lv_iload_n B.1 B.2.1 d_CStack_takeRow_14 rfl (lv_at hl 2 rfl) ?_
        refine lv_iload_n B.1 B.2.1 d_CStack_takeRow_15 rfl (lv_at hl 3 rfl) ?_
        obtain ⟨r4, u5, h6, hf⟩ := zbd_some hf
        refine rx_Vi (n := 2) (As := [.int x2, .int x3]) (rest := [.ref (a 31)]) B hI hl.1 (zc_CCRows_partOf_5 l D z a N x2 x3 u r4 u5 h6) zw_247 zw_111 zw_112 zw_25 zw_110 (by decide +kernel) 5 (wC_at_5 a z u) hcl_CRows rfl rfl (Nat.le_of_ble_eq_true rfl) d_CStack_takeRow_16 ⟨Nat.le_of_ble_eq_true rfl, Nat.le_of_ble_eq_true rfl⟩ rfl rfl ⟨Nat.zero_le _, Nat.zero_le _⟩ (fun H locs hI => ?_)
        obtain ⟨r7, u8, h9, hf⟩ := zbd_some hf
        refine rx_Vi (n := 1) (As := [.int r4]) (rest := []) B hI hl.1 (zc_CCStack_take_31 l D z a N r4 u5 r7 u8 h9) zw_223 zw_225 zw_226 zw_82 zw_224 (by decide +kernel) 31 (wC_at_31 a z u5) hcl_CStack rfl rfl (Nat.le_of_ble_eq_true rfl) d_CStack_takeRow_19 ⟨Nat.le_of_ble_eq_true rfl, Nat.le_of_ble_eq_true rfl⟩ rfl rfl ⟨Nat.zero_le _, Nat.zero_le _⟩ (fun H locs hI => ?_)
        refine lv_pop B.1 B.2.1 d_CStack_takeRow_22 rfl ?_
        refine lv_iinc (v := (x3 + (-1))) (lv' := [(3, .int (x3 + (-1))), (0, .ref (a 31)), (1, .ref (a 5)), (2, .int x2)]) B.1 B.2.1 d_CStack_takeRow_23 hl (k := 3) rfl (by rfl) (by decide) rfl (fun ls hl => ?_)
        refine lv_goto (tgt := 8) B.1 B.2.1 d_CStack_takeRow_26 (by decide) ?_
        exact ih8 x2 (x3 + (-1)) u8 _ _ _ hf hI (lv_sub hl [1, 2, 3, 0] rfl)
  intro hI hl hf
  unfold zf_CCStack_takeRow_31_5 at hf
  refine lv_aload_n B.1 B.2.1 d_CStack_takeRow_0 rfl (lv_at hl 1 rfl) ?_
  refine lv_iload_n B.1 B.2.1 d_CStack_takeRow_1 rfl (lv_at hl 2 rfl) ?_
  obtain ⟨r1, u2, h3, hf⟩ := zbd_some hf
  refine rx_Vi (n := 1) (As := [.int x2]) (rest := []) B hI hl.1 (zc_CCRows_sizeOf_5 l D z a N x2 u r1 u2 h3) zw_246 zw_27 zw_28 zw_25 zw_26 (by decide +kernel) 5 (wC_at_5 a z u) hcl_CRows rfl rfl (Nat.le_of_ble_eq_true rfl) d_CStack_takeRow_2 ⟨Nat.le_of_ble_eq_true rfl, Nat.le_of_ble_eq_true rfl⟩ rfl rfl ⟨Nat.zero_le _, Nat.zero_le _⟩ (fun H locs hI => ?_)
  refine lv_iconst (v := 1) B.1 B.2.1 d_CStack_takeRow_5 (by decide) ?_
  refine lv_isub B.1 B.2.1 d_CStack_takeRow_6 ?_
  refine lv_istore_n (lv' := [(3, .int (r1 - 1)), (0, .ref (a 31)), (1, .ref (a 5)), (2, .int x2)]) B.1 B.2.1 d_CStack_takeRow_7 rfl hl (by decide) rfl (fun ls hl => ?_)
  exact hb8 N x2 (r1 - 1) u2 _ _ _ hf hI (lv_sub hl [1, 2, 3, 0] rfl)
set_option maxHeartbeats 4000000 in
set_option maxRecDepth 100000 in
theorem zc_CCStack_ofBlock_31_34 (l : Launch) (D : va_G) (z : zZ) (a : Nat → Nat) (N : Nat) (x2 : Int32) (u : zU) (r : Int32) (u1 : zU) (hf : zf_CCStack_ofBlock_31_34 N x2 u = some (r, u1)) : zMet l D z y_CStack_ofBlock (.code y_CStack_ofBlock b_CStack_ofBlock 4 (some (.int))) { frames := 0, cells := 0, slots := 0, locals := 0 } [.ref (a 31), .ref (a 34), .int x2] (wC a z u) (zQi D r (wC a z u1)) := by
  refine zM_i (own := R_CStack) [.ref (a 31), .ref (a 34), .int x2] (wC a z u) r (wC a z u1) (by decide) rfl (Nat.le_of_ble_eq_true rfl) ?_
  intro p e s m args below meth c A ls B hr hlk hI hl
  have hl : lv_has ls 4 [(0, .ref (a 31)), (1, .ref (a 34)), (2, .int x2)] := hl
  revert hf
  revert hI hl
  have hb30 : ∀ (s0 : Int32) (u : zU) (H : Heap) (locs : List Loc) (ls : Array Slot), zf_CCStack_ofBlock_31_34_b30 N  s0 u = some (r, u1) → iw D A s (wC a z u) H locs → lv_has ls 4 [] → W p l e ({ frames := 0, cells := 0, slots := 0, locals := 0 } : Room) s m args below meth c H locs 0 0 (MQ below (zQi D r (wC a z u1) A) args s 0 0 A) (F0 m 30 ls [.int s0]) := by
    intro s0 u H locs ls hf hI hl
    unfold zf_CCStack_ofBlock_31_34_b30 at hf
    obtain ⟨e1, e2⟩ := zrt hf
    exact zr_i (wC a z) B hI hr hlk e1 e2 d_CStack_ofBlock_30
  have hb29 : ∀  (u : zU) (H : Heap) (locs : List Loc) (ls : Array Slot), zf_CCStack_ofBlock_31_34_b29 N   u = some (r, u1) → iw D A s (wC a z u) H locs → lv_has ls 4 [] → W p l e ({ frames := 0, cells := 0, slots := 0, locals := 0 } : Room) s m args below meth c H locs 0 0 (MQ below (zQi D r (wC a z u1) A) args s 0 0 A) (F0 m 29 ls []) := by
    intro  u H locs ls hf hI hl
    unfold zf_CCStack_ofBlock_31_34_b29 at hf
    refine lv_iconst (v := 0) B.1 B.2.1 d_CStack_ofBlock_29 (by decide) ?_
    exact hb30 0 u _ _ _ hf hI (lv_sub hl [] rfl)
  intro hI hl hf
  unfold zf_CCStack_ofBlock_31_34 at hf
  refine lv_aload_n B.1 B.2.1 d_CStack_ofBlock_0 rfl (lv_at hl 0 rfl) ?_
  refine rx_get (v := .int (gi u 15)) B hI hcl_CStack hin_CStack 31 (wC_at_31 a z u) 8 (by decide) hf_CStack_8 zw_75 rfl d_CStack_ofBlock_1 ?_
  refine lv_iconst (v := 1) B.1 B.2.1 d_CStack_ofBlock_4 (by decide) ?_
  refine lv_isub B.1 B.2.1 d_CStack_ofBlock_5 ?_
  refine lv_iload_n B.1 B.2.1 d_CStack_ofBlock_6 rfl (lv_at hl 2 rfl) ?_
  refine lv_isub B.1 B.2.1 d_CStack_ofBlock_7 ?_
  refine lv_istore_n (lv' := [(3, .int (((gi u 15) - 1) - x2)), (0, .ref (a 31)), (1, .ref (a 34)), (2, .int x2)]) B.1 B.2.1 d_CStack_ofBlock_8 rfl hl (by decide) rfl (fun ls hl => ?_)
  refine lv_iload_n B.1 B.2.1 d_CStack_ofBlock_9 rfl (lv_at hl 3 rfl) ?_
  refine lv_if_lt (tgt := 29) B.1 B.2.1 d_CStack_ofBlock_10 (by decide) (fun hc1 => ?_) (fun hc1 => ?_)
  · rw [if_pos hc1] at hf
    exact hb29  u _ _ _ hf hI (lv_sub hl [] rfl)
  · rw [if_neg hc1] at hf
    refine lv_iload_n B.1 B.2.1 d_CStack_ofBlock_13 rfl (lv_at hl 0 rfl) ?_
    refine lv_if_lt (tgt := 29) B.1 B.2.1 d_CStack_ofBlock_14 (by decide) (fun hc2 => ?_) (fun hc2 => ?_)
    · rw [if_pos hc2] at hf
      exact hb29  u _ _ _ hf hI (lv_sub hl [] rfl)
    · rw [if_neg hc2] at hf
      refine lv_iload_n B.1 B.2.1 d_CStack_ofBlock_17 rfl (lv_at hl 0 rfl) ?_
      refine lv_aload_n B.1 B.2.1 d_CStack_ofBlock_18 rfl (lv_at hl 2 rfl) ?_
      refine rx_alen (v := 60) B hI 34 0 (wC_at_34 a z u) rfl rfl d_CStack_ofBlock_19 ?_
      refine lv_icmp_ge (tgt := 29) B.1 B.2.1 d_CStack_ofBlock_20 (by decide) (fun hc3 => ?_) (fun hc3 => ?_)
      · rw [if_pos hc3] at hf
        exact hb29  u _ _ _ hf hI (lv_sub hl [] rfl)
      · rw [if_neg hc3] at hf
        refine lv_aload_n B.1 B.2.1 d_CStack_ofBlock_23 rfl (lv_at hl 2 rfl) ?_
        refine lv_iload_n B.1 B.2.1 d_CStack_ofBlock_24 rfl (lv_at hl 0 rfl) ?_
        obtain ⟨hi4, hf⟩ := zck_some hf
        refine rx_iald B hI 34 (wC_at_34 a z u) hi4 d_CStack_ofBlock_25 ?_
        refine lv_goto (tgt := 30) B.1 B.2.1 d_CStack_ofBlock_26 (by decide) ?_
        exact hb30 (ga u 20 (((gi u 15) - 1) - x2)) u _ _ _ hf hI (lv_sub hl [] rfl)
set_option maxHeartbeats 4000000 in
set_option maxRecDepth 100000 in
theorem zc_CCStack_height_31 (l : Launch) (D : va_G) (z : zZ) (a : Nat → Nat) (N : Nat)  (u : zU) (r : Int32) (u1 : zU) (hf : zf_CCStack_height_31 N  u = some (r, u1)) : zMet l D z y_CStack_height (.code y_CStack_height b_CStack_height 1 (some (.int))) { frames := 1, cells := 0, slots := 0, locals := 23 } [.ref (a 31)] (wC a z u) (zQi D r (wC a z u1)) := by
  refine zM_i (own := R_CStack) [.ref (a 31)] (wC a z u) r (wC a z u1) (by decide) rfl (Nat.le_of_ble_eq_true rfl) ?_
  intro p e s m args below meth c A ls B hr hlk hI hl
  have hl : lv_has ls 1 [(0, .ref (a 31))] := hl
  revert hf
  revert hI hl
  intro hI hl hf
  unfold zf_CCStack_height_31 at hf
  refine lv_aload_n B.1 B.2.1 d_CStack_height_0 rfl (lv_at hl 0 rfl) ?_
  refine lv_aload_n B.1 B.2.1 d_CStack_height_1 rfl (lv_at hl 0 rfl) ?_
  refine rx_get (v := .ref (a 34)) B hI hcl_CStack hin_CStack 31 (wC_at_31 a z u) 3 (by decide) hf_CStack_3 zw_78 rfl d_CStack_height_2 ?_
  refine lv_iconst (v := 0) B.1 B.2.1 d_CStack_height_5 (by decide) ?_
  obtain ⟨r1, u2, h3, hf⟩ := zbd_some hf
  refine rx_Vi (n := 2) (As := [.ref (a 34), .int 0]) (rest := []) B hI hl.1 (zc_CCStack_ofBlock_31_34 l D z a N 0 u r1 u2 h3) zw_240 zw_242 zw_243 zw_82 zw_241 (by decide +kernel) 31 (wC_at_31 a z u) hcl_CStack rfl rfl (Nat.le_of_ble_eq_true rfl) d_CStack_height_6 ⟨Nat.le_of_ble_eq_true rfl, Nat.le_of_ble_eq_true rfl⟩ rfl rfl ⟨Nat.zero_le _, Nat.zero_le _⟩ (fun H locs hI => ?_)
  obtain ⟨e4, e5⟩ := zrt hf
  exact zr_i (wC a z) B hI hr hlk e4 e5 d_CStack_height_9
set_option maxHeartbeats 4000000 in
set_option maxRecDepth 100000 in
theorem zc_CCStack_expectNoMoreOperands_31 (l : Launch) (D : va_G) (z : zZ) (a : Nat → Nat) (N : Nat)  (u : zU) (r : Unit) (u1 : zU) (hf : zf_CCStack_expectNoMoreOperands_31 N  u = some (r, u1)) : zMet l D z y_CStack_expectNoMoreOperands (.code y_CStack_expectNoMoreOperands b_CStack_expectNoMoreOperands 1 none) { frames := 2, cells := 0, slots := 0, locals := 43 } [.ref (a 31)] (wC a z u) (zQv D (wC a z u1)) := by
  refine zM_v (own := R_CStack) [.ref (a 31)] (wC a z u) (wC a z u1) (by decide) rfl (Nat.le_of_ble_eq_true rfl) ?_
  intro p e s m args below meth c A ls B hr hlk hI hl
  have hl : lv_has ls 1 [(0, .ref (a 31))] := hl
  revert hf
  revert hI hl
  have hb16 : ∀  (u : zU) (H : Heap) (locs : List Loc) (ls : Array Slot), zf_CCStack_expectNoMoreOperands_31_b16 N   u = some (r, u1) → iw D A s (wC a z u) H locs → lv_has ls 1 [] → W p l e ({ frames := 2, cells := 0, slots := 0, locals := 43 } : Room) s m args below meth c H locs 0 0 (MQ below (zQv D (wC a z u1) A) args s 0 0 A) (F0 m 16 ls []) := by
    intro  u H locs ls hf hI hl
    unfold zf_CCStack_expectNoMoreOperands_31_b16 at hf
    obtain ⟨e1, e2⟩ := zrt hf
    exact zr_v (wC a z) B hI hr hlk e2 d_CStack_expectNoMoreOperands_16
  intro hI hl hf
  unfold zf_CCStack_expectNoMoreOperands_31 at hf
  refine lv_aload_n B.1 B.2.1 d_CStack_expectNoMoreOperands_0 rfl (lv_at hl 0 rfl) ?_
  refine rx_get (v := .int (gi u 14)) B hI hcl_CStack hin_CStack 31 (wC_at_31 a z u) 7 (by decide) hf_CStack_7 zw_74 rfl d_CStack_expectNoMoreOperands_1 ?_
  refine lv_aload_n B.1 B.2.1 d_CStack_expectNoMoreOperands_4 rfl (lv_at hl 0 rfl) ?_
  obtain ⟨r1, u2, h3, hf⟩ := zbd_some hf
  refine rx_Vi (n := 0) (As := []) (rest := [.int (gi u 14)]) B hI hl.1 (zc_CCStack_height_31 l D z a N  u r1 u2 h3) zw_252 zw_254 zw_255 zw_82 zw_253 (by decide +kernel) 31 (wC_at_31 a z u) hcl_CStack rfl rfl (Nat.le_of_ble_eq_true rfl) d_CStack_expectNoMoreOperands_5 ⟨Nat.le_of_ble_eq_true rfl, Nat.le_of_ble_eq_true rfl⟩ rfl rfl ⟨Nat.zero_le _, Nat.zero_le _⟩ (fun H locs hI => ?_)
  refine lv_icmp_le (tgt := 16) B.1 B.2.1 d_CStack_expectNoMoreOperands_8 (by decide) (fun hc4 => ?_) (fun hc4 => ?_)
  · rw [if_pos hc4] at hf
    exact hb16  u2 _ _ _ hf hI (lv_sub hl [] rfl)
  · rw [if_neg hc4] at hf
    refine lv_aload_n B.1 B.2.1 d_CStack_expectNoMoreOperands_11 rfl (lv_at hl 0 rfl) ?_
    refine lv_iconst (v := 3) B.1 B.2.1 d_CStack_expectNoMoreOperands_12 (by decide) ?_
    obtain ⟨r5, u6, h7, hf⟩ := zbd_some hf
    refine rx_Vv (n := 1) (As := [.int 3]) (rest := []) B hI hl.1 (zc_CCStack_fail_31 l D z a N 3 u2 r5 u6 h7) zw_219 zw_221 zw_222 zw_82 zw_220 (by decide +kernel) 31 (wC_at_31 a z u2) hcl_CStack rfl rfl (Nat.le_of_ble_eq_true rfl) d_CStack_expectNoMoreOperands_13 ⟨Nat.le_of_ble_eq_true rfl, Nat.le_of_ble_eq_true rfl⟩ rfl rfl ⟨Nat.zero_le _, Nat.zero_le _⟩ (fun H locs hI => ?_)
    exact hb16  u6 _ _ _ hf hI (lv_sub hl [] rfl)
set_option maxHeartbeats 4000000 in
set_option maxRecDepth 100000 in
theorem zc_CCStack_ofBlock_31_35 (l : Launch) (D : va_G) (z : zZ) (a : Nat → Nat) (N : Nat) (x2 : Int32) (u : zU) (r : Int32) (u1 : zU) (hf : zf_CCStack_ofBlock_31_35 N x2 u = some (r, u1)) : zMet l D z y_CStack_ofBlock (.code y_CStack_ofBlock b_CStack_ofBlock 4 (some (.int))) { frames := 0, cells := 0, slots := 0, locals := 0 } [.ref (a 31), .ref (a 35), .int x2] (wC a z u) (zQi D r (wC a z u1)) := by
  refine zM_i (own := R_CStack) [.ref (a 31), .ref (a 35), .int x2] (wC a z u) r (wC a z u1) (by decide) rfl (Nat.le_of_ble_eq_true rfl) ?_
  intro p e s m args below meth c A ls B hr hlk hI hl
  have hl : lv_has ls 4 [(0, .ref (a 31)), (1, .ref (a 35)), (2, .int x2)] := hl
  revert hf
  revert hI hl
  have hb30 : ∀ (s0 : Int32) (u : zU) (H : Heap) (locs : List Loc) (ls : Array Slot), zf_CCStack_ofBlock_31_35_b30 N  s0 u = some (r, u1) → iw D A s (wC a z u) H locs → lv_has ls 4 [] → W p l e ({ frames := 0, cells := 0, slots := 0, locals := 0 } : Room) s m args below meth c H locs 0 0 (MQ below (zQi D r (wC a z u1) A) args s 0 0 A) (F0 m 30 ls [.int s0]) := by
    intro s0 u H locs ls hf hI hl
    unfold zf_CCStack_ofBlock_31_35_b30 at hf
    obtain ⟨e1, e2⟩ := zrt hf
    exact zr_i (wC a z) B hI hr hlk e1 e2 d_CStack_ofBlock_30
  have hb29 : ∀  (u : zU) (H : Heap) (locs : List Loc) (ls : Array Slot), zf_CCStack_ofBlock_31_35_b29 N   u = some (r, u1) → iw D A s (wC a z u) H locs → lv_has ls 4 [] → W p l e ({ frames := 0, cells := 0, slots := 0, locals := 0 } : Room) s m args below meth c H locs 0 0 (MQ below (zQi D r (wC a z u1) A) args s 0 0 A) (F0 m 29 ls []) := by
    intro  u H locs ls hf hI hl
    unfold zf_CCStack_ofBlock_31_35_b29 at hf
    refine lv_iconst (v := 0) B.1 B.2.1 d_CStack_ofBlock_29 (by decide) ?_
    exact hb30 0 u _ _ _ hf hI (lv_sub hl [] rfl)
  intro hI hl hf
  unfold zf_CCStack_ofBlock_31_35 at hf
  refine lv_aload_n B.1 B.2.1 d_CStack_ofBlock_0 rfl (lv_at hl 0 rfl) ?_
  refine rx_get (v := .int (gi u 15)) B hI hcl_CStack hin_CStack 31 (wC_at_31 a z u) 8 (by decide) hf_CStack_8 zw_75 rfl d_CStack_ofBlock_1 ?_
  refine lv_iconst (v := 1) B.1 B.2.1 d_CStack_ofBlock_4 (by decide) ?_
  refine lv_isub B.1 B.2.1 d_CStack_ofBlock_5 ?_
  refine lv_iload_n B.1 B.2.1 d_CStack_ofBlock_6 rfl (lv_at hl 2 rfl) ?_
  refine lv_isub B.1 B.2.1 d_CStack_ofBlock_7 ?_
  refine lv_istore_n (lv' := [(3, .int (((gi u 15) - 1) - x2)), (0, .ref (a 31)), (1, .ref (a 35)), (2, .int x2)]) B.1 B.2.1 d_CStack_ofBlock_8 rfl hl (by decide) rfl (fun ls hl => ?_)
  refine lv_iload_n B.1 B.2.1 d_CStack_ofBlock_9 rfl (lv_at hl 3 rfl) ?_
  refine lv_if_lt (tgt := 29) B.1 B.2.1 d_CStack_ofBlock_10 (by decide) (fun hc1 => ?_) (fun hc1 => ?_)
  · rw [if_pos hc1] at hf
    exact hb29  u _ _ _ hf hI (lv_sub hl [] rfl)
  · rw [if_neg hc1] at hf
    refine lv_iload_n B.1 B.2.1 d_CStack_ofBlock_13 rfl (lv_at hl 0 rfl) ?_
    refine lv_if_lt (tgt := 29) B.1 B.2.1 d_CStack_ofBlock_14 (by decide) (fun hc2 => ?_) (fun hc2 => ?_)
    · rw [if_pos hc2] at hf
      exact hb29  u _ _ _ hf hI (lv_sub hl [] rfl)
    · rw [if_neg hc2] at hf
      refine lv_iload_n B.1 B.2.1 d_CStack_ofBlock_17 rfl (lv_at hl 0 rfl) ?_
      refine lv_aload_n B.1 B.2.1 d_CStack_ofBlock_18 rfl (lv_at hl 2 rfl) ?_
      refine rx_alen (v := 60) B hI 35 0 (wC_at_35 a z u) rfl rfl d_CStack_ofBlock_19 ?_
      refine lv_icmp_ge (tgt := 29) B.1 B.2.1 d_CStack_ofBlock_20 (by decide) (fun hc3 => ?_) (fun hc3 => ?_)
      · rw [if_pos hc3] at hf
        exact hb29  u _ _ _ hf hI (lv_sub hl [] rfl)
      · rw [if_neg hc3] at hf
        refine lv_aload_n B.1 B.2.1 d_CStack_ofBlock_23 rfl (lv_at hl 2 rfl) ?_
        refine lv_iload_n B.1 B.2.1 d_CStack_ofBlock_24 rfl (lv_at hl 0 rfl) ?_
        obtain ⟨hi4, hf⟩ := zck_some hf
        refine rx_iald B hI 35 (wC_at_35 a z u) hi4 d_CStack_ofBlock_25 ?_
        refine lv_goto (tgt := 30) B.1 B.2.1 d_CStack_ofBlock_26 (by decide) ?_
        exact hb30 (ga u 21 (((gi u 15) - 1) - x2)) u _ _ _ hf hI (lv_sub hl [] rfl)
set_option maxHeartbeats 4000000 in
set_option maxRecDepth 100000 in
theorem zc_CCStack_opener_31 (l : Launch) (D : va_G) (z : zZ) (a : Nat → Nat) (N : Nat)  (u : zU) (r : Int32) (u1 : zU) (hf : zf_CCStack_opener_31 N  u = some (r, u1)) : zMet l D z y_CStack_opener (.code y_CStack_opener b_CStack_opener 1 (some (.int))) { frames := 1, cells := 0, slots := 0, locals := 23 } [.ref (a 31)] (wC a z u) (zQi D r (wC a z u1)) := by
  refine zM_i (own := R_CStack) [.ref (a 31)] (wC a z u) r (wC a z u1) (by decide) rfl (Nat.le_of_ble_eq_true rfl) ?_
  intro p e s m args below meth c A ls B hr hlk hI hl
  have hl : lv_has ls 1 [(0, .ref (a 31))] := hl
  revert hf
  revert hI hl
  intro hI hl hf
  unfold zf_CCStack_opener_31 at hf
  refine lv_aload_n B.1 B.2.1 d_CStack_opener_0 rfl (lv_at hl 0 rfl) ?_
  refine lv_aload_n B.1 B.2.1 d_CStack_opener_1 rfl (lv_at hl 0 rfl) ?_
  refine rx_get (v := .ref (a 35)) B hI hcl_CStack hin_CStack 31 (wC_at_31 a z u) 4 (by decide) hf_CStack_4 zw_79 rfl d_CStack_opener_2 ?_
  refine lv_iconst (v := 0) B.1 B.2.1 d_CStack_opener_5 (by decide) ?_
  obtain ⟨r1, u2, h3, hf⟩ := zbd_some hf
  refine rx_Vi (n := 2) (As := [.ref (a 35), .int 0]) (rest := []) B hI hl.1 (zc_CCStack_ofBlock_31_35 l D z a N 0 u r1 u2 h3) zw_240 zw_242 zw_243 zw_82 zw_241 (by decide +kernel) 31 (wC_at_31 a z u) hcl_CStack rfl rfl (Nat.le_of_ble_eq_true rfl) d_CStack_opener_6 ⟨Nat.le_of_ble_eq_true rfl, Nat.le_of_ble_eq_true rfl⟩ rfl rfl ⟨Nat.zero_le _, Nat.zero_le _⟩ (fun H locs hI => ?_)
  obtain ⟨e4, e5⟩ := zrt hf
  exact zr_i (wC a z) B hI hr hlk e4 e5 d_CStack_opener_9
set_option maxHeartbeats 4000000 in
set_option maxRecDepth 100000 in
theorem zc_CCThings_hasLikeParametersAndResults_1 (l : Launch) (D : va_G) (z : zZ) (a : Nat → Nat) (N : Nat) (x1 : Int32) (u : zU) (r : Int32) (u1 : zU) (hf : zf_CCThings_hasLikeParametersAndResults_1 N x1 u = some (r, u1)) : zMet l D z y_CThings_hasLikeParametersAndResults (.code y_CThings_hasLikeParametersAndResults b_CThings_hasLikeParametersAndResults 4 (some (.boolean))) { frames := 1, cells := 0, slots := 0, locals := 22 } [.ref (a 1), .int x1] (wC a z u) (zQi D r (wC a z u1)) := by
  refine zM_i (own := R_CThings) [.ref (a 1), .int x1] (wC a z u) r (wC a z u1) (by decide) rfl (Nat.le_of_ble_eq_true rfl) ?_
  intro p e s m args below meth c A ls B hr hlk hI hl
  have hl : lv_has ls 4 [(0, .ref (a 1)), (1, .int x1)] := hl
  revert hf
  revert hI hl
  have hb25 : ∀ (n : Nat) (x1 : Int32) (x2 : Int32) (x3 : Int32) (u : zU) (H : Heap) (locs : List Loc) (ls : Array Slot), zf_CCThings_hasLikeParametersAndResults_1_b25 N  n x1 x2 x3 u = some (r, u1) → iw D A s (wC a z u) H locs → lv_has ls 4 [(0, .ref (a 1)), (1, .int x1), (2, .int x2), (3, .int x3)] → W p l e ({ frames := 1, cells := 0, slots := 0, locals := 22 } : Room) s m args below meth c H locs 0 0 (MQ below (zQi D r (wC a z u1) A) args s 0 0 A) (F0 m 25 ls []) := by
    intro n25
    induction n25 with
    | zero => intro x1 x2 x3 u H locs ls hf; exact absurd hf (by rw [zf_CCThings_hasLikeParametersAndResults_1_b25]; exact fun h => by cases h)
    | succ n25 ih25 =>
      intro x1 x2 x3 u H locs ls hf hI hl
      rw [zf_CCThings_hasLikeParametersAndResults_1_b25] at hf
      refine lv_iload_n B.1 B.2.1 d_CThings_hasLikeParametersAndResults_25 rfl (lv_at hl 3 rfl) ?_
      refine lv_iload_n B.1 B.2.1 d_CThings_hasLikeParametersAndResults_26 rfl (lv_at hl 2 rfl) ?_
      refine lv_icmp_ge (tgt := 59) B.1 B.2.1 d_CThings_hasLikeParametersAndResults_27 (by decide) (fun hc1 => ?_) (fun hc1 => ?_)
      · rw [if_pos hc1] at hf
        refine lv_iconst (v := 1) B.1 B.2.1 d_CThings_hasLikeParametersAndResults_59 (by decide) ?_
        obtain ⟨e2, e3⟩ := zrt hf
        exact zr_z (wC a z) B hI hr hlk (by decide) e2 e3 d_CThings_hasLikeParametersAndResults_60
      · rw [if_neg hc1] at hf
        refine lv_aload_n B.1 B.2.1 d_CThings_hasLikeParametersAndResults_30 rfl (lv_at hl 0 rfl) ?_
        refine rx_get (v := .ref (a 2)) B hI hcl_CThings hin_CThings 1 (wC_at_1 a z u) 0 (by decide) hf_CThings_0 zw_34 rfl d_CThings_hasLikeParametersAndResults_31 ?_
        refine lv_iload_n B.1 B.2.1 d_CThings_hasLikeParametersAndResults_34 rfl (lv_at hl 1 rfl) ?_
        refine lv_iload_n B.1 B.2.1 d_CThings_hasLikeParametersAndResults_35 rfl (lv_at hl 3 rfl) ?_
        obtain ⟨r4, u5, h6, hf⟩ := zbd_some hf
        refine rx_Vi (n := 2) (As := [.int x1, .int x3]) (rest := []) B hI hl.1 (zc_CCRows_partOf_2 l D z a N x1 x3 u r4 u5 h6) zw_265 zw_111 zw_112 zw_25 zw_110 (by decide +kernel) 2 (wC_at_2 a z u) hcl_CRows rfl rfl (Nat.le_of_ble_eq_true rfl) d_CThings_hasLikeParametersAndResults_36 ⟨Nat.le_of_ble_eq_true rfl, Nat.le_of_ble_eq_true rfl⟩ rfl rfl ⟨Nat.zero_le _, Nat.zero_le _⟩ (fun H locs hI => ?_)
        refine lv_aload_n B.1 B.2.1 d_CThings_hasLikeParametersAndResults_39 rfl (lv_at hl 0 rfl) ?_
        refine rx_get (v := .ref (a 5)) B hI hcl_CThings hin_CThings 1 (wC_at_1 a z u5) 1 (by decide) hf_CThings_1 zw_21 rfl d_CThings_hasLikeParametersAndResults_40 ?_
        refine lv_iload_n B.1 B.2.1 d_CThings_hasLikeParametersAndResults_43 rfl (lv_at hl 1 rfl) ?_
        refine lv_iload_n B.1 B.2.1 d_CThings_hasLikeParametersAndResults_44 rfl (lv_at hl 3 rfl) ?_
        obtain ⟨r7, u8, h9, hf⟩ := zbd_some hf
        refine rx_Vi (n := 2) (As := [.int x1, .int x3]) (rest := [.int r4]) B hI hl.1 (zc_CCRows_partOf_5 l D z a N x1 x3 u5 r7 u8 h9) zw_265 zw_111 zw_112 zw_25 zw_110 (by decide +kernel) 5 (wC_at_5 a z u5) hcl_CRows rfl rfl (Nat.le_of_ble_eq_true rfl) d_CThings_hasLikeParametersAndResults_45 ⟨Nat.le_of_ble_eq_true rfl, Nat.le_of_ble_eq_true rfl⟩ rfl rfl ⟨Nat.zero_le _, Nat.zero_le _⟩ (fun H locs hI => ?_)
        refine lv_icmp_eq (tgt := 53) B.1 B.2.1 d_CThings_hasLikeParametersAndResults_48 (by decide) (fun hc10 => ?_) (fun hc10 => ?_)
        · rw [if_pos hc10] at hf
          refine lv_iinc (v := (x3 + 1)) (lv' := [(3, .int (x3 + 1)), (0, .ref (a 1)), (1, .int x1), (2, .int x2)]) B.1 B.2.1 d_CThings_hasLikeParametersAndResults_53 hl (k := 3) rfl (by rfl) (by decide) rfl (fun ls hl => ?_)
          refine lv_goto (tgt := 25) B.1 B.2.1 d_CThings_hasLikeParametersAndResults_56 (by decide) ?_
          exact ih25 x1 x2 (x3 + 1) u8 _ _ _ hf hI (lv_sub hl [1, 2, 3, 0] rfl)
        · rw [if_neg hc10] at hf
          refine lv_iconst (v := 0) B.1 B.2.1 d_CThings_hasLikeParametersAndResults_51 (by decide) ?_
          obtain ⟨e11, e12⟩ := zrt hf
          exact zr_z (wC a z) B hI hr hlk (by decide) e11 e12 d_CThings_hasLikeParametersAndResults_52
  intro hI hl hf
  unfold zf_CCThings_hasLikeParametersAndResults_1 at hf
  refine lv_aload_n B.1 B.2.1 d_CThings_hasLikeParametersAndResults_0 rfl (lv_at hl 0 rfl) ?_
  refine rx_get (v := .ref (a 2)) B hI hcl_CThings hin_CThings 1 (wC_at_1 a z u) 0 (by decide) hf_CThings_0 zw_34 rfl d_CThings_hasLikeParametersAndResults_1 ?_
  refine lv_iload_n B.1 B.2.1 d_CThings_hasLikeParametersAndResults_4 rfl (lv_at hl 1 rfl) ?_
  obtain ⟨r1, u2, h3, hf⟩ := zbd_some hf
  refine rx_Vi (n := 1) (As := [.int x1]) (rest := []) B hI hl.1 (zc_CCRows_sizeOf_2 l D z a N x1 u r1 u2 h3) zw_264 zw_27 zw_28 zw_25 zw_26 (by decide +kernel) 2 (wC_at_2 a z u) hcl_CRows rfl rfl (Nat.le_of_ble_eq_true rfl) d_CThings_hasLikeParametersAndResults_5 ⟨Nat.le_of_ble_eq_true rfl, Nat.le_of_ble_eq_true rfl⟩ rfl rfl ⟨Nat.zero_le _, Nat.zero_le _⟩ (fun H locs hI => ?_)
  refine lv_istore_n (lv' := [(2, .int r1), (0, .ref (a 1)), (1, .int x1)]) B.1 B.2.1 d_CThings_hasLikeParametersAndResults_8 rfl hl (by decide) rfl (fun ls hl => ?_)
  refine lv_iload_n B.1 B.2.1 d_CThings_hasLikeParametersAndResults_9 rfl (lv_at hl 0 rfl) ?_
  refine lv_aload_n B.1 B.2.1 d_CThings_hasLikeParametersAndResults_10 rfl (lv_at hl 1 rfl) ?_
  refine rx_get (v := .ref (a 5)) B hI hcl_CThings hin_CThings 1 (wC_at_1 a z u2) 1 (by decide) hf_CThings_1 zw_21 rfl d_CThings_hasLikeParametersAndResults_11 ?_
  refine lv_iload_n B.1 B.2.1 d_CThings_hasLikeParametersAndResults_14 rfl (lv_at hl 2 rfl) ?_
  obtain ⟨r4, u5, h6, hf⟩ := zbd_some hf
  refine rx_Vi (n := 1) (As := [.int x1]) (rest := [.int r1]) B hI hl.1 (zc_CCRows_sizeOf_5 l D z a N x1 u2 r4 u5 h6) zw_264 zw_27 zw_28 zw_25 zw_26 (by decide +kernel) 5 (wC_at_5 a z u2) hcl_CRows rfl rfl (Nat.le_of_ble_eq_true rfl) d_CThings_hasLikeParametersAndResults_15 ⟨Nat.le_of_ble_eq_true rfl, Nat.le_of_ble_eq_true rfl⟩ rfl rfl ⟨Nat.zero_le _, Nat.zero_le _⟩ (fun H locs hI => ?_)
  refine lv_icmp_eq (tgt := 23) B.1 B.2.1 d_CThings_hasLikeParametersAndResults_18 (by decide) (fun hc7 => ?_) (fun hc7 => ?_)
  · rw [if_pos hc7] at hf
    refine lv_iconst (v := 0) B.1 B.2.1 d_CThings_hasLikeParametersAndResults_23 (by decide) ?_
    refine lv_istore_n (lv' := [(3, .int 0), (2, .int r1), (0, .ref (a 1)), (1, .int x1)]) B.1 B.2.1 d_CThings_hasLikeParametersAndResults_24 rfl hl (by decide) rfl (fun ls hl => ?_)
    exact hb25 N x1 r1 0 u5 _ _ _ hf hI (lv_sub hl [2, 3, 1, 0] rfl)
  · rw [if_neg hc7] at hf
    refine lv_iconst (v := 0) B.1 B.2.1 d_CThings_hasLikeParametersAndResults_21 (by decide) ?_
    obtain ⟨e8, e9⟩ := zrt hf
    exact zr_z (wC a z) B hI hr hlk (by decide) e8 e9 d_CThings_hasLikeParametersAndResults_22
set_option maxHeartbeats 4000000 in
set_option maxRecDepth 100000 in
theorem zc_CCStack_hasInnermost_31 (l : Launch) (D : va_G) (z : zZ) (a : Nat → Nat) (N : Nat)  (u : zU) (r : Int32) (u1 : zU) (hf : zf_CCStack_hasInnermost_31 N  u = some (r, u1)) : zMet l D z y_CStack_hasInnermost (.code y_CStack_hasInnermost b_CStack_hasInnermost 1 (some (.boolean))) { frames := 0, cells := 0, slots := 0, locals := 0 } [.ref (a 31)] (wC a z u) (zQi D r (wC a z u1)) := by
  refine zM_i (own := R_CStack) [.ref (a 31)] (wC a z u) r (wC a z u1) (by decide) rfl (Nat.le_of_ble_eq_true rfl) ?_
  intro p e s m args below meth c A ls B hr hlk hI hl
  have hl : lv_has ls 1 [(0, .ref (a 31))] := hl
  revert hf
  revert hI hl
  have hb21 : ∀ (s0 : Int32) (u : zU) (H : Heap) (locs : List Loc) (ls : Array Slot), zf_CCStack_hasInnermost_31_b21 N  s0 u = some (r, u1) → iw D A s (wC a z u) H locs → lv_has ls 1 [] → W p l e ({ frames := 0, cells := 0, slots := 0, locals := 0 } : Room) s m args below meth c H locs 0 0 (MQ below (zQi D r (wC a z u1) A) args s 0 0 A) (F0 m 21 ls [.int s0]) := by
    intro s0 u H locs ls hf hI hl
    unfold zf_CCStack_hasInnermost_31_b21 at hf
    obtain ⟨hz3, hf⟩ := zck_some hf
    obtain ⟨e1, e2⟩ := zrt hf
    exact zr_z (wC a z) B hI hr hlk hz3 e1 e2 d_CStack_hasInnermost_21
  have hb20 : ∀  (u : zU) (H : Heap) (locs : List Loc) (ls : Array Slot), zf_CCStack_hasInnermost_31_b20 N   u = some (r, u1) → iw D A s (wC a z u) H locs → lv_has ls 1 [] → W p l e ({ frames := 0, cells := 0, slots := 0, locals := 0 } : Room) s m args below meth c H locs 0 0 (MQ below (zQi D r (wC a z u1) A) args s 0 0 A) (F0 m 20 ls []) := by
    intro  u H locs ls hf hI hl
    unfold zf_CCStack_hasInnermost_31_b20 at hf
    refine lv_iconst (v := 0) B.1 B.2.1 d_CStack_hasInnermost_20 (by decide) ?_
    exact hb21 0 u _ _ _ hf hI (lv_sub hl [] rfl)
  intro hI hl hf
  unfold zf_CCStack_hasInnermost_31 at hf
  refine lv_aload_n B.1 B.2.1 d_CStack_hasInnermost_0 rfl (lv_at hl 0 rfl) ?_
  refine rx_get (v := .int (gi u 15)) B hI hcl_CStack hin_CStack 31 (wC_at_31 a z u) 8 (by decide) hf_CStack_8 zw_75 rfl d_CStack_hasInnermost_1 ?_
  refine lv_if_le (tgt := 20) B.1 B.2.1 d_CStack_hasInnermost_4 (by decide) (fun hc1 => ?_) (fun hc1 => ?_)
  · rw [if_pos hc1] at hf
    exact hb20  u _ _ _ hf hI (lv_sub hl [] rfl)
  · rw [if_neg hc1] at hf
    refine lv_aload_n B.1 B.2.1 d_CStack_hasInnermost_7 rfl (lv_at hl 0 rfl) ?_
    refine rx_get (v := .int (gi u 15)) B hI hcl_CStack hin_CStack 31 (wC_at_31 a z u) 8 (by decide) hf_CStack_8 zw_75 rfl d_CStack_hasInnermost_8 ?_
    refine lv_bipush (v := 60) B.1 B.2.1 d_CStack_hasInnermost_11 (by decide) ?_
    refine lv_icmp_gt (tgt := 20) B.1 B.2.1 d_CStack_hasInnermost_13 (by decide) (fun hc2 => ?_) (fun hc2 => ?_)
    · rw [if_pos hc2] at hf
      exact hb20  u _ _ _ hf hI (lv_sub hl [] rfl)
    · rw [if_neg hc2] at hf
      refine lv_iconst (v := 1) B.1 B.2.1 d_CStack_hasInnermost_16 (by decide) ?_
      refine lv_goto (tgt := 21) B.1 B.2.1 d_CStack_hasInnermost_17 (by decide) ?_
      exact hb21 1 u _ _ _ hf hI (lv_sub hl [] rfl)
set_option maxHeartbeats 4000000 in
set_option maxRecDepth 100000 in
theorem zc_CCStack_giveRow_31_5 (l : Launch) (D : va_G) (z : zZ) (a : Nat → Nat) (N : Nat) (x2 : Int32) (u : zU) (r : Unit) (u1 : zU) (hf : zf_CCStack_giveRow_31_5 N x2 u = some (r, u1)) : zMet l D z y_CStack_giveRow (.code y_CStack_giveRow b_CStack_giveRow 5 none) { frames := 1, cells := 0, slots := 0, locals := 22 } [.ref (a 31), .ref (a 5), .int x2] (wC a z u) (zQv D (wC a z u1)) := by
  refine zM_v (own := R_CStack) [.ref (a 31), .ref (a 5), .int x2] (wC a z u) (wC a z u1) (by decide) rfl (Nat.le_of_ble_eq_true rfl) ?_
  intro p e s m args below meth c A ls B hr hlk hI hl
  have hl : lv_has ls 5 [(0, .ref (a 31)), (1, .ref (a 5)), (2, .int x2)] := hl
  revert hf
  revert hI hl
  have hb9 : ∀ (n : Nat) (x2 : Int32) (x3 : Int32) (x4 : Int32) (u : zU) (H : Heap) (locs : List Loc) (ls : Array Slot), zf_CCStack_giveRow_31_5_b9 N  n x2 x3 x4 u = some (r, u1) → iw D A s (wC a z u) H locs → lv_has ls 5 [(0, .ref (a 31)), (1, .ref (a 5)), (2, .int x2), (3, .int x3), (4, .int x4)] → W p l e ({ frames := 1, cells := 0, slots := 0, locals := 22 } : Room) s m args below meth c H locs 0 0 (MQ below (zQv D (wC a z u1) A) args s 0 0 A) (F0 m 9 ls []) := by
    intro n9
    induction n9 with
    | zero => intro x2 x3 x4 u H locs ls hf; exact absurd hf (by rw [zf_CCStack_giveRow_31_5_b9]; exact fun h => by cases h)
    | succ n9 ih9 =>
      intro x2 x3 x4 u H locs ls hf hI hl
      rw [zf_CCStack_giveRow_31_5_b9] at hf
      refine lv_iload B.1 B.2.1 d_CStack_giveRow_9 (lv_at hl 4 rfl) ?_
      refine lv_iload_n B.1 B.2.1 d_CStack_giveRow_11 rfl (lv_at hl 3 rfl) ?_
      refine lv_icmp_ge (tgt := 32) B.1 B.2.1 d_CStack_giveRow_12 (by decide) (fun hc1 => ?_) (fun hc1 => ?_)
      · rw [if_pos hc1] at hf
        obtain ⟨e2, e3⟩ := zrt hf
        exact zr_v (wC a z) B hI hr hlk e3 d_CStack_giveRow_32
      · rw [if_neg hc1] at hf
        refine lv_aload_n B.1 B.2.1 d_CStack_giveRow_15 rfl (lv_at hl 0 rfl) ?_
        refine lv_aload_n B.1 B.2.1 d_CStack_giveRow_16 rfl (lv_at hl 1 rfl) ?_
        refine lv_iload_n B.1 B.2.1 d_CStack_giveRow_17 rfl (lv_at hl 2 rfl) ?_
        refine lv_iload B.1 B.2.1 d_CStack_giveRow_18 (lv_at hl 4 rfl) ?_
        obtain ⟨r4, u5, h6, hf⟩ := zbd_some hf
        refine rx_Vi (n := 2) (As := [.int x2, .int x4]) (rest := [.ref (a 31)]) B hI hl.1 (zc_CCRows_partOf_5 l D z a N x2 x4 u r4 u5 h6) zw_247 zw_111 zw_112 zw_25 zw_110 (by decide +kernel) 5 (wC_at_5 a z u) hcl_CRows rfl rfl (Nat.le_of_ble_eq_true rfl) d_CStack_giveRow_20 ⟨Nat.le_of_ble_eq_true rfl, Nat.le_of_ble_eq_true rfl⟩ rfl rfl ⟨Nat.zero_le _, Nat.zero_le _⟩ (fun H locs hI => ?_)
        obtain ⟨r7, u8, h9, hf⟩ := zbd_some hf
        refine rx_Vv (n := 1) (As := [.int r4]) (rest := []) B hI hl.1 (zc_CCStack_give_31 l D z a N r4 u5 r7 u8 h9) zw_274 zw_233 zw_234 zw_82 zw_232 (by decide +kernel) 31 (wC_at_31 a z u5) hcl_CStack rfl rfl (Nat.le_of_ble_eq_true rfl) d_CStack_giveRow_23 ⟨Nat.le_of_ble_eq_true rfl, Nat.le_of_ble_eq_true rfl⟩ rfl rfl ⟨Nat.zero_le _, Nat.zero_le _⟩ (fun H locs hI => ?_)
        refine lv_iinc (v := (x4 + 1)) (lv' := [(4, .int (x4 + 1)), (0, .ref (a 31)), (1, .ref (a 5)), (2, .int x2), (3, .int x3)]) B.1 B.2.1 d_CStack_giveRow_26 hl (k := 4) rfl (by rfl) (by decide) rfl (fun ls hl => ?_)
        refine lv_goto (tgt := 9) B.1 B.2.1 d_CStack_giveRow_29 (by decide) ?_
        exact ih9 x2 x3 (x4 + 1) u8 _ _ _ hf hI (lv_sub hl [1, 2, 3, 4, 0] rfl)
  intro hI hl hf
  unfold zf_CCStack_giveRow_31_5 at hf
  refine lv_aload_n B.1 B.2.1 d_CStack_giveRow_0 rfl (lv_at hl 1 rfl) ?_
  refine lv_iload_n B.1 B.2.1 d_CStack_giveRow_1 rfl (lv_at hl 2 rfl) ?_
  obtain ⟨r1, u2, h3, hf⟩ := zbd_some hf
  refine rx_Vi (n := 1) (As := [.int x2]) (rest := []) B hI hl.1 (zc_CCRows_sizeOf_5 l D z a N x2 u r1 u2 h3) zw_246 zw_27 zw_28 zw_25 zw_26 (by decide +kernel) 5 (wC_at_5 a z u) hcl_CRows rfl rfl (Nat.le_of_ble_eq_true rfl) d_CStack_giveRow_2 ⟨Nat.le_of_ble_eq_true rfl, Nat.le_of_ble_eq_true rfl⟩ rfl rfl ⟨Nat.zero_le _, Nat.zero_le _⟩ (fun H locs hI => ?_)
  refine lv_istore_n (lv' := [(3, .int r1), (0, .ref (a 31)), (1, .ref (a 5)), (2, .int x2)]) B.1 B.2.1 d_CStack_giveRow_5 rfl hl (by decide) rfl (fun ls hl => ?_)
  refine lv_iconst (v := 0) B.1 B.2.1 d_CStack_giveRow_6 (by decide) ?_
  refine lv_istore (lv' := [(4, .int 0), (3, .int r1), (0, .ref (a 31)), (1, .ref (a 5)), (2, .int x2)]) B.1 B.2.1 d_CStack_giveRow_7 hl (by decide) rfl (fun ls hl => ?_)
  exact hb9 N x2 r1 0 u2 _ _ _ hf hI (lv_sub hl [2, 3, 4, 1, 0] rfl)
set_option maxHeartbeats 4000000 in
set_option maxRecDepth 100000 in
theorem zc_CCStack_closeBlock_31 (l : Launch) (D : va_G) (z : zZ) (a : Nat → Nat) (N : Nat)  (u : zU) (r : Unit) (u1 : zU) (hf : zf_CCStack_closeBlock_31 N  u = some (r, u1)) : zMet l D z y_CStack_closeBlock (.code y_CStack_closeBlock b_CStack_closeBlock 2 none) { frames := 3, cells := 0, slots := 0, locals := 67 } [.ref (a 31)] (wC a z u) (zQv D (wC a z u1)) := by
  refine zM_v (own := R_CStack) [.ref (a 31)] (wC a z u) (wC a z u1) (by decide) rfl (Nat.le_of_ble_eq_true rfl) ?_
  intro p e s m args below meth c A ls B hr hlk hI hl
  have hl : lv_has ls 2 [(0, .ref (a 31))] := hl
  revert hf
  revert hI hl
  have hb64 : ∀  (u : zU) (H : Heap) (locs : List Loc) (ls : Array Slot), zf_CCStack_closeBlock_31_b64 N   u = some (r, u1) → iw D A s (wC a z u) H locs → lv_has ls 2 [] → W p l e ({ frames := 3, cells := 0, slots := 0, locals := 67 } : Room) s m args below meth c H locs 0 0 (MQ below (zQv D (wC a z u1) A) args s 0 0 A) (F0 m 64 ls []) := by
    intro  u H locs ls hf hI hl
    unfold zf_CCStack_closeBlock_31_b64 at hf
    obtain ⟨e1, e2⟩ := zrt hf
    exact zr_v (wC a z) B hI hr hlk e2 d_CStack_closeBlock_64
  have hb94 : ∀  (u : zU) (H : Heap) (locs : List Loc) (ls : Array Slot), zf_CCStack_closeBlock_31_b94 N   u = some (r, u1) → iw D A s (wC a z u) H locs → lv_has ls 2 [] → W p l e ({ frames := 3, cells := 0, slots := 0, locals := 67 } : Room) s m args below meth c H locs 0 0 (MQ below (zQv D (wC a z u1) A) args s 0 0 A) (F0 m 94 ls []) := by
    intro  u H locs ls hf hI hl
    unfold zf_CCStack_closeBlock_31_b94 at hf
    obtain ⟨e1, e2⟩ := zrt hf
    exact zr_v (wC a z) B hI hr hlk e2 d_CStack_closeBlock_94
  have hb50 : ∀ (x1 : Int32) (u : zU) (H : Heap) (locs : List Loc) (ls : Array Slot), zf_CCStack_closeBlock_31_b50 N  x1 u = some (r, u1) → iw D A s (wC a z u) H locs → lv_has ls 2 [(0, .ref (a 31)), (1, .int x1)] → W p l e ({ frames := 3, cells := 0, slots := 0, locals := 67 } : Room) s m args below meth c H locs 0 0 (MQ below (zQv D (wC a z u1) A) args s 0 0 A) (F0 m 50 ls []) := by
    intro x1 u H locs ls hf hI hl
    unfold zf_CCStack_closeBlock_31_b50 at hf
    refine lv_aload_n B.1 B.2.1 d_CStack_closeBlock_50 rfl (lv_at hl 0 rfl) ?_
    refine rx_get (v := .int (gi u 16)) B hI hcl_CStack hin_CStack 31 (wC_at_31 a z u) 9 (by decide) hf_CStack_9 zw_76 rfl d_CStack_closeBlock_51 ?_
    refine lv_if_ne (tgt := 64) B.1 B.2.1 d_CStack_closeBlock_54 (by decide) (fun hc1 => ?_) (fun hc1 => ?_)
    · rw [if_neg hc1] at hf
      exact hb64  u _ _ _ hf hI (lv_sub hl [] rfl)
    · rw [if_pos hc1] at hf
      refine lv_aload_n B.1 B.2.1 d_CStack_closeBlock_57 rfl (lv_at hl 0 rfl) ?_
      obtain ⟨r2, u3, h4, hf⟩ := zbd_some hf
      refine rx_Vi (n := 0) (As := []) (rest := []) B hI hl.1 (zc_CCStack_hasInnermost_31 l D z a N  u r2 u3 h4) zw_270 zw_272 zw_273 zw_82 zw_271 (by decide +kernel) 31 (wC_at_31 a z u) hcl_CStack rfl rfl (Nat.le_of_ble_eq_true rfl) d_CStack_closeBlock_58 ⟨Nat.le_of_ble_eq_true rfl, Nat.le_of_ble_eq_true rfl⟩ rfl rfl ⟨Nat.zero_le _, Nat.zero_le _⟩ (fun H locs hI => ?_)
      refine lv_if_ne (tgt := 65) B.1 B.2.1 d_CStack_closeBlock_61 (by decide) (fun hc5 => ?_) (fun hc5 => ?_)
      · rw [if_neg hc5] at hf
        refine lv_aload_n B.1 B.2.1 d_CStack_closeBlock_65 rfl (lv_at hl 0 rfl) ?_
        refine lv_dup B.1 B.2.1 d_CStack_closeBlock_66 rfl ?_
        refine rx_get (v := .int (gi u3 15)) B hI hcl_CStack hin_CStack 31 (wC_at_31 a z u3) 8 (by decide) hf_CStack_8 zw_75 rfl d_CStack_closeBlock_67 ?_
        refine lv_iconst (v := 1) B.1 B.2.1 d_CStack_closeBlock_70 (by decide) ?_
        refine lv_isub B.1 B.2.1 d_CStack_closeBlock_71 ?_
        refine rx_put B hI hcl_CStack hin_CStack hty_CStack hnm_CStack 31 (wC_at_31 a z u3) 8 (by decide) hf_CStack_8 zw_75 rfl (ty := .int) (by decide +kernel) rfl rfl (Nat.le_of_ble_eq_true rfl) (wC_si_15 a z u3 ((gi u3 15) - 1)) d_CStack_closeBlock_72 (fun H locs hI => ?_)
        refine lv_aload_n B.1 B.2.1 d_CStack_closeBlock_75 rfl (lv_at hl 0 rfl) ?_
        refine rx_get (v := .int ((gi u3 15) - 1)) B hI hcl_CStack hin_CStack 31 (wC_at_31 a z (si u3 15 ((gi u3 15) - 1))) 8 (by decide) hf_CStack_8 zw_75 rfl d_CStack_closeBlock_76 ?_
        refine lv_if_le (tgt := 94) B.1 B.2.1 d_CStack_closeBlock_79 (by decide) (fun hc6 => ?_) (fun hc6 => ?_)
        · rw [if_pos hc6] at hf
          exact hb94  (si u3 15 ((gi u3 15) - 1)) _ _ _ hf hI (lv_sub hl [] rfl)
        · rw [if_neg hc6] at hf
          refine lv_aload_n B.1 B.2.1 d_CStack_closeBlock_82 rfl (lv_at hl 0 rfl) ?_
          refine lv_aload_n B.1 B.2.1 d_CStack_closeBlock_83 rfl (lv_at hl 0 rfl) ?_
          refine rx_get (v := .ref (a 1)) B hI hcl_CStack hin_CStack 31 (wC_at_31 a z (si u3 15 ((gi u3 15) - 1))) 0 (by decide) hf_CStack_0 zw_244 rfl d_CStack_closeBlock_84 ?_
          refine rx_getN (v := .ref (a 5)) B hI hcl_CThings hin_CThings 1 (wC_at_1 a z (si u3 15 ((gi u3 15) - 1))) 1 (by decide) hf_CThings_1 zw_245 rfl d_CStack_closeBlock_87 ?_
          refine lv_iload_n B.1 B.2.1 d_CStack_closeBlock_90 rfl (lv_at hl 1 rfl) ?_
          obtain ⟨r7, u8, h9, hf⟩ := zbd_some hf
          refine rx_Vv (n := 2) (As := [.ref (a 5), .int x1]) (rest := []) B hI hl.1 (zc_CCStack_giveRow_31_5 l D z a N x1 (si u3 15 ((gi u3 15) - 1)) r7 u8 h9) zw_275 zw_277 zw_278 zw_82 zw_276 (by decide +kernel) 31 (wC_at_31 a z (si u3 15 ((gi u3 15) - 1))) hcl_CStack rfl rfl (Nat.le_of_ble_eq_true rfl) d_CStack_closeBlock_91 ⟨Nat.le_of_ble_eq_true rfl, Nat.le_of_ble_eq_true rfl⟩ rfl rfl ⟨Nat.zero_le _, Nat.zero_le _⟩ (fun H locs hI => ?_)
          exact hb94  u8 _ _ _ hf hI (lv_sub hl [] rfl)
      · rw [if_pos hc5] at hf
        exact hb64  u3 _ _ _ hf hI (lv_sub hl [] rfl)
  intro hI hl hf
  unfold zf_CCStack_closeBlock_31 at hf
  refine lv_aload_n B.1 B.2.1 d_CStack_closeBlock_0 rfl (lv_at hl 0 rfl) ?_
  refine lv_aload_n B.1 B.2.1 d_CStack_closeBlock_1 rfl (lv_at hl 0 rfl) ?_
  refine rx_get (v := .ref (a 33)) B hI hcl_CStack hin_CStack 31 (wC_at_31 a z u) 2 (by decide) hf_CStack_2 zw_77 rfl d_CStack_closeBlock_2 ?_
  refine lv_iconst (v := 0) B.1 B.2.1 d_CStack_closeBlock_5 (by decide) ?_
  obtain ⟨r1, u2, h3, hf⟩ := zbd_some hf
  refine rx_Vi (n := 2) (As := [.ref (a 33), .int 0]) (rest := []) B hI hl.1 (zc_CCStack_ofBlock_31_33 l D z a N 0 u r1 u2 h3) zw_240 zw_242 zw_243 zw_82 zw_241 (by decide +kernel) 31 (wC_at_31 a z u) hcl_CStack rfl rfl (Nat.le_of_ble_eq_true rfl) d_CStack_closeBlock_6 ⟨Nat.le_of_ble_eq_true rfl, Nat.le_of_ble_eq_true rfl⟩ rfl rfl ⟨Nat.zero_le _, Nat.zero_le _⟩ (fun H locs hI => ?_)
  refine lv_istore_n (lv' := [(1, .int r1), (0, .ref (a 31))]) B.1 B.2.1 d_CStack_closeBlock_9 rfl hl (by decide) rfl (fun ls hl => ?_)
  refine lv_aload_n B.1 B.2.1 d_CStack_closeBlock_10 rfl (lv_at hl 1 rfl) ?_
  refine lv_aload_n B.1 B.2.1 d_CStack_closeBlock_11 rfl (lv_at hl 1 rfl) ?_
  refine rx_get (v := .ref (a 1)) B hI hcl_CStack hin_CStack 31 (wC_at_31 a z u2) 0 (by decide) hf_CStack_0 zw_244 rfl d_CStack_closeBlock_12 ?_
  refine rx_getN (v := .ref (a 5)) B hI hcl_CThings hin_CThings 1 (wC_at_1 a z u2) 1 (by decide) hf_CThings_1 zw_245 rfl d_CStack_closeBlock_15 ?_
  refine lv_iload_n B.1 B.2.1 d_CStack_closeBlock_18 rfl (lv_at hl 0 rfl) ?_
  obtain ⟨r4, u5, h6, hf⟩ := zbd_some hf
  refine rx_Vv (n := 2) (As := [.ref (a 5), .int r1]) (rest := []) B hI hl.1 (zc_CCStack_takeRow_31_5 l D z a N r1 u2 r4 u5 h6) zw_248 zw_250 zw_251 zw_82 zw_249 (by decide +kernel) 31 (wC_at_31 a z u2) hcl_CStack rfl rfl (Nat.le_of_ble_eq_true rfl) d_CStack_closeBlock_19 ⟨Nat.le_of_ble_eq_true rfl, Nat.le_of_ble_eq_true rfl⟩ rfl rfl ⟨Nat.zero_le _, Nat.zero_le _⟩ (fun H locs hI => ?_)
  refine lv_aload_n B.1 B.2.1 d_CStack_closeBlock_22 rfl (lv_at hl 1 rfl) ?_
  obtain ⟨r7, u8, h9, hf⟩ := zbd_some hf
  refine rx_Vv (n := 0) (As := []) (rest := []) B hI hl.1 (zc_CCStack_expectNoMoreOperands_31 l D z a N  u5 r7 u8 h9) zw_256 zw_258 zw_259 zw_82 zw_257 (by decide +kernel) 31 (wC_at_31 a z u5) hcl_CStack rfl rfl (Nat.le_of_ble_eq_true rfl) d_CStack_closeBlock_23 ⟨Nat.le_of_ble_eq_true rfl, Nat.le_of_ble_eq_true rfl⟩ rfl rfl ⟨Nat.zero_le _, Nat.zero_le _⟩ (fun H locs hI => ?_)
  refine lv_aload_n B.1 B.2.1 d_CStack_closeBlock_26 rfl (lv_at hl 1 rfl) ?_
  obtain ⟨r10, u11, h12, hf⟩ := zbd_some hf
  refine rx_Vi (n := 0) (As := []) (rest := []) B hI hl.1 (zc_CCStack_opener_31 l D z a N  u8 r10 u11 h12) zw_260 zw_262 zw_263 zw_82 zw_261 (by decide +kernel) 31 (wC_at_31 a z u8) hcl_CStack rfl rfl (Nat.le_of_ble_eq_true rfl) d_CStack_closeBlock_27 ⟨Nat.le_of_ble_eq_true rfl, Nat.le_of_ble_eq_true rfl⟩ rfl rfl ⟨Nat.zero_le _, Nat.zero_le _⟩ (fun H locs hI => ?_)
  refine lv_iconst (v := 4) B.1 B.2.1 d_CStack_closeBlock_30 (by decide) ?_
  refine lv_icmp_ne (tgt := 50) B.1 B.2.1 d_CStack_closeBlock_31 (by decide) (fun hc13 => ?_) (fun hc13 => ?_)
  · rw [if_neg hc13] at hf
    exact hb50 r1 u11 _ _ _ hf hI (lv_sub hl [1, 0] rfl)
  · rw [if_pos hc13] at hf
    refine lv_aload_n B.1 B.2.1 d_CStack_closeBlock_34 rfl (lv_at hl 1 rfl) ?_
    refine rx_get (v := .ref (a 1)) B hI hcl_CStack hin_CStack 31 (wC_at_31 a z u11) 0 (by decide) hf_CStack_0 zw_244 rfl d_CStack_closeBlock_35 ?_
    refine lv_iload_n B.1 B.2.1 d_CStack_closeBlock_38 rfl (lv_at hl 0 rfl) ?_
    obtain ⟨r14, u15, h16, hf⟩ := zbd_some hf
    refine rx_Vi (n := 1) (As := [.int r1]) (rest := []) B hI hl.1 (zc_CCThings_hasLikeParametersAndResults_1 l D z a N r1 u11 r14 u15 h16) zw_266 zw_268 zw_269 zw_3 zw_267 (by decide +kernel) 1 (wC_at_1 a z u11) hcl_CThings rfl rfl (Nat.le_of_ble_eq_true rfl) d_CStack_closeBlock_39 ⟨Nat.le_of_ble_eq_true rfl, Nat.le_of_ble_eq_true rfl⟩ rfl rfl ⟨Nat.zero_le _, Nat.zero_le _⟩ (fun H locs hI => ?_)
    refine lv_if_ne (tgt := 50) B.1 B.2.1 d_CStack_closeBlock_42 (by decide) (fun hc17 => ?_) (fun hc17 => ?_)
    · rw [if_neg hc17] at hf
      exact hb50 r1 u15 _ _ _ hf hI (lv_sub hl [1, 0] rfl)
    · rw [if_pos hc17] at hf
      refine lv_aload_n B.1 B.2.1 d_CStack_closeBlock_45 rfl (lv_at hl 1 rfl) ?_
      refine lv_iconst (v := 4) B.1 B.2.1 d_CStack_closeBlock_46 (by decide) ?_
      obtain ⟨r18, u19, h20, hf⟩ := zbd_some hf
      refine rx_Vv (n := 1) (As := [.int 4]) (rest := []) B hI hl.1 (zc_CCStack_fail_31 l D z a N 4 u15 r18 u19 h20) zw_219 zw_221 zw_222 zw_82 zw_220 (by decide +kernel) 31 (wC_at_31 a z u15) hcl_CStack rfl rfl (Nat.le_of_ble_eq_true rfl) d_CStack_closeBlock_47 ⟨Nat.le_of_ble_eq_true rfl, Nat.le_of_ble_eq_true rfl⟩ rfl rfl ⟨Nat.zero_le _, Nat.zero_le _⟩ (fun H locs hI => ?_)
      exact hb50 r1 u19 _ _ _ hf hI (lv_sub hl [1, 0] rfl)
