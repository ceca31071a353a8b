set_option maxHeartbeats 4000000 in
set_option maxRecDepth 100000 in
theorem zc_CCStack_choose_31 (l : Launch) (D : va_G) (z : zZ) (a : Nat → Nat) (N : Nat)  (u : zU) (r : Unit) (u1 : zU) (hf : zf_CCStack_choose_31 N  u = some (r, u1)) : zMet l D z y_CStack_choose (.code y_CStack_choose b_CStack_choose 3 none) { frames := 2, cells := 0, slots := 0, locals := 44 } [.ref (a 31)] (wC a z u) (zQv D (wC a z u1)) := by
  refine zM_v (own := R_CStack) [.ref (a 31)] (wC a z u) (wC a z u1) (by decide) rfl (Nat.le_of_ble_eq_true rfl) ?_
  intro p e s m args below meth c A ls B hr hlk hI hl
  have hl : lv_has ls 3 [(0, .ref (a 31))] := hl
  revert hf
  revert hI hl
  have hb65 : ∀ (s0 : Int32) (u : zU) (H : Heap) (locs : List Loc) (ls : Array Slot), zf_CCStack_choose_31_b65 N  s0 u = some (r, u1) → iw D A s (wC a z u) H locs → lv_has ls 3 [] → W p l e ({ frames := 2, cells := 0, slots := 0, locals := 44 } : Room) s m args below meth c H locs 0 0 (MQ below (zQv D (wC a z u1) A) args s 0 0 A) (F0 m 65 ls [.int s0, .ref (a 31)]) := by
    intro s0 u H locs ls hf hI hl
    unfold zf_CCStack_choose_31_b65 at hf
    obtain ⟨r1, u2, h3, hf⟩ := zbd_some hf
    refine rx_Vv (n := 1) (As := [.int s0]) (rest := []) B hI hl.1 (zc_CCStack_give_31 l D z a N s0 u r1 u2 h3) zw_274 zw_233 zw_234 zw_82 zw_232 (by decide +kernel) 31 (wC_at_31 a z u) hcl_CStack rfl rfl (Nat.le_of_ble_eq_true rfl) d_CStack_choose_65 ⟨Nat.le_of_ble_eq_true rfl, Nat.le_of_ble_eq_true rfl⟩ rfl rfl ⟨Nat.zero_le _, Nat.zero_le _⟩ (fun H locs hI => ?_)
    obtain ⟨e4, e5⟩ := zrt hf
    exact zr_v (wC a z) B hI hr hlk e5 d_CStack_choose_68
  have hb55 : ∀ (x1 : Int32) (x2 : Int32) (u : zU) (H : Heap) (locs : List Loc) (ls : Array Slot), zf_CCStack_choose_31_b55 N  x1 x2 u = some (r, u1) → iw D A s (wC a z u) H locs → lv_has ls 3 [(0, .ref (a 31)), (1, .int x1), (2, .int x2)] → W p l e ({ frames := 2, cells := 0, slots := 0, locals := 44 } : Room) s m args below meth c H locs 0 0 (MQ below (zQv D (wC a z u1) A) args s 0 0 A) (F0 m 55 ls []) := by
    intro x1 x2 u H locs ls hf hI hl
    unfold zf_CCStack_choose_31_b55 at hf
    refine lv_aload_n B.1 B.2.1 d_CStack_choose_55 rfl (lv_at hl 0 rfl) ?_
    refine lv_iload_n B.1 B.2.1 d_CStack_choose_56 rfl (lv_at hl 1 rfl) ?_
    refine lv_if_ne (tgt := 64) B.1 B.2.1 d_CStack_choose_57 (by decide) (fun hc1 => ?_) (fun hc1 => ?_)
    · rw [if_neg hc1] at hf
      refine lv_iload_n B.1 B.2.1 d_CStack_choose_64 rfl (lv_at hl 1 rfl) ?_
      exact hb65 x1 u _ _ _ hf hI (lv_sub hl [] rfl)
    · rw [if_pos hc1] at hf
      refine lv_iload_n B.1 B.2.1 d_CStack_choose_60 rfl (lv_at hl 2 rfl) ?_
      refine lv_goto (tgt := 65) B.1 B.2.1 d_CStack_choose_61 (by decide) ?_
      exact hb65 x2 u _ _ _ hf hI (lv_sub hl [] rfl)
  have hb37 : ∀ (x1 : Int32) (x2 : Int32) (u : zU) (H : Heap) (locs : List Loc) (ls : Array Slot), zf_CCStack_choose_31_b37 N  x1 x2 u = some (r, u1) → iw D A s (wC a z u) H locs → lv_has ls 3 [(0, .ref (a 31)), (1, .int x1), (2, .int x2)] → W p l e ({ frames := 2, cells := 0, slots := 0, locals := 44 } : Room) s m args below meth c H locs 0 0 (MQ below (zQv D (wC a z u1) A) args s 0 0 A) (F0 m 37 ls []) := by
    intro x1 x2 u H locs ls hf hI hl
    unfold zf_CCStack_choose_31_b37 at hf
    refine lv_iload_n B.1 B.2.1 d_CStack_choose_37 rfl (lv_at hl 1 rfl) ?_
    refine lv_iload_n B.1 B.2.1 d_CStack_choose_38 rfl (lv_at hl 2 rfl) ?_
    refine lv_icmp_eq (tgt := 55) B.1 B.2.1 d_CStack_choose_39 (by decide) (fun hc1 => ?_) (fun hc1 => ?_)
    · rw [if_pos hc1] at hf
      exact hb55 x1 x2 u _ _ _ hf hI (lv_sub hl [0, 1, 2] rfl)
    · rw [if_neg hc1] at hf
      refine lv_iload_n B.1 B.2.1 d_CStack_choose_42 rfl (lv_at hl 1 rfl) ?_
      refine lv_if_eq (tgt := 55) B.1 B.2.1 d_CStack_choose_43 (by decide) (fun hc2 => ?_) (fun hc2 => ?_)
      · rw [if_pos hc2] at hf
        exact hb55 x1 x2 u _ _ _ hf hI (lv_sub hl [0, 1, 2] rfl)
      · rw [if_neg hc2] at hf
        refine lv_iload_n B.1 B.2.1 d_CStack_choose_46 rfl (lv_at hl 2 rfl) ?_
        refine lv_if_eq (tgt := 55) B.1 B.2.1 d_CStack_choose_47 (by decide) (fun hc3 => ?_) (fun hc3 => ?_)
        · rw [if_pos hc3] at hf
          exact hb55 x1 x2 u _ _ _ hf hI (lv_sub hl [0, 1, 2] rfl)
        · rw [if_neg hc3] at hf
          refine lv_aload_n B.1 B.2.1 d_CStack_choose_50 rfl (lv_at hl 0 rfl) ?_
          refine lv_iconst (v := 1) B.1 B.2.1 d_CStack_choose_51 (by decide) ?_
          obtain ⟨r4, u5, h6, hf⟩ := zbd_some hf
          refine rx_Vv (n := 1) (As := [.int 1]) (rest := []) B hI hl.1 (zc_CCStack_fail_31 l D z a N 1 u r4 u5 h6) zw_219 zw_221 zw_222 zw_82 zw_220 (by decide +kernel) 31 (wC_at_31 a z u) hcl_CStack rfl rfl (Nat.le_of_ble_eq_true rfl) d_CStack_choose_52 ⟨Nat.le_of_ble_eq_true rfl, Nat.le_of_ble_eq_true rfl⟩ rfl rfl ⟨Nat.zero_le _, Nat.zero_le _⟩ (fun H locs hI => ?_)
          exact hb55 x1 x2 u5 _ _ _ hf hI (lv_sub hl [0, 1, 2] rfl)
  have hb31 : ∀ (x1 : Int32) (x2 : Int32) (u : zU) (H : Heap) (locs : List Loc) (ls : Array Slot), zf_CCStack_choose_31_b31 N  x1 x2 u = some (r, u1) → iw D A s (wC a z u) H locs → lv_has ls 3 [(0, .ref (a 31)), (1, .int x1), (2, .int x2)] → W p l e ({ frames := 2, cells := 0, slots := 0, locals := 44 } : Room) s m args below meth c H locs 0 0 (MQ below (zQv D (wC a z u1) A) args s 0 0 A) (F0 m 31 ls []) := by
    intro x1 x2 u H locs ls hf hI hl
    unfold zf_CCStack_choose_31_b31 at hf
    refine lv_aload_n B.1 B.2.1 d_CStack_choose_31 rfl (lv_at hl 0 rfl) ?_
    refine lv_bipush (v := 7) B.1 B.2.1 d_CStack_choose_32 (by decide) ?_
    obtain ⟨r1, u2, h3, hf⟩ := zbd_some hf
    refine rx_Vv (n := 1) (As := [.int 7]) (rest := []) B hI hl.1 (zc_CCStack_fail_31 l D z a N 7 u r1 u2 h3) zw_219 zw_221 zw_222 zw_82 zw_220 (by decide +kernel) 31 (wC_at_31 a z u) hcl_CStack rfl rfl (Nat.le_of_ble_eq_true rfl) d_CStack_choose_34 ⟨Nat.le_of_ble_eq_true rfl, Nat.le_of_ble_eq_true rfl⟩ rfl rfl ⟨Nat.zero_le _, Nat.zero_le _⟩ (fun H locs hI => ?_)
    exact hb37 x1 x2 u2 _ _ _ hf hI (lv_sub hl [0, 1, 2] rfl)
  intro hI hl hf
  unfold zf_CCStack_choose_31 at hf
  refine lv_aload_n B.1 B.2.1 d_CStack_choose_0 rfl (lv_at hl 0 rfl) ?_
  refine lv_bipush (v := 127) B.1 B.2.1 d_CStack_choose_1 (by decide) ?_
  obtain ⟨r1, u2, h3, hf⟩ := zbd_some hf
  refine rx_Vi (n := 1) (As := [.int 127]) (rest := []) B hI hl.1 (zc_CCStack_take_31 l D z a N 127 u r1 u2 h3) zw_223 zw_225 zw_226 zw_82 zw_224 (by decide +kernel) 31 (wC_at_31 a z u) hcl_CStack rfl rfl (Nat.le_of_ble_eq_true rfl) d_CStack_choose_3 ⟨Nat.le_of_ble_eq_true rfl, Nat.le_of_ble_eq_true rfl⟩ rfl rfl ⟨Nat.zero_le _, Nat.zero_le _⟩ (fun H locs hI => ?_)
  refine lv_pop B.1 B.2.1 d_CStack_choose_6 rfl ?_
  refine lv_aload_n B.1 B.2.1 d_CStack_choose_7 rfl (lv_at hl 0 rfl) ?_
  obtain ⟨r4, u5, h6, hf⟩ := zbd_some hf
  refine rx_Vi (n := 0) (As := []) (rest := []) B hI hl.1 (zc_CCStack_takeAny_31 l D z a N  u2 r4 u5 h6) zw_215 zw_217 zw_218 zw_82 zw_216 (by decide +kernel) 31 (wC_at_31 a z u2) hcl_CStack rfl rfl (Nat.le_of_ble_eq_true rfl) d_CStack_choose_8 ⟨Nat.le_of_ble_eq_true rfl, Nat.le_of_ble_eq_true rfl⟩ rfl rfl ⟨Nat.zero_le _, Nat.zero_le _⟩ (fun H locs hI => ?_)
  refine lv_istore_n (lv' := [(1, .int r4), (0, .ref (a 31))]) B.1 B.2.1 d_CStack_choose_11 rfl hl (by decide) rfl (fun ls hl => ?_)
  refine lv_aload_n B.1 B.2.1 d_CStack_choose_12 rfl (lv_at hl 1 rfl) ?_
  obtain ⟨r7, u8, h9, hf⟩ := zbd_some hf
  refine rx_Vi (n := 0) (As := []) (rest := []) B hI hl.1 (zc_CCStack_takeAny_31 l D z a N  u5 r7 u8 h9) zw_215 zw_217 zw_218 zw_82 zw_216 (by decide +kernel) 31 (wC_at_31 a z u5) hcl_CStack rfl rfl (Nat.le_of_ble_eq_true rfl) d_CStack_choose_13 ⟨Nat.le_of_ble_eq_true rfl, Nat.le_of_ble_eq_true rfl⟩ rfl rfl ⟨Nat.zero_le _, Nat.zero_le _⟩ (fun H locs hI => ?_)
  refine lv_istore_n (lv' := [(2, .int r7), (1, .int r4), (0, .ref (a 31))]) B.1 B.2.1 d_CStack_choose_16 rfl hl (by decide) rfl (fun ls hl => ?_)
  refine lv_iload_n B.1 B.2.1 d_CStack_choose_17 rfl (lv_at hl 1 rfl) ?_
  obtain ⟨r10, u11, h12, hf⟩ := zbd_some hf
  refine rx_Mi (n := 1) (As := [.int r4]) (rest := []) B hI hl.1 (zc_CCC_isReferenceType l D z a N r4 u8 r10 u11 h12) zw_345 zw_17 zw_15 zw_16 (by decide +kernel) rfl rfl (Nat.le_of_ble_eq_true rfl) d_CStack_choose_18 ⟨Nat.le_of_ble_eq_true rfl, Nat.le_of_ble_eq_true rfl⟩ rfl rfl ⟨Nat.zero_le _, Nat.zero_le _⟩ (fun H locs hI => ?_)
  refine lv_if_ne (tgt := 31) B.1 B.2.1 d_CStack_choose_21 (by decide) (fun hc13 => ?_) (fun hc13 => ?_)
  · rw [if_neg hc13] at hf
    exact hb31 r4 r7 u11 _ _ _ hf hI (lv_sub hl [2, 1, 0] rfl)
  · rw [if_pos hc13] at hf
    refine lv_iload_n B.1 B.2.1 d_CStack_choose_24 rfl (lv_at hl 0 rfl) ?_
    obtain ⟨r14, u15, h16, hf⟩ := zbd_some hf
    refine rx_Mi (n := 1) (As := [.int r7]) (rest := []) B hI hl.1 (zc_CCC_isReferenceType l D z a N r7 u11 r14 u15 h16) zw_345 zw_17 zw_15 zw_16 (by decide +kernel) rfl rfl (Nat.le_of_ble_eq_true rfl) d_CStack_choose_25 ⟨Nat.le_of_ble_eq_true rfl, Nat.le_of_ble_eq_true rfl⟩ rfl rfl ⟨Nat.zero_le _, Nat.zero_le _⟩ (fun H locs hI => ?_)
    refine lv_if_eq (tgt := 37) B.1 B.2.1 d_CStack_choose_28 (by decide) (fun hc17 => ?_) (fun hc17 => ?_)
    · rw [if_pos hc17] at hf
      exact hb37 r4 r7 u15 _ _ _ hf hI (lv_sub hl [2, 1, 0] rfl)
    · rw [if_neg hc17] at hf
      exact hb31 r4 r7 u15 _ _ _ hf hI (lv_sub hl [2, 1, 0] rfl)
set_option maxHeartbeats 4000000 in
set_option maxRecDepth 100000 in
theorem zc_CCCode_carryOutVariable_26 (l : Launch) (D : va_G) (z : zZ) (a : Nat → Nat) (N : Nat) (x1 : Int32) (x2 : Int32) (u : zU) (r : Unit) (u1 : zU) (hf : zf_CCCode_carryOutVariable_26 N x1 x2 u = some (r, u1)) : zMet l D z y_CCode_carryOutVariable (.code y_CCode_carryOutVariable b_CCode_carryOutVariable 3 none) { frames := 3, cells := 0, slots := 0, locals := 67 } [.ref (a 26), .int x1, .int x2] (wC a z u) (zQv D (wC a z u1)) := by
  refine zM_v (own := R_CCode) [.ref (a 26), .int x1, .int x2] (wC a z u) (wC a z u1) (by decide) rfl (Nat.le_of_ble_eq_true rfl) ?_
  intro p e s m args below meth c A ls B hr hlk hI hl
  have hl : lv_has ls 3 [(0, .ref (a 26)), (1, .int x1), (2, .int x2)] := hl
  revert hf
  revert hI hl
  have hb225 : ∀  (u : zU) (H : Heap) (locs : List Loc) (ls : Array Slot), zf_CCCode_carryOutVariable_26_b225 N   u = some (r, u1) → iw D A s (wC a z u) H locs → lv_has ls 3 [] → W p l e ({ frames := 3, cells := 0, slots := 0, locals := 67 } : Room) s m args below meth c H locs 0 0 (MQ below (zQv D (wC a z u1) A) args s 0 0 A) (F0 m 225 ls []) := by
    intro  u H locs ls hf hI hl
    unfold zf_CCCode_carryOutVariable_26_b225 at hf
    obtain ⟨e1, e2⟩ := zrt hf
    exact zr_v (wC a z) B hI hr hlk e2 d_CCode_carryOutVariable_225
  intro hI hl hf
  unfold zf_CCCode_carryOutVariable_26 at hf
  refine lv_iload_n B.1 B.2.1 d_CCode_carryOutVariable_0 rfl (lv_at hl 1 rfl) ?_
  by_cases hc1 : x1 = 26
  · rw [if_pos hc1] at hf
    refine lv_tableIn (off := 59) (tgt := 60) B.1 B.2.1 d_CCode_carryOutVariable_1 (by rw [hc1]; decide +kernel) (by rw [hc1]; decide +kernel) (by rw [hc1]; decide +kernel) (by decide) ?_
    refine lv_aload_n B.1 B.2.1 d_CCode_carryOutVariable_60 rfl (lv_at hl 0 rfl) ?_
    refine rx_get (v := .ref (a 31)) B hI hcl_CCode hin_CCode 26 (wC_at_26 a z u) 1 (by decide) hf_CCode_1 zw_73 rfl d_CCode_carryOutVariable_61 ?_
    obtain ⟨r2, u3, h4, hf⟩ := zbd_some hf
    refine rx_Vi (n := 0) (As := []) (rest := []) B hI hl.1 (zc_CCStack_takeAny_31 l D z a N  u r2 u3 h4) zw_350 zw_217 zw_218 zw_82 zw_216 (by decide +kernel) 31 (wC_at_31 a z u) hcl_CStack rfl rfl (Nat.le_of_ble_eq_true rfl) d_CCode_carryOutVariable_64 ⟨Nat.le_of_ble_eq_true rfl, Nat.le_of_ble_eq_true rfl⟩ rfl rfl ⟨Nat.zero_le _, Nat.zero_le _⟩ (fun H locs hI => ?_)
    refine lv_pop B.1 B.2.1 d_CCode_carryOutVariable_67 rfl ?_
    refine lv_goto (tgt := 225) B.1 B.2.1 d_CCode_carryOutVariable_68 (by decide) ?_
    exact hb225  u3 _ _ _ hf hI (lv_sub hl [] rfl)
  rw [if_neg hc1] at hf
  by_cases hc5 : x1 = 27
  · rw [if_pos hc5] at hf
    refine lv_tableIn (off := 70) (tgt := 71) B.1 B.2.1 d_CCode_carryOutVariable_1 (by rw [hc5]; decide +kernel) (by rw [hc5]; decide +kernel) (by rw [hc5]; decide +kernel) (by decide) ?_
    refine lv_aload_n B.1 B.2.1 d_CCode_carryOutVariable_71 rfl (lv_at hl 0 rfl) ?_
    refine rx_get (v := .ref (a 31)) B hI hcl_CCode hin_CCode 26 (wC_at_26 a z u) 1 (by decide) hf_CCode_1 zw_73 rfl d_CCode_carryOutVariable_72 ?_
    obtain ⟨r6, u7, h8, hf⟩ := zbd_some hf
    refine rx_Vv (n := 0) (As := []) (rest := []) B hI hl.1 (zc_CCStack_choose_31 l D z a N  u r6 u7 h8) zw_346 zw_348 zw_349 zw_82 zw_347 (by decide +kernel) 31 (wC_at_31 a z u) hcl_CStack rfl rfl (Nat.le_of_ble_eq_true rfl) d_CCode_carryOutVariable_75 ⟨Nat.le_of_ble_eq_true rfl, Nat.le_of_ble_eq_true rfl⟩ rfl rfl ⟨Nat.zero_le _, Nat.zero_le _⟩ (fun H locs hI => ?_)
    refine lv_goto (tgt := 225) B.1 B.2.1 d_CCode_carryOutVariable_78 (by decide) ?_
    exact hb225  u7 _ _ _ hf hI (lv_sub hl [] rfl)
  rw [if_neg hc5] at hf
  by_cases hc9 : x1 = 28
  · rw [if_pos hc9] at hf
    refine lv_tableIn (off := 80) (tgt := 81) B.1 B.2.1 d_CCode_carryOutVariable_1 (by rw [hc9]; decide +kernel) (by rw [hc9]; decide +kernel) (by rw [hc9]; decide +kernel) (by decide) ?_
    refine lv_aload_n B.1 B.2.1 d_CCode_carryOutVariable_81 rfl (lv_at hl 0 rfl) ?_
    refine rx_get (v := .ref (a 31)) B hI hcl_CCode hin_CCode 26 (wC_at_26 a z u) 1 (by decide) hf_CCode_1 zw_73 rfl d_CCode_carryOutVariable_82 ?_
    refine lv_bipush (v := 127) B.1 B.2.1 d_CCode_carryOutVariable_85 (by decide) ?_
    obtain ⟨r10, u11, h12, hf⟩ := zbd_some hf
    refine rx_Vi (n := 1) (As := [.int 127]) (rest := []) B hI hl.1 (zc_CCStack_take_31 l D z a N 127 u r10 u11 h12) zw_288 zw_225 zw_226 zw_82 zw_224 (by decide +kernel) 31 (wC_at_31 a z u) hcl_CStack rfl rfl (Nat.le_of_ble_eq_true rfl) d_CCode_carryOutVariable_87 ⟨Nat.le_of_ble_eq_true rfl, Nat.le_of_ble_eq_true rfl⟩ rfl rfl ⟨Nat.zero_le _, Nat.zero_le _⟩ (fun H locs hI => ?_)
    refine lv_pop B.1 B.2.1 d_CCode_carryOutVariable_90 rfl ?_
    refine lv_aload_n B.1 B.2.1 d_CCode_carryOutVariable_91 rfl (lv_at hl 0 rfl) ?_
    refine rx_get (v := .ref (a 31)) B hI hcl_CCode hin_CCode 26 (wC_at_26 a z u11) 1 (by decide) hf_CCode_1 zw_73 rfl d_CCode_carryOutVariable_92 ?_
    refine lv_iload_n B.1 B.2.1 d_CCode_carryOutVariable_95 rfl (lv_at hl 2 rfl) ?_
    refine lv_iconst (v := 2) B.1 B.2.1 d_CCode_carryOutVariable_96 (by decide) ?_
    obtain ⟨r13, u14, h15, hf⟩ := zbd_some hf
    refine rx_Vv (n := 2) (As := [.int x2, .int 2]) (rest := []) B hI hl.1 (zc_CCStack_takeTimes_31 l D z a N x2 2 u11 r13 u14 h15) zw_227 zw_229 zw_230 zw_82 zw_228 (by decide +kernel) 31 (wC_at_31 a z u11) hcl_CStack rfl rfl (Nat.le_of_ble_eq_true rfl) d_CCode_carryOutVariable_97 ⟨Nat.le_of_ble_eq_true rfl, Nat.le_of_ble_eq_true rfl⟩ rfl rfl ⟨Nat.zero_le _, Nat.zero_le _⟩ (fun H locs hI => ?_)
    refine lv_aload_n B.1 B.2.1 d_CCode_carryOutVariable_100 rfl (lv_at hl 0 rfl) ?_
    refine rx_get (v := .ref (a 31)) B hI hcl_CCode hin_CCode 26 (wC_at_26 a z u14) 1 (by decide) hf_CCode_1 zw_73 rfl d_CCode_carryOutVariable_101 ?_
    refine lv_iload_n B.1 B.2.1 d_CCode_carryOutVariable_104 rfl (lv_at hl 2 rfl) ?_
    obtain ⟨r16, u17, h18, hf⟩ := zbd_some hf
    refine rx_Vv (n := 1) (As := [.int x2]) (rest := []) B hI hl.1 (zc_CCStack_give_31 l D z a N x2 u14 r16 u17 h18) zw_231 zw_233 zw_234 zw_82 zw_232 (by decide +kernel) 31 (wC_at_31 a z u14) hcl_CStack rfl rfl (Nat.le_of_ble_eq_true rfl) d_CCode_carryOutVariable_105 ⟨Nat.le_of_ble_eq_true rfl, Nat.le_of_ble_eq_true rfl⟩ rfl rfl ⟨Nat.zero_le _, Nat.zero_le _⟩ (fun H locs hI => ?_)
    refine lv_goto (tgt := 225) B.1 B.2.1 d_CCode_carryOutVariable_108 (by decide) ?_
    exact hb225  u17 _ _ _ hf hI (lv_sub hl [] rfl)
  rw [if_neg hc9] at hf
  by_cases hc19 : x1 = 29
  · rw [if_pos hc19] at hf
    refine lv_tableIn (off := 224) (tgt := 225) B.1 B.2.1 d_CCode_carryOutVariable_1 (by rw [hc19]; decide +kernel) (by rw [hc19]; decide +kernel) (by rw [hc19]; decide +kernel) (by decide) ?_
    exact hb225  u _ _ _ hf hI (lv_sub hl [] rfl)
  rw [if_neg hc19] at hf
  by_cases hc20 : x1 = 30
  · rw [if_pos hc20] at hf
    refine lv_tableIn (off := 224) (tgt := 225) B.1 B.2.1 d_CCode_carryOutVariable_1 (by rw [hc20]; decide +kernel) (by rw [hc20]; decide +kernel) (by rw [hc20]; decide +kernel) (by decide) ?_
    exact hb225  u _ _ _ hf hI (lv_sub hl [] rfl)
  rw [if_neg hc20] at hf
  by_cases hc21 : x1 = 31
  · rw [if_pos hc21] at hf
    refine lv_tableIn (off := 224) (tgt := 225) B.1 B.2.1 d_CCode_carryOutVariable_1 (by rw [hc21]; decide +kernel) (by rw [hc21]; decide +kernel) (by rw [hc21]; decide +kernel) (by decide) ?_
    exact hb225  u _ _ _ hf hI (lv_sub hl [] rfl)
  rw [if_neg hc21] at hf
  by_cases hc22 : x1 = 32
  · rw [if_pos hc22] at hf
    refine lv_tableIn (off := 110) (tgt := 111) B.1 B.2.1 d_CCode_carryOutVariable_1 (by rw [hc22]; decide +kernel) (by rw [hc22]; decide +kernel) (by rw [hc22]; decide +kernel) (by decide) ?_
    refine lv_aload_n B.1 B.2.1 d_CCode_carryOutVariable_111 rfl (lv_at hl 0 rfl) ?_
    refine rx_get (v := .ref (a 31)) B hI hcl_CCode hin_CCode 26 (wC_at_26 a z u) 1 (by decide) hf_CCode_1 zw_73 rfl d_CCode_carryOutVariable_112 ?_
    refine lv_aload_n B.1 B.2.1 d_CCode_carryOutVariable_115 rfl (lv_at hl 0 rfl) ?_
    refine rx_get (v := .ref (a 27)) B hI hcl_CCode hin_CCode 26 (wC_at_26 a z u) 2 (by decide) hf_CCode_2 zw_90 rfl d_CCode_carryOutVariable_116 ?_
    refine lv_iload_n B.1 B.2.1 d_CCode_carryOutVariable_119 rfl (lv_at hl 2 rfl) ?_
    obtain ⟨r23, u24, h25, hf⟩ := zbd_some hf
    refine rx_Vi (n := 1) (As := [.int x2]) (rest := [.ref (a 31)]) B hI hl.1 (zc_CCLocals_typeOf_27 l D z a N x2 u r23 u24 h25) zw_341 zw_343 zw_344 zw_94 zw_342 (by decide +kernel) 27 (wC_at_27 a z u) hcl_CLocals rfl rfl (Nat.le_of_ble_eq_true rfl) d_CCode_carryOutVariable_120 ⟨Nat.le_of_ble_eq_true rfl, Nat.le_of_ble_eq_true rfl⟩ rfl rfl ⟨Nat.zero_le _, Nat.zero_le _⟩ (fun H locs hI => ?_)
    obtain ⟨r26, u27, h28, hf⟩ := zbd_some hf
    refine rx_Vv (n := 1) (As := [.int r23]) (rest := []) B hI hl.1 (zc_CCStack_give_31 l D z a N r23 u24 r26 u27 h28) zw_231 zw_233 zw_234 zw_82 zw_232 (by decide +kernel) 31 (wC_at_31 a z u24) hcl_CStack rfl rfl (Nat.le_of_ble_eq_true rfl) d_CCode_carryOutVariable_123 ⟨Nat.le_of_ble_eq_true rfl, Nat.le_of_ble_eq_true rfl⟩ rfl rfl ⟨Nat.zero_le _, Nat.zero_le _⟩ (fun H locs hI => ?_)
    refine lv_goto (tgt := 225) B.1 B.2.1 d_CCode_carryOutVariable_126 (by decide) ?_
    exact hb225  u27 _ _ _ hf hI (lv_sub hl [] rfl)
  rw [if_neg hc22] at hf
  by_cases hc29 : x1 = 33
  · rw [if_pos hc29] at hf
    refine lv_tableIn (off := 128) (tgt := 129) B.1 B.2.1 d_CCode_carryOutVariable_1 (by rw [hc29]; decide +kernel) (by rw [hc29]; decide +kernel) (by rw [hc29]; decide +kernel) (by decide) ?_
    refine lv_aload_n B.1 B.2.1 d_CCode_carryOutVariable_129 rfl (lv_at hl 0 rfl) ?_
    refine rx_get (v := .ref (a 31)) B hI hcl_CCode hin_CCode 26 (wC_at_26 a z u) 1 (by decide) hf_CCode_1 zw_73 rfl d_CCode_carryOutVariable_130 ?_
    refine lv_aload_n B.1 B.2.1 d_CCode_carryOutVariable_133 rfl (lv_at hl 0 rfl) ?_
    refine rx_get (v := .ref (a 27)) B hI hcl_CCode hin_CCode 26 (wC_at_26 a z u) 2 (by decide) hf_CCode_2 zw_90 rfl d_CCode_carryOutVariable_134 ?_
    refine lv_iload_n B.1 B.2.1 d_CCode_carryOutVariable_137 rfl (lv_at hl 2 rfl) ?_
    obtain ⟨r30, u31, h32, hf⟩ := zbd_some hf
    refine rx_Vi (n := 1) (As := [.int x2]) (rest := [.ref (a 31)]) B hI hl.1 (zc_CCLocals_typeOf_27 l D z a N x2 u r30 u31 h32) zw_341 zw_343 zw_344 zw_94 zw_342 (by decide +kernel) 27 (wC_at_27 a z u) hcl_CLocals rfl rfl (Nat.le_of_ble_eq_true rfl) d_CCode_carryOutVariable_138 ⟨Nat.le_of_ble_eq_true rfl, Nat.le_of_ble_eq_true rfl⟩ rfl rfl ⟨Nat.zero_le _, Nat.zero_le _⟩ (fun H locs hI => ?_)
    obtain ⟨r33, u34, h35, hf⟩ := zbd_some hf
    refine rx_Vi (n := 1) (As := [.int r30]) (rest := []) B hI hl.1 (zc_CCStack_take_31 l D z a N r30 u31 r33 u34 h35) zw_288 zw_225 zw_226 zw_82 zw_224 (by decide +kernel) 31 (wC_at_31 a z u31) hcl_CStack rfl rfl (Nat.le_of_ble_eq_true rfl) d_CCode_carryOutVariable_141 ⟨Nat.le_of_ble_eq_true rfl, Nat.le_of_ble_eq_true rfl⟩ rfl rfl ⟨Nat.zero_le _, Nat.zero_le _⟩ (fun H locs hI => ?_)
    refine lv_pop B.1 B.2.1 d_CCode_carryOutVariable_144 rfl ?_
    refine lv_goto (tgt := 225) B.1 B.2.1 d_CCode_carryOutVariable_145 (by decide) ?_
    exact hb225  u34 _ _ _ hf hI (lv_sub hl [] rfl)
  rw [if_neg hc29] at hf
  by_cases hc36 : x1 = 34
  · rw [if_pos hc36] at hf
    refine lv_tableIn (off := 147) (tgt := 148) B.1 B.2.1 d_CCode_carryOutVariable_1 (by rw [hc36]; decide +kernel) (by rw [hc36]; decide +kernel) (by rw [hc36]; decide +kernel) (by decide) ?_
    refine lv_aload_n B.1 B.2.1 d_CCode_carryOutVariable_148 rfl (lv_at hl 0 rfl) ?_
    refine rx_get (v := .ref (a 31)) B hI hcl_CCode hin_CCode 26 (wC_at_26 a z u) 1 (by decide) hf_CCode_1 zw_73 rfl d_CCode_carryOutVariable_149 ?_
    refine lv_aload_n B.1 B.2.1 d_CCode_carryOutVariable_152 rfl (lv_at hl 0 rfl) ?_
    refine rx_get (v := .ref (a 27)) B hI hcl_CCode hin_CCode 26 (wC_at_26 a z u) 2 (by decide) hf_CCode_2 zw_90 rfl d_CCode_carryOutVariable_153 ?_
    refine lv_iload_n B.1 B.2.1 d_CCode_carryOutVariable_156 rfl (lv_at hl 2 rfl) ?_
    obtain ⟨r37, u38, h39, hf⟩ := zbd_some hf
    refine rx_Vi (n := 1) (As := [.int x2]) (rest := [.ref (a 31)]) B hI hl.1 (zc_CCLocals_typeOf_27 l D z a N x2 u r37 u38 h39) zw_341 zw_343 zw_344 zw_94 zw_342 (by decide +kernel) 27 (wC_at_27 a z u) hcl_CLocals rfl rfl (Nat.le_of_ble_eq_true rfl) d_CCode_carryOutVariable_157 ⟨Nat.le_of_ble_eq_true rfl, Nat.le_of_ble_eq_true rfl⟩ rfl rfl ⟨Nat.zero_le _, Nat.zero_le _⟩ (fun H locs hI => ?_)
    obtain ⟨r40, u41, h42, hf⟩ := zbd_some hf
    refine rx_Vi (n := 1) (As := [.int r37]) (rest := []) B hI hl.1 (zc_CCStack_take_31 l D z a N r37 u38 r40 u41 h42) zw_288 zw_225 zw_226 zw_82 zw_224 (by decide +kernel) 31 (wC_at_31 a z u38) hcl_CStack rfl rfl (Nat.le_of_ble_eq_true rfl) d_CCode_carryOutVariable_160 ⟨Nat.le_of_ble_eq_true rfl, Nat.le_of_ble_eq_true rfl⟩ rfl rfl ⟨Nat.zero_le _, Nat.zero_le _⟩ (fun H locs hI => ?_)
    refine lv_pop B.1 B.2.1 d_CCode_carryOutVariable_163 rfl ?_
    refine lv_aload_n B.1 B.2.1 d_CCode_carryOutVariable_164 rfl (lv_at hl 0 rfl) ?_
    refine rx_get (v := .ref (a 31)) B hI hcl_CCode hin_CCode 26 (wC_at_26 a z u41) 1 (by decide) hf_CCode_1 zw_73 rfl d_CCode_carryOutVariable_165 ?_
    refine lv_aload_n B.1 B.2.1 d_CCode_carryOutVariable_168 rfl (lv_at hl 0 rfl) ?_
    refine rx_get (v := .ref (a 27)) B hI hcl_CCode hin_CCode 26 (wC_at_26 a z u41) 2 (by decide) hf_CCode_2 zw_90 rfl d_CCode_carryOutVariable_169 ?_
    refine lv_iload_n B.1 B.2.1 d_CCode_carryOutVariable_172 rfl (lv_at hl 2 rfl) ?_
    obtain ⟨r43, u44, h45, hf⟩ := zbd_some hf
    refine rx_Vi (n := 1) (As := [.int x2]) (rest := [.ref (a 31)]) B hI hl.1 (zc_CCLocals_typeOf_27 l D z a N x2 u41 r43 u44 h45) zw_341 zw_343 zw_344 zw_94 zw_342 (by decide +kernel) 27 (wC_at_27 a z u41) hcl_CLocals rfl rfl (Nat.le_of_ble_eq_true rfl) d_CCode_carryOutVariable_173 ⟨Nat.le_of_ble_eq_true rfl, Nat.le_of_ble_eq_true rfl⟩ rfl rfl ⟨Nat.zero_le _, Nat.zero_le _⟩ (fun H locs hI => ?_)
    obtain ⟨r46, u47, h48, hf⟩ := zbd_some hf
    refine rx_Vv (n := 1) (As := [.int r43]) (rest := []) B hI hl.1 (zc_CCStack_give_31 l D z a N r43 u44 r46 u47 h48) zw_231 zw_233 zw_234 zw_82 zw_232 (by decide +kernel) 31 (wC_at_31 a z u44) hcl_CStack rfl rfl (Nat.le_of_ble_eq_true rfl) d_CCode_carryOutVariable_176 ⟨Nat.le_of_ble_eq_true rfl, Nat.le_of_ble_eq_true rfl⟩ rfl rfl ⟨Nat.zero_le _, Nat.zero_le _⟩ (fun H locs hI => ?_)
    refine lv_goto (tgt := 225) B.1 B.2.1 d_CCode_carryOutVariable_179 (by decide) ?_
    exact hb225  u47 _ _ _ hf hI (lv_sub hl [] rfl)
  rw [if_neg hc36] at hf
  by_cases hc49 : x1 = 35
  · rw [if_pos hc49] at hf
    refine lv_tableIn (off := 181) (tgt := 182) B.1 B.2.1 d_CCode_carryOutVariable_1 (by rw [hc49]; decide +kernel) (by rw [hc49]; decide +kernel) (by rw [hc49]; decide +kernel) (by decide) ?_
    refine lv_aload_n B.1 B.2.1 d_CCode_carryOutVariable_182 rfl (lv_at hl 0 rfl) ?_
    refine rx_get (v := .ref (a 31)) B hI hcl_CCode hin_CCode 26 (wC_at_26 a z u) 1 (by decide) hf_CCode_1 zw_73 rfl d_CCode_carryOutVariable_183 ?_
    refine lv_aload_n B.1 B.2.1 d_CCode_carryOutVariable_186 rfl (lv_at hl 0 rfl) ?_
    refine rx_get (v := .ref (a 1)) B hI hcl_CCode hin_CCode 26 (wC_at_26 a z u) 0 (by decide) hf_CCode_0 zw_106 rfl d_CCode_carryOutVariable_187 ?_
    refine rx_getN (v := .ref (a 17)) B hI hcl_CThings hin_CThings 1 (wC_at_1 a z u) 5 (by decide) hf_CThings_5 zw_155 rfl d_CCode_carryOutVariable_190 ?_
    refine lv_iload_n B.1 B.2.1 d_CCode_carryOutVariable_193 rfl (lv_at hl 2 rfl) ?_
    obtain ⟨r50, u51, h52, hf⟩ := zbd_some hf
    refine rx_Vi (n := 1) (As := [.int x2]) (rest := [.ref (a 31)]) B hI hl.1 (zc_CCShelf_typeOf_17 l D z a N x2 u r50 u51 h52) zw_197 zw_199 zw_200 zw_44 zw_198 (by decide +kernel) 17 (wC_at_17 a z u) hcl_CShelf rfl rfl (Nat.le_of_ble_eq_true rfl) d_CCode_carryOutVariable_194 ⟨Nat.le_of_ble_eq_true rfl, Nat.le_of_ble_eq_true rfl⟩ rfl rfl ⟨Nat.zero_le _, Nat.zero_le _⟩ (fun H locs hI => ?_)
    obtain ⟨r53, u54, h55, hf⟩ := zbd_some hf
    refine rx_Vv (n := 1) (As := [.int r50]) (rest := []) B hI hl.1 (zc_CCStack_give_31 l D z a N r50 u51 r53 u54 h55) zw_231 zw_233 zw_234 zw_82 zw_232 (by decide +kernel) 31 (wC_at_31 a z u51) hcl_CStack rfl rfl (Nat.le_of_ble_eq_true rfl) d_CCode_carryOutVariable_197 ⟨Nat.le_of_ble_eq_true rfl, Nat.le_of_ble_eq_true rfl⟩ rfl rfl ⟨Nat.zero_le _, Nat.zero_le _⟩ (fun H locs hI => ?_)
    refine lv_goto (tgt := 225) B.1 B.2.1 d_CCode_carryOutVariable_200 (by decide) ?_
    exact hb225  u54 _ _ _ hf hI (lv_sub hl [] rfl)
  rw [if_neg hc49] at hf
  by_cases hc56 : x1 = 36
  · rw [if_pos hc56] at hf
    refine lv_tableIn (off := 202) (tgt := 203) B.1 B.2.1 d_CCode_carryOutVariable_1 (by rw [hc56]; decide +kernel) (by rw [hc56]; decide +kernel) (by rw [hc56]; decide +kernel) (by decide) ?_
    refine lv_aload_n B.1 B.2.1 d_CCode_carryOutVariable_203 rfl (lv_at hl 0 rfl) ?_
    refine rx_get (v := .ref (a 31)) B hI hcl_CCode hin_CCode 26 (wC_at_26 a z u) 1 (by decide) hf_CCode_1 zw_73 rfl d_CCode_carryOutVariable_204 ?_
    refine lv_aload_n B.1 B.2.1 d_CCode_carryOutVariable_207 rfl (lv_at hl 0 rfl) ?_
    refine rx_get (v := .ref (a 1)) B hI hcl_CCode hin_CCode 26 (wC_at_26 a z u) 0 (by decide) hf_CCode_0 zw_106 rfl d_CCode_carryOutVariable_208 ?_
    refine rx_getN (v := .ref (a 17)) B hI hcl_CThings hin_CThings 1 (wC_at_1 a z u) 5 (by decide) hf_CThings_5 zw_155 rfl d_CCode_carryOutVariable_211 ?_
    refine lv_iload_n B.1 B.2.1 d_CCode_carryOutVariable_214 rfl (lv_at hl 2 rfl) ?_
    obtain ⟨r57, u58, h59, hf⟩ := zbd_some hf
    refine rx_Vi (n := 1) (As := [.int x2]) (rest := [.ref (a 31)]) B hI hl.1 (zc_CCShelf_typeOf_17 l D z a N x2 u r57 u58 h59) zw_197 zw_199 zw_200 zw_44 zw_198 (by decide +kernel) 17 (wC_at_17 a z u) hcl_CShelf rfl rfl (Nat.le_of_ble_eq_true rfl) d_CCode_carryOutVariable_215 ⟨Nat.le_of_ble_eq_true rfl, Nat.le_of_ble_eq_true rfl⟩ rfl rfl ⟨Nat.zero_le _, Nat.zero_le _⟩ (fun H locs hI => ?_)
    obtain ⟨r60, u61, h62, hf⟩ := zbd_some hf
    refine rx_Vi (n := 1) (As := [.int r57]) (rest := []) B hI hl.1 (zc_CCStack_take_31 l D z a N r57 u58 r60 u61 h62) zw_288 zw_225 zw_226 zw_82 zw_224 (by decide +kernel) 31 (wC_at_31 a z u58) hcl_CStack rfl rfl (Nat.le_of_ble_eq_true rfl) d_CCode_carryOutVariable_218 ⟨Nat.le_of_ble_eq_true rfl, Nat.le_of_ble_eq_true rfl⟩ rfl rfl ⟨Nat.zero_le _, Nat.zero_le _⟩ (fun H locs hI => ?_)
    refine lv_pop B.1 B.2.1 d_CCode_carryOutVariable_221 rfl ?_
    refine lv_goto (tgt := 225) B.1 B.2.1 d_CCode_carryOutVariable_222 (by decide) ?_
    exact hb225  u61 _ _ _ hf hI (lv_sub hl [] rfl)
  rw [if_neg hc56] at hf
  have ghc1 := lv_neT (a := 26) hc1 (by decide)
  have ghc5 := lv_neT (a := 27) hc5 (by decide)
  have ghc9 := lv_neT (a := 28) hc9 (by decide)
  have ghc19 := lv_neT (a := 29) hc19 (by decide)
  have ghc20 := lv_neT (a := 30) hc20 (by decide)
  have ghc21 := lv_neT (a := 31) hc21 (by decide)
  have ghc22 := lv_neT (a := 32) hc22 (by decide)
  have ghc29 := lv_neT (a := 33) hc29 (by decide)
  have ghc36 := lv_neT (a := 34) hc36 (by decide)
  have ghc49 := lv_neT (a := 35) hc49 (by decide)
  have ghc56 := lv_neT (a := 36) hc56 (by decide)
  refine lv_tableOut (tgt := 225) B.1 B.2.1 d_CCode_carryOutVariable_1 (by omega) (by decide) ?_
  exact hb225  u _ _ _ hf hI (lv_sub hl [] rfl)
set_option maxHeartbeats 4000000 in
set_option maxRecDepth 100000 in
theorem zc_CCCode_carryOutAccess_26 (l : Launch) (D : va_G) (z : zZ) (a : Nat → Nat) (N : Nat) (x1 : Int32) (u : zU) (r : Unit) (u1 : zU) (hf : zf_CCCode_carryOutAccess_26 N x1 u = some (r, u1)) : zMet l D z y_CCode_carryOutAccess (.code y_CCode_carryOutAccess b_CCode_carryOutAccess 4 none) { frames := 2, cells := 0, slots := 0, locals := 44 } [.ref (a 26), .int x1] (wC a z u) (zQv D (wC a z u1)) := by
  refine zM_v (own := R_CCode) [.ref (a 26), .int x1] (wC a z u) (wC a z u1) (by decide) rfl (Nat.le_of_ble_eq_true rfl) ?_
  intro p e s m args below meth c A ls B hr hlk hI hl
  have hl : lv_has ls 4 [(0, .ref (a 26)), (1, .int x1)] := hl
  revert hf
  revert hI hl
  have hb73 : ∀  (u : zU) (H : Heap) (locs : List Loc) (ls : Array Slot), zf_CCCode_carryOutAccess_26_b73 N   u = some (r, u1) → iw D A s (wC a z u) H locs → lv_has ls 4 [] → W p l e ({ frames := 2, cells := 0, slots := 0, locals := 44 } : Room) s m args below meth c H locs 0 0 (MQ below (zQv D (wC a z u1) A) args s 0 0 A) (F0 m 73 ls []) := by
    intro  u H locs ls hf hI hl
    unfold zf_CCCode_carryOutAccess_26_b73 at hf
    obtain ⟨e1, e2⟩ := zrt hf
    exact zr_v (wC a z) B hI hr hlk e2 d_CCode_carryOutAccess_73
  have hb26 : ∀ (x1 : Int32) (s0 : Int32) (u : zU) (H : Heap) (locs : List Loc) (ls : Array Slot), zf_CCCode_carryOutAccess_26_b26 N  x1 s0 u = some (r, u1) → iw D A s (wC a z u) H locs → lv_has ls 4 [(0, .ref (a 26)), (1, .int x1)] → W p l e ({ frames := 2, cells := 0, slots := 0, locals := 44 } : Room) s m args below meth c H locs 0 0 (MQ below (zQv D (wC a z u1) A) args s 0 0 A) (F0 m 26 ls [.int s0]) := by
    intro x1 s0 u H locs ls hf hI hl
    unfold zf_CCCode_carryOutAccess_26_b26 at hf
    refine lv_istore_n (lv' := [(3, .int s0), (0, .ref (a 26)), (1, .int x1)]) B.1 B.2.1 d_CCode_carryOutAccess_26 rfl hl (by decide) rfl (fun ls hl => ?_)
    refine lv_iload_n B.1 B.2.1 d_CCode_carryOutAccess_27 rfl (lv_at hl 2 rfl) ?_
    refine lv_bipush (v := 54) B.1 B.2.1 d_CCode_carryOutAccess_28 (by decide) ?_
    refine lv_icmp_ge (tgt := 54) B.1 B.2.1 d_CCode_carryOutAccess_30 (by decide) (fun hc1 => ?_) (fun hc1 => ?_)
    · rw [if_pos hc1] at hf
      refine lv_aload_n B.1 B.2.1 d_CCode_carryOutAccess_54 rfl (lv_at hl 1 rfl) ?_
      refine rx_get (v := .ref (a 31)) B hI hcl_CCode hin_CCode 26 (wC_at_26 a z u) 1 (by decide) hf_CCode_1 zw_73 rfl d_CCode_carryOutAccess_55 ?_
      refine lv_iload_n B.1 B.2.1 d_CCode_carryOutAccess_58 rfl (lv_at hl 0 rfl) ?_
      obtain ⟨r2, u3, h4, hf⟩ := zbd_some hf
      refine rx_Vi (n := 1) (As := [.int s0]) (rest := []) B hI hl.1 (zc_CCStack_take_31 l D z a N s0 u r2 u3 h4) zw_288 zw_225 zw_226 zw_82 zw_224 (by decide +kernel) 31 (wC_at_31 a z u) hcl_CStack rfl rfl (Nat.le_of_ble_eq_true rfl) d_CCode_carryOutAccess_59 ⟨Nat.le_of_ble_eq_true rfl, Nat.le_of_ble_eq_true rfl⟩ rfl rfl ⟨Nat.zero_le _, Nat.zero_le _⟩ (fun H locs hI => ?_)
      refine lv_pop B.1 B.2.1 d_CCode_carryOutAccess_62 rfl ?_
      refine lv_aload_n B.1 B.2.1 d_CCode_carryOutAccess_63 rfl (lv_at hl 1 rfl) ?_
      refine rx_get (v := .ref (a 31)) B hI hcl_CCode hin_CCode 26 (wC_at_26 a z u3) 1 (by decide) hf_CCode_1 zw_73 rfl d_CCode_carryOutAccess_64 ?_
      refine lv_bipush (v := 127) B.1 B.2.1 d_CCode_carryOutAccess_67 (by decide) ?_
      obtain ⟨r5, u6, h7, hf⟩ := zbd_some hf
      refine rx_Vi (n := 1) (As := [.int 127]) (rest := []) B hI hl.1 (zc_CCStack_take_31 l D z a N 127 u3 r5 u6 h7) zw_288 zw_225 zw_226 zw_82 zw_224 (by decide +kernel) 31 (wC_at_31 a z u3) hcl_CStack rfl rfl (Nat.le_of_ble_eq_true rfl) d_CCode_carryOutAccess_69 ⟨Nat.le_of_ble_eq_true rfl, Nat.le_of_ble_eq_true rfl⟩ rfl rfl ⟨Nat.zero_le _, Nat.zero_le _⟩ (fun H locs hI => ?_)
      refine lv_pop B.1 B.2.1 d_CCode_carryOutAccess_72 rfl ?_
      exact hb73  u6 _ _ _ hf hI (lv_sub hl [] rfl)
    · rw [if_neg hc1] at hf
      refine lv_aload_n B.1 B.2.1 d_CCode_carryOutAccess_33 rfl (lv_at hl 1 rfl) ?_
      refine rx_get (v := .ref (a 31)) B hI hcl_CCode hin_CCode 26 (wC_at_26 a z u) 1 (by decide) hf_CCode_1 zw_73 rfl d_CCode_carryOutAccess_34 ?_
      refine lv_bipush (v := 127) B.1 B.2.1 d_CCode_carryOutAccess_37 (by decide) ?_
      obtain ⟨r8, u9, h10, hf⟩ := zbd_some hf
      refine rx_Vi (n := 1) (As := [.int 127]) (rest := []) B hI hl.1 (zc_CCStack_take_31 l D z a N 127 u r8 u9 h10) zw_288 zw_225 zw_226 zw_82 zw_224 (by decide +kernel) 31 (wC_at_31 a z u) hcl_CStack rfl rfl (Nat.le_of_ble_eq_true rfl) d_CCode_carryOutAccess_39 ⟨Nat.le_of_ble_eq_true rfl, Nat.le_of_ble_eq_true rfl⟩ rfl rfl ⟨Nat.zero_le _, Nat.zero_le _⟩ (fun H locs hI => ?_)
      refine lv_pop B.1 B.2.1 d_CCode_carryOutAccess_42 rfl ?_
      refine lv_aload_n B.1 B.2.1 d_CCode_carryOutAccess_43 rfl (lv_at hl 1 rfl) ?_
      refine rx_get (v := .ref (a 31)) B hI hcl_CCode hin_CCode 26 (wC_at_26 a z u9) 1 (by decide) hf_CCode_1 zw_73 rfl d_CCode_carryOutAccess_44 ?_
      refine lv_iload_n B.1 B.2.1 d_CCode_carryOutAccess_47 rfl (lv_at hl 0 rfl) ?_
      obtain ⟨r11, u12, h13, hf⟩ := zbd_some hf
      refine rx_Vv (n := 1) (As := [.int s0]) (rest := []) B hI hl.1 (zc_CCStack_give_31 l D z a N s0 u9 r11 u12 h13) zw_231 zw_233 zw_234 zw_82 zw_232 (by decide +kernel) 31 (wC_at_31 a z u9) hcl_CStack rfl rfl (Nat.le_of_ble_eq_true rfl) d_CCode_carryOutAccess_48 ⟨Nat.le_of_ble_eq_true rfl, Nat.le_of_ble_eq_true rfl⟩ rfl rfl ⟨Nat.zero_le _, Nat.zero_le _⟩ (fun H locs hI => ?_)
      refine lv_goto (tgt := 73) B.1 B.2.1 d_CCode_carryOutAccess_51 (by decide) ?_
      exact hb73  u12 _ _ _ hf hI (lv_sub hl [] rfl)
  have hb25 : ∀ (x1 : Int32) (u : zU) (H : Heap) (locs : List Loc) (ls : Array Slot), zf_CCCode_carryOutAccess_26_b25 N  x1 u = some (r, u1) → iw D A s (wC a z u) H locs → lv_has ls 4 [(0, .ref (a 26)), (1, .int x1)] → W p l e ({ frames := 2, cells := 0, slots := 0, locals := 44 } : Room) s m args below meth c H locs 0 0 (MQ below (zQv D (wC a z u1) A) args s 0 0 A) (F0 m 25 ls []) := by
    intro x1 u H locs ls hf hI hl
    unfold zf_CCCode_carryOutAccess_26_b25 at hf
    refine lv_iconst (v := 0) B.1 B.2.1 d_CCode_carryOutAccess_25 (by decide) ?_
    exact hb26 x1 0 u _ _ _ hf hI (lv_sub hl [0, 1] rfl)
  intro hI hl hf
  unfold zf_CCCode_carryOutAccess_26 at hf
  refine lv_iload_n B.1 B.2.1 d_CCode_carryOutAccess_0 rfl (lv_at hl 1 rfl) ?_
  refine lv_bipush (v := 40) B.1 B.2.1 d_CCode_carryOutAccess_1 (by decide) ?_
  refine lv_isub B.1 B.2.1 d_CCode_carryOutAccess_3 ?_
  refine lv_istore_n (lv' := [(2, .int (x1 - 40)), (0, .ref (a 26)), (1, .int x1)]) B.1 B.2.1 d_CCode_carryOutAccess_4 rfl hl (by decide) rfl (fun ls hl => ?_)
  refine lv_iload_n B.1 B.2.1 d_CCode_carryOutAccess_5 rfl (lv_at hl 0 rfl) ?_
  refine lv_if_lt (tgt := 25) B.1 B.2.1 d_CCode_carryOutAccess_6 (by decide) (fun hc1 => ?_) (fun hc1 => ?_)
  · rw [if_pos hc1] at hf
    exact hb25 x1 u _ _ _ hf hI (lv_sub hl [1, 2] rfl)
  · rw [if_neg hc1] at hf
    refine lv_iload_n B.1 B.2.1 d_CCode_carryOutAccess_9 rfl (lv_at hl 0 rfl) ?_
    refine rx_getsN B hI 3 rfl zw_355 d_CCode_carryOutAccess_10 (fun t2 ht2 => ?_)
    refine rx_tlen (v := 23) B hI ht2 (by decide) d_CCode_carryOutAccess_13 ?_
    refine lv_icmp_ge (tgt := 25) B.1 B.2.1 d_CCode_carryOutAccess_14 (by decide) (fun hc3 => ?_) (fun hc3 => ?_)
    · rw [if_pos hc3] at hf
      exact hb25 x1 u _ _ _ hf hI (lv_sub hl [1, 2] rfl)
    · rw [if_neg hc3] at hf
      refine rx_getsN B hI 3 rfl zw_355 d_CCode_carryOutAccess_17 (fun t4 ht4 => ?_)
      refine lv_iload_n B.1 B.2.1 d_CCode_carryOutAccess_20 rfl (lv_at hl 0 rfl) ?_
      obtain ⟨hi5, hf⟩ := zck_some hf
      refine rx_ti B hI ht4 rfl hi5 d_CCode_carryOutAccess_21 ?_
      refine lv_goto (tgt := 26) B.1 B.2.1 d_CCode_carryOutAccess_22 (by decide) ?_
      exact hb26 x1 (t_X_MOVED_TYPE.getD (x1 - 40).toNatClampNeg 0) u _ _ _ hf hI (lv_sub hl [1, 2] rfl)
set_option maxHeartbeats 4000000 in
set_option maxRecDepth 100000 in
theorem zc_CCStack_takeReference_31 (l : Launch) (D : va_G) (z : zZ) (a : Nat → Nat) (N : Nat)  (u : zU) (r : Unit) (u1 : zU) (hf : zf_CCStack_takeReference_31 N  u = some (r, u1)) : zMet l D z y_CStack_takeReference (.code y_CStack_takeReference b_CStack_takeReference 2 none) { frames := 1, cells := 0, slots := 0, locals := 22 } [.ref (a 31)] (wC a z u) (zQv D (wC a z u1)) := by
  refine zM_v (own := R_CStack) [.ref (a 31)] (wC a z u) (wC a z u1) (by decide) rfl (Nat.le_of_ble_eq_true rfl) ?_
  intro p e s m args below meth c A ls B hr hlk hI hl
  have hl : lv_has ls 2 [(0, .ref (a 31))] := hl
  revert hf
  revert hI hl
  have hb22 : ∀  (u : zU) (H : Heap) (locs : List Loc) (ls : Array Slot), zf_CCStack_takeReference_31_b22 N   u = some (r, u1) → iw D A s (wC a z u) H locs → lv_has ls 2 [] → W p l e ({ frames := 1, cells := 0, slots := 0, locals := 22 } : Room) s m args below meth c H locs 0 0 (MQ below (zQv D (wC a z u1) A) args s 0 0 A) (F0 m 22 ls []) := by
    intro  u H locs ls hf hI hl
    unfold zf_CCStack_takeReference_31_b22 at hf
    obtain ⟨e1, e2⟩ := zrt hf
    exact zr_v (wC a z) B hI hr hlk e2 d_CStack_takeReference_22
  intro hI hl hf
  unfold zf_CCStack_takeReference_31 at hf
  refine lv_aload_n B.1 B.2.1 d_CStack_takeReference_0 rfl (lv_at hl 0 rfl) ?_
  obtain ⟨r1, u2, h3, hf⟩ := zbd_some hf
  refine rx_Vi (n := 0) (As := []) (rest := []) B hI hl.1 (zc_CCStack_takeAny_31 l D z a N  u r1 u2 h3) zw_215 zw_217 zw_218 zw_82 zw_216 (by decide +kernel) 31 (wC_at_31 a z u) hcl_CStack rfl rfl (Nat.le_of_ble_eq_true rfl) d_CStack_takeReference_1 ⟨Nat.le_of_ble_eq_true rfl, Nat.le_of_ble_eq_true rfl⟩ rfl rfl ⟨Nat.zero_le _, Nat.zero_le _⟩ (fun H locs hI => ?_)
  refine lv_istore_n (lv' := [(1, .int r1), (0, .ref (a 31))]) B.1 B.2.1 d_CStack_takeReference_4 rfl hl (by decide) rfl (fun ls hl => ?_)
  refine lv_iload_n B.1 B.2.1 d_CStack_takeReference_5 rfl (lv_at hl 0 rfl) ?_
  refine lv_if_eq (tgt := 22) B.1 B.2.1 d_CStack_takeReference_6 (by decide) (fun hc4 => ?_) (fun hc4 => ?_)
  · rw [if_pos hc4] at hf
    exact hb22  u2 _ _ _ hf hI (lv_sub hl [] rfl)
  · rw [if_neg hc4] at hf
    refine lv_iload_n B.1 B.2.1 d_CStack_takeReference_9 rfl (lv_at hl 0 rfl) ?_
    obtain ⟨r5, u6, h7, hf⟩ := zbd_some hf
    refine rx_Mi (n := 1) (As := [.int r1]) (rest := []) B hI hl.1 (zc_CCC_isReferenceType l D z a N r1 u2 r5 u6 h7) zw_345 zw_17 zw_15 zw_16 (by decide +kernel) rfl rfl (Nat.le_of_ble_eq_true rfl) d_CStack_takeReference_10 ⟨Nat.le_of_ble_eq_true rfl, Nat.le_of_ble_eq_true rfl⟩ rfl rfl ⟨Nat.zero_le _, Nat.zero_le _⟩ (fun H locs hI => ?_)
    refine lv_if_ne (tgt := 22) B.1 B.2.1 d_CStack_takeReference_13 (by decide) (fun hc8 => ?_) (fun hc8 => ?_)
    · rw [if_neg hc8] at hf
      exact hb22  u6 _ _ _ hf hI (lv_sub hl [] rfl)
    · rw [if_pos hc8] at hf
      refine lv_aload_n B.1 B.2.1 d_CStack_takeReference_16 rfl (lv_at hl 1 rfl) ?_
      refine lv_bipush (v := 7) B.1 B.2.1 d_CStack_takeReference_17 (by decide) ?_
      obtain ⟨r9, u10, h11, hf⟩ := zbd_some hf
      refine rx_Vv (n := 1) (As := [.int 7]) (rest := []) B hI hl.1 (zc_CCStack_fail_31 l D z a N 7 u6 r9 u10 h11) zw_219 zw_221 zw_222 zw_82 zw_220 (by decide +kernel) 31 (wC_at_31 a z u6) hcl_CStack rfl rfl (Nat.le_of_ble_eq_true rfl) d_CStack_takeReference_19 ⟨Nat.le_of_ble_eq_true rfl, Nat.le_of_ble_eq_true rfl⟩ rfl rfl ⟨Nat.zero_le _, Nat.zero_le _⟩ (fun H locs hI => ?_)
      exact hb22  u10 _ _ _ hf hI (lv_sub hl [] rfl)
set_option maxHeartbeats 4000000 in
set_option maxRecDepth 100000 in
theorem zc_CCCode_carryOutReference_26 (l : Launch) (D : va_G) (z : zZ) (a : Nat → Nat) (N : Nat) (x1 : Int32) (x2 : Int32) (u : zU) (r : Unit) (u1 : zU) (hf : zf_CCCode_carryOutReference_26 N x1 x2 u = some (r, u1)) : zMet l D z y_CCode_carryOutReference (.code y_CCode_carryOutReference b_CCode_carryOutReference 3 none) { frames := 2, cells := 0, slots := 0, locals := 44 } [.ref (a 26), .int x1, .int x2] (wC a z u) (zQv D (wC a z u1)) := by
  refine zM_v (own := R_CCode) [.ref (a 26), .int x1, .int x2] (wC a z u) (wC a z u1) (by decide) rfl (Nat.le_of_ble_eq_true rfl) ?_
  intro p e s m args below meth c A ls B hr hlk hI hl
  have hl : lv_has ls 3 [(0, .ref (a 26)), (1, .int x1), (2, .int x2)] := hl
  revert hf
  revert hI hl
  have hb236 : ∀  (u : zU) (H : Heap) (locs : List Loc) (ls : Array Slot), zf_CCCode_carryOutReference_26_b236 N   u = some (r, u1) → iw D A s (wC a z u) H locs → lv_has ls 3 [] → W p l e ({ frames := 2, cells := 0, slots := 0, locals := 44 } : Room) s m args below meth c H locs 0 0 (MQ below (zQv D (wC a z u1) A) args s 0 0 A) (F0 m 236 ls []) := by
    intro  u H locs ls hf hI hl
    unfold zf_CCCode_carryOutReference_26_b236 at hf
    obtain ⟨e1, e2⟩ := zrt hf
    exact zr_v (wC a z) B hI hr hlk e2 d_CCode_carryOutReference_236
  intro hI hl hf
  unfold zf_CCCode_carryOutReference_26 at hf
  refine lv_iload_n B.1 B.2.1 d_CCode_carryOutReference_0 rfl (lv_at hl 1 rfl) ?_
  by_cases hc1 : x1 = 37
  · rw [if_pos hc1] at hf
    refine lv_lookup (off := 59) (tgt := 60) B.1 B.2.1 d_CCode_carryOutReference_1 (by decide +kernel) (by rw [hc1]; decide +kernel) (by decide) ?_
    refine lv_aload_n B.1 B.2.1 d_CCode_carryOutReference_60 rfl (lv_at hl 0 rfl) ?_
    refine rx_get (v := .ref (a 31)) B hI hcl_CCode hin_CCode 26 (wC_at_26 a z u) 1 (by decide) hf_CCode_1 zw_73 rfl d_CCode_carryOutReference_61 ?_
    refine lv_bipush (v := 127) B.1 B.2.1 d_CCode_carryOutReference_64 (by decide) ?_
    obtain ⟨r2, u3, h4, hf⟩ := zbd_some hf
    refine rx_Vi (n := 1) (As := [.int 127]) (rest := []) B hI hl.1 (zc_CCStack_take_31 l D z a N 127 u r2 u3 h4) zw_288 zw_225 zw_226 zw_82 zw_224 (by decide +kernel) 31 (wC_at_31 a z u) hcl_CStack rfl rfl (Nat.le_of_ble_eq_true rfl) d_CCode_carryOutReference_66 ⟨Nat.le_of_ble_eq_true rfl, Nat.le_of_ble_eq_true rfl⟩ rfl rfl ⟨Nat.zero_le _, Nat.zero_le _⟩ (fun H locs hI => ?_)
    refine lv_pop B.1 B.2.1 d_CCode_carryOutReference_69 rfl ?_
    refine lv_aload_n B.1 B.2.1 d_CCode_carryOutReference_70 rfl (lv_at hl 0 rfl) ?_
    refine rx_get (v := .ref (a 31)) B hI hcl_CCode hin_CCode 26 (wC_at_26 a z u3) 1 (by decide) hf_CCode_1 zw_73 rfl d_CCode_carryOutReference_71 ?_
    refine lv_aload_n B.1 B.2.1 d_CCode_carryOutReference_74 rfl (lv_at hl 0 rfl) ?_
    refine rx_get (v := .ref (a 1)) B hI hcl_CCode hin_CCode 26 (wC_at_26 a z u3) 0 (by decide) hf_CCode_0 zw_106 rfl d_CCode_carryOutReference_75 ?_
    refine rx_getN (v := .ref (a 11)) B hI hcl_CThings hin_CThings 1 (wC_at_1 a z u3) 3 (by decide) hf_CThings_3 zw_165 rfl d_CCode_carryOutReference_78 ?_
    refine lv_iload_n B.1 B.2.1 d_CCode_carryOutReference_81 rfl (lv_at hl 2 rfl) ?_
    obtain ⟨r5, u6, h7, hf⟩ := zbd_some hf
    refine rx_Vi (n := 1) (As := [.int x2]) (rest := [.ref (a 31)]) B hI hl.1 (zc_CCShelf_typeOf_11 l D z a N x2 u3 r5 u6 h7) zw_197 zw_199 zw_200 zw_44 zw_198 (by decide +kernel) 11 (wC_at_11 a z u3) hcl_CShelf rfl rfl (Nat.le_of_ble_eq_true rfl) d_CCode_carryOutReference_82 ⟨Nat.le_of_ble_eq_true rfl, Nat.le_of_ble_eq_true rfl⟩ rfl rfl ⟨Nat.zero_le _, Nat.zero_le _⟩ (fun H locs hI => ?_)
    obtain ⟨r8, u9, h10, hf⟩ := zbd_some hf
    refine rx_Vv (n := 1) (As := [.int r5]) (rest := []) B hI hl.1 (zc_CCStack_give_31 l D z a N r5 u6 r8 u9 h10) zw_231 zw_233 zw_234 zw_82 zw_232 (by decide +kernel) 31 (wC_at_31 a z u6) hcl_CStack rfl rfl (Nat.le_of_ble_eq_true rfl) d_CCode_carryOutReference_85 ⟨Nat.le_of_ble_eq_true rfl, Nat.le_of_ble_eq_true rfl⟩ rfl rfl ⟨Nat.zero_le _, Nat.zero_le _⟩ (fun H locs hI => ?_)
    refine lv_goto (tgt := 236) B.1 B.2.1 d_CCode_carryOutReference_88 (by decide) ?_
    exact hb236  u9 _ _ _ hf hI (lv_sub hl [] rfl)
  rw [if_neg hc1] at hf
  by_cases hc11 : x1 = 38
  · rw [if_pos hc11] at hf
    refine lv_lookup (off := 90) (tgt := 91) B.1 B.2.1 d_CCode_carryOutReference_1 (by decide +kernel) (by rw [hc11]; decide +kernel) (by decide) ?_
    refine lv_aload_n B.1 B.2.1 d_CCode_carryOutReference_91 rfl (lv_at hl 0 rfl) ?_
    refine rx_get (v := .ref (a 31)) B hI hcl_CCode hin_CCode 26 (wC_at_26 a z u) 1 (by decide) hf_CCode_1 zw_73 rfl d_CCode_carryOutReference_92 ?_
    refine lv_aload_n B.1 B.2.1 d_CCode_carryOutReference_95 rfl (lv_at hl 0 rfl) ?_
    refine rx_get (v := .ref (a 1)) B hI hcl_CCode hin_CCode 26 (wC_at_26 a z u) 0 (by decide) hf_CCode_0 zw_106 rfl d_CCode_carryOutReference_96 ?_
    refine rx_getN (v := .ref (a 11)) B hI hcl_CThings hin_CThings 1 (wC_at_1 a z u) 3 (by decide) hf_CThings_3 zw_165 rfl d_CCode_carryOutReference_99 ?_
    refine lv_iload_n B.1 B.2.1 d_CCode_carryOutReference_102 rfl (lv_at hl 2 rfl) ?_
    obtain ⟨r12, u13, h14, hf⟩ := zbd_some hf
    refine rx_Vi (n := 1) (As := [.int x2]) (rest := [.ref (a 31)]) B hI hl.1 (zc_CCShelf_typeOf_11 l D z a N x2 u r12 u13 h14) zw_197 zw_199 zw_200 zw_44 zw_198 (by decide +kernel) 11 (wC_at_11 a z u) hcl_CShelf rfl rfl (Nat.le_of_ble_eq_true rfl) d_CCode_carryOutReference_103 ⟨Nat.le_of_ble_eq_true rfl, Nat.le_of_ble_eq_true rfl⟩ rfl rfl ⟨Nat.zero_le _, Nat.zero_le _⟩ (fun H locs hI => ?_)
    obtain ⟨r15, u16, h17, hf⟩ := zbd_some hf
    refine rx_Vi (n := 1) (As := [.int r12]) (rest := []) B hI hl.1 (zc_CCStack_take_31 l D z a N r12 u13 r15 u16 h17) zw_288 zw_225 zw_226 zw_82 zw_224 (by decide +kernel) 31 (wC_at_31 a z u13) hcl_CStack rfl rfl (Nat.le_of_ble_eq_true rfl) d_CCode_carryOutReference_106 ⟨Nat.le_of_ble_eq_true rfl, Nat.le_of_ble_eq_true rfl⟩ rfl rfl ⟨Nat.zero_le _, Nat.zero_le _⟩ (fun H locs hI => ?_)
    refine lv_pop B.1 B.2.1 d_CCode_carryOutReference_109 rfl ?_
    refine lv_aload_n B.1 B.2.1 d_CCode_carryOutReference_110 rfl (lv_at hl 0 rfl) ?_
    refine rx_get (v := .ref (a 31)) B hI hcl_CCode hin_CCode 26 (wC_at_26 a z u16) 1 (by decide) hf_CCode_1 zw_73 rfl d_CCode_carryOutReference_111 ?_
    refine lv_bipush (v := 127) B.1 B.2.1 d_CCode_carryOutReference_114 (by decide) ?_
    obtain ⟨r18, u19, h20, hf⟩ := zbd_some hf
    refine rx_Vi (n := 1) (As := [.int 127]) (rest := []) B hI hl.1 (zc_CCStack_take_31 l D z a N 127 u16 r18 u19 h20) zw_288 zw_225 zw_226 zw_82 zw_224 (by decide +kernel) 31 (wC_at_31 a z u16) hcl_CStack rfl rfl (Nat.le_of_ble_eq_true rfl) d_CCode_carryOutReference_116 ⟨Nat.le_of_ble_eq_true rfl, Nat.le_of_ble_eq_true rfl⟩ rfl rfl ⟨Nat.zero_le _, Nat.zero_le _⟩ (fun H locs hI => ?_)
    refine lv_pop B.1 B.2.1 d_CCode_carryOutReference_119 rfl ?_
    refine lv_goto (tgt := 236) B.1 B.2.1 d_CCode_carryOutReference_120 (by decide) ?_
    exact hb236  u19 _ _ _ hf hI (lv_sub hl [] rfl)
  rw [if_neg hc11] at hf
  by_cases hc21 : x1 = 208
  · rw [if_pos hc21] at hf
    refine lv_lookup (off := 122) (tgt := 123) B.1 B.2.1 d_CCode_carryOutReference_1 (by decide +kernel) (by rw [hc21]; decide +kernel) (by decide) ?_
    refine lv_aload_n B.1 B.2.1 d_CCode_carryOutReference_123 rfl (lv_at hl 0 rfl) ?_
    refine rx_get (v := .ref (a 31)) B hI hcl_CCode hin_CCode 26 (wC_at_26 a z u) 1 (by decide) hf_CCode_1 zw_73 rfl d_CCode_carryOutReference_124 ?_
    refine lv_iload_n B.1 B.2.1 d_CCode_carryOutReference_127 rfl (lv_at hl 2 rfl) ?_
    obtain ⟨r22, u23, h24, hf⟩ := zbd_some hf
    refine rx_Vv (n := 1) (As := [.int x2]) (rest := []) B hI hl.1 (zc_CCStack_give_31 l D z a N x2 u r22 u23 h24) zw_231 zw_233 zw_234 zw_82 zw_232 (by decide +kernel) 31 (wC_at_31 a z u) hcl_CStack rfl rfl (Nat.le_of_ble_eq_true rfl) d_CCode_carryOutReference_128 ⟨Nat.le_of_ble_eq_true rfl, Nat.le_of_ble_eq_true rfl⟩ rfl rfl ⟨Nat.zero_le _, Nat.zero_le _⟩ (fun H locs hI => ?_)
    refine lv_goto (tgt := 236) B.1 B.2.1 d_CCode_carryOutReference_131 (by decide) ?_
    exact hb236  u23 _ _ _ hf hI (lv_sub hl [] rfl)
  rw [if_neg hc21] at hf
  by_cases hc25 : x1 = 209
  · rw [if_pos hc25] at hf
    refine lv_lookup (off := 133) (tgt := 134) B.1 B.2.1 d_CCode_carryOutReference_1 (by decide +kernel) (by rw [hc25]; decide +kernel) (by decide) ?_
    refine lv_aload_n B.1 B.2.1 d_CCode_carryOutReference_134 rfl (lv_at hl 0 rfl) ?_
    refine rx_get (v := .ref (a 31)) B hI hcl_CCode hin_CCode 26 (wC_at_26 a z u) 1 (by decide) hf_CCode_1 zw_73 rfl d_CCode_carryOutReference_135 ?_
    obtain ⟨r26, u27, h28, hf⟩ := zbd_some hf
    refine rx_Vv (n := 0) (As := []) (rest := []) B hI hl.1 (zc_CCStack_takeReference_31 l D z a N  u r26 u27 h28) zw_360 zw_362 zw_363 zw_82 zw_361 (by decide +kernel) 31 (wC_at_31 a z u) hcl_CStack rfl rfl (Nat.le_of_ble_eq_true rfl) d_CCode_carryOutReference_138 ⟨Nat.le_of_ble_eq_true rfl, Nat.le_of_ble_eq_true rfl⟩ rfl rfl ⟨Nat.zero_le _, Nat.zero_le _⟩ (fun H locs hI => ?_)
    refine lv_aload_n B.1 B.2.1 d_CCode_carryOutReference_141 rfl (lv_at hl 0 rfl) ?_
    refine rx_get (v := .ref (a 31)) B hI hcl_CCode hin_CCode 26 (wC_at_26 a z u27) 1 (by decide) hf_CCode_1 zw_73 rfl d_CCode_carryOutReference_142 ?_
    refine lv_bipush (v := 127) B.1 B.2.1 d_CCode_carryOutReference_145 (by decide) ?_
    obtain ⟨r29, u30, h31, hf⟩ := zbd_some hf
    refine rx_Vv (n := 1) (As := [.int 127]) (rest := []) B hI hl.1 (zc_CCStack_give_31 l D z a N 127 u27 r29 u30 h31) zw_231 zw_233 zw_234 zw_82 zw_232 (by decide +kernel) 31 (wC_at_31 a z u27) hcl_CStack rfl rfl (Nat.le_of_ble_eq_true rfl) d_CCode_carryOutReference_147 ⟨Nat.le_of_ble_eq_true rfl, Nat.le_of_ble_eq_true rfl⟩ rfl rfl ⟨Nat.zero_le _, Nat.zero_le _⟩ (fun H locs hI => ?_)
    refine lv_goto (tgt := 236) B.1 B.2.1 d_CCode_carryOutReference_150 (by decide) ?_
    exact hb236  u30 _ _ _ hf hI (lv_sub hl [] rfl)
  rw [if_neg hc25] at hf
  by_cases hc32 : x1 = 271
  · rw [if_pos hc32] at hf
    refine lv_lookup (off := 152) (tgt := 153) B.1 B.2.1 d_CCode_carryOutReference_1 (by decide +kernel) (by rw [hc32]; decide +kernel) (by decide) ?_
    refine lv_aload_n B.1 B.2.1 d_CCode_carryOutReference_153 rfl (lv_at hl 0 rfl) ?_
    refine rx_get (v := .ref (a 31)) B hI hcl_CCode hin_CCode 26 (wC_at_26 a z u) 1 (by decide) hf_CCode_1 zw_73 rfl d_CCode_carryOutReference_154 ?_
    refine lv_bipush (v := 127) B.1 B.2.1 d_CCode_carryOutReference_157 (by decide) ?_
    obtain ⟨r33, u34, h35, hf⟩ := zbd_some hf
    refine rx_Vi (n := 1) (As := [.int 127]) (rest := []) B hI hl.1 (zc_CCStack_take_31 l D z a N 127 u r33 u34 h35) zw_288 zw_225 zw_226 zw_82 zw_224 (by decide +kernel) 31 (wC_at_31 a z u) hcl_CStack rfl rfl (Nat.le_of_ble_eq_true rfl) d_CCode_carryOutReference_159 ⟨Nat.le_of_ble_eq_true rfl, Nat.le_of_ble_eq_true rfl⟩ rfl rfl ⟨Nat.zero_le _, Nat.zero_le _⟩ (fun H locs hI => ?_)
    refine lv_pop B.1 B.2.1 d_CCode_carryOutReference_162 rfl ?_
    refine lv_aload_n B.1 B.2.1 d_CCode_carryOutReference_163 rfl (lv_at hl 0 rfl) ?_
    refine rx_get (v := .ref (a 31)) B hI hcl_CCode hin_CCode 26 (wC_at_26 a z u34) 1 (by decide) hf_CCode_1 zw_73 rfl d_CCode_carryOutReference_164 ?_
    refine lv_aload_n B.1 B.2.1 d_CCode_carryOutReference_167 rfl (lv_at hl 0 rfl) ?_
    refine rx_get (v := .ref (a 1)) B hI hcl_CCode hin_CCode 26 (wC_at_26 a z u34) 0 (by decide) hf_CCode_0 zw_106 rfl d_CCode_carryOutReference_168 ?_
    refine rx_getN (v := .ref (a 11)) B hI hcl_CThings hin_CThings 1 (wC_at_1 a z u34) 3 (by decide) hf_CThings_3 zw_165 rfl d_CCode_carryOutReference_171 ?_
    refine lv_iload_n B.1 B.2.1 d_CCode_carryOutReference_174 rfl (lv_at hl 2 rfl) ?_
    obtain ⟨r36, u37, h38, hf⟩ := zbd_some hf
    refine rx_Vi (n := 1) (As := [.int x2]) (rest := [.ref (a 31)]) B hI hl.1 (zc_CCShelf_typeOf_11 l D z a N x2 u34 r36 u37 h38) zw_197 zw_199 zw_200 zw_44 zw_198 (by decide +kernel) 11 (wC_at_11 a z u34) hcl_CShelf rfl rfl (Nat.le_of_ble_eq_true rfl) d_CCode_carryOutReference_175 ⟨Nat.le_of_ble_eq_true rfl, Nat.le_of_ble_eq_true rfl⟩ rfl rfl ⟨Nat.zero_le _, Nat.zero_le _⟩ (fun H locs hI => ?_)
    obtain ⟨r39, u40, h41, hf⟩ := zbd_some hf
    refine rx_Vi (n := 1) (As := [.int r36]) (rest := []) B hI hl.1 (zc_CCStack_take_31 l D z a N r36 u37 r39 u40 h41) zw_288 zw_225 zw_226 zw_82 zw_224 (by decide +kernel) 31 (wC_at_31 a z u37) hcl_CStack rfl rfl (Nat.le_of_ble_eq_true rfl) d_CCode_carryOutReference_178 ⟨Nat.le_of_ble_eq_true rfl, Nat.le_of_ble_eq_true rfl⟩ rfl rfl ⟨Nat.zero_le _, Nat.zero_le _⟩ (fun H locs hI => ?_)
    refine lv_pop B.1 B.2.1 d_CCode_carryOutReference_181 rfl ?_
    refine lv_aload_n B.1 B.2.1 d_CCode_carryOutReference_182 rfl (lv_at hl 0 rfl) ?_
    refine rx_get (v := .ref (a 31)) B hI hcl_CCode hin_CCode 26 (wC_at_26 a z u40) 1 (by decide) hf_CCode_1 zw_73 rfl d_CCode_carryOutReference_183 ?_
    refine lv_bipush (v := 127) B.1 B.2.1 d_CCode_carryOutReference_186 (by decide) ?_
    obtain ⟨r42, u43, h44, hf⟩ := zbd_some hf
    refine rx_Vv (n := 1) (As := [.int 127]) (rest := []) B hI hl.1 (zc_CCStack_give_31 l D z a N 127 u40 r42 u43 h44) zw_231 zw_233 zw_234 zw_82 zw_232 (by decide +kernel) 31 (wC_at_31 a z u40) hcl_CStack rfl rfl (Nat.le_of_ble_eq_true rfl) d_CCode_carryOutReference_188 ⟨Nat.le_of_ble_eq_true rfl, Nat.le_of_ble_eq_true rfl⟩ rfl rfl ⟨Nat.zero_le _, Nat.zero_le _⟩ (fun H locs hI => ?_)
    refine lv_goto (tgt := 236) B.1 B.2.1 d_CCode_carryOutReference_191 (by decide) ?_
    exact hb236  u43 _ _ _ hf hI (lv_sub hl [] rfl)
  rw [if_neg hc32] at hf
  by_cases hc45 : x1 = 273
  · rw [if_pos hc45] at hf
    refine lv_lookup (off := 193) (tgt := 194) B.1 B.2.1 d_CCode_carryOutReference_1 (by decide +kernel) (by rw [hc45]; decide +kernel) (by decide) ?_
    refine lv_aload_n B.1 B.2.1 d_CCode_carryOutReference_194 rfl (lv_at hl 0 rfl) ?_
    refine rx_get (v := .ref (a 31)) B hI hcl_CCode hin_CCode 26 (wC_at_26 a z u) 1 (by decide) hf_CCode_1 zw_73 rfl d_CCode_carryOutReference_195 ?_
    refine lv_bipush (v := 127) B.1 B.2.1 d_CCode_carryOutReference_198 (by decide) ?_
    obtain ⟨r46, u47, h48, hf⟩ := zbd_some hf
    refine rx_Vi (n := 1) (As := [.int 127]) (rest := []) B hI hl.1 (zc_CCStack_take_31 l D z a N 127 u r46 u47 h48) zw_288 zw_225 zw_226 zw_82 zw_224 (by decide +kernel) 31 (wC_at_31 a z u) hcl_CStack rfl rfl (Nat.le_of_ble_eq_true rfl) d_CCode_carryOutReference_200 ⟨Nat.le_of_ble_eq_true rfl, Nat.le_of_ble_eq_true rfl⟩ rfl rfl ⟨Nat.zero_le _, Nat.zero_le _⟩ (fun H locs hI => ?_)
    refine lv_pop B.1 B.2.1 d_CCode_carryOutReference_203 rfl ?_
    refine lv_aload_n B.1 B.2.1 d_CCode_carryOutReference_204 rfl (lv_at hl 0 rfl) ?_
    refine rx_get (v := .ref (a 31)) B hI hcl_CCode hin_CCode 26 (wC_at_26 a z u47) 1 (by decide) hf_CCode_1 zw_73 rfl d_CCode_carryOutReference_205 ?_
    refine lv_aload_n B.1 B.2.1 d_CCode_carryOutReference_208 rfl (lv_at hl 0 rfl) ?_
    refine rx_get (v := .ref (a 1)) B hI hcl_CCode hin_CCode 26 (wC_at_26 a z u47) 0 (by decide) hf_CCode_0 zw_106 rfl d_CCode_carryOutReference_209 ?_
    refine rx_getN (v := .ref (a 11)) B hI hcl_CThings hin_CThings 1 (wC_at_1 a z u47) 3 (by decide) hf_CThings_3 zw_165 rfl d_CCode_carryOutReference_212 ?_
    refine lv_iload_n B.1 B.2.1 d_CCode_carryOutReference_215 rfl (lv_at hl 2 rfl) ?_
    obtain ⟨r49, u50, h51, hf⟩ := zbd_some hf
    refine rx_Vi (n := 1) (As := [.int x2]) (rest := [.ref (a 31)]) B hI hl.1 (zc_CCShelf_typeOf_11 l D z a N x2 u47 r49 u50 h51) zw_197 zw_199 zw_200 zw_44 zw_198 (by decide +kernel) 11 (wC_at_11 a z u47) hcl_CShelf rfl rfl (Nat.le_of_ble_eq_true rfl) d_CCode_carryOutReference_216 ⟨Nat.le_of_ble_eq_true rfl, Nat.le_of_ble_eq_true rfl⟩ rfl rfl ⟨Nat.zero_le _, Nat.zero_le _⟩ (fun H locs hI => ?_)
    obtain ⟨r52, u53, h54, hf⟩ := zbd_some hf
    refine rx_Vi (n := 1) (As := [.int r49]) (rest := []) B hI hl.1 (zc_CCStack_take_31 l D z a N r49 u50 r52 u53 h54) zw_288 zw_225 zw_226 zw_82 zw_224 (by decide +kernel) 31 (wC_at_31 a z u50) hcl_CStack rfl rfl (Nat.le_of_ble_eq_true rfl) d_CCode_carryOutReference_219 ⟨Nat.le_of_ble_eq_true rfl, Nat.le_of_ble_eq_true rfl⟩ rfl rfl ⟨Nat.zero_le _, Nat.zero_le _⟩ (fun H locs hI => ?_)
    refine lv_pop B.1 B.2.1 d_CCode_carryOutReference_222 rfl ?_
    refine lv_aload_n B.1 B.2.1 d_CCode_carryOutReference_223 rfl (lv_at hl 0 rfl) ?_
    refine rx_get (v := .ref (a 31)) B hI hcl_CCode hin_CCode 26 (wC_at_26 a z u53) 1 (by decide) hf_CCode_1 zw_73 rfl d_CCode_carryOutReference_224 ?_
    refine lv_bipush (v := 127) B.1 B.2.1 d_CCode_carryOutReference_227 (by decide) ?_
    obtain ⟨r55, u56, h57, hf⟩ := zbd_some hf
    refine rx_Vi (n := 1) (As := [.int 127]) (rest := []) B hI hl.1 (zc_CCStack_take_31 l D z a N 127 u53 r55 u56 h57) zw_288 zw_225 zw_226 zw_82 zw_224 (by decide +kernel) 31 (wC_at_31 a z u53) hcl_CStack rfl rfl (Nat.le_of_ble_eq_true rfl) d_CCode_carryOutReference_229 ⟨Nat.le_of_ble_eq_true rfl, Nat.le_of_ble_eq_true rfl⟩ rfl rfl ⟨Nat.zero_le _, Nat.zero_le _⟩ (fun H locs hI => ?_)
    refine lv_pop B.1 B.2.1 d_CCode_carryOutReference_232 rfl ?_
    refine lv_goto (tgt := 236) B.1 B.2.1 d_CCode_carryOutReference_233 (by decide) ?_
    exact hb236  u56 _ _ _ hf hI (lv_sub hl [] rfl)
  rw [if_neg hc45] at hf
  refine lv_lookup (off := 235) (tgt := 236) B.1 B.2.1 d_CCode_carryOutReference_1 (by decide +kernel) ((lv_osw hc1 (by decide)).trans ((lv_osw hc11 (by decide)).trans ((lv_osw hc21 (by decide)).trans ((lv_osw hc25 (by decide)).trans ((lv_osw hc32 (by decide)).trans ((lv_osw hc45 (by decide)).trans (Op.lookupswitch.offset_nil _ _))))))) (by decide) ?_
  exact hb236  u _ _ _ hf hI (lv_sub hl [] rfl)
