set_option maxHeartbeats 4000000 in
set_option maxRecDepth 100000 in
theorem zc_CCShelf_put_17 (l : Launch) (D : va_G) (z : zZ) (a : Nat → Nat) (N : Nat) (x1 : Int32) (x2 : Int32) (u : zU) (r : Int32) (u1 : zU) (hf : zf_CCShelf_put_17 N x1 x2 u = some (r, u1)) : zMet l D z y_CShelf_put (.code y_CShelf_put b_CShelf_put 3 (some (.int))) { frames := 0, cells := 0, slots := 0, locals := 0 } [.ref (a 17), .int x1, .int x2] (wC a z u) (zQi D r (wC a z u1)) := by
  refine zM_i (own := R_CShelf) [.ref (a 17), .int x1, .int x2] (wC a z u) r (wC a z u1) (by decide) rfl (Nat.le_of_ble_eq_true rfl) ?_
  intro p e s m args below meth c A ls B hr hlk hI hl
  have hl : lv_has ls 3 [(0, .ref (a 17)), (1, .int x1), (2, .int x2)] := hl
  revert hf
  revert hI hl
  have hb31 : ∀  (u : zU) (H : Heap) (locs : List Loc) (ls : Array Slot), zf_CCShelf_put_17_b31 N   u = some (r, u1) → iw D A s (wC a z u) H locs → lv_has ls 3 [] → W p l e ({ frames := 0, cells := 0, slots := 0, locals := 0 } : Room) s m args below meth c H locs 0 0 (MQ below (zQi D r (wC a z u1) A) args s 0 0 A) (F0 m 31 ls []) := by
    intro  u H locs ls hf hI hl
    unfold zf_CCShelf_put_17_b31 at hf
    refine lv_iconst (v := (-1)) B.1 B.2.1 d_CShelf_put_31 (by decide) ?_
    obtain ⟨e1, e2⟩ := zrt hf
    exact zr_i (wC a z) B hI hr hlk e1 e2 d_CShelf_put_32
  intro hI hl hf
  unfold zf_CCShelf_put_17 at hf
  refine lv_aload_n B.1 B.2.1 d_CShelf_put_0 rfl (lv_at hl 0 rfl) ?_
  refine rx_get (v := .int (gi u 4)) B hI hcl_CShelf hin_CShelf 17 (wC_at_17 a z u) 2 (by decide) hf_CShelf_2 zw_40 rfl d_CShelf_put_1 ?_
  refine lv_if_lt (tgt := 31) B.1 B.2.1 d_CShelf_put_4 (by decide) (fun hc1 => ?_) (fun hc1 => ?_)
  · rw [if_pos hc1] at hf
    exact hb31  u _ _ _ hf hI (lv_sub hl [] rfl)
  · rw [if_neg hc1] at hf
    refine lv_aload_n B.1 B.2.1 d_CShelf_put_7 rfl (lv_at hl 0 rfl) ?_
    refine rx_get (v := .int (gi u 4)) B hI hcl_CShelf hin_CShelf 17 (wC_at_17 a z u) 2 (by decide) hf_CShelf_2 zw_40 rfl d_CShelf_put_8 ?_
    refine lv_aload_n B.1 B.2.1 d_CShelf_put_11 rfl (lv_at hl 0 rfl) ?_
    refine rx_get (v := .ref (a 18)) B hI hcl_CShelf hin_CShelf 17 (wC_at_17 a z u) 0 (by decide) hf_CShelf_0 zw_41 rfl d_CShelf_put_12 ?_
    refine rx_alen (v := 40) B hI 18 0 (wC_at_18 a z u) rfl rfl d_CShelf_put_15 ?_
    refine lv_icmp_ge (tgt := 31) B.1 B.2.1 d_CShelf_put_16 (by decide) (fun hc2 => ?_) (fun hc2 => ?_)
    · rw [if_pos hc2] at hf
      exact hb31  u _ _ _ hf hI (lv_sub hl [] rfl)
    · rw [if_neg hc2] at hf
      refine lv_aload_n B.1 B.2.1 d_CShelf_put_19 rfl (lv_at hl 0 rfl) ?_
      refine rx_get (v := .int (gi u 4)) B hI hcl_CShelf hin_CShelf 17 (wC_at_17 a z u) 2 (by decide) hf_CShelf_2 zw_40 rfl d_CShelf_put_20 ?_
      refine lv_aload_n B.1 B.2.1 d_CShelf_put_23 rfl (lv_at hl 0 rfl) ?_
      refine rx_get (v := .ref (a 19)) B hI hcl_CShelf hin_CShelf 17 (wC_at_17 a z u) 1 (by decide) hf_CShelf_1 zw_42 rfl d_CShelf_put_24 ?_
      refine rx_alen (v := 40) B hI 19 1 (wC_at_19 a z u) rfl rfl d_CShelf_put_27 ?_
      refine lv_icmp_lt (tgt := 33) B.1 B.2.1 d_CShelf_put_28 (by decide) (fun hc3 => ?_) (fun hc3 => ?_)
      · rw [if_pos hc3] at hf
        refine lv_aload_n B.1 B.2.1 d_CShelf_put_33 rfl (lv_at hl 0 rfl) ?_
        refine rx_get (v := .ref (a 18)) B hI hcl_CShelf hin_CShelf 17 (wC_at_17 a z u) 0 (by decide) hf_CShelf_0 zw_41 rfl d_CShelf_put_34 ?_
        refine lv_aload_n B.1 B.2.1 d_CShelf_put_37 rfl (lv_at hl 0 rfl) ?_
        refine rx_get (v := .int (gi u 4)) B hI hcl_CShelf hin_CShelf 17 (wC_at_17 a z u) 2 (by decide) hf_CShelf_2 zw_40 rfl d_CShelf_put_38 ?_
        refine lv_iload_n B.1 B.2.1 d_CShelf_put_41 rfl (lv_at hl 1 rfl) ?_
        obtain ⟨hi4, hf⟩ := zck_some hf
        refine rx_iast B hI 18 (wC_at_18 a z u) hi4 (wC_sa_10 a z u (gi u 4) x1) d_CShelf_put_42 (fun H locs hI => ?_)
        refine lv_aload_n B.1 B.2.1 d_CShelf_put_43 rfl (lv_at hl 0 rfl) ?_
        refine rx_get (v := .ref (a 19)) B hI hcl_CShelf hin_CShelf 17 (wC_at_17 a z (sa u 10 (gi u 4) x1)) 1 (by decide) hf_CShelf_1 zw_42 rfl d_CShelf_put_44 ?_
        refine lv_aload_n B.1 B.2.1 d_CShelf_put_47 rfl (lv_at hl 0 rfl) ?_
        refine rx_get (v := .int (gi u 4)) B hI hcl_CShelf hin_CShelf 17 (wC_at_17 a z (sa u 10 (gi u 4) x1)) 2 (by decide) hf_CShelf_2 zw_40 rfl d_CShelf_put_48 ?_
        refine lv_iload_n B.1 B.2.1 d_CShelf_put_51 rfl (lv_at hl 2 rfl) ?_
        obtain ⟨hi5, hf⟩ := zck_some hf
        refine rx_zast B hI 19 (wC_at_19 a z (sa u 10 (gi u 4) x1)) hi5 (wC_sa_11 a z (sa u 10 (gi u 4) x1) (gi u 4) (vp_nar .boolean x2)) d_CShelf_put_52 (fun H locs hI => ?_)
        refine lv_aload_n B.1 B.2.1 d_CShelf_put_53 rfl (lv_at hl 0 rfl) ?_
        refine lv_dup B.1 B.2.1 d_CShelf_put_54 rfl ?_
        refine rx_get (v := .int (gi u 4)) B hI hcl_CShelf hin_CShelf 17 (wC_at_17 a z (sa (sa u 10 (gi u 4) x1) 11 (gi u 4) (vp_nar .boolean x2))) 2 (by decide) hf_CShelf_2 zw_40 rfl d_CShelf_put_55 ?_
        refine lv_iconst (v := 1) B.1 B.2.1 d_CShelf_put_58 (by decide) ?_
        refine lv_iadd B.1 B.2.1 d_CShelf_put_59 ?_
        refine rx_put B hI hcl_CShelf hin_CShelf hty_CShelf hnm_CShelf 17 (wC_at_17 a z (sa (sa u 10 (gi u 4) x1) 11 (gi u 4) (vp_nar .boolean x2))) 2 (by decide) hf_CShelf_2 zw_40 rfl (ty := .int) (by decide +kernel) rfl rfl (Nat.le_of_ble_eq_true rfl) (wC_si_4 a z (sa (sa u 10 (gi u 4) x1) 11 (gi u 4) (vp_nar .boolean x2)) ((gi u 4) + 1)) d_CShelf_put_60 (fun H locs hI => ?_)
        refine lv_aload_n B.1 B.2.1 d_CShelf_put_63 rfl (lv_at hl 0 rfl) ?_
        refine rx_get (v := .int ((gi u 4) + 1)) B hI hcl_CShelf hin_CShelf 17 (wC_at_17 a z (si (sa (sa u 10 (gi u 4) x1) 11 (gi u 4) (vp_nar .boolean x2)) 4 ((gi u 4) + 1))) 2 (by decide) hf_CShelf_2 zw_40 rfl d_CShelf_put_64 ?_
        refine lv_iconst (v := 1) B.1 B.2.1 d_CShelf_put_67 (by decide) ?_
        refine lv_isub B.1 B.2.1 d_CShelf_put_68 ?_
        obtain ⟨e6, e7⟩ := zrt hf
        exact zr_i (wC a z) B hI hr hlk e6 e7 d_CShelf_put_69
      · rw [if_neg hc3] at hf
        exact hb31  u _ _ _ hf hI (lv_sub hl [] rfl)
set_option maxHeartbeats 4000000 in
set_option maxRecDepth 100000 in
theorem zc_CCShelf_put_14 (l : Launch) (D : va_G) (z : zZ) (a : Nat → Nat) (N : Nat) (x1 : Int32) (x2 : Int32) (u : zU) (r : Int32) (u1 : zU) (hf : zf_CCShelf_put_14 N x1 x2 u = some (r, u1)) : zMet l D z y_CShelf_put (.code y_CShelf_put b_CShelf_put 3 (some (.int))) { frames := 0, cells := 0, slots := 0, locals := 0 } [.ref (a 14), .int x1, .int x2] (wC a z u) (zQi D r (wC a z u1)) := by
  refine zM_i (own := R_CShelf) [.ref (a 14), .int x1, .int x2] (wC a z u) r (wC a z u1) (by decide) rfl (Nat.le_of_ble_eq_true rfl) ?_
  intro p e s m args below meth c A ls B hr hlk hI hl
  have hl : lv_has ls 3 [(0, .ref (a 14)), (1, .int x1), (2, .int x2)] := hl
  revert hf
  revert hI hl
  have hb31 : ∀  (u : zU) (H : Heap) (locs : List Loc) (ls : Array Slot), zf_CCShelf_put_14_b31 N   u = some (r, u1) → iw D A s (wC a z u) H locs → lv_has ls 3 [] → W p l e ({ frames := 0, cells := 0, slots := 0, locals := 0 } : Room) s m args below meth c H locs 0 0 (MQ below (zQi D r (wC a z u1) A) args s 0 0 A) (F0 m 31 ls []) := by
    intro  u H locs ls hf hI hl
    unfold zf_CCShelf_put_14_b31 at hf
    refine lv_iconst (v := (-1)) B.1 B.2.1 d_CShelf_put_31 (by decide) ?_
    obtain ⟨e1, e2⟩ := zrt hf
    exact zr_i (wC a z) B hI hr hlk e1 e2 d_CShelf_put_32
  intro hI hl hf
  unfold zf_CCShelf_put_14 at hf
  refine lv_aload_n B.1 B.2.1 d_CShelf_put_0 rfl (lv_at hl 0 rfl) ?_
  refine rx_get (v := .int (gi u 3)) B hI hcl_CShelf hin_CShelf 14 (wC_at_14 a z u) 2 (by decide) hf_CShelf_2 zw_40 rfl d_CShelf_put_1 ?_
  refine lv_if_lt (tgt := 31) B.1 B.2.1 d_CShelf_put_4 (by decide) (fun hc1 => ?_) (fun hc1 => ?_)
  · rw [if_pos hc1] at hf
    exact hb31  u _ _ _ hf hI (lv_sub hl [] rfl)
  · rw [if_neg hc1] at hf
    refine lv_aload_n B.1 B.2.1 d_CShelf_put_7 rfl (lv_at hl 0 rfl) ?_
    refine rx_get (v := .int (gi u 3)) B hI hcl_CShelf hin_CShelf 14 (wC_at_14 a z u) 2 (by decide) hf_CShelf_2 zw_40 rfl d_CShelf_put_8 ?_
    refine lv_aload_n B.1 B.2.1 d_CShelf_put_11 rfl (lv_at hl 0 rfl) ?_
    refine rx_get (v := .ref (a 15)) B hI hcl_CShelf hin_CShelf 14 (wC_at_14 a z u) 0 (by decide) hf_CShelf_0 zw_41 rfl d_CShelf_put_12 ?_
    refine rx_alen (v := 40) B hI 15 0 (wC_at_15 a z u) rfl rfl d_CShelf_put_15 ?_
    refine lv_icmp_ge (tgt := 31) B.1 B.2.1 d_CShelf_put_16 (by decide) (fun hc2 => ?_) (fun hc2 => ?_)
    · rw [if_pos hc2] at hf
      exact hb31  u _ _ _ hf hI (lv_sub hl [] rfl)
    · rw [if_neg hc2] at hf
      refine lv_aload_n B.1 B.2.1 d_CShelf_put_19 rfl (lv_at hl 0 rfl) ?_
      refine rx_get (v := .int (gi u 3)) B hI hcl_CShelf hin_CShelf 14 (wC_at_14 a z u) 2 (by decide) hf_CShelf_2 zw_40 rfl d_CShelf_put_20 ?_
      refine lv_aload_n B.1 B.2.1 d_CShelf_put_23 rfl (lv_at hl 0 rfl) ?_
      refine rx_get (v := .ref (a 16)) B hI hcl_CShelf hin_CShelf 14 (wC_at_14 a z u) 1 (by decide) hf_CShelf_1 zw_42 rfl d_CShelf_put_24 ?_
      refine rx_alen (v := 40) B hI 16 1 (wC_at_16 a z u) rfl rfl d_CShelf_put_27 ?_
      refine lv_icmp_lt (tgt := 33) B.1 B.2.1 d_CShelf_put_28 (by decide) (fun hc3 => ?_) (fun hc3 => ?_)
      · rw [if_pos hc3] at hf
        refine lv_aload_n B.1 B.2.1 d_CShelf_put_33 rfl (lv_at hl 0 rfl) ?_
        refine rx_get (v := .ref (a 15)) B hI hcl_CShelf hin_CShelf 14 (wC_at_14 a z u) 0 (by decide) hf_CShelf_0 zw_41 rfl d_CShelf_put_34 ?_
        refine lv_aload_n B.1 B.2.1 d_CShelf_put_37 rfl (lv_at hl 0 rfl) ?_
        refine rx_get (v := .int (gi u 3)) B hI hcl_CShelf hin_CShelf 14 (wC_at_14 a z u) 2 (by decide) hf_CShelf_2 zw_40 rfl d_CShelf_put_38 ?_
        refine lv_iload_n B.1 B.2.1 d_CShelf_put_41 rfl (lv_at hl 1 rfl) ?_
        obtain ⟨hi4, hf⟩ := zck_some hf
        refine rx_iast B hI 15 (wC_at_15 a z u) hi4 (wC_sa_8 a z u (gi u 3) x1) d_CShelf_put_42 (fun H locs hI => ?_)
        refine lv_aload_n B.1 B.2.1 d_CShelf_put_43 rfl (lv_at hl 0 rfl) ?_
        refine rx_get (v := .ref (a 16)) B hI hcl_CShelf hin_CShelf 14 (wC_at_14 a z (sa u 8 (gi u 3) x1)) 1 (by decide) hf_CShelf_1 zw_42 rfl d_CShelf_put_44 ?_
        refine lv_aload_n B.1 B.2.1 d_CShelf_put_47 rfl (lv_at hl 0 rfl) ?_
        refine rx_get (v := .int (gi u 3)) B hI hcl_CShelf hin_CShelf 14 (wC_at_14 a z (sa u 8 (gi u 3) x1)) 2 (by decide) hf_CShelf_2 zw_40 rfl d_CShelf_put_48 ?_
        refine lv_iload_n B.1 B.2.1 d_CShelf_put_51 rfl (lv_at hl 2 rfl) ?_
        obtain ⟨hi5, hf⟩ := zck_some hf
        refine rx_zast B hI 16 (wC_at_16 a z (sa u 8 (gi u 3) x1)) hi5 (wC_sa_9 a z (sa u 8 (gi u 3) x1) (gi u 3) (vp_nar .boolean x2)) d_CShelf_put_52 (fun H locs hI => ?_)
        refine lv_aload_n B.1 B.2.1 d_CShelf_put_53 rfl (lv_at hl 0 rfl) ?_
        refine lv_dup B.1 B.2.1 d_CShelf_put_54 rfl ?_
        refine rx_get (v := .int (gi u 3)) B hI hcl_CShelf hin_CShelf 14 (wC_at_14 a z (sa (sa u 8 (gi u 3) x1) 9 (gi u 3) (vp_nar .boolean x2))) 2 (by decide) hf_CShelf_2 zw_40 rfl d_CShelf_put_55 ?_
        refine lv_iconst (v := 1) B.1 B.2.1 d_CShelf_put_58 (by decide) ?_
        refine lv_iadd B.1 B.2.1 d_CShelf_put_59 ?_
        refine rx_put B hI hcl_CShelf hin_CShelf hty_CShelf hnm_CShelf 14 (wC_at_14 a z (sa (sa u 8 (gi u 3) x1) 9 (gi u 3) (vp_nar .boolean x2))) 2 (by decide) hf_CShelf_2 zw_40 rfl (ty := .int) (by decide +kernel) rfl rfl (Nat.le_of_ble_eq_true rfl) (wC_si_3 a z (sa (sa u 8 (gi u 3) x1) 9 (gi u 3) (vp_nar .boolean x2)) ((gi u 3) + 1)) d_CShelf_put_60 (fun H locs hI => ?_)
        refine lv_aload_n B.1 B.2.1 d_CShelf_put_63 rfl (lv_at hl 0 rfl) ?_
        refine rx_get (v := .int ((gi u 3) + 1)) B hI hcl_CShelf hin_CShelf 14 (wC_at_14 a z (si (sa (sa u 8 (gi u 3) x1) 9 (gi u 3) (vp_nar .boolean x2)) 3 ((gi u 3) + 1))) 2 (by decide) hf_CShelf_2 zw_40 rfl d_CShelf_put_64 ?_
        refine lv_iconst (v := 1) B.1 B.2.1 d_CShelf_put_67 (by decide) ?_
        refine lv_isub B.1 B.2.1 d_CShelf_put_68 ?_
        obtain ⟨e6, e7⟩ := zrt hf
        exact zr_i (wC a z) B hI hr hlk e6 e7 d_CShelf_put_69
      · rw [if_neg hc3] at hf
        exact hb31  u _ _ _ hf hI (lv_sub hl [] rfl)
set_option maxHeartbeats 4000000 in
set_option maxRecDepth 100000 in
theorem zc_CCShelf_put_11 (l : Launch) (D : va_G) (z : zZ) (a : Nat → Nat) (N : Nat) (x1 : Int32) (x2 : Int32) (u : zU) (r : Int32) (u1 : zU) (hf : zf_CCShelf_put_11 N x1 x2 u = some (r, u1)) : zMet l D z y_CShelf_put (.code y_CShelf_put b_CShelf_put 3 (some (.int))) { frames := 0, cells := 0, slots := 0, locals := 0 } [.ref (a 11), .int x1, .int x2] (wC a z u) (zQi D r (wC a z u1)) := by
  refine zM_i (own := R_CShelf) [.ref (a 11), .int x1, .int x2] (wC a z u) r (wC a z u1) (by decide) rfl (Nat.le_of_ble_eq_true rfl) ?_
  intro p e s m args below meth c A ls B hr hlk hI hl
  have hl : lv_has ls 3 [(0, .ref (a 11)), (1, .int x1), (2, .int x2)] := hl
  revert hf
  revert hI hl
  have hb31 : ∀  (u : zU) (H : Heap) (locs : List Loc) (ls : Array Slot), zf_CCShelf_put_11_b31 N   u = some (r, u1) → iw D A s (wC a z u) H locs → lv_has ls 3 [] → W p l e ({ frames := 0, cells := 0, slots := 0, locals := 0 } : Room) s m args below meth c H locs 0 0 (MQ below (zQi D r (wC a z u1) A) args s 0 0 A) (F0 m 31 ls []) := by
    intro  u H locs ls hf hI hl
    unfold zf_CCShelf_put_11_b31 at hf
    refine lv_iconst (v := (-1)) B.1 B.2.1 d_CShelf_put_31 (by decide) ?_
    obtain ⟨e1, e2⟩ := zrt hf
    exact zr_i (wC a z) B hI hr hlk e1 e2 d_CShelf_put_32
  intro hI hl hf
  unfold zf_CCShelf_put_11 at hf
  refine lv_aload_n B.1 B.2.1 d_CShelf_put_0 rfl (lv_at hl 0 rfl) ?_
  refine rx_get (v := .int (gi u 2)) B hI hcl_CShelf hin_CShelf 11 (wC_at_11 a z u) 2 (by decide) hf_CShelf_2 zw_40 rfl d_CShelf_put_1 ?_
  refine lv_if_lt (tgt := 31) B.1 B.2.1 d_CShelf_put_4 (by decide) (fun hc1 => ?_) (fun hc1 => ?_)
  · rw [if_pos hc1] at hf
    exact hb31  u _ _ _ hf hI (lv_sub hl [] rfl)
  · rw [if_neg hc1] at hf
    refine lv_aload_n B.1 B.2.1 d_CShelf_put_7 rfl (lv_at hl 0 rfl) ?_
    refine rx_get (v := .int (gi u 2)) B hI hcl_CShelf hin_CShelf 11 (wC_at_11 a z u) 2 (by decide) hf_CShelf_2 zw_40 rfl d_CShelf_put_8 ?_
    refine lv_aload_n B.1 B.2.1 d_CShelf_put_11 rfl (lv_at hl 0 rfl) ?_
    refine rx_get (v := .ref (a 12)) B hI hcl_CShelf hin_CShelf 11 (wC_at_11 a z u) 0 (by decide) hf_CShelf_0 zw_41 rfl d_CShelf_put_12 ?_
    refine rx_alen (v := 40) B hI 12 0 (wC_at_12 a z u) rfl rfl d_CShelf_put_15 ?_
    refine lv_icmp_ge (tgt := 31) B.1 B.2.1 d_CShelf_put_16 (by decide) (fun hc2 => ?_) (fun hc2 => ?_)
    · rw [if_pos hc2] at hf
      exact hb31  u _ _ _ hf hI (lv_sub hl [] rfl)
    · rw [if_neg hc2] at hf
      refine lv_aload_n B.1 B.2.1 d_CShelf_put_19 rfl (lv_at hl 0 rfl) ?_
      refine rx_get (v := .int (gi u 2)) B hI hcl_CShelf hin_CShelf 11 (wC_at_11 a z u) 2 (by decide) hf_CShelf_2 zw_40 rfl d_CShelf_put_20 ?_
      refine lv_aload_n B.1 B.2.1 d_CShelf_put_23 rfl (lv_at hl 0 rfl) ?_
      refine rx_get (v := .ref (a 13)) B hI hcl_CShelf hin_CShelf 11 (wC_at_11 a z u) 1 (by decide) hf_CShelf_1 zw_42 rfl d_CShelf_put_24 ?_
      refine rx_alen (v := 40) B hI 13 1 (wC_at_13 a z u) rfl rfl d_CShelf_put_27 ?_
      refine lv_icmp_lt (tgt := 33) B.1 B.2.1 d_CShelf_put_28 (by decide) (fun hc3 => ?_) (fun hc3 => ?_)
      · rw [if_pos hc3] at hf
        refine lv_aload_n B.1 B.2.1 d_CShelf_put_33 rfl (lv_at hl 0 rfl) ?_
        refine rx_get (v := .ref (a 12)) B hI hcl_CShelf hin_CShelf 11 (wC_at_11 a z u) 0 (by decide) hf_CShelf_0 zw_41 rfl d_CShelf_put_34 ?_
        refine lv_aload_n B.1 B.2.1 d_CShelf_put_37 rfl (lv_at hl 0 rfl) ?_
        refine rx_get (v := .int (gi u 2)) B hI hcl_CShelf hin_CShelf 11 (wC_at_11 a z u) 2 (by decide) hf_CShelf_2 zw_40 rfl d_CShelf_put_38 ?_
        refine lv_iload_n B.1 B.2.1 d_CShelf_put_41 rfl (lv_at hl 1 rfl) ?_
        obtain ⟨hi4, hf⟩ := zck_some hf
        refine rx_iast B hI 12 (wC_at_12 a z u) hi4 (wC_sa_6 a z u (gi u 2) x1) d_CShelf_put_42 (fun H locs hI => ?_)
        refine lv_aload_n B.1 B.2.1 d_CShelf_put_43 rfl (lv_at hl 0 rfl) ?_
        refine rx_get (v := .ref (a 13)) B hI hcl_CShelf hin_CShelf 11 (wC_at_11 a z (sa u 6 (gi u 2) x1)) 1 (by decide) hf_CShelf_1 zw_42 rfl d_CShelf_put_44 ?_
        refine lv_aload_n B.1 B.2.1 d_CShelf_put_47 rfl (lv_at hl 0 rfl) ?_
        refine rx_get (v := .int (gi u 2)) B hI hcl_CShelf hin_CShelf 11 (wC_at_11 a z (sa u 6 (gi u 2) x1)) 2 (by decide) hf_CShelf_2 zw_40 rfl d_CShelf_put_48 ?_
        refine lv_iload_n B.1 B.2.1 d_CShelf_put_51 rfl (lv_at hl 2 rfl) ?_
        obtain ⟨hi5, hf⟩ := zck_some hf
        refine rx_zast B hI 13 (wC_at_13 a z (sa u 6 (gi u 2) x1)) hi5 (wC_sa_7 a z (sa u 6 (gi u 2) x1) (gi u 2) (vp_nar .boolean x2)) d_CShelf_put_52 (fun H locs hI => ?_)
        refine lv_aload_n B.1 B.2.1 d_CShelf_put_53 rfl (lv_at hl 0 rfl) ?_
        refine lv_dup B.1 B.2.1 d_CShelf_put_54 rfl ?_
        refine rx_get (v := .int (gi u 2)) B hI hcl_CShelf hin_CShelf 11 (wC_at_11 a z (sa (sa u 6 (gi u 2) x1) 7 (gi u 2) (vp_nar .boolean x2))) 2 (by decide) hf_CShelf_2 zw_40 rfl d_CShelf_put_55 ?_
        refine lv_iconst (v := 1) B.1 B.2.1 d_CShelf_put_58 (by decide) ?_
        refine lv_iadd B.1 B.2.1 d_CShelf_put_59 ?_
        refine rx_put B hI hcl_CShelf hin_CShelf hty_CShelf hnm_CShelf 11 (wC_at_11 a z (sa (sa u 6 (gi u 2) x1) 7 (gi u 2) (vp_nar .boolean x2))) 2 (by decide) hf_CShelf_2 zw_40 rfl (ty := .int) (by decide +kernel) rfl rfl (Nat.le_of_ble_eq_true rfl) (wC_si_2 a z (sa (sa u 6 (gi u 2) x1) 7 (gi u 2) (vp_nar .boolean x2)) ((gi u 2) + 1)) d_CShelf_put_60 (fun H locs hI => ?_)
        refine lv_aload_n B.1 B.2.1 d_CShelf_put_63 rfl (lv_at hl 0 rfl) ?_
        refine rx_get (v := .int ((gi u 2) + 1)) B hI hcl_CShelf hin_CShelf 11 (wC_at_11 a z (si (sa (sa u 6 (gi u 2) x1) 7 (gi u 2) (vp_nar .boolean x2)) 2 ((gi u 2) + 1))) 2 (by decide) hf_CShelf_2 zw_40 rfl d_CShelf_put_64 ?_
        refine lv_iconst (v := 1) B.1 B.2.1 d_CShelf_put_67 (by decide) ?_
        refine lv_isub B.1 B.2.1 d_CShelf_put_68 ?_
        obtain ⟨e6, e7⟩ := zrt hf
        exact zr_i (wC a z) B hI hr hlk e6 e7 d_CShelf_put_69
      · rw [if_neg hc3] at hf
        exact hb31  u _ _ _ hf hI (lv_sub hl [] rfl)
set_option maxHeartbeats 4000000 in
set_option maxRecDepth 100000 in
theorem zc_CCThings_hasType_1 (l : Launch) (D : va_G) (z : zZ) (a : Nat → Nat) (N : Nat) (x1 : Int32) (u : zU) (r : Int32) (u1 : zU) (hf : zf_CCThings_hasType_1 N x1 u = some (r, u1)) : zMet l D z y_CThings_hasType (.code y_CThings_hasType b_CThings_hasType 2 (some (.boolean))) { frames := 0, cells := 0, slots := 0, locals := 0 } [.ref (a 1), .int x1] (wC a z u) (zQi D r (wC a z u1)) := by
  refine zM_i (own := R_CThings) [.ref (a 1), .int x1] (wC a z u) r (wC a z u1) (by decide) rfl (Nat.le_of_ble_eq_true rfl) ?_
  intro p e s m args below meth c A ls B hr hlk hI hl
  have hl : lv_has ls 2 [(0, .ref (a 1)), (1, .int x1)] := hl
  revert hf
  revert hI hl
  have hb17 : ∀ (s0 : Int32) (u : zU) (H : Heap) (locs : List Loc) (ls : Array Slot), zf_CCThings_hasType_1_b17 N  s0 u = some (r, u1) → iw D A s (wC a z u) H locs → lv_has ls 2 [] → W p l e ({ frames := 0, cells := 0, slots := 0, locals := 0 } : Room) s m args below meth c H locs 0 0 (MQ below (zQi D r (wC a z u1) A) args s 0 0 A) (F0 m 17 ls [.int s0]) := by
    intro s0 u H locs ls hf hI hl
    unfold zf_CCThings_hasType_1_b17 at hf
    obtain ⟨hz3, hf⟩ := zck_some hf
    obtain ⟨e1, e2⟩ := zrt hf
    exact zr_z (wC a z) B hI hr hlk hz3 e1 e2 d_CThings_hasType_17
  have hb16 : ∀  (u : zU) (H : Heap) (locs : List Loc) (ls : Array Slot), zf_CCThings_hasType_1_b16 N   u = some (r, u1) → iw D A s (wC a z u) H locs → lv_has ls 2 [] → W p l e ({ frames := 0, cells := 0, slots := 0, locals := 0 } : Room) s m args below meth c H locs 0 0 (MQ below (zQi D r (wC a z u1) A) args s 0 0 A) (F0 m 16 ls []) := by
    intro  u H locs ls hf hI hl
    unfold zf_CCThings_hasType_1_b16 at hf
    refine lv_iconst (v := 0) B.1 B.2.1 d_CThings_hasType_16 (by decide) ?_
    exact hb17 0 u _ _ _ hf hI (lv_sub hl [] rfl)
  intro hI hl hf
  unfold zf_CCThings_hasType_1 at hf
  refine lv_iload_n B.1 B.2.1 d_CThings_hasType_0 rfl (lv_at hl 1 rfl) ?_
  refine lv_if_lt (tgt := 16) B.1 B.2.1 d_CThings_hasType_1 (by decide) (fun hc1 => ?_) (fun hc1 => ?_)
  · rw [if_pos hc1] at hf
    exact hb16  u _ _ _ hf hI (lv_sub hl [] rfl)
  · rw [if_neg hc1] at hf
    refine lv_iload_n B.1 B.2.1 d_CThings_hasType_4 rfl (lv_at hl 1 rfl) ?_
    refine lv_aload_n B.1 B.2.1 d_CThings_hasType_5 rfl (lv_at hl 0 rfl) ?_
    refine rx_get (v := .int (gi u 0)) B hI hcl_CThings hin_CThings 1 (wC_at_1 a z u) 8 (by decide) hf_CThings_8 zw_1 rfl d_CThings_hasType_6 ?_
    refine lv_icmp_ge (tgt := 16) B.1 B.2.1 d_CThings_hasType_9 (by decide) (fun hc2 => ?_) (fun hc2 => ?_)
    · rw [if_pos hc2] at hf
      exact hb16  u _ _ _ hf hI (lv_sub hl [] rfl)
    · rw [if_neg hc2] at hf
      refine lv_iconst (v := 1) B.1 B.2.1 d_CThings_hasType_12 (by decide) ?_
      refine lv_goto (tgt := 17) B.1 B.2.1 d_CThings_hasType_13 (by decide) ?_
      exact hb17 1 u _ _ _ hf hI (lv_sub hl [] rfl)
set_option maxHeartbeats 4000000 in
set_option maxRecDepth 100000 in
theorem zc_CCShelf_put_8 (l : Launch) (D : va_G) (z : zZ) (a : Nat → Nat) (N : Nat) (x1 : Int32) (x2 : Int32) (u : zU) (r : Int32) (u1 : zU) (hf : zf_CCShelf_put_8 N x1 x2 u = some (r, u1)) : zMet l D z y_CShelf_put (.code y_CShelf_put b_CShelf_put 3 (some (.int))) { frames := 0, cells := 0, slots := 0, locals := 0 } [.ref (a 8), .int x1, .int x2] (wC a z u) (zQi D r (wC a z u1)) := by
  refine zM_i (own := R_CShelf) [.ref (a 8), .int x1, .int x2] (wC a z u) r (wC a z u1) (by decide) rfl (Nat.le_of_ble_eq_true rfl) ?_
  intro p e s m args below meth c A ls B hr hlk hI hl
  have hl : lv_has ls 3 [(0, .ref (a 8)), (1, .int x1), (2, .int x2)] := hl
  revert hf
  revert hI hl
  have hb31 : ∀  (u : zU) (H : Heap) (locs : List Loc) (ls : Array Slot), zf_CCShelf_put_8_b31 N   u = some (r, u1) → iw D A s (wC a z u) H locs → lv_has ls 3 [] → W p l e ({ frames := 0, cells := 0, slots := 0, locals := 0 } : Room) s m args below meth c H locs 0 0 (MQ below (zQi D r (wC a z u1) A) args s 0 0 A) (F0 m 31 ls []) := by
    intro  u H locs ls hf hI hl
    unfold zf_CCShelf_put_8_b31 at hf
    refine lv_iconst (v := (-1)) B.1 B.2.1 d_CShelf_put_31 (by decide) ?_
    obtain ⟨e1, e2⟩ := zrt hf
    exact zr_i (wC a z) B hI hr hlk e1 e2 d_CShelf_put_32
  intro hI hl hf
  unfold zf_CCShelf_put_8 at hf
  refine lv_aload_n B.1 B.2.1 d_CShelf_put_0 rfl (lv_at hl 0 rfl) ?_
  refine rx_get (v := .int (gi u 1)) B hI hcl_CShelf hin_CShelf 8 (wC_at_8 a z u) 2 (by decide) hf_CShelf_2 zw_40 rfl d_CShelf_put_1 ?_
  refine lv_if_lt (tgt := 31) B.1 B.2.1 d_CShelf_put_4 (by decide) (fun hc1 => ?_) (fun hc1 => ?_)
  · rw [if_pos hc1] at hf
    exact hb31  u _ _ _ hf hI (lv_sub hl [] rfl)
  · rw [if_neg hc1] at hf
    refine lv_aload_n B.1 B.2.1 d_CShelf_put_7 rfl (lv_at hl 0 rfl) ?_
    refine rx_get (v := .int (gi u 1)) B hI hcl_CShelf hin_CShelf 8 (wC_at_8 a z u) 2 (by decide) hf_CShelf_2 zw_40 rfl d_CShelf_put_8 ?_
    refine lv_aload_n B.1 B.2.1 d_CShelf_put_11 rfl (lv_at hl 0 rfl) ?_
    refine rx_get (v := .ref (a 9)) B hI hcl_CShelf hin_CShelf 8 (wC_at_8 a z u) 0 (by decide) hf_CShelf_0 zw_41 rfl d_CShelf_put_12 ?_
    refine rx_alen (v := 40) B hI 9 0 (wC_at_9 a z u) rfl rfl d_CShelf_put_15 ?_
    refine lv_icmp_ge (tgt := 31) B.1 B.2.1 d_CShelf_put_16 (by decide) (fun hc2 => ?_) (fun hc2 => ?_)
    · rw [if_pos hc2] at hf
      exact hb31  u _ _ _ hf hI (lv_sub hl [] rfl)
    · rw [if_neg hc2] at hf
      refine lv_aload_n B.1 B.2.1 d_CShelf_put_19 rfl (lv_at hl 0 rfl) ?_
      refine rx_get (v := .int (gi u 1)) B hI hcl_CShelf hin_CShelf 8 (wC_at_8 a z u) 2 (by decide) hf_CShelf_2 zw_40 rfl d_CShelf_put_20 ?_
      refine lv_aload_n B.1 B.2.1 d_CShelf_put_23 rfl (lv_at hl 0 rfl) ?_
      refine rx_get (v := .ref (a 10)) B hI hcl_CShelf hin_CShelf 8 (wC_at_8 a z u) 1 (by decide) hf_CShelf_1 zw_42 rfl d_CShelf_put_24 ?_
      refine rx_alen (v := 40) B hI 10 1 (wC_at_10 a z u) rfl rfl d_CShelf_put_27 ?_
      refine lv_icmp_lt (tgt := 33) B.1 B.2.1 d_CShelf_put_28 (by decide) (fun hc3 => ?_) (fun hc3 => ?_)
      · rw [if_pos hc3] at hf
        refine lv_aload_n B.1 B.2.1 d_CShelf_put_33 rfl (lv_at hl 0 rfl) ?_
        refine rx_get (v := .ref (a 9)) B hI hcl_CShelf hin_CShelf 8 (wC_at_8 a z u) 0 (by decide) hf_CShelf_0 zw_41 rfl d_CShelf_put_34 ?_
        refine lv_aload_n B.1 B.2.1 d_CShelf_put_37 rfl (lv_at hl 0 rfl) ?_
        refine rx_get (v := .int (gi u 1)) B hI hcl_CShelf hin_CShelf 8 (wC_at_8 a z u) 2 (by decide) hf_CShelf_2 zw_40 rfl d_CShelf_put_38 ?_
        refine lv_iload_n B.1 B.2.1 d_CShelf_put_41 rfl (lv_at hl 1 rfl) ?_
        obtain ⟨hi4, hf⟩ := zck_some hf
        refine rx_iast B hI 9 (wC_at_9 a z u) hi4 (wC_sa_4 a z u (gi u 1) x1) d_CShelf_put_42 (fun H locs hI => ?_)
        refine lv_aload_n B.1 B.2.1 d_CShelf_put_43 rfl (lv_at hl 0 rfl) ?_
        refine rx_get (v := .ref (a 10)) B hI hcl_CShelf hin_CShelf 8 (wC_at_8 a z (sa u 4 (gi u 1) x1)) 1 (by decide) hf_CShelf_1 zw_42 rfl d_CShelf_put_44 ?_
        refine lv_aload_n B.1 B.2.1 d_CShelf_put_47 rfl (lv_at hl 0 rfl) ?_
        refine rx_get (v := .int (gi u 1)) B hI hcl_CShelf hin_CShelf 8 (wC_at_8 a z (sa u 4 (gi u 1) x1)) 2 (by decide) hf_CShelf_2 zw_40 rfl d_CShelf_put_48 ?_
        refine lv_iload_n B.1 B.2.1 d_CShelf_put_51 rfl (lv_at hl 2 rfl) ?_
        obtain ⟨hi5, hf⟩ := zck_some hf
        refine rx_zast B hI 10 (wC_at_10 a z (sa u 4 (gi u 1) x1)) hi5 (wC_sa_5 a z (sa u 4 (gi u 1) x1) (gi u 1) (vp_nar .boolean x2)) d_CShelf_put_52 (fun H locs hI => ?_)
        refine lv_aload_n B.1 B.2.1 d_CShelf_put_53 rfl (lv_at hl 0 rfl) ?_
        refine lv_dup B.1 B.2.1 d_CShelf_put_54 rfl ?_
        refine rx_get (v := .int (gi u 1)) B hI hcl_CShelf hin_CShelf 8 (wC_at_8 a z (sa (sa u 4 (gi u 1) x1) 5 (gi u 1) (vp_nar .boolean x2))) 2 (by decide) hf_CShelf_2 zw_40 rfl d_CShelf_put_55 ?_
        refine lv_iconst (v := 1) B.1 B.2.1 d_CShelf_put_58 (by decide) ?_
        refine lv_iadd B.1 B.2.1 d_CShelf_put_59 ?_
        refine rx_put B hI hcl_CShelf hin_CShelf hty_CShelf hnm_CShelf 8 (wC_at_8 a z (sa (sa u 4 (gi u 1) x1) 5 (gi u 1) (vp_nar .boolean x2))) 2 (by decide) hf_CShelf_2 zw_40 rfl (ty := .int) (by decide +kernel) rfl rfl (Nat.le_of_ble_eq_true rfl) (wC_si_1 a z (sa (sa u 4 (gi u 1) x1) 5 (gi u 1) (vp_nar .boolean x2)) ((gi u 1) + 1)) d_CShelf_put_60 (fun H locs hI => ?_)
        refine lv_aload_n B.1 B.2.1 d_CShelf_put_63 rfl (lv_at hl 0 rfl) ?_
        refine rx_get (v := .int ((gi u 1) + 1)) B hI hcl_CShelf hin_CShelf 8 (wC_at_8 a z (si (sa (sa u 4 (gi u 1) x1) 5 (gi u 1) (vp_nar .boolean x2)) 1 ((gi u 1) + 1))) 2 (by decide) hf_CShelf_2 zw_40 rfl d_CShelf_put_64 ?_
        refine lv_iconst (v := 1) B.1 B.2.1 d_CShelf_put_67 (by decide) ?_
        refine lv_isub B.1 B.2.1 d_CShelf_put_68 ?_
        obtain ⟨e6, e7⟩ := zrt hf
        exact zr_i (wC a z) B hI hr hlk e6 e7 d_CShelf_put_69
      · rw [if_neg hc3] at hf
        exact hb31  u _ _ _ hf hI (lv_sub hl [] rfl)
set_option maxHeartbeats 4000000 in
set_option maxRecDepth 100000 in
theorem zc_CCThings_addThing_1 (l : Launch) (D : va_G) (z : zZ) (a : Nat → Nat) (N : Nat) (x1 : Int32) (x2 : Int32) (x3 : Int32) (u : zU) (r : Int32) (u1 : zU) (hf : zf_CCThings_addThing_1 N x1 x2 x3 u = some (r, u1)) : zMet l D z y_CThings_addThing (.code y_CThings_addThing b_CThings_addThing 4 (some (.int))) { frames := 2, cells := 0, slots := 0, locals := 40 } [.ref (a 1), .int x1, .int x2, .int x3] (wC a z u) (zQi D r (wC a z u1)) := by
  refine zM_i (own := R_CThings) [.ref (a 1), .int x1, .int x2, .int x3] (wC a z u) r (wC a z u1) (by decide) rfl (Nat.le_of_ble_eq_true rfl) ?_
  intro p e s m args below meth c A ls B hr hlk hI hl
  have hl : lv_has ls 4 [(0, .ref (a 1)), (1, .int x1), (2, .int x2), (3, .int x3)] := hl
  revert hf
  revert hI hl
  have hb61 : ∀ (s0 : Int32) (u : zU) (H : Heap) (locs : List Loc) (ls : Array Slot), zf_CCThings_addThing_1_b61 N  s0 u = some (r, u1) → iw D A s (wC a z u) H locs → lv_has ls 4 [] → W p l e ({ frames := 2, cells := 0, slots := 0, locals := 40 } : Room) s m args below meth c H locs 0 0 (MQ below (zQi D r (wC a z u1) A) args s 0 0 A) (F0 m 61 ls [.int s0]) := by
    intro s0 u H locs ls hf hI hl
    unfold zf_CCThings_addThing_1_b61 at hf
    obtain ⟨e1, e2⟩ := zrt hf
    exact zr_i (wC a z) B hI hr hlk e1 e2 d_CThings_addThing_61
  have hb82 : ∀ (s0 : Int32) (u : zU) (H : Heap) (locs : List Loc) (ls : Array Slot), zf_CCThings_addThing_1_b82 N  s0 u = some (r, u1) → iw D A s (wC a z u) H locs → lv_has ls 4 [] → W p l e ({ frames := 2, cells := 0, slots := 0, locals := 40 } : Room) s m args below meth c H locs 0 0 (MQ below (zQi D r (wC a z u1) A) args s 0 0 A) (F0 m 82 ls [.int s0]) := by
    intro s0 u H locs ls hf hI hl
    unfold zf_CCThings_addThing_1_b82 at hf
    obtain ⟨e1, e2⟩ := zrt hf
    exact zr_i (wC a z) B hI hr hlk e1 e2 d_CThings_addThing_82
  have hb131 : ∀ (s0 : Int32) (u : zU) (H : Heap) (locs : List Loc) (ls : Array Slot), zf_CCThings_addThing_1_b131 N  s0 u = some (r, u1) → iw D A s (wC a z u) H locs → lv_has ls 4 [] → W p l e ({ frames := 2, cells := 0, slots := 0, locals := 40 } : Room) s m args below meth c H locs 0 0 (MQ below (zQi D r (wC a z u1) A) args s 0 0 A) (F0 m 131 ls [.int s0]) := by
    intro s0 u H locs ls hf hI hl
    unfold zf_CCThings_addThing_1_b131 at hf
    obtain ⟨e1, e2⟩ := zrt hf
    exact zr_i (wC a z) B hI hr hlk e1 e2 d_CThings_addThing_131
  have hb130 : ∀  (u : zU) (H : Heap) (locs : List Loc) (ls : Array Slot), zf_CCThings_addThing_1_b130 N   u = some (r, u1) → iw D A s (wC a z u) H locs → lv_has ls 4 [] → W p l e ({ frames := 2, cells := 0, slots := 0, locals := 40 } : Room) s m args below meth c H locs 0 0 (MQ below (zQi D r (wC a z u1) A) args s 0 0 A) (F0 m 130 ls []) := by
    intro  u H locs ls hf hI hl
    unfold zf_CCThings_addThing_1_b130 at hf
    refine lv_iconst (v := (-1)) B.1 B.2.1 d_CThings_addThing_130 (by decide) ?_
    exact hb131 (-1) u _ _ _ hf hI (lv_sub hl [] rfl)
  have hb124 : ∀ (s0 : Int32) (s1 : Int32) (u : zU) (H : Heap) (locs : List Loc) (ls : Array Slot), zf_CCThings_addThing_1_b124 N  s0 s1 u = some (r, u1) → iw D A s (wC a z u) H locs → lv_has ls 4 [] → W p l e ({ frames := 2, cells := 0, slots := 0, locals := 40 } : Room) s m args below meth c H locs 0 0 (MQ below (zQi D r (wC a z u1) A) args s 0 0 A) (F0 m 124 ls [.int s0, .int s1, .ref (a 17)]) := by
    intro s0 s1 u H locs ls hf hI hl
    unfold zf_CCThings_addThing_1_b124 at hf
    obtain ⟨r1, u2, h3, hf⟩ := zbd_some hf
    refine rx_Vi (n := 2) (As := [.int s1, .int s0]) (rest := []) B hI hl.1 (zc_CCShelf_put_17 l D z a N s1 s0 u r1 u2 h3) zw_43 zw_46 zw_47 zw_44 zw_45 (by decide +kernel) 17 (wC_at_17 a z u) hcl_CShelf rfl rfl (Nat.le_of_ble_eq_true rfl) d_CThings_addThing_124 ⟨Nat.le_of_ble_eq_true rfl, Nat.le_of_ble_eq_true rfl⟩ rfl rfl ⟨Nat.zero_le _, Nat.zero_le _⟩ (fun H locs hI => ?_)
    refine lv_goto (tgt := 131) B.1 B.2.1 d_CThings_addThing_127 (by decide) ?_
    exact hb131 r1 u2 _ _ _ hf hI (lv_sub hl [] rfl)
  have hb109 : ∀ (x2 : Int32) (x3 : Int32) (u : zU) (H : Heap) (locs : List Loc) (ls : Array Slot), zf_CCThings_addThing_1_b109 N  x2 x3 u = some (r, u1) → iw D A s (wC a z u) H locs → lv_has ls 4 [(0, .ref (a 1)), (2, .int x2), (3, .int x3)] → W p l e ({ frames := 2, cells := 0, slots := 0, locals := 40 } : Room) s m args below meth c H locs 0 0 (MQ below (zQi D r (wC a z u1) A) args s 0 0 A) (F0 m 109 ls []) := by
    intro x2 x3 u H locs ls hf hI hl
    unfold zf_CCThings_addThing_1_b109 at hf
    refine lv_aload_n B.1 B.2.1 d_CThings_addThing_109 rfl (lv_at hl 0 rfl) ?_
    refine rx_get (v := .ref (a 17)) B hI hcl_CThings hin_CThings 1 (wC_at_1 a z u) 5 (by decide) hf_CThings_5 zw_51 rfl d_CThings_addThing_110 ?_
    refine lv_iload_n B.1 B.2.1 d_CThings_addThing_113 rfl (lv_at hl 1 rfl) ?_
    refine lv_iload_n B.1 B.2.1 d_CThings_addThing_114 rfl (lv_at hl 2 rfl) ?_
    refine lv_iconst (v := 1) B.1 B.2.1 d_CThings_addThing_115 (by decide) ?_
    refine lv_icmp_ne (tgt := 123) B.1 B.2.1 d_CThings_addThing_116 (by decide) (fun hc1 => ?_) (fun hc1 => ?_)
    · rw [if_neg hc1] at hf
      refine lv_iconst (v := 0) B.1 B.2.1 d_CThings_addThing_123 (by decide) ?_
      exact hb124 0 x2 u _ _ _ hf hI (lv_sub hl [] rfl)
    · rw [if_pos hc1] at hf
      refine lv_iconst (v := 1) B.1 B.2.1 d_CThings_addThing_119 (by decide) ?_
      refine lv_goto (tgt := 124) B.1 B.2.1 d_CThings_addThing_120 (by decide) ?_
      exact hb124 1 x2 u _ _ _ hf hI (lv_sub hl [] rfl)
  have hb152 : ∀ (s0 : Int32) (u : zU) (H : Heap) (locs : List Loc) (ls : Array Slot), zf_CCThings_addThing_1_b152 N  s0 u = some (r, u1) → iw D A s (wC a z u) H locs → lv_has ls 4 [] → W p l e ({ frames := 2, cells := 0, slots := 0, locals := 40 } : Room) s m args below meth c H locs 0 0 (MQ below (zQi D r (wC a z u1) A) args s 0 0 A) (F0 m 152 ls [.int s0]) := by
    intro s0 u H locs ls hf hI hl
    unfold zf_CCThings_addThing_1_b152 at hf
    obtain ⟨e1, e2⟩ := zrt hf
    exact zr_i (wC a z) B hI hr hlk e1 e2 d_CThings_addThing_152
  intro hI hl hf
  unfold zf_CCThings_addThing_1 at hf
  refine lv_iload_n B.1 B.2.1 d_CThings_addThing_0 rfl (lv_at hl 1 rfl) ?_
  by_cases hc1 : x1 = 0
  · rw [if_pos hc1] at hf
    refine lv_tableIn (off := 39) (tgt := 40) B.1 B.2.1 d_CThings_addThing_1 (by rw [hc1]; decide +kernel) (by rw [hc1]; decide +kernel) (by rw [hc1]; decide +kernel) (by decide) ?_
    refine lv_aload_n B.1 B.2.1 d_CThings_addThing_40 rfl (lv_at hl 0 rfl) ?_
    refine lv_iload_n B.1 B.2.1 d_CThings_addThing_41 rfl (lv_at hl 2 rfl) ?_
    obtain ⟨r2, u3, h4, hf⟩ := zbd_some hf
    refine rx_Vi (n := 1) (As := [.int x2]) (rest := []) B hI hl.1 (zc_CCThings_hasType_1 l D z a N x2 u r2 u3 h4) zw_54 zw_56 zw_57 zw_3 zw_55 (by decide +kernel) 1 (wC_at_1 a z u) hcl_CThings rfl rfl (Nat.le_of_ble_eq_true rfl) d_CThings_addThing_42 ⟨Nat.le_of_ble_eq_true rfl, Nat.le_of_ble_eq_true rfl⟩ rfl rfl ⟨Nat.zero_le _, Nat.zero_le _⟩ (fun H locs hI => ?_)
    refine lv_if_eq (tgt := 60) B.1 B.2.1 d_CThings_addThing_45 (by decide) (fun hc5 => ?_) (fun hc5 => ?_)
    · rw [if_pos hc5] at hf
      refine lv_iconst (v := (-1)) B.1 B.2.1 d_CThings_addThing_60 (by decide) ?_
      exact hb61 (-1) u3 _ _ _ hf hI (lv_sub hl [] rfl)
    · rw [if_neg hc5] at hf
      refine lv_aload_n B.1 B.2.1 d_CThings_addThing_48 rfl (lv_at hl 0 rfl) ?_
      refine rx_get (v := .ref (a 8)) B hI hcl_CThings hin_CThings 1 (wC_at_1 a z u3) 2 (by decide) hf_CThings_2 zw_58 rfl d_CThings_addThing_49 ?_
      refine lv_iload_n B.1 B.2.1 d_CThings_addThing_52 rfl (lv_at hl 2 rfl) ?_
      refine lv_iconst (v := 0) B.1 B.2.1 d_CThings_addThing_53 (by decide) ?_
      obtain ⟨r6, u7, h8, hf⟩ := zbd_some hf
      refine rx_Vi (n := 2) (As := [.int x2, .int 0]) (rest := []) B hI hl.1 (zc_CCShelf_put_8 l D z a N x2 0 u3 r6 u7 h8) zw_43 zw_46 zw_47 zw_44 zw_45 (by decide +kernel) 8 (wC_at_8 a z u3) hcl_CShelf rfl rfl (Nat.le_of_ble_eq_true rfl) d_CThings_addThing_54 ⟨Nat.le_of_ble_eq_true rfl, Nat.le_of_ble_eq_true rfl⟩ rfl rfl ⟨Nat.zero_le _, Nat.zero_le _⟩ (fun H locs hI => ?_)
      refine lv_goto (tgt := 61) B.1 B.2.1 d_CThings_addThing_57 (by decide) ?_
      exact hb61 r6 u7 _ _ _ hf hI (lv_sub hl [] rfl)
  rw [if_neg hc1] at hf
  by_cases hc9 : x1 = 1
  · rw [if_pos hc9] at hf
    refine lv_tableIn (off := 61) (tgt := 62) B.1 B.2.1 d_CThings_addThing_1 (by rw [hc9]; decide +kernel) (by rw [hc9]; decide +kernel) (by rw [hc9]; decide +kernel) (by decide) ?_
    refine lv_iload_n B.1 B.2.1 d_CThings_addThing_62 rfl (lv_at hl 2 rfl) ?_
    obtain ⟨r10, u11, h12, hf⟩ := zbd_some hf
    refine rx_Mi (n := 1) (As := [.int x2]) (rest := []) B hI hl.1 (zc_CCC_isReferenceType l D z a N x2 u r10 u11 h12) zw_48 zw_17 zw_15 zw_16 (by decide +kernel) rfl rfl (Nat.le_of_ble_eq_true rfl) d_CThings_addThing_63 ⟨Nat.le_of_ble_eq_true rfl, Nat.le_of_ble_eq_true rfl⟩ rfl rfl ⟨Nat.zero_le _, Nat.zero_le _⟩ (fun H locs hI => ?_)
    refine lv_if_eq (tgt := 81) B.1 B.2.1 d_CThings_addThing_66 (by decide) (fun hc13 => ?_) (fun hc13 => ?_)
    · rw [if_pos hc13] at hf
      refine lv_iconst (v := (-1)) B.1 B.2.1 d_CThings_addThing_81 (by decide) ?_
      exact hb82 (-1) u11 _ _ _ hf hI (lv_sub hl [] rfl)
    · rw [if_neg hc13] at hf
      refine lv_aload_n B.1 B.2.1 d_CThings_addThing_69 rfl (lv_at hl 0 rfl) ?_
      refine rx_get (v := .ref (a 11)) B hI hcl_CThings hin_CThings 1 (wC_at_1 a z u11) 3 (by decide) hf_CThings_3 zw_53 rfl d_CThings_addThing_70 ?_
      refine lv_iload_n B.1 B.2.1 d_CThings_addThing_73 rfl (lv_at hl 2 rfl) ?_
      refine lv_iconst (v := 0) B.1 B.2.1 d_CThings_addThing_74 (by decide) ?_
      obtain ⟨r14, u15, h16, hf⟩ := zbd_some hf
      refine rx_Vi (n := 2) (As := [.int x2, .int 0]) (rest := []) B hI hl.1 (zc_CCShelf_put_11 l D z a N x2 0 u11 r14 u15 h16) zw_43 zw_46 zw_47 zw_44 zw_45 (by decide +kernel) 11 (wC_at_11 a z u11) hcl_CShelf rfl rfl (Nat.le_of_ble_eq_true rfl) d_CThings_addThing_75 ⟨Nat.le_of_ble_eq_true rfl, Nat.le_of_ble_eq_true rfl⟩ rfl rfl ⟨Nat.zero_le _, Nat.zero_le _⟩ (fun H locs hI => ?_)
      refine lv_goto (tgt := 82) B.1 B.2.1 d_CThings_addThing_78 (by decide) ?_
      exact hb82 r14 u15 _ _ _ hf hI (lv_sub hl [] rfl)
  rw [if_neg hc9] at hf
  by_cases hc17 : x1 = 2
  · rw [if_pos hc17] at hf
    refine lv_tableIn (off := 82) (tgt := 83) B.1 B.2.1 d_CThings_addThing_1 (by rw [hc17]; decide +kernel) (by rw [hc17]; decide +kernel) (by rw [hc17]; decide +kernel) (by decide) ?_
    refine lv_aload_n B.1 B.2.1 d_CThings_addThing_83 rfl (lv_at hl 0 rfl) ?_
    refine rx_get (v := .ref (a 14)) B hI hcl_CThings hin_CThings 1 (wC_at_1 a z u) 4 (by decide) hf_CThings_4 zw_52 rfl d_CThings_addThing_84 ?_
    refine lv_iconst (v := 0) B.1 B.2.1 d_CThings_addThing_87 (by decide) ?_
    refine lv_iconst (v := 0) B.1 B.2.1 d_CThings_addThing_88 (by decide) ?_
    obtain ⟨r18, u19, h20, hf⟩ := zbd_some hf
    refine rx_Vi (n := 2) (As := [.int 0, .int 0]) (rest := []) B hI hl.1 (zc_CCShelf_put_14 l D z a N 0 0 u r18 u19 h20) zw_43 zw_46 zw_47 zw_44 zw_45 (by decide +kernel) 14 (wC_at_14 a z u) hcl_CShelf rfl rfl (Nat.le_of_ble_eq_true rfl) d_CThings_addThing_89 ⟨Nat.le_of_ble_eq_true rfl, Nat.le_of_ble_eq_true rfl⟩ rfl rfl ⟨Nat.zero_le _, Nat.zero_le _⟩ (fun H locs hI => ?_)
    obtain ⟨e21, e22⟩ := zrt hf
    exact zr_i (wC a z) B hI hr hlk e21 e22 d_CThings_addThing_92
  rw [if_neg hc17] at hf
  by_cases hc23 : x1 = 3
  · rw [if_pos hc23] at hf
    refine lv_tableIn (off := 92) (tgt := 93) B.1 B.2.1 d_CThings_addThing_1 (by rw [hc23]; decide +kernel) (by rw [hc23]; decide +kernel) (by rw [hc23]; decide +kernel) (by decide) ?_
    refine lv_iload_n B.1 B.2.1 d_CThings_addThing_93 rfl (lv_at hl 2 rfl) ?_
    obtain ⟨r24, u25, h26, hf⟩ := zbd_some hf
    refine rx_Mi (n := 1) (As := [.int x2]) (rest := []) B hI hl.1 (zc_CCC_isValueType l D z a N x2 u r24 u25 h26) zw_50 zw_20 zw_15 zw_19 (by decide +kernel) rfl rfl (Nat.le_of_ble_eq_true rfl) d_CThings_addThing_94 ⟨Nat.le_of_ble_eq_true rfl, Nat.le_of_ble_eq_true rfl⟩ rfl rfl ⟨Nat.zero_le _, Nat.zero_le _⟩ (fun H locs hI => ?_)
    refine lv_if_eq (tgt := 130) B.1 B.2.1 d_CThings_addThing_97 (by decide) (fun hc27 => ?_) (fun hc27 => ?_)
    · rw [if_pos hc27] at hf
      exact hb130  u25 _ _ _ hf hI (lv_sub hl [] rfl)
    · rw [if_neg hc27] at hf
      refine lv_iload_n B.1 B.2.1 d_CThings_addThing_100 rfl (lv_at hl 3 rfl) ?_
      refine lv_if_eq (tgt := 109) B.1 B.2.1 d_CThings_addThing_101 (by decide) (fun hc28 => ?_) (fun hc28 => ?_)
      · rw [if_pos hc28] at hf
        exact hb109 x2 x3 u25 _ _ _ hf hI (lv_sub hl [0, 2, 3] rfl)
      · rw [if_neg hc28] at hf
        refine lv_iload_n B.1 B.2.1 d_CThings_addThing_104 rfl (lv_at hl 3 rfl) ?_
        refine lv_iconst (v := 1) B.1 B.2.1 d_CThings_addThing_105 (by decide) ?_
        refine lv_icmp_ne (tgt := 130) B.1 B.2.1 d_CThings_addThing_106 (by decide) (fun hc29 => ?_) (fun hc29 => ?_)
        · rw [if_neg hc29] at hf
          exact hb130  u25 _ _ _ hf hI (lv_sub hl [] rfl)
        · rw [if_pos hc29] at hf
          exact hb109 x2 x3 u25 _ _ _ hf hI (lv_sub hl [0, 2, 3] rfl)
  rw [if_neg hc23] at hf
  by_cases hc30 : x1 = 4
  · rw [if_pos hc30] at hf
    refine lv_tableIn (off := 131) (tgt := 132) B.1 B.2.1 d_CThings_addThing_1 (by rw [hc30]; decide +kernel) (by rw [hc30]; decide +kernel) (by rw [hc30]; decide +kernel) (by decide) ?_
    refine lv_iload_n B.1 B.2.1 d_CThings_addThing_132 rfl (lv_at hl 2 rfl) ?_
    obtain ⟨r31, u32, h33, hf⟩ := zbd_some hf
    refine rx_Mi (n := 1) (As := [.int x2]) (rest := []) B hI hl.1 (zc_CCC_isReferenceType l D z a N x2 u r31 u32 h33) zw_48 zw_17 zw_15 zw_16 (by decide +kernel) rfl rfl (Nat.le_of_ble_eq_true rfl) d_CThings_addThing_133 ⟨Nat.le_of_ble_eq_true rfl, Nat.le_of_ble_eq_true rfl⟩ rfl rfl ⟨Nat.zero_le _, Nat.zero_le _⟩ (fun H locs hI => ?_)
    refine lv_if_eq (tgt := 151) B.1 B.2.1 d_CThings_addThing_136 (by decide) (fun hc34 => ?_) (fun hc34 => ?_)
    · rw [if_pos hc34] at hf
      refine lv_iconst (v := (-1)) B.1 B.2.1 d_CThings_addThing_151 (by decide) ?_
      exact hb152 (-1) u32 _ _ _ hf hI (lv_sub hl [] rfl)
    · rw [if_neg hc34] at hf
      refine lv_aload_n B.1 B.2.1 d_CThings_addThing_139 rfl (lv_at hl 0 rfl) ?_
      refine rx_get (v := .ref (a 20)) B hI hcl_CThings hin_CThings 1 (wC_at_1 a z u32) 6 (by decide) hf_CThings_6 zw_49 rfl d_CThings_addThing_140 ?_
      refine lv_iload_n B.1 B.2.1 d_CThings_addThing_143 rfl (lv_at hl 2 rfl) ?_
      refine lv_iconst (v := 0) B.1 B.2.1 d_CThings_addThing_144 (by decide) ?_
      obtain ⟨r35, u36, h37, hf⟩ := zbd_some hf
      refine rx_Vi (n := 2) (As := [.int x2, .int 0]) (rest := []) B hI hl.1 (zc_CCShelf_put_20 l D z a N x2 0 u32 r35 u36 h37) zw_43 zw_46 zw_47 zw_44 zw_45 (by decide +kernel) 20 (wC_at_20 a z u32) hcl_CShelf rfl rfl (Nat.le_of_ble_eq_true rfl) d_CThings_addThing_145 ⟨Nat.le_of_ble_eq_true rfl, Nat.le_of_ble_eq_true rfl⟩ rfl rfl ⟨Nat.zero_le _, Nat.zero_le _⟩ (fun H locs hI => ?_)
      refine lv_goto (tgt := 152) B.1 B.2.1 d_CThings_addThing_148 (by decide) ?_
      exact hb152 r35 u36 _ _ _ hf hI (lv_sub hl [] rfl)
  rw [if_neg hc30] at hf
  by_cases hc38 : x1 = 5
  · rw [if_pos hc38] at hf
    refine lv_tableIn (off := 152) (tgt := 153) B.1 B.2.1 d_CThings_addThing_1 (by rw [hc38]; decide +kernel) (by rw [hc38]; decide +kernel) (by rw [hc38]; decide +kernel) (by decide) ?_
    refine lv_aload_n B.1 B.2.1 d_CThings_addThing_153 rfl (lv_at hl 0 rfl) ?_
    refine rx_get (v := .ref (a 23)) B hI hcl_CThings hin_CThings 1 (wC_at_1 a z u) 7 (by decide) hf_CThings_7 zw_39 rfl d_CThings_addThing_154 ?_
    refine lv_iconst (v := 0) B.1 B.2.1 d_CThings_addThing_157 (by decide) ?_
    refine lv_iconst (v := 0) B.1 B.2.1 d_CThings_addThing_158 (by decide) ?_
    obtain ⟨r39, u40, h41, hf⟩ := zbd_some hf
    refine rx_Vi (n := 2) (As := [.int 0, .int 0]) (rest := []) B hI hl.1 (zc_CCShelf_put_23 l D z a N 0 0 u r39 u40 h41) zw_43 zw_46 zw_47 zw_44 zw_45 (by decide +kernel) 23 (wC_at_23 a z u) hcl_CShelf rfl rfl (Nat.le_of_ble_eq_true rfl) d_CThings_addThing_159 ⟨Nat.le_of_ble_eq_true rfl, Nat.le_of_ble_eq_true rfl⟩ rfl rfl ⟨Nat.zero_le _, Nat.zero_le _⟩ (fun H locs hI => ?_)
    obtain ⟨e42, e43⟩ := zrt hf
    exact zr_i (wC a z) B hI hr hlk e42 e43 d_CThings_addThing_162
  rw [if_neg hc38] at hf
  have ghc1 := lv_neT (a := 0) hc1 (by decide)
  have ghc9 := lv_neT (a := 1) hc9 (by decide)
  have ghc17 := lv_neT (a := 2) hc17 (by decide)
  have ghc23 := lv_neT (a := 3) hc23 (by decide)
  have ghc30 := lv_neT (a := 4) hc30 (by decide)
  have ghc38 := lv_neT (a := 5) hc38 (by decide)
  refine lv_tableOut (tgt := 163) B.1 B.2.1 d_CThings_addThing_1 (by omega) (by decide) ?_
  refine lv_iconst (v := (-1)) B.1 B.2.1 d_CThings_addThing_163 (by decide) ?_
  obtain ⟨e44, e45⟩ := zrt hf
  exact zr_i (wC a z) B hI hr hlk e44 e45 d_CThings_addThing_164
set_option maxHeartbeats 4000000 in
set_option maxRecDepth 100000 in
theorem zc_CCC_add_0 (l : Launch) (D : va_G) (z : zZ) (a : Nat → Nat) (N : Nat) (x1 : Int32) (x2 : Int32) (x3 : Int32) (u : zU) (r : Int32) (u1 : zU) (hf : zf_CCC_add_0 N x1 x2 x3 u = some (r, u1)) : zMet l D z y_CC_add (.code y_CC_add b_CC_add 4 (some (.int))) { frames := 3, cells := 0, slots := 0, locals := 63 } [.ref (a 0), .int x1, .int x2, .int x3] (wC a z u) (zQi D r (wC a z u1)) := by
  refine zM_i (own := R_CC) [.ref (a 0), .int x1, .int x2, .int x3] (wC a z u) r (wC a z u1) (by decide) rfl (Nat.le_of_ble_eq_true rfl) ?_
  intro p e s m args below meth c A ls B hr hlk hI hl
  have hl : lv_has ls 4 [(0, .ref (a 0)), (1, .int x1), (2, .int x2), (3, .int x3)] := hl
  revert hf
  revert hI hl
  intro hI hl hf
  unfold zf_CCC_add_0 at hf
  refine lv_aload_n B.1 B.2.1 d_CC_add_0 rfl (lv_at hl 0 rfl) ?_
  refine rx_get (v := .ref (a 1)) B hI hcl_CC hin_CC 0 (wC_at_0 a z u) 0 (by decide) hf_CC_0 zw_0 rfl d_CC_add_1 ?_
  refine lv_iload_n B.1 B.2.1 d_CC_add_4 rfl (lv_at hl 1 rfl) ?_
  refine lv_iload_n B.1 B.2.1 d_CC_add_5 rfl (lv_at hl 2 rfl) ?_
  refine lv_iload_n B.1 B.2.1 d_CC_add_6 rfl (lv_at hl 3 rfl) ?_
  obtain ⟨r1, u2, h3, hf⟩ := zbd_some hf
  refine rx_Vi (n := 3) (As := [.int x1, .int x2, .int x3]) (rest := []) B hI hl.1 (zc_CCThings_addThing_1 l D z a N x1 x2 x3 u r1 u2 h3) zw_59 zw_61 zw_62 zw_3 zw_60 (by decide +kernel) 1 (wC_at_1 a z u) hcl_CThings rfl rfl (Nat.le_of_ble_eq_true rfl) d_CC_add_7 ⟨Nat.le_of_ble_eq_true rfl, Nat.le_of_ble_eq_true rfl⟩ rfl rfl ⟨Nat.zero_le _, Nat.zero_le _⟩ (fun H locs hI => ?_)
  obtain ⟨e4, e5⟩ := zrt hf
  exact zr_i (wC a z) B hI hr hlk e4 e5 d_CC_add_10
set_option maxHeartbeats 4000000 in
set_option maxRecDepth 100000 in
theorem zc_CCShelf_has_8 (l : Launch) (D : va_G) (z : zZ) (a : Nat → Nat) (N : Nat) (x1 : Int32) (u : zU) (r : Int32) (u1 : zU) (hf : zf_CCShelf_has_8 N x1 u = some (r, u1)) : zMet l D z y_CShelf_has (.code y_CShelf_has b_CShelf_has 2 (some (.boolean))) { frames := 0, cells := 0, slots := 0, locals := 0 } [.ref (a 8), .int x1] (wC a z u) (zQi D r (wC a z u1)) := by
  refine zM_i (own := R_CShelf) [.ref (a 8), .int x1] (wC a z u) r (wC a z u1) (by decide) rfl (Nat.le_of_ble_eq_true rfl) ?_
  intro p e s m args below meth c A ls B hr hlk hI hl
  have hl : lv_has ls 2 [(0, .ref (a 8)), (1, .int x1)] := hl
  revert hf
  revert hI hl
  have hb17 : ∀ (s0 : Int32) (u : zU) (H : Heap) (locs : List Loc) (ls : Array Slot), zf_CCShelf_has_8_b17 N  s0 u = some (r, u1) → iw D A s (wC a z u) H locs → lv_has ls 2 [] → W p l e ({ frames := 0, cells := 0, slots := 0, locals := 0 } : Room) s m args below meth c H locs 0 0 (MQ below (zQi D r (wC a z u1) A) args s 0 0 A) (F0 m 17 ls [.int s0]) := by
    intro s0 u H locs ls hf hI hl
    unfold zf_CCShelf_has_8_b17 at hf
    obtain ⟨hz3, hf⟩ := zck_some hf
    obtain ⟨e1, e2⟩ := zrt hf
    exact zr_z (wC a z) B hI hr hlk hz3 e1 e2 d_CShelf_has_17
  have hb16 : ∀  (u : zU) (H : Heap) (locs : List Loc) (ls : Array Slot), zf_CCShelf_has_8_b16 N   u = some (r, u1) → iw D A s (wC a z u) H locs → lv_has ls 2 [] → W p l e ({ frames := 0, cells := 0, slots := 0, locals := 0 } : Room) s m args below meth c H locs 0 0 (MQ below (zQi D r (wC a z u1) A) args s 0 0 A) (F0 m 16 ls []) := by
    intro  u H locs ls hf hI hl
    unfold zf_CCShelf_has_8_b16 at hf
    refine lv_iconst (v := 0) B.1 B.2.1 d_CShelf_has_16 (by decide) ?_
    exact hb17 0 u _ _ _ hf hI (lv_sub hl [] rfl)
  intro hI hl hf
  unfold zf_CCShelf_has_8 at hf
  refine lv_iload_n B.1 B.2.1 d_CShelf_has_0 rfl (lv_at hl 1 rfl) ?_
  refine lv_if_lt (tgt := 16) B.1 B.2.1 d_CShelf_has_1 (by decide) (fun hc1 => ?_) (fun hc1 => ?_)
  · rw [if_pos hc1] at hf
    exact hb16  u _ _ _ hf hI (lv_sub hl [] rfl)
  · rw [if_neg hc1] at hf
    refine lv_iload_n B.1 B.2.1 d_CShelf_has_4 rfl (lv_at hl 1 rfl) ?_
    refine lv_aload_n B.1 B.2.1 d_CShelf_has_5 rfl (lv_at hl 0 rfl) ?_
    refine rx_get (v := .int (gi u 1)) B hI hcl_CShelf hin_CShelf 8 (wC_at_8 a z u) 2 (by decide) hf_CShelf_2 zw_40 rfl d_CShelf_has_6 ?_
    refine lv_icmp_ge (tgt := 16) B.1 B.2.1 d_CShelf_has_9 (by decide) (fun hc2 => ?_) (fun hc2 => ?_)
    · rw [if_pos hc2] at hf
      exact hb16  u _ _ _ hf hI (lv_sub hl [] rfl)
    · rw [if_neg hc2] at hf
      refine lv_iconst (v := 1) B.1 B.2.1 d_CShelf_has_12 (by decide) ?_
      refine lv_goto (tgt := 17) B.1 B.2.1 d_CShelf_has_13 (by decide) ?_
      exact hb17 1 u _ _ _ hf hI (lv_sub hl [] rfl)
set_option maxHeartbeats 4000000 in
set_option maxRecDepth 100000 in
theorem zc_CCShelf_mark_8 (l : Launch) (D : va_G) (z : zZ) (a : Nat → Nat) (N : Nat) (x1 : Int32) (u : zU) (r : Int32) (u1 : zU) (hf : zf_CCShelf_mark_8 N x1 u = some (r, u1)) : zMet l D z y_CShelf_mark (.code y_CShelf_mark b_CShelf_mark 2 (some (.boolean))) { frames := 1, cells := 0, slots := 0, locals := 21 } [.ref (a 8), .int x1] (wC a z u) (zQi D r (wC a z u1)) := by
  refine zM_i (own := R_CShelf) [.ref (a 8), .int x1] (wC a z u) r (wC a z u1) (by decide) rfl (Nat.le_of_ble_eq_true rfl) ?_
  intro p e s m args below meth c A ls B hr hlk hI hl
  have hl : lv_has ls 2 [(0, .ref (a 8)), (1, .int x1)] := hl
  revert hf
  revert hI hl
  have hb17 : ∀  (u : zU) (H : Heap) (locs : List Loc) (ls : Array Slot), zf_CCShelf_mark_8_b17 N   u = some (r, u1) → iw D A s (wC a z u) H locs → lv_has ls 2 [] → W p l e ({ frames := 1, cells := 0, slots := 0, locals := 21 } : Room) s m args below meth c H locs 0 0 (MQ below (zQi D r (wC a z u1) A) args s 0 0 A) (F0 m 17 ls []) := by
    intro  u H locs ls hf hI hl
    unfold zf_CCShelf_mark_8_b17 at hf
    refine lv_iconst (v := 0) B.1 B.2.1 d_CShelf_mark_17 (by decide) ?_
    obtain ⟨e1, e2⟩ := zrt hf
    exact zr_z (wC a z) B hI hr hlk (by decide) e1 e2 d_CShelf_mark_18
  intro hI hl hf
  unfold zf_CCShelf_mark_8 at hf
  refine lv_aload_n B.1 B.2.1 d_CShelf_mark_0 rfl (lv_at hl 0 rfl) ?_
  refine lv_iload_n B.1 B.2.1 d_CShelf_mark_1 rfl (lv_at hl 1 rfl) ?_
  obtain ⟨r1, u2, h3, hf⟩ := zbd_some hf
  refine rx_Vi (n := 1) (As := [.int x1]) (rest := []) B hI hl.1 (zc_CCShelf_has_8 l D z a N x1 u r1 u2 h3) zw_64 zw_66 zw_67 zw_44 zw_65 (by decide +kernel) 8 (wC_at_8 a z u) hcl_CShelf rfl rfl (Nat.le_of_ble_eq_true rfl) d_CShelf_mark_2 ⟨Nat.le_of_ble_eq_true rfl, Nat.le_of_ble_eq_true rfl⟩ rfl rfl ⟨Nat.zero_le _, Nat.zero_le _⟩ (fun H locs hI => ?_)
  refine lv_if_eq (tgt := 17) B.1 B.2.1 d_CShelf_mark_5 (by decide) (fun hc4 => ?_) (fun hc4 => ?_)
  · rw [if_pos hc4] at hf
    exact hb17  u2 _ _ _ hf hI (lv_sub hl [] rfl)
  · rw [if_neg hc4] at hf
    refine lv_iload_n B.1 B.2.1 d_CShelf_mark_8 rfl (lv_at hl 1 rfl) ?_
    refine lv_aload_n B.1 B.2.1 d_CShelf_mark_9 rfl (lv_at hl 0 rfl) ?_
    refine rx_get (v := .ref (a 10)) B hI hcl_CShelf hin_CShelf 8 (wC_at_8 a z u2) 1 (by decide) hf_CShelf_1 zw_42 rfl d_CShelf_mark_10 ?_
    refine rx_alen (v := 40) B hI 10 1 (wC_at_10 a z u2) rfl rfl d_CShelf_mark_13 ?_
    refine lv_icmp_lt (tgt := 19) B.1 B.2.1 d_CShelf_mark_14 (by decide) (fun hc5 => ?_) (fun hc5 => ?_)
    · rw [if_pos hc5] at hf
      refine lv_aload_n B.1 B.2.1 d_CShelf_mark_19 rfl (lv_at hl 0 rfl) ?_
      refine rx_get (v := .ref (a 10)) B hI hcl_CShelf hin_CShelf 8 (wC_at_8 a z u2) 1 (by decide) hf_CShelf_1 zw_42 rfl d_CShelf_mark_20 ?_
      refine lv_iload_n B.1 B.2.1 d_CShelf_mark_23 rfl (lv_at hl 1 rfl) ?_
      refine lv_iconst (v := 1) B.1 B.2.1 d_CShelf_mark_24 (by decide) ?_
      obtain ⟨hi6, hf⟩ := zck_some hf
      refine rx_zast B hI 10 (wC_at_10 a z u2) hi6 (wC_sa_5 a z u2 x1 (vp_nar .boolean 1)) d_CShelf_mark_25 (fun H locs hI => ?_)
      refine lv_iconst (v := 1) B.1 B.2.1 d_CShelf_mark_26 (by decide) ?_
      obtain ⟨e7, e8⟩ := zrt hf
      exact zr_z (wC a z) B hI hr hlk (by decide) e7 e8 d_CShelf_mark_27
    · rw [if_neg hc5] at hf
      exact hb17  u2 _ _ _ hf hI (lv_sub hl [] rfl)
set_option maxHeartbeats 4000000 in
set_option maxRecDepth 100000 in
theorem zc_CCC_declare_0 (l : Launch) (D : va_G) (z : zZ) (a : Nat → Nat) (N : Nat) (x1 : Int32) (u : zU) (r : Int32) (u1 : zU) (hf : zf_CCC_declare_0 N x1 u = some (r, u1)) : zMet l D z y_CC_declare (.code y_CC_declare b_CC_declare 2 (some (.boolean))) { frames := 2, cells := 0, slots := 0, locals := 42 } [.ref (a 0), .int x1] (wC a z u) (zQi D r (wC a z u1)) := by
  refine zM_i (own := R_CC) [.ref (a 0), .int x1] (wC a z u) r (wC a z u1) (by decide) rfl (Nat.le_of_ble_eq_true rfl) ?_
  intro p e s m args below meth c A ls B hr hlk hI hl
  have hl : lv_has ls 2 [(0, .ref (a 0)), (1, .int x1)] := hl
  revert hf
  revert hI hl
  intro hI hl hf
  unfold zf_CCC_declare_0 at hf
  refine lv_aload_n B.1 B.2.1 d_CC_declare_0 rfl (lv_at hl 0 rfl) ?_
  refine rx_get (v := .ref (a 1)) B hI hcl_CC hin_CC 0 (wC_at_0 a z u) 0 (by decide) hf_CC_0 zw_0 rfl d_CC_declare_1 ?_
  refine rx_getN (v := .ref (a 8)) B hI hcl_CThings hin_CThings 1 (wC_at_1 a z u) 2 (by decide) hf_CThings_2 zw_63 rfl d_CC_declare_4 ?_
  refine lv_iload_n B.1 B.2.1 d_CC_declare_7 rfl (lv_at hl 1 rfl) ?_
  obtain ⟨r1, u2, h3, hf⟩ := zbd_some hf
  refine rx_Vi (n := 1) (As := [.int x1]) (rest := []) B hI hl.1 (zc_CCShelf_mark_8 l D z a N x1 u r1 u2 h3) zw_68 zw_70 zw_71 zw_44 zw_69 (by decide +kernel) 8 (wC_at_8 a z u) hcl_CShelf rfl rfl (Nat.le_of_ble_eq_true rfl) d_CC_declare_8 ⟨Nat.le_of_ble_eq_true rfl, Nat.le_of_ble_eq_true rfl⟩ rfl rfl ⟨Nat.zero_le _, Nat.zero_le _⟩ (fun H locs hI => ?_)
  obtain ⟨hz6, hf⟩ := zck_some hf
  obtain ⟨e4, e5⟩ := zrt hf
  exact zr_z (wC a z) B hI hr hlk hz6 e4 e5 d_CC_declare_11
