set_option maxHeartbeats 4000000 in
set_option maxRecDepth 100000 in
theorem zc_CCStack_pushBlock_31 (l : Launch) (D : va_G) (z : zZ) (a : Nat → Nat) (N : Nat) (x1 : Int32) (x2 : Int32) (u : zU) (r : Unit) (u1 : zU) (hf : zf_CCStack_pushBlock_31 N x1 x2 u = some (r, u1)) : zMet l D z y_CStack_pushBlock (.code y_CStack_pushBlock b_CStack_pushBlock 3 none) { frames := 0, cells := 0, slots := 0, locals := 0 } [.ref (a 31), .int x1, .int x2] (wC a z u) (zQv D (wC a z u1)) := by
  refine zM_v (own := R_CStack) [.ref (a 31), .int x1, .int x2] (wC a z u) (wC a z u1) (by decide) rfl (Nat.le_of_ble_eq_true rfl) ?_
  intro p e s m args below meth c A ls B hr hlk hI hl
  have hl : lv_has ls 3 [(0, .ref (a 31)), (1, .int x1), (2, .int x2)] := hl
  revert hf
  revert hI hl
  have hb24 : ∀  (u : zU) (H : Heap) (locs : List Loc) (ls : Array Slot), zf_CCStack_pushBlock_31_b24 N   u = some (r, u1) → iw D A s (wC a z u) H locs → lv_has ls 3 [(0, .ref (a 31))] → W p l e ({ frames := 0, cells := 0, slots := 0, locals := 0 } : Room) s m args below meth c H locs 0 0 (MQ below (zQv D (wC a z u1) A) args s 0 0 A) (F0 m 24 ls []) := by
    intro  u H locs ls hf hI hl
    unfold zf_CCStack_pushBlock_31_b24 at hf
    refine lv_aload_n B.1 B.2.1 d_CStack_pushBlock_24 rfl (lv_at hl 0 rfl) ?_
    refine lv_bipush (v := 15) B.1 B.2.1 d_CStack_pushBlock_25 (by decide) ?_
    refine rx_put B hI hcl_CStack hin_CStack hty_CStack hnm_CStack 31 (wC_at_31 a z u) 9 (by decide) hf_CStack_9 zw_76 rfl (ty := .int) (by decide +kernel) rfl rfl (Nat.le_of_ble_eq_true rfl) (wC_si_16 a z u 15) d_CStack_pushBlock_27 (fun H locs hI => ?_)
    obtain ⟨e1, e2⟩ := zrt hf
    exact zr_v (wC a z) B hI hr hlk e2 d_CStack_pushBlock_30
  intro hI hl hf
  unfold zf_CCStack_pushBlock_31 at hf
  refine lv_aload_n B.1 B.2.1 d_CStack_pushBlock_0 rfl (lv_at hl 0 rfl) ?_
  refine rx_get (v := .int (gi u 16)) B hI hcl_CStack hin_CStack 31 (wC_at_31 a z u) 9 (by decide) hf_CStack_9 zw_76 rfl d_CStack_pushBlock_1 ?_
  refine lv_if_eq (tgt := 8) B.1 B.2.1 d_CStack_pushBlock_4 (by decide) (fun hc1 => ?_) (fun hc1 => ?_)
  · rw [if_pos hc1] at hf
    refine lv_aload_n B.1 B.2.1 d_CStack_pushBlock_8 rfl (lv_at hl 0 rfl) ?_
    refine rx_get (v := .int (gi u 15)) B hI hcl_CStack hin_CStack 31 (wC_at_31 a z u) 8 (by decide) hf_CStack_8 zw_75 rfl d_CStack_pushBlock_9 ?_
    refine lv_if_lt (tgt := 24) B.1 B.2.1 d_CStack_pushBlock_12 (by decide) (fun hc2 => ?_) (fun hc2 => ?_)
    · rw [if_pos hc2] at hf
      exact hb24  u _ _ _ hf hI (lv_sub hl [0] rfl)
    · rw [if_neg hc2] at hf
      refine lv_aload_n B.1 B.2.1 d_CStack_pushBlock_15 rfl (lv_at hl 0 rfl) ?_
      refine rx_get (v := .int (gi u 15)) B hI hcl_CStack hin_CStack 31 (wC_at_31 a z u) 8 (by decide) hf_CStack_8 zw_75 rfl d_CStack_pushBlock_16 ?_
      refine lv_bipush (v := 60) B.1 B.2.1 d_CStack_pushBlock_19 (by decide) ?_
      refine lv_icmp_lt (tgt := 31) B.1 B.2.1 d_CStack_pushBlock_21 (by decide) (fun hc3 => ?_) (fun hc3 => ?_)
      · rw [if_pos hc3] at hf
        refine lv_aload_n B.1 B.2.1 d_CStack_pushBlock_31 rfl (lv_at hl 0 rfl) ?_
        refine rx_get (v := .ref (a 33)) B hI hcl_CStack hin_CStack 31 (wC_at_31 a z u) 2 (by decide) hf_CStack_2 zw_77 rfl d_CStack_pushBlock_32 ?_
        refine lv_aload_n B.1 B.2.1 d_CStack_pushBlock_35 rfl (lv_at hl 0 rfl) ?_
        refine rx_get (v := .int (gi u 15)) B hI hcl_CStack hin_CStack 31 (wC_at_31 a z u) 8 (by decide) hf_CStack_8 zw_75 rfl d_CStack_pushBlock_36 ?_
        refine lv_iload_n B.1 B.2.1 d_CStack_pushBlock_39 rfl (lv_at hl 2 rfl) ?_
        obtain ⟨hi4, hf⟩ := zck_some hf
        refine rx_iast B hI 33 (wC_at_33 a z u) hi4 (wC_sa_19 a z u (gi u 15) x2) d_CStack_pushBlock_40 (fun H locs hI => ?_)
        refine lv_aload_n B.1 B.2.1 d_CStack_pushBlock_41 rfl (lv_at hl 0 rfl) ?_
        refine rx_get (v := .ref (a 34)) B hI hcl_CStack hin_CStack 31 (wC_at_31 a z (sa u 19 (gi u 15) x2)) 3 (by decide) hf_CStack_3 zw_78 rfl d_CStack_pushBlock_42 ?_
        refine lv_aload_n B.1 B.2.1 d_CStack_pushBlock_45 rfl (lv_at hl 0 rfl) ?_
        refine rx_get (v := .int (gi u 15)) B hI hcl_CStack hin_CStack 31 (wC_at_31 a z (sa u 19 (gi u 15) x2)) 8 (by decide) hf_CStack_8 zw_75 rfl d_CStack_pushBlock_46 ?_
        refine lv_aload_n B.1 B.2.1 d_CStack_pushBlock_49 rfl (lv_at hl 0 rfl) ?_
        refine rx_get (v := .int (gi u 14)) B hI hcl_CStack hin_CStack 31 (wC_at_31 a z (sa u 19 (gi u 15) x2)) 7 (by decide) hf_CStack_7 zw_74 rfl d_CStack_pushBlock_50 ?_
        obtain ⟨hi5, hf⟩ := zck_some hf
        refine rx_iast B hI 34 (wC_at_34 a z (sa u 19 (gi u 15) x2)) hi5 (wC_sa_20 a z (sa u 19 (gi u 15) x2) (gi u 15) (gi u 14)) d_CStack_pushBlock_53 (fun H locs hI => ?_)
        refine lv_aload_n B.1 B.2.1 d_CStack_pushBlock_54 rfl (lv_at hl 0 rfl) ?_
        refine rx_get (v := .ref (a 35)) B hI hcl_CStack hin_CStack 31 (wC_at_31 a z (sa (sa u 19 (gi u 15) x2) 20 (gi u 15) (gi u 14))) 4 (by decide) hf_CStack_4 zw_79 rfl d_CStack_pushBlock_55 ?_
        refine lv_aload_n B.1 B.2.1 d_CStack_pushBlock_58 rfl (lv_at hl 0 rfl) ?_
        refine rx_get (v := .int (gi u 15)) B hI hcl_CStack hin_CStack 31 (wC_at_31 a z (sa (sa u 19 (gi u 15) x2) 20 (gi u 15) (gi u 14))) 8 (by decide) hf_CStack_8 zw_75 rfl d_CStack_pushBlock_59 ?_
        refine lv_iload_n B.1 B.2.1 d_CStack_pushBlock_62 rfl (lv_at hl 1 rfl) ?_
        obtain ⟨hi6, hf⟩ := zck_some hf
        refine rx_iast B hI 35 (wC_at_35 a z (sa (sa u 19 (gi u 15) x2) 20 (gi u 15) (gi u 14))) hi6 (wC_sa_21 a z (sa (sa u 19 (gi u 15) x2) 20 (gi u 15) (gi u 14)) (gi u 15) x1) d_CStack_pushBlock_63 (fun H locs hI => ?_)
        refine lv_aload_n B.1 B.2.1 d_CStack_pushBlock_64 rfl (lv_at hl 0 rfl) ?_
        refine rx_get (v := .ref (a 36)) B hI hcl_CStack hin_CStack 31 (wC_at_31 a z (sa (sa (sa u 19 (gi u 15) x2) 20 (gi u 15) (gi u 14)) 21 (gi u 15) x1)) 5 (by decide) hf_CStack_5 zw_80 rfl d_CStack_pushBlock_65 ?_
        refine lv_aload_n B.1 B.2.1 d_CStack_pushBlock_68 rfl (lv_at hl 0 rfl) ?_
        refine rx_get (v := .int (gi u 15)) B hI hcl_CStack hin_CStack 31 (wC_at_31 a z (sa (sa (sa u 19 (gi u 15) x2) 20 (gi u 15) (gi u 14)) 21 (gi u 15) x1)) 8 (by decide) hf_CStack_8 zw_75 rfl d_CStack_pushBlock_69 ?_
        refine lv_iconst (v := 1) B.1 B.2.1 d_CStack_pushBlock_72 (by decide) ?_
        obtain ⟨hi7, hf⟩ := zck_some hf
        refine rx_zast B hI 36 (wC_at_36 a z (sa (sa (sa u 19 (gi u 15) x2) 20 (gi u 15) (gi u 14)) 21 (gi u 15) x1)) hi7 (wC_sa_22 a z (sa (sa (sa u 19 (gi u 15) x2) 20 (gi u 15) (gi u 14)) 21 (gi u 15) x1) (gi u 15) (vp_nar .boolean 1)) d_CStack_pushBlock_73 (fun H locs hI => ?_)
        refine lv_aload_n B.1 B.2.1 d_CStack_pushBlock_74 rfl (lv_at hl 0 rfl) ?_
        refine lv_dup B.1 B.2.1 d_CStack_pushBlock_75 rfl ?_
        refine rx_get (v := .int (gi u 15)) B hI hcl_CStack hin_CStack 31 (wC_at_31 a z (sa (sa (sa (sa u 19 (gi u 15) x2) 20 (gi u 15) (gi u 14)) 21 (gi u 15) x1) 22 (gi u 15) (vp_nar .boolean 1))) 8 (by decide) hf_CStack_8 zw_75 rfl d_CStack_pushBlock_76 ?_
        refine lv_iconst (v := 1) B.1 B.2.1 d_CStack_pushBlock_79 (by decide) ?_
        refine lv_iadd B.1 B.2.1 d_CStack_pushBlock_80 ?_
        refine rx_put B hI hcl_CStack hin_CStack hty_CStack hnm_CStack 31 (wC_at_31 a z (sa (sa (sa (sa u 19 (gi u 15) x2) 20 (gi u 15) (gi u 14)) 21 (gi u 15) x1) 22 (gi u 15) (vp_nar .boolean 1))) 8 (by decide) hf_CStack_8 zw_75 rfl (ty := .int) (by decide +kernel) rfl rfl (Nat.le_of_ble_eq_true rfl) (wC_si_15 a z (sa (sa (sa (sa u 19 (gi u 15) x2) 20 (gi u 15) (gi u 14)) 21 (gi u 15) x1) 22 (gi u 15) (vp_nar .boolean 1)) ((gi u 15) + 1)) d_CStack_pushBlock_81 (fun H locs hI => ?_)
        obtain ⟨e8, e9⟩ := zrt hf
        exact zr_v (wC a z) B hI hr hlk e9 d_CStack_pushBlock_84
      · rw [if_neg hc3] at hf
        exact hb24  u _ _ _ hf hI (lv_sub hl [0] rfl)
  · rw [if_neg hc1] at hf
    obtain ⟨e10, e11⟩ := zrt hf
    exact zr_v (wC a z) B hI hr hlk e11 d_CStack_pushBlock_7
set_option maxHeartbeats 4000000 in
set_option maxRecDepth 100000 in
theorem zc_CCStack_restart_31 (l : Launch) (D : va_G) (z : zZ) (a : Nat → Nat) (N : Nat) (x1 : Int32) (u : zU) (r : Unit) (u1 : zU) (hf : zf_CCStack_restart_31 N x1 u = some (r, u1)) : zMet l D z y_CStack_restart (.code y_CStack_restart b_CStack_restart 2 none) { frames := 1, cells := 0, slots := 0, locals := 22 } [.ref (a 31), .int x1] (wC a z u) (zQv D (wC a z u1)) := by
  refine zM_v (own := R_CStack) [.ref (a 31), .int x1] (wC a z u) (wC a z u1) (by decide) rfl (Nat.le_of_ble_eq_true rfl) ?_
  intro p e s m args below meth c A ls B hr hlk hI hl
  have hl : lv_has ls 2 [(0, .ref (a 31)), (1, .int x1)] := hl
  revert hf
  revert hI hl
  intro hI hl hf
  unfold zf_CCStack_restart_31 at hf
  refine lv_aload_n B.1 B.2.1 d_CStack_restart_0 rfl (lv_at hl 0 rfl) ?_
  refine lv_iconst (v := 0) B.1 B.2.1 d_CStack_restart_1 (by decide) ?_
  refine rx_put B hI hcl_CStack hin_CStack hty_CStack hnm_CStack 31 (wC_at_31 a z u) 7 (by decide) hf_CStack_7 zw_74 rfl (ty := .int) (by decide +kernel) rfl rfl (Nat.le_of_ble_eq_true rfl) (wC_si_14 a z u 0) d_CStack_restart_2 (fun H locs hI => ?_)
  refine lv_aload_n B.1 B.2.1 d_CStack_restart_5 rfl (lv_at hl 0 rfl) ?_
  refine lv_iconst (v := 0) B.1 B.2.1 d_CStack_restart_6 (by decide) ?_
  refine rx_put B hI hcl_CStack hin_CStack hty_CStack hnm_CStack 31 (wC_at_31 a z (si u 14 0)) 8 (by decide) hf_CStack_8 zw_75 rfl (ty := .int) (by decide +kernel) rfl rfl (Nat.le_of_ble_eq_true rfl) (wC_si_15 a z (si u 14 0) 0) d_CStack_restart_7 (fun H locs hI => ?_)
  refine lv_aload_n B.1 B.2.1 d_CStack_restart_10 rfl (lv_at hl 0 rfl) ?_
  refine lv_iconst (v := 0) B.1 B.2.1 d_CStack_restart_11 (by decide) ?_
  refine rx_put B hI hcl_CStack hin_CStack hty_CStack hnm_CStack 31 (wC_at_31 a z (si (si u 14 0) 15 0)) 9 (by decide) hf_CStack_9 zw_76 rfl (ty := .int) (by decide +kernel) rfl rfl (Nat.le_of_ble_eq_true rfl) (wC_si_16 a z (si (si u 14 0) 15 0) 0) d_CStack_restart_12 (fun H locs hI => ?_)
  refine lv_aload_n B.1 B.2.1 d_CStack_restart_15 rfl (lv_at hl 0 rfl) ?_
  refine lv_iconst (v := (-1)) B.1 B.2.1 d_CStack_restart_16 (by decide) ?_
  refine lv_iload_n B.1 B.2.1 d_CStack_restart_17 rfl (lv_at hl 1 rfl) ?_
  obtain ⟨r1, u2, h3, hf⟩ := zbd_some hf
  refine rx_Vv (n := 2) (As := [.int (-1), .int x1]) (rest := []) B hI hl.1 (zc_CCStack_pushBlock_31 l D z a N (-1) x1 (si (si (si u 14 0) 15 0) 16 0) r1 u2 h3) zw_81 zw_84 zw_85 zw_82 zw_83 (by decide +kernel) 31 (wC_at_31 a z (si (si (si u 14 0) 15 0) 16 0)) hcl_CStack rfl rfl (Nat.le_of_ble_eq_true rfl) d_CStack_restart_18 ⟨Nat.le_of_ble_eq_true rfl, Nat.le_of_ble_eq_true rfl⟩ rfl rfl ⟨Nat.zero_le _, Nat.zero_le _⟩ (fun H locs hI => ?_)
  obtain ⟨e4, e5⟩ := zrt hf
  exact zr_v (wC a z) B hI hr hlk e5 d_CStack_restart_21
set_option maxHeartbeats 4000000 in
set_option maxRecDepth 100000 in
theorem zc_CCLocals_clear_27 (l : Launch) (D : va_G) (z : zZ) (a : Nat → Nat) (N : Nat)  (u : zU) (r : Unit) (u1 : zU) (hf : zf_CCLocals_clear_27 N  u = some (r, u1)) : zMet l D z y_CLocals_clear (.code y_CLocals_clear b_CLocals_clear 1 none) { frames := 0, cells := 0, slots := 0, locals := 0 } [.ref (a 27)] (wC a z u) (zQv D (wC a z u1)) := by
  refine zM_v (own := R_CLocals) [.ref (a 27)] (wC a z u) (wC a z u1) (by decide) rfl (Nat.le_of_ble_eq_true rfl) ?_
  intro p e s m args below meth c A ls B hr hlk hI hl
  have hl : lv_has ls 1 [(0, .ref (a 27))] := hl
  revert hf
  revert hI hl
  intro hI hl hf
  unfold zf_CCLocals_clear_27 at hf
  refine lv_aload_n B.1 B.2.1 d_CLocals_clear_0 rfl (lv_at hl 0 rfl) ?_
  refine lv_iconst (v := 0) B.1 B.2.1 d_CLocals_clear_1 (by decide) ?_
  refine rx_put B hI hcl_CLocals hin_CLocals hty_CLocals hnm_CLocals 27 (wC_at_27 a z u) 2 (by decide) hf_CLocals_2 zw_91 rfl (ty := .int) (by decide +kernel) rfl rfl (Nat.le_of_ble_eq_true rfl) (wC_si_13 a z u 0) d_CLocals_clear_2 (fun H locs hI => ?_)
  refine lv_aload_n B.1 B.2.1 d_CLocals_clear_5 rfl (lv_at hl 0 rfl) ?_
  refine lv_lconst (v := 0) B.1 B.2.1 d_CLocals_clear_6 (by decide) ?_
  refine rx_put B hI hcl_CLocals hin_CLocals hty_CLocals hnm_CLocals 27 (wC_at_27 a z (si u 13 0)) 3 (by decide) hf_CLocals_3 zw_92 rfl (ty := .long) (by decide +kernel) rfl rfl (Nat.le_of_ble_eq_true rfl) (wC_sj_0 a z (si u 13 0) 0) d_CLocals_clear_7 (fun H locs hI => ?_)
  obtain ⟨e1, e2⟩ := zrt hf
  exact zr_v (wC a z) B hI hr hlk e2 d_CLocals_clear_10
set_option maxHeartbeats 4000000 in
set_option maxRecDepth 100000 in
theorem zc_CCCode_open_26 (l : Launch) (D : va_G) (z : zZ) (a : Nat → Nat) (N : Nat) (x1 : Int32) (x2 : Int32) (u : zU) (r : Unit) (u1 : zU) (hf : zf_CCCode_open_26 N x1 x2 u = some (r, u1)) : zMet l D z y_CCode_open (.code y_CCode_open b_CCode_open 3 none) { frames := 2, cells := 0, slots := 0, locals := 43 } [.ref (a 26), .int x1, .int x2] (wC a z u) (zQv D (wC a z u1)) := by
  refine zM_v (own := R_CCode) [.ref (a 26), .int x1, .int x2] (wC a z u) (wC a z u1) (by decide) rfl (Nat.le_of_ble_eq_true rfl) ?_
  intro p e s m args below meth c A ls B hr hlk hI hl
  have hl : lv_has ls 3 [(0, .ref (a 26)), (1, .int x1), (2, .int x2)] := hl
  revert hf
  revert hI hl
  intro hI hl hf
  unfold zf_CCCode_open_26 at hf
  refine lv_aload_n B.1 B.2.1 d_CCode_open_0 rfl (lv_at hl 0 rfl) ?_
  refine rx_get (v := .ref (a 31)) B hI hcl_CCode hin_CCode 26 (wC_at_26 a z u) 1 (by decide) hf_CCode_1 zw_73 rfl d_CCode_open_1 ?_
  refine lv_iload_n B.1 B.2.1 d_CCode_open_4 rfl (lv_at hl 1 rfl) ?_
  obtain ⟨r1, u2, h3, hf⟩ := zbd_some hf
  refine rx_Vv (n := 1) (As := [.int x1]) (rest := []) B hI hl.1 (zc_CCStack_restart_31 l D z a N x1 u r1 u2 h3) zw_86 zw_88 zw_89 zw_82 zw_87 (by decide +kernel) 31 (wC_at_31 a z u) hcl_CStack rfl rfl (Nat.le_of_ble_eq_true rfl) d_CCode_open_5 ⟨Nat.le_of_ble_eq_true rfl, Nat.le_of_ble_eq_true rfl⟩ rfl rfl ⟨Nat.zero_le _, Nat.zero_le _⟩ (fun H locs hI => ?_)
  refine lv_aload_n B.1 B.2.1 d_CCode_open_8 rfl (lv_at hl 0 rfl) ?_
  refine rx_get (v := .ref (a 27)) B hI hcl_CCode hin_CCode 26 (wC_at_26 a z u2) 2 (by decide) hf_CCode_2 zw_90 rfl d_CCode_open_9 ?_
  obtain ⟨r4, u5, h6, hf⟩ := zbd_some hf
  refine rx_Vv (n := 0) (As := []) (rest := []) B hI hl.1 (zc_CCLocals_clear_27 l D z a N  u2 r4 u5 h6) zw_93 zw_96 zw_97 zw_94 zw_95 (by decide +kernel) 27 (wC_at_27 a z u2) hcl_CLocals rfl rfl (Nat.le_of_ble_eq_true rfl) d_CCode_open_12 ⟨Nat.le_of_ble_eq_true rfl, Nat.le_of_ble_eq_true rfl⟩ rfl rfl ⟨Nat.zero_le _, Nat.zero_le _⟩ (fun H locs hI => ?_)
  refine lv_aload_n B.1 B.2.1 d_CCode_open_15 rfl (lv_at hl 0 rfl) ?_
  refine lv_iconst (v := 0) B.1 B.2.1 d_CCode_open_16 (by decide) ?_
  refine rx_put B hI hcl_CCode hin_CCode hty_CCode hnm_CCode 26 (wC_at_26 a z u5) 4 (by decide) hf_CCode_4 zw_98 rfl (ty := .int) (by decide +kernel) rfl rfl (Nat.le_of_ble_eq_true rfl) (wC_si_7 a z u5 0) d_CCode_open_17 (fun H locs hI => ?_)
  refine lv_aload_n B.1 B.2.1 d_CCode_open_20 rfl (lv_at hl 0 rfl) ?_
  refine lv_iconst (v := 0) B.1 B.2.1 d_CCode_open_21 (by decide) ?_
  refine rx_put B hI hcl_CCode hin_CCode hty_CCode hnm_CCode 26 (wC_at_26 a z (si u5 7 0)) 9 (by decide) hf_CCode_9 zw_99 rfl (ty := .int) (by decide +kernel) rfl rfl (Nat.le_of_ble_eq_true rfl) (wC_si_12 a z (si u5 7 0) 0) d_CCode_open_22 (fun H locs hI => ?_)
  refine lv_aload_n B.1 B.2.1 d_CCode_open_25 rfl (lv_at hl 0 rfl) ?_
  refine lv_iconst (v := 0) B.1 B.2.1 d_CCode_open_26 (by decide) ?_
  refine rx_put B hI hcl_CCode hin_CCode hty_CCode hnm_CCode 26 (wC_at_26 a z (si (si u5 7 0) 12 0)) 7 (by decide) hf_CCode_7 zw_100 rfl (ty := .boolean) (by decide +kernel) (by decide) (by decide) (Nat.le_of_ble_eq_true rfl) (wC_si_10 a z (si (si u5 7 0) 12 0) 0) d_CCode_open_27 (fun H locs hI => ?_)
  refine lv_aload_n B.1 B.2.1 d_CCode_open_30 rfl (lv_at hl 0 rfl) ?_
  refine lv_iload_n B.1 B.2.1 d_CCode_open_31 rfl (lv_at hl 2 rfl) ?_
  obtain ⟨hz7, hf⟩ := zck_some hf
  refine rx_put B hI hcl_CCode hin_CCode hty_CCode hnm_CCode 26 (wC_at_26 a z (si (si (si u5 7 0) 12 0) 10 0)) 6 (by decide) hf_CCode_6 zw_101 rfl (ty := .boolean) (by decide +kernel) (znar hz7) (zfit hz7) (Nat.le_of_ble_eq_true rfl) (wC_si_9 a z (si (si (si u5 7 0) 12 0) 10 0) x2) d_CCode_open_32 (fun H locs hI => ?_)
  refine lv_aload_n B.1 B.2.1 d_CCode_open_35 rfl (lv_at hl 0 rfl) ?_
  refine lv_iconst (v := 1) B.1 B.2.1 d_CCode_open_36 (by decide) ?_
  refine rx_put B hI hcl_CCode hin_CCode hty_CCode hnm_CCode 26 (wC_at_26 a z (si (si (si (si u5 7 0) 12 0) 10 0) 9 x2)) 5 (by decide) hf_CCode_5 zw_8 rfl (ty := .int) (by decide +kernel) rfl rfl (Nat.le_of_ble_eq_true rfl) (wC_si_8 a z (si (si (si (si u5 7 0) 12 0) 10 0) 9 x2) 1) d_CCode_open_37 (fun H locs hI => ?_)
  obtain ⟨e8, e9⟩ := zrt hf
  exact zr_v (wC a z) B hI hr hlk e9 d_CCode_open_40
set_option maxHeartbeats 4000000 in
set_option maxRecDepth 100000 in
theorem zc_CCRows_partOf_2 (l : Launch) (D : va_G) (z : zZ) (a : Nat → Nat) (N : Nat) (x1 : Int32) (x2 : Int32) (u : zU) (r : Int32) (u1 : zU) (hf : zf_CCRows_partOf_2 N x1 x2 u = some (r, u1)) : zMet l D z y_CRows_partOf (.code y_CRows_partOf b_CRows_partOf 3 (some (.int))) { frames := 0, cells := 0, slots := 0, locals := 0 } [.ref (a 2), .int x1, .int x2] (wC a z u) (zQi D r (wC a z u1)) := by
  refine zM_i (own := R_CRows) [.ref (a 2), .int x1, .int x2] (wC a z u) r (wC a z u1) (by decide) rfl (Nat.le_of_ble_eq_true rfl) ?_
  intro p e s m args below meth c A ls B hr hlk hI hl
  have hl : lv_has ls 3 [(0, .ref (a 2)), (1, .int x1), (2, .int x2)] := hl
  revert hf
  revert hI hl
  have hb26 : ∀  (u : zU) (H : Heap) (locs : List Loc) (ls : Array Slot), zf_CCRows_partOf_2_b26 N   u = some (r, u1) → iw D A s (wC a z u) H locs → lv_has ls 3 [] → W p l e ({ frames := 0, cells := 0, slots := 0, locals := 0 } : Room) s m args below meth c H locs 0 0 (MQ below (zQi D r (wC a z u1) A) args s 0 0 A) (F0 m 26 ls []) := by
    intro  u H locs ls hf hI hl
    unfold zf_CCRows_partOf_2_b26 at hf
    refine lv_iconst (v := 0) B.1 B.2.1 d_CRows_partOf_26 (by decide) ?_
    obtain ⟨e1, e2⟩ := zrt hf
    exact zr_i (wC a z) B hI hr hlk e1 e2 d_CRows_partOf_27
  intro hI hl hf
  unfold zf_CCRows_partOf_2 at hf
  refine lv_iload_n B.1 B.2.1 d_CRows_partOf_0 rfl (lv_at hl 1 rfl) ?_
  refine lv_if_ge (tgt := 10) B.1 B.2.1 d_CRows_partOf_1 (by decide) (fun hc1 => ?_) (fun hc1 => ?_)
  · rw [if_pos hc1] at hf
    refine lv_iload_n B.1 B.2.1 d_CRows_partOf_10 rfl (lv_at hl 1 rfl) ?_
    refine lv_bipush (v := 40) B.1 B.2.1 d_CRows_partOf_11 (by decide) ?_
    refine lv_icmp_ge (tgt := 26) B.1 B.2.1 d_CRows_partOf_13 (by decide) (fun hc2 => ?_) (fun hc2 => ?_)
    · rw [if_pos hc2] at hf
      exact hb26  u _ _ _ hf hI (lv_sub hl [] rfl)
    · rw [if_neg hc2] at hf
      refine lv_iload_n B.1 B.2.1 d_CRows_partOf_16 rfl (lv_at hl 2 rfl) ?_
      refine lv_if_lt (tgt := 26) B.1 B.2.1 d_CRows_partOf_17 (by decide) (fun hc3 => ?_) (fun hc3 => ?_)
      · rw [if_pos hc3] at hf
        exact hb26  u _ _ _ hf hI (lv_sub hl [] rfl)
      · rw [if_neg hc3] at hf
        refine lv_iload_n B.1 B.2.1 d_CRows_partOf_20 rfl (lv_at hl 2 rfl) ?_
        refine lv_bipush (v := 12) B.1 B.2.1 d_CRows_partOf_21 (by decide) ?_
        refine lv_icmp_lt (tgt := 28) B.1 B.2.1 d_CRows_partOf_23 (by decide) (fun hc4 => ?_) (fun hc4 => ?_)
        · rw [if_pos hc4] at hf
          refine lv_aload_n B.1 B.2.1 d_CRows_partOf_28 rfl (lv_at hl 0 rfl) ?_
          refine rx_get (v := .ref (a 4)) B hI hcl_CRows hin_CRows 2 (wC_at_2 a z u) 2 (by decide) hf_CRows_2 zw_29 rfl d_CRows_partOf_29 ?_
          refine lv_iload_n B.1 B.2.1 d_CRows_partOf_32 rfl (lv_at hl 1 rfl) ?_
          refine lv_bipush (v := 12) B.1 B.2.1 d_CRows_partOf_33 (by decide) ?_
          refine lv_imul B.1 B.2.1 d_CRows_partOf_35 ?_
          refine lv_iload_n B.1 B.2.1 d_CRows_partOf_36 rfl (lv_at hl 2 rfl) ?_
          refine lv_iadd B.1 B.2.1 d_CRows_partOf_37 ?_
          obtain ⟨hi5, hf⟩ := zck_some hf
          refine rx_iald B hI 4 (wC_at_4 a z u) hi5 d_CRows_partOf_38 ?_
          obtain ⟨e6, e7⟩ := zrt hf
          exact zr_i (wC a z) B hI hr hlk e6 e7 d_CRows_partOf_39
        · rw [if_neg hc4] at hf
          exact hb26  u _ _ _ hf hI (lv_sub hl [] rfl)
  · rw [if_neg hc1] at hf
    refine lv_iload_n B.1 B.2.1 d_CRows_partOf_4 rfl (lv_at hl 1 rfl) ?_
    refine lv_sipush (v := 128) B.1 B.2.1 d_CRows_partOf_5 (by decide) ?_
    refine lv_iadd B.1 B.2.1 d_CRows_partOf_8 ?_
    obtain ⟨e8, e9⟩ := zrt hf
    exact zr_i (wC a z) B hI hr hlk e8 e9 d_CRows_partOf_9
set_option maxHeartbeats 4000000 in
set_option maxRecDepth 100000 in
theorem zc_CCLocals_append_27 (l : Launch) (D : va_G) (z : zZ) (a : Nat → Nat) (N : Nat) (x1 : Int32) (x2 : Int64) (u : zU) (r : Unit) (u1 : zU) (hf : zf_CCLocals_append_27 N x1 x2 u = some (r, u1)) : zMet l D z y_CLocals_append (.code y_CLocals_append b_CLocals_append 4 none) { frames := 0, cells := 0, slots := 0, locals := 0 } [.ref (a 27), .int x1, .long x2] (wC a z u) (zQv D (wC a z u1)) := by
  refine zM_v (own := R_CLocals) [.ref (a 27), .int x1, .long x2] (wC a z u) (wC a z u1) (by decide) rfl (Nat.le_of_ble_eq_true rfl) ?_
  intro p e s m args below meth c A ls B hr hlk hI hl
  have hl : lv_has ls 4 [(0, .ref (a 27)), (1, .int x1), (2, .long x2)] := hl
  revert hf
  revert hI hl
  have hb31 : ∀  (u : zU) (H : Heap) (locs : List Loc) (ls : Array Slot), zf_CCLocals_append_27_b31 N   u = some (r, u1) → iw D A s (wC a z u) H locs → lv_has ls 4 [] → W p l e ({ frames := 0, cells := 0, slots := 0, locals := 0 } : Room) s m args below meth c H locs 0 0 (MQ below (zQv D (wC a z u1) A) args s 0 0 A) (F0 m 31 ls []) := by
    intro  u H locs ls hf hI hl
    unfold zf_CCLocals_append_27_b31 at hf
    obtain ⟨e1, e2⟩ := zrt hf
    exact zr_v (wC a z) B hI hr hlk e2 d_CLocals_append_31
  intro hI hl hf
  unfold zf_CCLocals_append_27 at hf
  refine lv_aload_n B.1 B.2.1 d_CLocals_append_0 rfl (lv_at hl 0 rfl) ?_
  refine rx_get (v := .int (gi u 13)) B hI hcl_CLocals hin_CLocals 27 (wC_at_27 a z u) 2 (by decide) hf_CLocals_2 zw_91 rfl d_CLocals_append_1 ?_
  refine lv_if_lt (tgt := 31) B.1 B.2.1 d_CLocals_append_4 (by decide) (fun hc1 => ?_) (fun hc1 => ?_)
  · rw [if_pos hc1] at hf
    exact hb31  u _ _ _ hf hI (lv_sub hl [] rfl)
  · rw [if_neg hc1] at hf
    refine lv_aload_n B.1 B.2.1 d_CLocals_append_7 rfl (lv_at hl 0 rfl) ?_
    refine rx_get (v := .int (gi u 13)) B hI hcl_CLocals hin_CLocals 27 (wC_at_27 a z u) 2 (by decide) hf_CLocals_2 zw_91 rfl d_CLocals_append_8 ?_
    refine lv_aload_n B.1 B.2.1 d_CLocals_append_11 rfl (lv_at hl 0 rfl) ?_
    refine rx_get (v := .ref (a 28)) B hI hcl_CLocals hin_CLocals 27 (wC_at_27 a z u) 0 (by decide) hf_CLocals_0 zw_113 rfl d_CLocals_append_12 ?_
    refine rx_alen (v := 52) B hI 28 0 (wC_at_28 a z u) rfl rfl d_CLocals_append_15 ?_
    refine lv_icmp_ge (tgt := 31) B.1 B.2.1 d_CLocals_append_16 (by decide) (fun hc2 => ?_) (fun hc2 => ?_)
    · rw [if_pos hc2] at hf
      exact hb31  u _ _ _ hf hI (lv_sub hl [] rfl)
    · rw [if_neg hc2] at hf
      refine lv_aload_n B.1 B.2.1 d_CLocals_append_19 rfl (lv_at hl 0 rfl) ?_
      refine rx_get (v := .int (gi u 13)) B hI hcl_CLocals hin_CLocals 27 (wC_at_27 a z u) 2 (by decide) hf_CLocals_2 zw_91 rfl d_CLocals_append_20 ?_
      refine lv_aload_n B.1 B.2.1 d_CLocals_append_23 rfl (lv_at hl 0 rfl) ?_
      refine rx_get (v := .ref (a 29)) B hI hcl_CLocals hin_CLocals 27 (wC_at_27 a z u) 1 (by decide) hf_CLocals_1 zw_114 rfl d_CLocals_append_24 ?_
      refine rx_alen (v := 52) B hI 29 2 (wC_at_29 a z u) rfl rfl d_CLocals_append_27 ?_
      refine lv_icmp_lt (tgt := 32) B.1 B.2.1 d_CLocals_append_28 (by decide) (fun hc3 => ?_) (fun hc3 => ?_)
      · rw [if_pos hc3] at hf
        refine lv_aload_n B.1 B.2.1 d_CLocals_append_32 rfl (lv_at hl 0 rfl) ?_
        refine lv_dup B.1 B.2.1 d_CLocals_append_33 rfl ?_
        refine rx_get (v := .long (gj u 0)) B hI hcl_CLocals hin_CLocals 27 (wC_at_27 a z u) 3 (by decide) hf_CLocals_3 zw_92 rfl d_CLocals_append_34 ?_
        refine lv_lload_n B.1 B.2.1 d_CLocals_append_37 rfl (lv_at hl 2 rfl) ?_
        refine lv_ladd B.1 B.2.1 d_CLocals_append_38 ?_
        refine rx_put B hI hcl_CLocals hin_CLocals hty_CLocals hnm_CLocals 27 (wC_at_27 a z u) 3 (by decide) hf_CLocals_3 zw_92 rfl (ty := .long) (by decide +kernel) rfl rfl (Nat.le_of_ble_eq_true rfl) (wC_sj_0 a z u ((gj u 0) + x2)) d_CLocals_append_39 (fun H locs hI => ?_)
        refine lv_aload_n B.1 B.2.1 d_CLocals_append_42 rfl (lv_at hl 0 rfl) ?_
        refine rx_get (v := .ref (a 28)) B hI hcl_CLocals hin_CLocals 27 (wC_at_27 a z (sj u 0 ((gj u 0) + x2))) 0 (by decide) hf_CLocals_0 zw_113 rfl d_CLocals_append_43 ?_
        refine lv_aload_n B.1 B.2.1 d_CLocals_append_46 rfl (lv_at hl 0 rfl) ?_
        refine rx_get (v := .int (gi u 13)) B hI hcl_CLocals hin_CLocals 27 (wC_at_27 a z (sj u 0 ((gj u 0) + x2))) 2 (by decide) hf_CLocals_2 zw_91 rfl d_CLocals_append_47 ?_
        refine lv_iload_n B.1 B.2.1 d_CLocals_append_50 rfl (lv_at hl 1 rfl) ?_
        obtain ⟨hi4, hf⟩ := zck_some hf
        refine rx_iast B hI 28 (wC_at_28 a z (sj u 0 ((gj u 0) + x2))) hi4 (wC_sa_16 a z (sj u 0 ((gj u 0) + x2)) (gi u 13) x1) d_CLocals_append_51 (fun H locs hI => ?_)
        refine lv_aload_n B.1 B.2.1 d_CLocals_append_52 rfl (lv_at hl 0 rfl) ?_
        refine rx_get (v := .ref (a 29)) B hI hcl_CLocals hin_CLocals 27 (wC_at_27 a z (sa (sj u 0 ((gj u 0) + x2)) 16 (gi u 13) x1)) 1 (by decide) hf_CLocals_1 zw_114 rfl d_CLocals_append_53 ?_
        refine lv_aload_n B.1 B.2.1 d_CLocals_append_56 rfl (lv_at hl 0 rfl) ?_
        refine rx_get (v := .int (gi u 13)) B hI hcl_CLocals hin_CLocals 27 (wC_at_27 a z (sa (sj u 0 ((gj u 0) + x2)) 16 (gi u 13) x1)) 2 (by decide) hf_CLocals_2 zw_91 rfl d_CLocals_append_57 ?_
        refine lv_aload_n B.1 B.2.1 d_CLocals_append_60 rfl (lv_at hl 0 rfl) ?_
        refine rx_get (v := .long ((gj u 0) + x2)) B hI hcl_CLocals hin_CLocals 27 (wC_at_27 a z (sa (sj u 0 ((gj u 0) + x2)) 16 (gi u 13) x1)) 3 (by decide) hf_CLocals_3 zw_92 rfl d_CLocals_append_61 ?_
        obtain ⟨hi5, hf⟩ := zck_some hf
        refine rx_last B hI 29 (wC_at_29 a z (sa (sj u 0 ((gj u 0) + x2)) 16 (gi u 13) x1)) hi5 (wC_sb_0 a z (sa (sj u 0 ((gj u 0) + x2)) 16 (gi u 13) x1) (gi u 13) ((gj u 0) + x2)) d_CLocals_append_64 (fun H locs hI => ?_)
        refine lv_aload_n B.1 B.2.1 d_CLocals_append_65 rfl (lv_at hl 0 rfl) ?_
        refine lv_dup B.1 B.2.1 d_CLocals_append_66 rfl ?_
        refine rx_get (v := .int (gi u 13)) B hI hcl_CLocals hin_CLocals 27 (wC_at_27 a z (sb (sa (sj u 0 ((gj u 0) + x2)) 16 (gi u 13) x1) 0 (gi u 13) ((gj u 0) + x2))) 2 (by decide) hf_CLocals_2 zw_91 rfl d_CLocals_append_67 ?_
        refine lv_iconst (v := 1) B.1 B.2.1 d_CLocals_append_70 (by decide) ?_
        refine lv_iadd B.1 B.2.1 d_CLocals_append_71 ?_
        refine rx_put B hI hcl_CLocals hin_CLocals hty_CLocals hnm_CLocals 27 (wC_at_27 a z (sb (sa (sj u 0 ((gj u 0) + x2)) 16 (gi u 13) x1) 0 (gi u 13) ((gj u 0) + x2))) 2 (by decide) hf_CLocals_2 zw_91 rfl (ty := .int) (by decide +kernel) rfl rfl (Nat.le_of_ble_eq_true rfl) (wC_si_13 a z (sb (sa (sj u 0 ((gj u 0) + x2)) 16 (gi u 13) x1) 0 (gi u 13) ((gj u 0) + x2)) ((gi u 13) + 1)) d_CLocals_append_72 (fun H locs hI => ?_)
        obtain ⟨e6, e7⟩ := zrt hf
        exact zr_v (wC a z) B hI hr hlk e7 d_CLocals_append_75
      · rw [if_neg hc3] at hf
        exact hb31  u _ _ _ hf hI (lv_sub hl [] rfl)
set_option maxHeartbeats 4000000 in
set_option maxRecDepth 100000 in
theorem zc_CCCode_openBody_26 (l : Launch) (D : va_G) (z : zZ) (a : Nat → Nat) (N : Nat) (x1 : Int32) (u : zU) (r : Unit) (u1 : zU) (hf : zf_CCCode_openBody_26 N x1 u = some (r, u1)) : zMet l D z y_CCode_openBody (.code y_CCode_openBody b_CCode_openBody 4 none) { frames := 3, cells := 0, slots := 0, locals := 65 } [.ref (a 26), .int x1] (wC a z u) (zQv D (wC a z u1)) := by
  refine zM_v (own := R_CCode) [.ref (a 26), .int x1] (wC a z u) (wC a z u1) (by decide) rfl (Nat.le_of_ble_eq_true rfl) ?_
  intro p e s m args below meth c A ls B hr hlk hI hl
  have hl : lv_has ls 4 [(0, .ref (a 26)), (1, .int x1)] := hl
  revert hf
  revert hI hl
  have hb20 : ∀ (n : Nat) (x1 : Int32) (x2 : Int32) (x3 : Int32) (u : zU) (H : Heap) (locs : List Loc) (ls : Array Slot), zf_CCCode_openBody_26_b20 N  n x1 x2 x3 u = some (r, u1) → iw D A s (wC a z u) H locs → lv_has ls 4 [(0, .ref (a 26)), (1, .int x1), (2, .int x2), (3, .int x3)] → W p l e ({ frames := 3, cells := 0, slots := 0, locals := 65 } : Room) s m args below meth c H locs 0 0 (MQ below (zQv D (wC a z u1) A) args s 0 0 A) (F0 m 20 ls []) := by
    intro n20
    induction n20 with
    | zero => intro x1 x2 x3 u H locs ls hf; exact absurd hf (by rw [zf_CCCode_openBody_26_b20]; exact fun h => by cases h)
    | succ n20 ih20 =>
      intro x1 x2 x3 u H locs ls hf hI hl
      rw [zf_CCCode_openBody_26_b20] at hf
      refine lv_iload_n B.1 B.2.1 d_CCode_openBody_20 rfl (lv_at hl 3 rfl) ?_
      refine lv_iload_n B.1 B.2.1 d_CCode_openBody_21 rfl (lv_at hl 2 rfl) ?_
      refine lv_icmp_ge (tgt := 51) B.1 B.2.1 d_CCode_openBody_22 (by decide) (fun hc1 => ?_) (fun hc1 => ?_)
      · rw [if_pos hc1] at hf
        obtain ⟨e2, e3⟩ := zrt hf
        exact zr_v (wC a z) B hI hr hlk e3 d_CCode_openBody_51
      · rw [if_neg hc1] at hf
        refine lv_aload_n B.1 B.2.1 d_CCode_openBody_25 rfl (lv_at hl 0 rfl) ?_
        refine rx_get (v := .ref (a 27)) B hI hcl_CCode hin_CCode 26 (wC_at_26 a z u) 2 (by decide) hf_CCode_2 zw_90 rfl d_CCode_openBody_26 ?_
        refine lv_aload_n B.1 B.2.1 d_CCode_openBody_29 rfl (lv_at hl 0 rfl) ?_
        refine rx_get (v := .ref (a 1)) B hI hcl_CCode hin_CCode 26 (wC_at_26 a z u) 0 (by decide) hf_CCode_0 zw_106 rfl d_CCode_openBody_30 ?_
        refine rx_getN (v := .ref (a 2)) B hI hcl_CThings hin_CThings 1 (wC_at_1 a z u) 0 (by decide) hf_CThings_0 zw_107 rfl d_CCode_openBody_33 ?_
        refine lv_iload_n B.1 B.2.1 d_CCode_openBody_36 rfl (lv_at hl 1 rfl) ?_
        refine lv_iload_n B.1 B.2.1 d_CCode_openBody_37 rfl (lv_at hl 3 rfl) ?_
        obtain ⟨r4, u5, h6, hf⟩ := zbd_some hf
        refine rx_Vi (n := 2) (As := [.int x1, .int x3]) (rest := [.ref (a 27)]) B hI hl.1 (zc_CCRows_partOf_2 l D z a N x1 x3 u r4 u5 h6) zw_109 zw_111 zw_112 zw_25 zw_110 (by decide +kernel) 2 (wC_at_2 a z u) hcl_CRows rfl rfl (Nat.le_of_ble_eq_true rfl) d_CCode_openBody_38 ⟨Nat.le_of_ble_eq_true rfl, Nat.le_of_ble_eq_true rfl⟩ rfl rfl ⟨Nat.zero_le _, Nat.zero_le _⟩ (fun H locs hI => ?_)
        refine lv_lconst (v := 1) B.1 B.2.1 d_CCode_openBody_41 (by decide) ?_
        obtain ⟨r7, u8, h9, hf⟩ := zbd_some hf
        refine rx_Vv (n := 2) (As := [.int r4, .long 1]) (rest := []) B hI hl.1 (zc_CCLocals_append_27 l D z a N r4 1 u5 r7 u8 h9) zw_115 zw_117 zw_118 zw_94 zw_116 (by decide +kernel) 27 (wC_at_27 a z u5) hcl_CLocals rfl rfl (Nat.le_of_ble_eq_true rfl) d_CCode_openBody_42 ⟨Nat.le_of_ble_eq_true rfl, Nat.le_of_ble_eq_true rfl⟩ rfl rfl ⟨Nat.zero_le _, Nat.zero_le _⟩ (fun H locs hI => ?_)
        refine lv_iinc (v := (x3 + 1)) (lv' := [(3, .int (x3 + 1)), (0, .ref (a 26)), (1, .int x1), (2, .int x2)]) B.1 B.2.1 d_CCode_openBody_45 hl (k := 3) rfl (by rfl) (by decide) rfl (fun ls hl => ?_)
        refine lv_goto (tgt := 20) B.1 B.2.1 d_CCode_openBody_48 (by decide) ?_
        exact ih20 x1 x2 (x3 + 1) u8 _ _ _ hf hI (lv_sub hl [1, 2, 3, 0] rfl)
  intro hI hl hf
  unfold zf_CCCode_openBody_26 at hf
  refine lv_aload_n B.1 B.2.1 d_CCode_openBody_0 rfl (lv_at hl 0 rfl) ?_
  refine lv_iload_n B.1 B.2.1 d_CCode_openBody_1 rfl (lv_at hl 1 rfl) ?_
  refine lv_iconst (v := 0) B.1 B.2.1 d_CCode_openBody_2 (by decide) ?_
  obtain ⟨r1, u2, h3, hf⟩ := zbd_some hf
  refine rx_Vv (n := 2) (As := [.int x1, .int 0]) (rest := []) B hI hl.1 (zc_CCCode_open_26 l D z a N x1 0 u r1 u2 h3) zw_102 zw_104 zw_105 zw_10 zw_103 (by decide +kernel) 26 (wC_at_26 a z u) hcl_CCode rfl rfl (Nat.le_of_ble_eq_true rfl) d_CCode_openBody_3 ⟨Nat.le_of_ble_eq_true rfl, Nat.le_of_ble_eq_true rfl⟩ rfl rfl ⟨Nat.zero_le _, Nat.zero_le _⟩ (fun H locs hI => ?_)
  refine lv_aload_n B.1 B.2.1 d_CCode_openBody_6 rfl (lv_at hl 0 rfl) ?_
  refine rx_get (v := .ref (a 1)) B hI hcl_CCode hin_CCode 26 (wC_at_26 a z u2) 0 (by decide) hf_CCode_0 zw_106 rfl d_CCode_openBody_7 ?_
  refine rx_getN (v := .ref (a 2)) B hI hcl_CThings hin_CThings 1 (wC_at_1 a z u2) 0 (by decide) hf_CThings_0 zw_107 rfl d_CCode_openBody_10 ?_
  refine lv_iload_n B.1 B.2.1 d_CCode_openBody_13 rfl (lv_at hl 1 rfl) ?_
  obtain ⟨r4, u5, h6, hf⟩ := zbd_some hf
  refine rx_Vi (n := 1) (As := [.int x1]) (rest := []) B hI hl.1 (zc_CCRows_sizeOf_2 l D z a N x1 u2 r4 u5 h6) zw_108 zw_27 zw_28 zw_25 zw_26 (by decide +kernel) 2 (wC_at_2 a z u2) hcl_CRows rfl rfl (Nat.le_of_ble_eq_true rfl) d_CCode_openBody_14 ⟨Nat.le_of_ble_eq_true rfl, Nat.le_of_ble_eq_true rfl⟩ rfl rfl ⟨Nat.zero_le _, Nat.zero_le _⟩ (fun H locs hI => ?_)
  refine lv_istore_n (lv' := [(2, .int r4), (0, .ref (a 26)), (1, .int x1)]) B.1 B.2.1 d_CCode_openBody_17 rfl hl (by decide) rfl (fun ls hl => ?_)
  refine lv_iconst (v := 0) B.1 B.2.1 d_CCode_openBody_18 (by decide) ?_
  refine lv_istore_n (lv' := [(3, .int 0), (2, .int r4), (0, .ref (a 26)), (1, .int x1)]) B.1 B.2.1 d_CCode_openBody_19 rfl hl (by decide) rfl (fun ls hl => ?_)
  exact hb20 N x1 r4 0 u5 _ _ _ hf hI (lv_sub hl [2, 3, 1, 0] rfl)
set_option maxHeartbeats 4000000 in
set_option maxRecDepth 100000 in
theorem zc_CCC_begin_0 (l : Launch) (D : va_G) (z : zZ) (a : Nat → Nat) (N : Nat) (x1 : Int32) (u : zU) (r : Int32) (u1 : zU) (hf : zf_CCC_begin_0 N x1 u = some (r, u1)) : zMet l D z y_CC_begin (.code y_CC_begin b_CC_begin 2 (some (.boolean))) { frames := 4, cells := 0, slots := 0, locals := 88 } [.ref (a 0), .int x1] (wC a z u) (zQi D r (wC a z u1)) := by
  refine zM_i (own := R_CC) [.ref (a 0), .int x1] (wC a z u) r (wC a z u1) (by decide) rfl (Nat.le_of_ble_eq_true rfl) ?_
  intro p e s m args below meth c A ls B hr hlk hI hl
  have hl : lv_has ls 2 [(0, .ref (a 0)), (1, .int x1)] := hl
  revert hf
  revert hI hl
  intro hI hl hf
  unfold zf_CCC_begin_0 at hf
  refine lv_aload_n B.1 B.2.1 d_CC_begin_0 rfl (lv_at hl 0 rfl) ?_
  refine rx_get (v := .ref (a 1)) B hI hcl_CC hin_CC 0 (wC_at_0 a z u) 0 (by decide) hf_CC_0 zw_0 rfl d_CC_begin_1 ?_
  refine lv_iload_n B.1 B.2.1 d_CC_begin_4 rfl (lv_at hl 1 rfl) ?_
  obtain ⟨r1, u2, h3, hf⟩ := zbd_some hf
  refine rx_Vi (n := 1) (As := [.int x1]) (rest := []) B hI hl.1 (zc_CCThings_hasType_1 l D z a N x1 u r1 u2 h3) zw_72 zw_56 zw_57 zw_3 zw_55 (by decide +kernel) 1 (wC_at_1 a z u) hcl_CThings rfl rfl (Nat.le_of_ble_eq_true rfl) d_CC_begin_5 ⟨Nat.le_of_ble_eq_true rfl, Nat.le_of_ble_eq_true rfl⟩ rfl rfl ⟨Nat.zero_le _, Nat.zero_le _⟩ (fun H locs hI => ?_)
  refine lv_if_ne (tgt := 13) B.1 B.2.1 d_CC_begin_8 (by decide) (fun hc4 => ?_) (fun hc4 => ?_)
  · rw [if_neg hc4] at hf
    refine lv_aload_n B.1 B.2.1 d_CC_begin_13 rfl (lv_at hl 0 rfl) ?_
    refine rx_get (v := .ref (a 26)) B hI hcl_CC hin_CC 0 (wC_at_0 a z u2) 1 (by decide) hf_CC_1 zw_7 rfl d_CC_begin_14 ?_
    refine lv_iload_n B.1 B.2.1 d_CC_begin_17 rfl (lv_at hl 1 rfl) ?_
    obtain ⟨r5, u6, h7, hf⟩ := zbd_some hf
    refine rx_Vv (n := 1) (As := [.int x1]) (rest := []) B hI hl.1 (zc_CCCode_openBody_26 l D z a N x1 u2 r5 u6 h7) zw_119 zw_121 zw_122 zw_10 zw_120 (by decide +kernel) 26 (wC_at_26 a z u2) hcl_CCode rfl rfl (Nat.le_of_ble_eq_true rfl) d_CC_begin_18 ⟨Nat.le_of_ble_eq_true rfl, Nat.le_of_ble_eq_true rfl⟩ rfl rfl ⟨Nat.zero_le _, Nat.zero_le _⟩ (fun H locs hI => ?_)
    refine lv_iconst (v := 1) B.1 B.2.1 d_CC_begin_21 (by decide) ?_
    obtain ⟨e8, e9⟩ := zrt hf
    exact zr_z (wC a z) B hI hr hlk (by decide) e8 e9 d_CC_begin_22
  · rw [if_pos hc4] at hf
    refine lv_iconst (v := 0) B.1 B.2.1 d_CC_begin_11 (by decide) ?_
    obtain ⟨e10, e11⟩ := zrt hf
    exact zr_z (wC a z) B hI hr hlk (by decide) e10 e11 d_CC_begin_12
set_option maxHeartbeats 4000000 in
set_option maxRecDepth 100000 in
theorem zc_CCCode_openConstant_26 (l : Launch) (D : va_G) (z : zZ) (a : Nat → Nat) (N : Nat) (x1 : Int32) (x2 : Int32) (u : zU) (r : Unit) (u1 : zU) (hf : zf_CCCode_openConstant_26 N x1 x2 u = some (r, u1)) : zMet l D z y_CCode_openConstant (.code y_CCode_openConstant b_CCode_openConstant 3 none) { frames := 3, cells := 0, slots := 0, locals := 65 } [.ref (a 26), .int x1, .int x2] (wC a z u) (zQv D (wC a z u1)) := by
  refine zM_v (own := R_CCode) [.ref (a 26), .int x1, .int x2] (wC a z u) (wC a z u1) (by decide) rfl (Nat.le_of_ble_eq_true rfl) ?_
  intro p e s m args below meth c A ls B hr hlk hI hl
  have hl : lv_has ls 3 [(0, .ref (a 26)), (1, .int x1), (2, .int x2)] := hl
  revert hf
  revert hI hl
  intro hI hl hf
  unfold zf_CCCode_openConstant_26 at hf
  refine lv_aload_n B.1 B.2.1 d_CCode_openConstant_0 rfl (lv_at hl 0 rfl) ?_
  refine lv_iload_n B.1 B.2.1 d_CCode_openConstant_1 rfl (lv_at hl 1 rfl) ?_
  refine lv_sipush (v := 128) B.1 B.2.1 d_CCode_openConstant_2 (by decide) ?_
  refine lv_isub B.1 B.2.1 d_CCode_openConstant_5 ?_
  refine lv_iconst (v := 1) B.1 B.2.1 d_CCode_openConstant_6 (by decide) ?_
  obtain ⟨r1, u2, h3, hf⟩ := zbd_some hf
  refine rx_Vv (n := 2) (As := [.int (x1 - 128), .int 1]) (rest := []) B hI hl.1 (zc_CCCode_open_26 l D z a N (x1 - 128) 1 u r1 u2 h3) zw_102 zw_104 zw_105 zw_10 zw_103 (by decide +kernel) 26 (wC_at_26 a z u) hcl_CCode rfl rfl (Nat.le_of_ble_eq_true rfl) d_CCode_openConstant_7 ⟨Nat.le_of_ble_eq_true rfl, Nat.le_of_ble_eq_true rfl⟩ rfl rfl ⟨Nat.zero_le _, Nat.zero_le _⟩ (fun H locs hI => ?_)
  refine lv_aload_n B.1 B.2.1 d_CCode_openConstant_10 rfl (lv_at hl 0 rfl) ?_
  refine lv_iload_n B.1 B.2.1 d_CCode_openConstant_11 rfl (lv_at hl 2 rfl) ?_
  refine rx_put B hI hcl_CCode hin_CCode hty_CCode hnm_CCode 26 (wC_at_26 a z u2) 8 (by decide) hf_CCode_8 zw_123 rfl (ty := .int) (by decide +kernel) rfl rfl (Nat.le_of_ble_eq_true rfl) (wC_si_11 a z u2 x2) d_CCode_openConstant_12 (fun H locs hI => ?_)
  obtain ⟨e4, e5⟩ := zrt hf
  exact zr_v (wC a z) B hI hr hlk e5 d_CCode_openConstant_15
set_option maxHeartbeats 4000000 in
set_option maxRecDepth 100000 in
theorem zc_CCC_constant_0 (l : Launch) (D : va_G) (z : zZ) (a : Nat → Nat) (N : Nat) (x1 : Int32) (x2 : Int32) (u : zU) (r : Int32) (u1 : zU) (hf : zf_CCC_constant_0 N x1 x2 u = some (r, u1)) : zMet l D z y_CC_constant (.code y_CC_constant b_CC_constant 3 (some (.boolean))) { frames := 4, cells := 0, slots := 0, locals := 87 } [.ref (a 0), .int x1, .int x2] (wC a z u) (zQi D r (wC a z u1)) := by
  refine zM_i (own := R_CC) [.ref (a 0), .int x1, .int x2] (wC a z u) r (wC a z u1) (by decide) rfl (Nat.le_of_ble_eq_true rfl) ?_
  intro p e s m args below meth c A ls B hr hlk hI hl
  have hl : lv_has ls 3 [(0, .ref (a 0)), (1, .int x1), (2, .int x2)] := hl
  revert hf
  revert hI hl
  have hb11 : ∀  (u : zU) (H : Heap) (locs : List Loc) (ls : Array Slot), zf_CCC_constant_0_b11 N   u = some (r, u1) → iw D A s (wC a z u) H locs → lv_has ls 3 [] → W p l e ({ frames := 4, cells := 0, slots := 0, locals := 87 } : Room) s m args below meth c H locs 0 0 (MQ below (zQi D r (wC a z u1) A) args s 0 0 A) (F0 m 11 ls []) := by
    intro  u H locs ls hf hI hl
    unfold zf_CCC_constant_0_b11 at hf
    refine lv_iconst (v := 0) B.1 B.2.1 d_CC_constant_11 (by decide) ?_
    obtain ⟨e1, e2⟩ := zrt hf
    exact zr_z (wC a z) B hI hr hlk (by decide) e1 e2 d_CC_constant_12
  intro hI hl hf
  unfold zf_CCC_constant_0 at hf
  refine lv_iload_n B.1 B.2.1 d_CC_constant_0 rfl (lv_at hl 1 rfl) ?_
  obtain ⟨r1, u2, h3, hf⟩ := zbd_some hf
  refine rx_Si (n := 1) (As := [.int x1]) (rest := []) B hI hl.1 (zc_CCC_isValueType l D z a N x1 u r1 u2 h3) zw_18 zw_20 zw_15 zw_19 (by decide +kernel) rfl rfl (Nat.le_of_ble_eq_true rfl) d_CC_constant_1 ⟨Nat.le_of_ble_eq_true rfl, Nat.le_of_ble_eq_true rfl⟩ rfl rfl ⟨Nat.zero_le _, Nat.zero_le _⟩ (fun H locs hI => ?_)
  refine lv_if_eq (tgt := 11) B.1 B.2.1 d_CC_constant_4 (by decide) (fun hc4 => ?_) (fun hc4 => ?_)
  · rw [if_pos hc4] at hf
    exact hb11  u2 _ _ _ hf hI (lv_sub hl [] rfl)
  · rw [if_neg hc4] at hf
    refine lv_iload_n B.1 B.2.1 d_CC_constant_7 rfl (lv_at hl 2 rfl) ?_
    refine lv_if_ge (tgt := 13) B.1 B.2.1 d_CC_constant_8 (by decide) (fun hc5 => ?_) (fun hc5 => ?_)
    · rw [if_pos hc5] at hf
      refine lv_aload_n B.1 B.2.1 d_CC_constant_13 rfl (lv_at hl 0 rfl) ?_
      refine rx_get (v := .ref (a 26)) B hI hcl_CC hin_CC 0 (wC_at_0 a z u2) 1 (by decide) hf_CC_1 zw_7 rfl d_CC_constant_14 ?_
      refine lv_iload_n B.1 B.2.1 d_CC_constant_17 rfl (lv_at hl 1 rfl) ?_
      refine lv_iload_n B.1 B.2.1 d_CC_constant_18 rfl (lv_at hl 2 rfl) ?_
      obtain ⟨r6, u7, h8, hf⟩ := zbd_some hf
      refine rx_Vv (n := 2) (As := [.int x1, .int x2]) (rest := []) B hI hl.1 (zc_CCCode_openConstant_26 l D z a N x1 x2 u2 r6 u7 h8) zw_124 zw_126 zw_127 zw_10 zw_125 (by decide +kernel) 26 (wC_at_26 a z u2) hcl_CCode rfl rfl (Nat.le_of_ble_eq_true rfl) d_CC_constant_19 ⟨Nat.le_of_ble_eq_true rfl, Nat.le_of_ble_eq_true rfl⟩ rfl rfl ⟨Nat.zero_le _, Nat.zero_le _⟩ (fun H locs hI => ?_)
      refine lv_iconst (v := 1) B.1 B.2.1 d_CC_constant_22 (by decide) ?_
      obtain ⟨e9, e10⟩ := zrt hf
      exact zr_z (wC a z) B hI hr hlk (by decide) e9 e10 d_CC_constant_23
    · rw [if_neg hc5] at hf
      exact hb11  u2 _ _ _ hf hI (lv_sub hl [] rfl)
set_option maxHeartbeats 4000000 in
set_option maxRecDepth 100000 in
theorem zc_CCC_withoutSign (l : Launch) (D : va_G) (z : zZ) (a : Nat → Nat) (N : Nat) (x0 : Int32) (u : zU) (r : Int64) (u1 : zU) (hf : zf_CCC_withoutSign N x0 u = some (r, u1)) : zMet l D z y_CC_withoutSign (.code y_CC_withoutSign b_CC_withoutSign 1 (some (.long))) { frames := 0, cells := 0, slots := 0, locals := 0 } [.int x0] (wC a z u) (zQl D r (wC a z u1)) := by
  refine zM_l (own := R_CC) [.int x0] (wC a z u) r (wC a z u1) (by decide) rfl (Nat.le_of_ble_eq_true rfl) ?_
  intro p e s m args below meth c A ls B hr hlk hI hl
  have hl : lv_has ls 1 [(0, .int x0)] := hl
  revert hf
  revert hI hl
  intro hI hl hf
  unfold zf_CCC_withoutSign at hf
  refine lv_iload_n B.1 B.2.1 d_CC_withoutSign_0 rfl (lv_at hl 0 rfl) ?_
  refine lv_i2l B.1 B.2.1 d_CC_withoutSign_1 rfl ?_
  refine lv_ldc2 (v := 4294967295) B.1 B.2.1 B.2.2.2.1 (B.2.2.2.2.1 _ zw_130) d_CC_withoutSign_2 ?_
  refine lv_land B.1 B.2.1 d_CC_withoutSign_5 ?_
  obtain ⟨e1, e2⟩ := zrt hf
  exact zr_l (wC a z) B hI hr hlk e1 e2 d_CC_withoutSign_6
set_option maxHeartbeats 4000000 in
set_option maxRecDepth 100000 in
theorem zc_CCCode_addLocals_26 (l : Launch) (D : va_G) (z : zZ) (a : Nat → Nat) (N : Nat) (x1 : Int32) (x2 : Int32) (u : zU) (r : Int32) (u1 : zU) (hf : zf_CCCode_addLocals_26 N x1 x2 u = some (r, u1)) : zMet l D z y_CCode_addLocals (.code y_CCode_addLocals b_CCode_addLocals 3 (some (.boolean))) { frames := 2, cells := 0, slots := 0, locals := 40 } [.ref (a 26), .int x1, .int x2] (wC a z u) (zQi D r (wC a z u1)) := by
  refine zM_i (own := R_CCode) [.ref (a 26), .int x1, .int x2] (wC a z u) r (wC a z u1) (by decide) rfl (Nat.le_of_ble_eq_true rfl) ?_
  intro p e s m args below meth c A ls B hr hlk hI hl
  have hl : lv_has ls 3 [(0, .ref (a 26)), (1, .int x1), (2, .int x2)] := hl
  revert hf
  revert hI hl
  have hb37 : ∀  (u : zU) (H : Heap) (locs : List Loc) (ls : Array Slot), zf_CCCode_addLocals_26_b37 N   u = some (r, u1) → iw D A s (wC a z u) H locs → lv_has ls 3 [] → W p l e ({ frames := 2, cells := 0, slots := 0, locals := 40 } : Room) s m args below meth c H locs 0 0 (MQ below (zQi D r (wC a z u1) A) args s 0 0 A) (F0 m 37 ls []) := by
    intro  u H locs ls hf hI hl
    unfold zf_CCCode_addLocals_26_b37 at hf
    refine lv_iconst (v := 0) B.1 B.2.1 d_CCode_addLocals_37 (by decide) ?_
    obtain ⟨e1, e2⟩ := zrt hf
    exact zr_z (wC a z) B hI hr hlk (by decide) e1 e2 d_CCode_addLocals_38
  intro hI hl hf
  unfold zf_CCCode_addLocals_26 at hf
  refine lv_aload_n B.1 B.2.1 d_CCode_addLocals_0 rfl (lv_at hl 0 rfl) ?_
  obtain ⟨r1, u2, h3, hf⟩ := zbd_some hf
  refine rx_Vi (n := 0) (As := []) (rest := []) B hI hl.1 (zc_CCCode_isOpen_26 l D z a N  u r1 u2 h3) zw_128 zw_12 zw_13 zw_10 zw_11 (by decide +kernel) 26 (wC_at_26 a z u) hcl_CCode rfl rfl (Nat.le_of_ble_eq_true rfl) d_CCode_addLocals_1 ⟨Nat.le_of_ble_eq_true rfl, Nat.le_of_ble_eq_true rfl⟩ rfl rfl ⟨Nat.zero_le _, Nat.zero_le _⟩ (fun H locs hI => ?_)
  refine lv_if_eq (tgt := 37) B.1 B.2.1 d_CCode_addLocals_4 (by decide) (fun hc4 => ?_) (fun hc4 => ?_)
  · rw [if_pos hc4] at hf
    exact hb37  u2 _ _ _ hf hI (lv_sub hl [] rfl)
  · rw [if_neg hc4] at hf
    refine lv_aload_n B.1 B.2.1 d_CCode_addLocals_7 rfl (lv_at hl 0 rfl) ?_
    refine rx_get (v := .int (gi u2 9)) B hI hcl_CCode hin_CCode 26 (wC_at_26 a z u2) 6 (by decide) hf_CCode_6 zw_101 rfl d_CCode_addLocals_8 ?_
    refine lv_if_ne (tgt := 37) B.1 B.2.1 d_CCode_addLocals_11 (by decide) (fun hc5 => ?_) (fun hc5 => ?_)
    · rw [if_neg hc5] at hf
      exact hb37  u2 _ _ _ hf hI (lv_sub hl [] rfl)
    · rw [if_pos hc5] at hf
      refine lv_aload_n B.1 B.2.1 d_CCode_addLocals_14 rfl (lv_at hl 0 rfl) ?_
      refine rx_get (v := .int (gi u2 10)) B hI hcl_CCode hin_CCode 26 (wC_at_26 a z u2) 7 (by decide) hf_CCode_7 zw_100 rfl d_CCode_addLocals_15 ?_
      refine lv_if_ne (tgt := 37) B.1 B.2.1 d_CCode_addLocals_18 (by decide) (fun hc6 => ?_) (fun hc6 => ?_)
      · rw [if_neg hc6] at hf
        exact hb37  u2 _ _ _ hf hI (lv_sub hl [] rfl)
      · rw [if_pos hc6] at hf
        refine lv_iload_n B.1 B.2.1 d_CCode_addLocals_21 rfl (lv_at hl 1 rfl) ?_
        obtain ⟨r7, u8, h9, hf⟩ := zbd_some hf
        refine rx_Mi (n := 1) (As := [.int x1]) (rest := []) B hI hl.1 (zc_CCC_isValueType l D z a N x1 u2 r7 u8 h9) zw_129 zw_20 zw_15 zw_19 (by decide +kernel) rfl rfl (Nat.le_of_ble_eq_true rfl) d_CCode_addLocals_22 ⟨Nat.le_of_ble_eq_true rfl, Nat.le_of_ble_eq_true rfl⟩ rfl rfl ⟨Nat.zero_le _, Nat.zero_le _⟩ (fun H locs hI => ?_)
        refine lv_if_eq (tgt := 37) B.1 B.2.1 d_CCode_addLocals_25 (by decide) (fun hc10 => ?_) (fun hc10 => ?_)
        · rw [if_pos hc10] at hf
          exact hb37  u8 _ _ _ hf hI (lv_sub hl [] rfl)
        · rw [if_neg hc10] at hf
          refine lv_aload_n B.1 B.2.1 d_CCode_addLocals_28 rfl (lv_at hl 0 rfl) ?_
          refine rx_get (v := .int (gi u8 12)) B hI hcl_CCode hin_CCode 26 (wC_at_26 a z u8) 9 (by decide) hf_CCode_9 zw_99 rfl d_CCode_addLocals_29 ?_
          refine lv_bipush (v := 40) B.1 B.2.1 d_CCode_addLocals_32 (by decide) ?_
          refine lv_icmp_lt (tgt := 39) B.1 B.2.1 d_CCode_addLocals_34 (by decide) (fun hc11 => ?_) (fun hc11 => ?_)
          · rw [if_pos hc11] at hf
            refine lv_aload_n B.1 B.2.1 d_CCode_addLocals_39 rfl (lv_at hl 0 rfl) ?_
            refine rx_get (v := .ref (a 27)) B hI hcl_CCode hin_CCode 26 (wC_at_26 a z u8) 2 (by decide) hf_CCode_2 zw_90 rfl d_CCode_addLocals_40 ?_
            refine lv_iload_n B.1 B.2.1 d_CCode_addLocals_43 rfl (lv_at hl 1 rfl) ?_
            refine lv_iload_n B.1 B.2.1 d_CCode_addLocals_44 rfl (lv_at hl 2 rfl) ?_
            obtain ⟨r12, u13, h14, hf⟩ := zbd_some hf
            refine rx_Ml (n := 1) (As := [.int x2]) (rest := [.int x1, .ref (a 27)]) B hI hl.1 (zc_CCC_withoutSign l D z a N x2 u8 r12 u13 h14) zw_131 zw_133 zw_15 zw_132 (by decide +kernel) rfl rfl (Nat.le_of_ble_eq_true rfl) d_CCode_addLocals_45 ⟨Nat.le_of_ble_eq_true rfl, Nat.le_of_ble_eq_true rfl⟩ rfl rfl ⟨Nat.zero_le _, Nat.zero_le _⟩ (fun H locs hI => ?_)
            obtain ⟨r15, u16, h17, hf⟩ := zbd_some hf
            refine rx_Vv (n := 2) (As := [.int x1, .long r12]) (rest := []) B hI hl.1 (zc_CCLocals_append_27 l D z a N x1 r12 u13 r15 u16 h17) zw_115 zw_117 zw_118 zw_94 zw_116 (by decide +kernel) 27 (wC_at_27 a z u13) hcl_CLocals rfl rfl (Nat.le_of_ble_eq_true rfl) d_CCode_addLocals_48 ⟨Nat.le_of_ble_eq_true rfl, Nat.le_of_ble_eq_true rfl⟩ rfl rfl ⟨Nat.zero_le _, Nat.zero_le _⟩ (fun H locs hI => ?_)
            refine lv_aload_n B.1 B.2.1 d_CCode_addLocals_51 rfl (lv_at hl 0 rfl) ?_
            refine lv_dup B.1 B.2.1 d_CCode_addLocals_52 rfl ?_
            refine rx_get (v := .int (gi u16 12)) B hI hcl_CCode hin_CCode 26 (wC_at_26 a z u16) 9 (by decide) hf_CCode_9 zw_99 rfl d_CCode_addLocals_53 ?_
            refine lv_iconst (v := 1) B.1 B.2.1 d_CCode_addLocals_56 (by decide) ?_
            refine lv_iadd B.1 B.2.1 d_CCode_addLocals_57 ?_
            refine rx_put B hI hcl_CCode hin_CCode hty_CCode hnm_CCode 26 (wC_at_26 a z u16) 9 (by decide) hf_CCode_9 zw_99 rfl (ty := .int) (by decide +kernel) rfl rfl (Nat.le_of_ble_eq_true rfl) (wC_si_12 a z u16 ((gi u16 12) + 1)) d_CCode_addLocals_58 (fun H locs hI => ?_)
            refine lv_iconst (v := 1) B.1 B.2.1 d_CCode_addLocals_61 (by decide) ?_
            obtain ⟨e18, e19⟩ := zrt hf
            exact zr_z (wC a z) B hI hr hlk (by decide) e18 e19 d_CCode_addLocals_62
          · rw [if_neg hc11] at hf
            exact hb37  u8 _ _ _ hf hI (lv_sub hl [] rfl)
set_option maxHeartbeats 4000000 in
set_option maxRecDepth 100000 in
theorem zc_CCC_local_0 (l : Launch) (D : va_G) (z : zZ) (a : Nat → Nat) (N : Nat) (x1 : Int32) (x2 : Int32) (u : zU) (r : Int32) (u1 : zU) (hf : zf_CCC_local_0 N x1 x2 u = some (r, u1)) : zMet l D z y_CC_local (.code y_CC_local b_CC_local 3 (some (.boolean))) { frames := 3, cells := 0, slots := 0, locals := 62 } [.ref (a 0), .int x1, .int x2] (wC a z u) (zQi D r (wC a z u1)) := by
  refine zM_i (own := R_CC) [.ref (a 0), .int x1, .int x2] (wC a z u) r (wC a z u1) (by decide) rfl (Nat.le_of_ble_eq_true rfl) ?_
  intro p e s m args below meth c A ls B hr hlk hI hl
  have hl : lv_has ls 3 [(0, .ref (a 0)), (1, .int x1), (2, .int x2)] := hl
  revert hf
  revert hI hl
  intro hI hl hf
  unfold zf_CCC_local_0 at hf
  refine lv_aload_n B.1 B.2.1 d_CC_local_0 rfl (lv_at hl 0 rfl) ?_
  refine rx_get (v := .ref (a 26)) B hI hcl_CC hin_CC 0 (wC_at_0 a z u) 1 (by decide) hf_CC_1 zw_7 rfl d_CC_local_1 ?_
  refine lv_iload_n B.1 B.2.1 d_CC_local_4 rfl (lv_at hl 1 rfl) ?_
  refine lv_iload_n B.1 B.2.1 d_CC_local_5 rfl (lv_at hl 2 rfl) ?_
  obtain ⟨r1, u2, h3, hf⟩ := zbd_some hf
  refine rx_Vi (n := 2) (As := [.int x1, .int x2]) (rest := []) B hI hl.1 (zc_CCCode_addLocals_26 l D z a N x1 x2 u r1 u2 h3) zw_134 zw_136 zw_137 zw_10 zw_135 (by decide +kernel) 26 (wC_at_26 a z u) hcl_CCode rfl rfl (Nat.le_of_ble_eq_true rfl) d_CC_local_6 ⟨Nat.le_of_ble_eq_true rfl, Nat.le_of_ble_eq_true rfl⟩ rfl rfl ⟨Nat.zero_le _, Nat.zero_le _⟩ (fun H locs hI => ?_)
  obtain ⟨hz6, hf⟩ := zck_some hf
  obtain ⟨e4, e5⟩ := zrt hf
  exact zr_z (wC a z) B hI hr hlk hz6 e4 e5 d_CC_local_9
set_option maxHeartbeats 4000000 in
set_option maxRecDepth 100000 in
theorem zc_CCCode_addLabel_26 (l : Launch) (D : va_G) (z : zZ) (a : Nat → Nat) (N : Nat) (x1 : Int32) (u : zU) (r : Int32) (u1 : zU) (hf : zf_CCCode_addLabel_26 N x1 u = some (r, u1)) : zMet l D z y_CCode_addLabel (.code y_CCode_addLabel b_CCode_addLabel 2 (some (.int))) { frames := 1, cells := 0, slots := 0, locals := 20 } [.ref (a 26), .int x1] (wC a z u) (zQi D r (wC a z u1)) := by
  refine zM_i (own := R_CCode) [.ref (a 26), .int x1] (wC a z u) r (wC a z u1) (by decide) rfl (Nat.le_of_ble_eq_true rfl) ?_
  intro p e s m args below meth c A ls B hr hlk hI hl
  have hl : lv_has ls 2 [(0, .ref (a 26)), (1, .int x1)] := hl
  revert hf
  revert hI hl
  have hb26 : ∀  (u : zU) (H : Heap) (locs : List Loc) (ls : Array Slot), zf_CCCode_addLabel_26_b26 N   u = some (r, u1) → iw D A s (wC a z u) H locs → lv_has ls 2 [] → W p l e ({ frames := 1, cells := 0, slots := 0, locals := 20 } : Room) s m args below meth c H locs 0 0 (MQ below (zQi D r (wC a z u1) A) args s 0 0 A) (F0 m 26 ls []) := by
    intro  u H locs ls hf hI hl
    unfold zf_CCCode_addLabel_26_b26 at hf
    refine lv_iconst (v := (-1)) B.1 B.2.1 d_CCode_addLabel_26 (by decide) ?_
    obtain ⟨e1, e2⟩ := zrt hf
    exact zr_i (wC a z) B hI hr hlk e1 e2 d_CCode_addLabel_27
  intro hI hl hf
  unfold zf_CCCode_addLabel_26 at hf
  refine lv_aload_n B.1 B.2.1 d_CCode_addLabel_0 rfl (lv_at hl 0 rfl) ?_
  obtain ⟨r1, u2, h3, hf⟩ := zbd_some hf
  refine rx_Vi (n := 0) (As := []) (rest := []) B hI hl.1 (zc_CCCode_isOpen_26 l D z a N  u r1 u2 h3) zw_128 zw_12 zw_13 zw_10 zw_11 (by decide +kernel) 26 (wC_at_26 a z u) hcl_CCode rfl rfl (Nat.le_of_ble_eq_true rfl) d_CCode_addLabel_1 ⟨Nat.le_of_ble_eq_true rfl, Nat.le_of_ble_eq_true rfl⟩ rfl rfl ⟨Nat.zero_le _, Nat.zero_le _⟩ (fun H locs hI => ?_)
  refine lv_if_eq (tgt := 26) B.1 B.2.1 d_CCode_addLabel_4 (by decide) (fun hc4 => ?_) (fun hc4 => ?_)
  · rw [if_pos hc4] at hf
    exact hb26  u2 _ _ _ hf hI (lv_sub hl [] rfl)
  · rw [if_neg hc4] at hf
    refine lv_aload_n B.1 B.2.1 d_CCode_addLabel_7 rfl (lv_at hl 0 rfl) ?_
    refine rx_get (v := .int (gi u2 7)) B hI hcl_CCode hin_CCode 26 (wC_at_26 a z u2) 4 (by decide) hf_CCode_4 zw_98 rfl d_CCode_addLabel_8 ?_
    refine lv_if_lt (tgt := 26) B.1 B.2.1 d_CCode_addLabel_11 (by decide) (fun hc5 => ?_) (fun hc5 => ?_)
    · rw [if_pos hc5] at hf
      exact hb26  u2 _ _ _ hf hI (lv_sub hl [] rfl)
    · rw [if_neg hc5] at hf
      refine lv_aload_n B.1 B.2.1 d_CCode_addLabel_14 rfl (lv_at hl 0 rfl) ?_
      refine rx_get (v := .int (gi u2 7)) B hI hcl_CCode hin_CCode 26 (wC_at_26 a z u2) 4 (by decide) hf_CCode_4 zw_98 rfl d_CCode_addLabel_15 ?_
      refine lv_aload_n B.1 B.2.1 d_CCode_addLabel_18 rfl (lv_at hl 0 rfl) ?_
      refine rx_get (v := .ref (a 30)) B hI hcl_CCode hin_CCode 26 (wC_at_26 a z u2) 3 (by decide) hf_CCode_3 zw_138 rfl d_CCode_addLabel_19 ?_
      refine rx_alen (v := 20) B hI 30 0 (wC_at_30 a z u2) rfl rfl d_CCode_addLabel_22 ?_
      refine lv_icmp_lt (tgt := 28) B.1 B.2.1 d_CCode_addLabel_23 (by decide) (fun hc6 => ?_) (fun hc6 => ?_)
      · rw [if_pos hc6] at hf
        refine lv_aload_n B.1 B.2.1 d_CCode_addLabel_28 rfl (lv_at hl 0 rfl) ?_
        refine rx_get (v := .ref (a 30)) B hI hcl_CCode hin_CCode 26 (wC_at_26 a z u2) 3 (by decide) hf_CCode_3 zw_138 rfl d_CCode_addLabel_29 ?_
        refine lv_aload_n B.1 B.2.1 d_CCode_addLabel_32 rfl (lv_at hl 0 rfl) ?_
        refine rx_get (v := .int (gi u2 7)) B hI hcl_CCode hin_CCode 26 (wC_at_26 a z u2) 4 (by decide) hf_CCode_4 zw_98 rfl d_CCode_addLabel_33 ?_
        refine lv_iload_n B.1 B.2.1 d_CCode_addLabel_36 rfl (lv_at hl 1 rfl) ?_
        obtain ⟨hi7, hf⟩ := zck_some hf
        refine rx_iast B hI 30 (wC_at_30 a z u2) hi7 (wC_sa_17 a z u2 (gi u2 7) x1) d_CCode_addLabel_37 (fun H locs hI => ?_)
        refine lv_aload_n B.1 B.2.1 d_CCode_addLabel_38 rfl (lv_at hl 0 rfl) ?_
        refine lv_dup B.1 B.2.1 d_CCode_addLabel_39 rfl ?_
        refine rx_get (v := .int (gi u2 7)) B hI hcl_CCode hin_CCode 26 (wC_at_26 a z (sa u2 17 (gi u2 7) x1)) 4 (by decide) hf_CCode_4 zw_98 rfl d_CCode_addLabel_40 ?_
        refine lv_iconst (v := 1) B.1 B.2.1 d_CCode_addLabel_43 (by decide) ?_
        refine lv_iadd B.1 B.2.1 d_CCode_addLabel_44 ?_
        refine rx_put B hI hcl_CCode hin_CCode hty_CCode hnm_CCode 26 (wC_at_26 a z (sa u2 17 (gi u2 7) x1)) 4 (by decide) hf_CCode_4 zw_98 rfl (ty := .int) (by decide +kernel) rfl rfl (Nat.le_of_ble_eq_true rfl) (wC_si_7 a z (sa u2 17 (gi u2 7) x1) ((gi u2 7) + 1)) d_CCode_addLabel_45 (fun H locs hI => ?_)
        refine lv_aload_n B.1 B.2.1 d_CCode_addLabel_48 rfl (lv_at hl 0 rfl) ?_
        refine rx_get (v := .int ((gi u2 7) + 1)) B hI hcl_CCode hin_CCode 26 (wC_at_26 a z (si (sa u2 17 (gi u2 7) x1) 7 ((gi u2 7) + 1))) 4 (by decide) hf_CCode_4 zw_98 rfl d_CCode_addLabel_49 ?_
        obtain ⟨e8, e9⟩ := zrt hf
        exact zr_i (wC a z) B hI hr hlk e8 e9 d_CCode_addLabel_52
      · rw [if_neg hc6] at hf
        exact hb26  u2 _ _ _ hf hI (lv_sub hl [] rfl)
set_option maxHeartbeats 4000000 in
set_option maxRecDepth 100000 in
theorem zc_CCC_label_0 (l : Launch) (D : va_G) (z : zZ) (a : Nat → Nat) (N : Nat) (x1 : Int32) (u : zU) (r : Int32) (u1 : zU) (hf : zf_CCC_label_0 N x1 u = some (r, u1)) : zMet l D z y_CC_label (.code y_CC_label b_CC_label 2 (some (.int))) { frames := 2, cells := 0, slots := 0, locals := 41 } [.ref (a 0), .int x1] (wC a z u) (zQi D r (wC a z u1)) := by
  refine zM_i (own := R_CC) [.ref (a 0), .int x1] (wC a z u) r (wC a z u1) (by decide) rfl (Nat.le_of_ble_eq_true rfl) ?_
  intro p e s m args below meth c A ls B hr hlk hI hl
  have hl : lv_has ls 2 [(0, .ref (a 0)), (1, .int x1)] := hl
  revert hf
  revert hI hl
  intro hI hl hf
  unfold zf_CCC_label_0 at hf
  refine lv_aload_n B.1 B.2.1 d_CC_label_0 rfl (lv_at hl 0 rfl) ?_
  refine rx_get (v := .ref (a 26)) B hI hcl_CC hin_CC 0 (wC_at_0 a z u) 1 (by decide) hf_CC_1 zw_7 rfl d_CC_label_1 ?_
  refine lv_iload_n B.1 B.2.1 d_CC_label_4 rfl (lv_at hl 1 rfl) ?_
  obtain ⟨r1, u2, h3, hf⟩ := zbd_some hf
  refine rx_Vi (n := 1) (As := [.int x1]) (rest := []) B hI hl.1 (zc_CCCode_addLabel_26 l D z a N x1 u r1 u2 h3) zw_139 zw_141 zw_142 zw_10 zw_140 (by decide +kernel) 26 (wC_at_26 a z u) hcl_CCode rfl rfl (Nat.le_of_ble_eq_true rfl) d_CC_label_5 ⟨Nat.le_of_ble_eq_true rfl, Nat.le_of_ble_eq_true rfl⟩ rfl rfl ⟨Nat.zero_le _, Nat.zero_le _⟩ (fun H locs hI => ?_)
  obtain ⟨e4, e5⟩ := zrt hf
  exact zr_i (wC a z) B hI hr hlk e4 e5 d_CC_label_8
