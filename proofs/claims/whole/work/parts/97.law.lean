theorem zcmp_self (x : Int64) : lg_cmp x x = 0 := by
  unfold lg_cmp
  rw [if_neg (show ¬ x > x from Int64.lt_irrefl), if_pos rfl]
theorem zlw_sub {L : Nat} (hL : L ≤ 2048) : (Int32.ofNat L - 4).toInt = (L : Int) - 4 := by
  have h1 : (Int32.ofNat L).toInt = (L : Int) := nI_toInt (by omega)
  rw [Int32.toInt_sub, h1]
  have h2 : (4 : Int32).toInt = 4 := by decide
  rw [h2, Int.bmod_eq_of_le] <;> omega
theorem zlw_in {k L : Nat} (hL : L ≤ 2048) (hk : k ≤ L + 4) (h : ¬ (Int32.ofNat L - 4) < nI k) : k + 4 ≤ L := by
  rw [Int32.lt_iff_toInt_lt, zlw_sub hL, nI_toInt (by omega)] at h
  omega
theorem zlw_at {k L : Nat} (q : Nat) (hL : L ≤ 2048) (h : k + q < L) : vp_in (nI k + nI q) L := by
  rw [nI_add]
  exact vp_in_nI h (by omega)
theorem zArr {args : Array Value} {s : State} {ty : FieldType} (h : (Cond.arrayClass ty).before args s = true) : ∃ cA : ClassId, ArrOfT s cA ty ∧ s.vm.findClass ("[" ++ ty.toString) = some cA := by
  obtain ⟨cA, kA, comp, hfind, hk, hkind⟩ := Cond.arrayClass_spec h
  exact ⟨cA, fun n z => ⟨fun k h => (by cases h), kA, hk, comp, hkind⟩, hfind⟩
theorem zNok_of {args : Array Value} {s : State} (hts : ∀ w ∈ lw_tbl, w.before args s = true) : zNok s := by
  intro w hw
  have h1 := hts w (List.mem_filter.mp hw).1
  have h2 : zisN w = true := (List.mem_filter.mp hw).2
  cases w <;> first | (simp [zisN] at h2; done) | exact va_Nw.of rfl h1
set_option maxHeartbeats 4000000 in
set_option maxRecDepth 100000 in
theorem law_loop {p : Program} {l : Launch} {e : Env} {s : State} {m : MethodId} {below : List Frame} {meth : Method} {c : Code} {D : va_G} {z : zZ} {a a2 : Nat → Nat} {b L : Nat} {xs : Nat → Int32} (hL : L ≤ 2048) (C0 : lw_At p s m meth c b L xs) (B : bx p s m #[Value.ref b] c code 4 R_law (fun q : Nat => s.heap.size ≤ q) D z) (N : Nat) (hN : 1000000 ≤ N) :
    ∀ (n k : Nat) (u v : zU) (H : Heap) (locs : List Loc) (ls : Array Slot), k ≤ L + 4 → L + 4 ≤ k + n → zRel u v → iw D (fun q : Nat => s.heap.size ≤ q) s (wC a z u ++ wM a2 z v) H locs → lv_has ls 4 [(0, .ref b), (1, .ref (a 0)), (2, .ref (a2 0)), (3, .int (nI k))] → W p l e room_1 s m #[Value.ref b] below meth c H locs 58 5088 (lw_Z below #[Value.ref b] s) (F0 m 18 ls []) := by
  obtain ⟨-, -, hr, -, -, -, hX, hbl, hlk, -⟩ := C0
  have hbA : ¬ (fun q : Nat => s.heap.size ≤ q) b := Nat.not_le.mpr hbl
  intro n
  induction n with
  | zero =>
    intro k u v H locs ls h1 h2 hRel hI hl
    refine lv_iload_n B.1 B.2.1 d_law_law_18 rfl (lv_at hl 3 rfl) ?_
    refine lv_aload_n B.1 B.2.1 d_law_law_19 rfl (lv_at hl 0 rfl) ?_
    refine va_slen B.1 B.2.1 hX hbl hbA hI.2.2 d_law_law_20 ?_
    refine lv_iconst (v := 4) B.1 B.2.1 d_law_law_21 (by decide) ?_
    refine lv_isub B.1 B.2.1 d_law_law_22 ?_
    refine lv_icmp_gt (tgt := 445) B.1 B.2.1 d_law_law_23 (by decide) (fun hc => ?_) (fun hc => ?_)
    · refine lv_iconst (v := 1) B.1 B.2.1 d_law_law_445 (by decide) ?_
      refine va_forget (fun q hq => hI.2.2.2.2 q hq) ?_
      refine W.widen (k := 58) (n := 5088) (Nat.le_of_ble_eq_true rfl) (Nat.le_of_ble_eq_true rfl) ?_
      exact lw_ret B.1 B.2.1 hr hlk d_law_law_446
    · exact absurd (zlw_in hL h1 hc) (by omega)
  | succ n ih =>
    intro k u v H locs ls h1 h2 hRel hI hl
    refine lv_iload_n B.1 B.2.1 d_law_law_18 rfl (lv_at hl 3 rfl) ?_
    refine lv_aload_n B.1 B.2.1 d_law_law_19 rfl (lv_at hl 0 rfl) ?_
    refine va_slen B.1 B.2.1 hX hbl hbA hI.2.2 d_law_law_20 ?_
    refine lv_iconst (v := 4) B.1 B.2.1 d_law_law_21 (by decide) ?_
    refine lv_isub B.1 B.2.1 d_law_law_22 ?_
    refine lv_icmp_gt (tgt := 445) B.1 B.2.1 d_law_law_23 (by decide) (fun hc => ?_) (fun hc => ?_)
    · refine lv_iconst (v := 1) B.1 B.2.1 d_law_law_445 (by decide) ?_
      refine va_forget (fun q hq => hI.2.2.2.2 q hq) ?_
      refine W.widen (k := 58) (n := 5088) (Nat.le_of_ble_eq_true rfl) (Nat.le_of_ble_eq_true rfl) ?_
      exact lw_ret B.1 B.2.1 hr hlk d_law_law_446
    · have hk := zlw_in hL h1 hc
      have hk0 : vp_in (nI k) L := vp_in_nI (by omega) (by omega)
      have hk1 : vp_in ((nI k) + 1) L := zlw_at 1 hL (by omega)
      have hk2 : vp_in ((nI k) + 2) L := zlw_at 2 hL (by omega)
      have hk3 : vp_in ((nI k) + 3) L := zlw_at 3 hL (by omega)
      refine lv_aload_n B.1 B.2.1 d_law_law_26 rfl (lv_at hl 0 rfl) ?_
      refine lv_iload_n B.1 B.2.1 d_law_law_27 rfl (lv_at hl 3 rfl) ?_
      refine va_sld B.1 B.2.1 hX hbl hbA hI.2.2 hk0 d_law_law_28 ?_
      refine lv_bipush (v := 15) B.1 B.2.1 d_law_law_29 (by decide) ?_
      refine lv_iand B.1 B.2.1 d_law_law_31 ?_
      by_cases hc1 : ((xs (nI k).toNatClampNeg) &&& 15) = 0
      · refine lv_tableIn (off := 64) (tgt := 96) B.1 B.2.1 d_law_law_32 (by rw [hc1]; decide +kernel) (by rw [hc1]; decide +kernel) (by rw [hc1]; decide +kernel) (by decide) ?_
        refine lv_aload_n B.1 B.2.1 d_law_law_96 rfl (lv_at hl 1 rfl) ?_
        obtain ⟨r2, u3, v4, e5, e6, hRel⟩ := zl_type N hN   hRel
        refine rx_Vi (n := 0) (As := []) (rest := []) B hI hl.1 (zMet_il (wM a2 z v) (zc_CCC_type_0 l D z a N  u r2 u3 e5)) zw_697 zw_699 zw_700 zw_15 zw_698 (by decide +kernel) 0 (zap_l (wC_at_0 a z u)) hcl_CC rfl rfl (Nat.le_of_ble_eq_true rfl) d_law_law_97 ⟨Nat.le_of_ble_eq_true rfl, Nat.le_of_ble_eq_true rfl⟩ rfl rfl ⟨Nat.le_of_ble_eq_true rfl, Nat.le_of_ble_eq_true rfl⟩ (fun H locs hI => ?_)
        refine lv_aload_n B.1 B.2.1 d_law_law_100 rfl (lv_at hl 2 rfl) ?_
        refine rx_Vi (n := 0) (As := []) (rest := [.int r2]) B hI hl.1 (zMet_ir (wC a z u3) (zc_MMC_type_0 l D z a2 N  v r2 v4 e6)) zw_701 zw_703 zw_704 zw_399 zw_702 (by decide +kernel) ((wC a z u3).length + 0) (zap_r (wM_at_0 a2 z v)) hcl_MC rfl rfl (Nat.le_of_ble_eq_true rfl) d_law_law_101 ⟨Nat.le_of_ble_eq_true rfl, Nat.le_of_ble_eq_true rfl⟩ rfl rfl ⟨Nat.le_of_ble_eq_true rfl, Nat.le_of_ble_eq_true rfl⟩ (fun H locs hI => ?_)
        refine lv_icmp_eq (tgt := 439) B.1 B.2.1 d_law_law_104 (by decide) (fun hc7 => ?_) (fun hc7 => ?_)
        · refine lv_iinc (v := nI (k + 4)) (lv' := [(3, .int (nI (k + 4))), (0, .ref b), (1, .ref (a 0)), (2, .ref (a2 0))]) B.1 B.2.1 d_law_law_439 hl (k := 3) rfl (by rw [show Int32.ofInt 4 = nI 4 from by decide]; exact nI_add k 4) (by decide) rfl (fun ls hl => ?_)
          refine lv_goto (tgt := 18) B.1 B.2.1 d_law_law_442 (by decide) ?_
          exact ih (k + 4) _ _ _ _ _ (by omega) (by omega) hRel hI (lv_sub hl [1, 2, 3, 0] rfl)
        · exact absurd rfl hc7
      by_cases hc8 : ((xs (nI k).toNatClampNeg) &&& 15) = 1
      · refine lv_tableIn (off := 77) (tgt := 109) B.1 B.2.1 d_law_law_32 (by rw [hc8]; decide +kernel) (by rw [hc8]; decide +kernel) (by rw [hc8]; decide +kernel) (by decide) ?_
        refine lv_aload_n B.1 B.2.1 d_law_law_109 rfl (lv_at hl 1 rfl) ?_
        refine lv_aload_n B.1 B.2.1 d_law_law_110 rfl (lv_at hl 0 rfl) ?_
        refine lv_iload_n B.1 B.2.1 d_law_law_111 rfl (lv_at hl 3 rfl) ?_
        refine lv_iconst (v := 1) B.1 B.2.1 d_law_law_112 (by decide) ?_
        refine lv_iadd B.1 B.2.1 d_law_law_113 ?_
        refine va_sld B.1 B.2.1 hX hbl hbA hI.2.2 hk1 d_law_law_114 ?_
        refine lv_if_eq (tgt := 122) B.1 B.2.1 d_law_law_115 (by decide) (fun hc9 => ?_) (fun hc9 => ?_)
        · refine lv_iconst (v := 0) B.1 B.2.1 d_law_law_122 (by decide) ?_
          refine lv_aload_n B.1 B.2.1 d_law_law_123 rfl (lv_at hl 0 rfl) ?_
          refine lv_iload_n B.1 B.2.1 d_law_law_124 rfl (lv_at hl 3 rfl) ?_
          refine lv_iconst (v := 2) B.1 B.2.1 d_law_law_125 (by decide) ?_
          refine lv_iadd B.1 B.2.1 d_law_law_126 ?_
          refine va_sld B.1 B.2.1 hX hbl hbA hI.2.2 hk2 d_law_law_127 ?_
          obtain ⟨r10, u11, v12, e13, e14, hRel⟩ := zl_part N hN 0 (xs ((nI k) + 2).toNatClampNeg) (by decide) hRel
          refine rx_Vi (n := 2) (As := [.int 0, .int (xs ((nI k) + 2).toNatClampNeg)]) (rest := []) B hI hl.1 (zMet_il (wM a2 z v) (zc_CCC_part_0 l D z a N 0 (xs ((nI k) + 2).toNatClampNeg) u r10 u11 e13)) zw_705 zw_707 zw_708 zw_15 zw_706 (by decide +kernel) 0 (zap_l (wC_at_0 a z u)) hcl_CC rfl rfl (Nat.le_of_ble_eq_true rfl) d_law_law_128 ⟨Nat.le_of_ble_eq_true rfl, Nat.le_of_ble_eq_true rfl⟩ rfl rfl ⟨Nat.le_of_ble_eq_true rfl, Nat.le_of_ble_eq_true rfl⟩ (fun H locs hI => ?_)
          refine lv_aload_n B.1 B.2.1 d_law_law_131 rfl (lv_at hl 2 rfl) ?_
          refine lv_aload_n B.1 B.2.1 d_law_law_132 rfl (lv_at hl 0 rfl) ?_
          refine lv_iload_n B.1 B.2.1 d_law_law_133 rfl (lv_at hl 3 rfl) ?_
          refine lv_iconst (v := 1) B.1 B.2.1 d_law_law_134 (by decide) ?_
          refine lv_iadd B.1 B.2.1 d_law_law_135 ?_
          refine va_sld B.1 B.2.1 hX hbl hbA hI.2.2 hk1 d_law_law_136 ?_
          refine lv_if_eq (tgt := 144) B.1 B.2.1 d_law_law_137 (by decide) (fun hc15 => ?_) (fun hc15 => ?_)
          · refine lv_iconst (v := 0) B.1 B.2.1 d_law_law_144 (by decide) ?_
            refine lv_aload_n B.1 B.2.1 d_law_law_145 rfl (lv_at hl 0 rfl) ?_
            refine lv_iload_n B.1 B.2.1 d_law_law_146 rfl (lv_at hl 3 rfl) ?_
            refine lv_iconst (v := 2) B.1 B.2.1 d_law_law_147 (by decide) ?_
            refine lv_iadd B.1 B.2.1 d_law_law_148 ?_
            refine va_sld B.1 B.2.1 hX hbl hbA hI.2.2 hk2 d_law_law_149 ?_
            refine rx_Vi (n := 2) (As := [.int 0, .int (xs ((nI k) + 2).toNatClampNeg)]) (rest := [.int r10]) B hI hl.1 (zMet_ir (wC a z u11) (zc_MMC_part_0 l D z a2 N 0 (xs ((nI k) + 2).toNatClampNeg) v r10 v12 e14)) zw_709 zw_711 zw_712 zw_399 zw_710 (by decide +kernel) ((wC a z u11).length + 0) (zap_r (wM_at_0 a2 z v)) hcl_MC rfl rfl (Nat.le_of_ble_eq_true rfl) d_law_law_150 ⟨Nat.le_of_ble_eq_true rfl, Nat.le_of_ble_eq_true rfl⟩ rfl rfl ⟨Nat.le_of_ble_eq_true rfl, Nat.le_of_ble_eq_true rfl⟩ (fun H locs hI => ?_)
            refine lv_icmp_eq (tgt := 439) B.1 B.2.1 d_law_law_153 (by decide) (fun hc16 => ?_) (fun hc16 => ?_)
            · refine lv_iinc (v := nI (k + 4)) (lv' := [(3, .int (nI (k + 4))), (0, .ref b), (1, .ref (a 0)), (2, .ref (a2 0))]) B.1 B.2.1 d_law_law_439 hl (k := 3) rfl (by rw [show Int32.ofInt 4 = nI 4 from by decide]; exact nI_add k 4) (by decide) rfl (fun ls hl => ?_)
              refine lv_goto (tgt := 18) B.1 B.2.1 d_law_law_442 (by decide) ?_
              exact ih (k + 4) _ _ _ _ _ (by omega) (by omega) hRel hI (lv_sub hl [1, 2, 3, 0] rfl)
            · exact absurd rfl hc16
          · exact absurd hc9 hc15
        · refine lv_iconst (v := 1) B.1 B.2.1 d_law_law_118 (by decide) ?_
          refine lv_goto (tgt := 123) B.1 B.2.1 d_law_law_119 (by decide) ?_
          refine lv_aload_n B.1 B.2.1 d_law_law_123 rfl (lv_at hl 0 rfl) ?_
          refine lv_iload_n B.1 B.2.1 d_law_law_124 rfl (lv_at hl 3 rfl) ?_
          refine lv_iconst (v := 2) B.1 B.2.1 d_law_law_125 (by decide) ?_
          refine lv_iadd B.1 B.2.1 d_law_law_126 ?_
          refine va_sld B.1 B.2.1 hX hbl hbA hI.2.2 hk2 d_law_law_127 ?_
          obtain ⟨r17, u18, v19, e20, e21, hRel⟩ := zl_part N hN 1 (xs ((nI k) + 2).toNatClampNeg) (by decide) hRel
          refine rx_Vi (n := 2) (As := [.int 1, .int (xs ((nI k) + 2).toNatClampNeg)]) (rest := []) B hI hl.1 (zMet_il (wM a2 z v) (zc_CCC_part_0 l D z a N 1 (xs ((nI k) + 2).toNatClampNeg) u r17 u18 e20)) zw_705 zw_707 zw_708 zw_15 zw_706 (by decide +kernel) 0 (zap_l (wC_at_0 a z u)) hcl_CC rfl rfl (Nat.le_of_ble_eq_true rfl) d_law_law_128 ⟨Nat.le_of_ble_eq_true rfl, Nat.le_of_ble_eq_true rfl⟩ rfl rfl ⟨Nat.le_of_ble_eq_true rfl, Nat.le_of_ble_eq_true rfl⟩ (fun H locs hI => ?_)
          refine lv_aload_n B.1 B.2.1 d_law_law_131 rfl (lv_at hl 2 rfl) ?_
          refine lv_aload_n B.1 B.2.1 d_law_law_132 rfl (lv_at hl 0 rfl) ?_
          refine lv_iload_n B.1 B.2.1 d_law_law_133 rfl (lv_at hl 3 rfl) ?_
          refine lv_iconst (v := 1) B.1 B.2.1 d_law_law_134 (by decide) ?_
          refine lv_iadd B.1 B.2.1 d_law_law_135 ?_
          refine va_sld B.1 B.2.1 hX hbl hbA hI.2.2 hk1 d_law_law_136 ?_
          refine lv_if_eq (tgt := 144) B.1 B.2.1 d_law_law_137 (by decide) (fun hc22 => ?_) (fun hc22 => ?_)
          · exact absurd hc22 hc9
          · refine lv_iconst (v := 1) B.1 B.2.1 d_law_law_140 (by decide) ?_
            refine lv_goto (tgt := 145) B.1 B.2.1 d_law_law_141 (by decide) ?_
            refine lv_aload_n B.1 B.2.1 d_law_law_145 rfl (lv_at hl 0 rfl) ?_
            refine lv_iload_n B.1 B.2.1 d_law_law_146 rfl (lv_at hl 3 rfl) ?_
            refine lv_iconst (v := 2) B.1 B.2.1 d_law_law_147 (by decide) ?_
            refine lv_iadd B.1 B.2.1 d_law_law_148 ?_
            refine va_sld B.1 B.2.1 hX hbl hbA hI.2.2 hk2 d_law_law_149 ?_
            refine rx_Vi (n := 2) (As := [.int 1, .int (xs ((nI k) + 2).toNatClampNeg)]) (rest := [.int r17]) B hI hl.1 (zMet_ir (wC a z u18) (zc_MMC_part_0 l D z a2 N 1 (xs ((nI k) + 2).toNatClampNeg) v r17 v19 e21)) zw_709 zw_711 zw_712 zw_399 zw_710 (by decide +kernel) ((wC a z u18).length + 0) (zap_r (wM_at_0 a2 z v)) hcl_MC rfl rfl (Nat.le_of_ble_eq_true rfl) d_law_law_150 ⟨Nat.le_of_ble_eq_true rfl, Nat.le_of_ble_eq_true rfl⟩ rfl rfl ⟨Nat.le_of_ble_eq_true rfl, Nat.le_of_ble_eq_true rfl⟩ (fun H locs hI => ?_)
            refine lv_icmp_eq (tgt := 439) B.1 B.2.1 d_law_law_153 (by decide) (fun hc23 => ?_) (fun hc23 => ?_)
            · refine lv_iinc (v := nI (k + 4)) (lv' := [(3, .int (nI (k + 4))), (0, .ref b), (1, .ref (a 0)), (2, .ref (a2 0))]) B.1 B.2.1 d_law_law_439 hl (k := 3) rfl (by rw [show Int32.ofInt 4 = nI 4 from by decide]; exact nI_add k 4) (by decide) rfl (fun ls hl => ?_)
              refine lv_goto (tgt := 18) B.1 B.2.1 d_law_law_442 (by decide) ?_
              exact ih (k + 4) _ _ _ _ _ (by omega) (by omega) hRel hI (lv_sub hl [1, 2, 3, 0] rfl)
            · exact absurd rfl hc23
      by_cases hc24 : ((xs (nI k).toNatClampNeg) &&& 15) = 2
      · refine lv_tableIn (off := 126) (tgt := 158) B.1 B.2.1 d_law_law_32 (by rw [hc24]; decide +kernel) (by rw [hc24]; decide +kernel) (by rw [hc24]; decide +kernel) (by decide) ?_
        refine lv_aload_n B.1 B.2.1 d_law_law_158 rfl (lv_at hl 1 rfl) ?_
        refine lv_aload_n B.1 B.2.1 d_law_law_159 rfl (lv_at hl 0 rfl) ?_
        refine lv_iload_n B.1 B.2.1 d_law_law_160 rfl (lv_at hl 3 rfl) ?_
        refine lv_iconst (v := 1) B.1 B.2.1 d_law_law_161 (by decide) ?_
        refine lv_iadd B.1 B.2.1 d_law_law_162 ?_
        refine va_sld B.1 B.2.1 hX hbl hbA hI.2.2 hk1 d_law_law_163 ?_
        refine lv_aload_n B.1 B.2.1 d_law_law_164 rfl (lv_at hl 0 rfl) ?_
        refine lv_iload_n B.1 B.2.1 d_law_law_165 rfl (lv_at hl 3 rfl) ?_
        refine lv_iconst (v := 2) B.1 B.2.1 d_law_law_166 (by decide) ?_
        refine lv_iadd B.1 B.2.1 d_law_law_167 ?_
        refine va_sld B.1 B.2.1 hX hbl hbA hI.2.2 hk2 d_law_law_168 ?_
        refine lv_aload_n B.1 B.2.1 d_law_law_169 rfl (lv_at hl 0 rfl) ?_
        refine lv_iload_n B.1 B.2.1 d_law_law_170 rfl (lv_at hl 3 rfl) ?_
        refine lv_iconst (v := 3) B.1 B.2.1 d_law_law_171 (by decide) ?_
        refine lv_iadd B.1 B.2.1 d_law_law_172 ?_
        refine va_sld B.1 B.2.1 hX hbl hbA hI.2.2 hk3 d_law_law_173 ?_
        obtain ⟨r25, u26, v27, e28, e29, hRel⟩ := zl_add N hN (xs ((nI k) + 1).toNatClampNeg) (xs ((nI k) + 2).toNatClampNeg) (xs ((nI k) + 3).toNatClampNeg)  hRel
        refine rx_Vi (n := 3) (As := [.int (xs ((nI k) + 1).toNatClampNeg), .int (xs ((nI k) + 2).toNatClampNeg), .int (xs ((nI k) + 3).toNatClampNeg)]) (rest := []) B hI hl.1 (zMet_il (wM a2 z v) (zc_CCC_add_0 l D z a N (xs ((nI k) + 1).toNatClampNeg) (xs ((nI k) + 2).toNatClampNeg) (xs ((nI k) + 3).toNatClampNeg) u r25 u26 e28)) zw_713 zw_715 zw_716 zw_15 zw_714 (by decide +kernel) 0 (zap_l (wC_at_0 a z u)) hcl_CC rfl rfl (Nat.le_of_ble_eq_true rfl) d_law_law_174 ⟨Nat.le_of_ble_eq_true rfl, Nat.le_of_ble_eq_true rfl⟩ rfl rfl ⟨Nat.le_of_ble_eq_true rfl, Nat.le_of_ble_eq_true rfl⟩ (fun H locs hI => ?_)
        refine lv_aload_n B.1 B.2.1 d_law_law_177 rfl (lv_at hl 2 rfl) ?_
        refine lv_aload_n B.1 B.2.1 d_law_law_178 rfl (lv_at hl 0 rfl) ?_
        refine lv_iload_n B.1 B.2.1 d_law_law_179 rfl (lv_at hl 3 rfl) ?_
        refine lv_iconst (v := 1) B.1 B.2.1 d_law_law_180 (by decide) ?_
        refine lv_iadd B.1 B.2.1 d_law_law_181 ?_
        refine va_sld B.1 B.2.1 hX hbl hbA hI.2.2 hk1 d_law_law_182 ?_
        refine lv_aload_n B.1 B.2.1 d_law_law_183 rfl (lv_at hl 0 rfl) ?_
        refine lv_iload_n B.1 B.2.1 d_law_law_184 rfl (lv_at hl 3 rfl) ?_
        refine lv_iconst (v := 2) B.1 B.2.1 d_law_law_185 (by decide) ?_
        refine lv_iadd B.1 B.2.1 d_law_law_186 ?_
        refine va_sld B.1 B.2.1 hX hbl hbA hI.2.2 hk2 d_law_law_187 ?_
        refine lv_aload_n B.1 B.2.1 d_law_law_188 rfl (lv_at hl 0 rfl) ?_
        refine lv_iload_n B.1 B.2.1 d_law_law_189 rfl (lv_at hl 3 rfl) ?_
        refine lv_iconst (v := 3) B.1 B.2.1 d_law_law_190 (by decide) ?_
        refine lv_iadd B.1 B.2.1 d_law_law_191 ?_
        refine va_sld B.1 B.2.1 hX hbl hbA hI.2.2 hk3 d_law_law_192 ?_
        refine rx_Vi (n := 3) (As := [.int (xs ((nI k) + 1).toNatClampNeg), .int (xs ((nI k) + 2).toNatClampNeg), .int (xs ((nI k) + 3).toNatClampNeg)]) (rest := [.int r25]) B hI hl.1 (zMet_ir (wC a z u26) (zc_MMC_add_0 l D z a2 N (xs ((nI k) + 1).toNatClampNeg) (xs ((nI k) + 2).toNatClampNeg) (xs ((nI k) + 3).toNatClampNeg) v r25 v27 e29)) zw_717 zw_719 zw_720 zw_399 zw_718 (by decide +kernel) ((wC a z u26).length + 0) (zap_r (wM_at_0 a2 z v)) hcl_MC rfl rfl (Nat.le_of_ble_eq_true rfl) d_law_law_193 ⟨Nat.le_of_ble_eq_true rfl, Nat.le_of_ble_eq_true rfl⟩ rfl rfl ⟨Nat.le_of_ble_eq_true rfl, Nat.le_of_ble_eq_true rfl⟩ (fun H locs hI => ?_)
        refine lv_icmp_eq (tgt := 439) B.1 B.2.1 d_law_law_196 (by decide) (fun hc30 => ?_) (fun hc30 => ?_)
        · refine lv_iinc (v := nI (k + 4)) (lv' := [(3, .int (nI (k + 4))), (0, .ref b), (1, .ref (a 0)), (2, .ref (a2 0))]) B.1 B.2.1 d_law_law_439 hl (k := 3) rfl (by rw [show Int32.ofInt 4 = nI 4 from by decide]; exact nI_add k 4) (by decide) rfl (fun ls hl => ?_)
          refine lv_goto (tgt := 18) B.1 B.2.1 d_law_law_442 (by decide) ?_
          exact ih (k + 4) _ _ _ _ _ (by omega) (by omega) hRel hI (lv_sub hl [1, 2, 3, 0] rfl)
        · exact absurd rfl hc30
      by_cases hc31 : ((xs (nI k).toNatClampNeg) &&& 15) = 3
      · refine lv_tableIn (off := 169) (tgt := 201) B.1 B.2.1 d_law_law_32 (by rw [hc31]; decide +kernel) (by rw [hc31]; decide +kernel) (by rw [hc31]; decide +kernel) (by decide) ?_
        refine lv_aload_n B.1 B.2.1 d_law_law_201 rfl (lv_at hl 1 rfl) ?_
        refine lv_aload_n B.1 B.2.1 d_law_law_202 rfl (lv_at hl 0 rfl) ?_
        refine lv_iload_n B.1 B.2.1 d_law_law_203 rfl (lv_at hl 3 rfl) ?_
        refine lv_iconst (v := 1) B.1 B.2.1 d_law_law_204 (by decide) ?_
        refine lv_iadd B.1 B.2.1 d_law_law_205 ?_
        refine va_sld B.1 B.2.1 hX hbl hbA hI.2.2 hk1 d_law_law_206 ?_
        obtain ⟨r32, u33, v34, e35, e36, hRel⟩ := zl_declare N hN (xs ((nI k) + 1).toNatClampNeg)  hRel
        refine rx_Vi (n := 1) (As := [.int (xs ((nI k) + 1).toNatClampNeg)]) (rest := []) B hI hl.1 (zMet_il (wM a2 z v) (zc_CCC_declare_0 l D z a N (xs ((nI k) + 1).toNatClampNeg) u r32 u33 e35)) zw_721 zw_723 zw_724 zw_15 zw_722 (by decide +kernel) 0 (zap_l (wC_at_0 a z u)) hcl_CC rfl rfl (Nat.le_of_ble_eq_true rfl) d_law_law_207 ⟨Nat.le_of_ble_eq_true rfl, Nat.le_of_ble_eq_true rfl⟩ rfl rfl ⟨Nat.le_of_ble_eq_true rfl, Nat.le_of_ble_eq_true rfl⟩ (fun H locs hI => ?_)
        refine lv_aload_n B.1 B.2.1 d_law_law_210 rfl (lv_at hl 2 rfl) ?_
        refine lv_aload_n B.1 B.2.1 d_law_law_211 rfl (lv_at hl 0 rfl) ?_
        refine lv_iload_n B.1 B.2.1 d_law_law_212 rfl (lv_at hl 3 rfl) ?_
        refine lv_iconst (v := 1) B.1 B.2.1 d_law_law_213 (by decide) ?_
        refine lv_iadd B.1 B.2.1 d_law_law_214 ?_
        refine va_sld B.1 B.2.1 hX hbl hbA hI.2.2 hk1 d_law_law_215 ?_
        refine rx_Vi (n := 1) (As := [.int (xs ((nI k) + 1).toNatClampNeg)]) (rest := [.int r32]) B hI hl.1 (zMet_ir (wC a z u33) (zc_MMC_declare_0 l D z a2 N (xs ((nI k) + 1).toNatClampNeg) v r32 v34 e36)) zw_725 zw_727 zw_728 zw_399 zw_726 (by decide +kernel) ((wC a z u33).length + 0) (zap_r (wM_at_0 a2 z v)) hcl_MC rfl rfl (Nat.le_of_ble_eq_true rfl) d_law_law_216 ⟨Nat.le_of_ble_eq_true rfl, Nat.le_of_ble_eq_true rfl⟩ rfl rfl ⟨Nat.le_of_ble_eq_true rfl, Nat.le_of_ble_eq_true rfl⟩ (fun H locs hI => ?_)
        refine lv_icmp_eq (tgt := 439) B.1 B.2.1 d_law_law_219 (by decide) (fun hc37 => ?_) (fun hc37 => ?_)
        · refine lv_iinc (v := nI (k + 4)) (lv' := [(3, .int (nI (k + 4))), (0, .ref b), (1, .ref (a 0)), (2, .ref (a2 0))]) B.1 B.2.1 d_law_law_439 hl (k := 3) rfl (by rw [show Int32.ofInt 4 = nI 4 from by decide]; exact nI_add k 4) (by decide) rfl (fun ls hl => ?_)
          refine lv_goto (tgt := 18) B.1 B.2.1 d_law_law_442 (by decide) ?_
          exact ih (k + 4) _ _ _ _ _ (by omega) (by omega) hRel hI (lv_sub hl [1, 2, 3, 0] rfl)
        · exact absurd rfl hc37
      by_cases hc38 : ((xs (nI k).toNatClampNeg) &&& 15) = 4
      · refine lv_tableIn (off := 192) (tgt := 224) B.1 B.2.1 d_law_law_32 (by rw [hc38]; decide +kernel) (by rw [hc38]; decide +kernel) (by rw [hc38]; decide +kernel) (by decide) ?_
        refine lv_aload_n B.1 B.2.1 d_law_law_224 rfl (lv_at hl 1 rfl) ?_
        refine lv_aload_n B.1 B.2.1 d_law_law_225 rfl (lv_at hl 0 rfl) ?_
        refine lv_iload_n B.1 B.2.1 d_law_law_226 rfl (lv_at hl 3 rfl) ?_
        refine lv_iconst (v := 1) B.1 B.2.1 d_law_law_227 (by decide) ?_
        refine lv_iadd B.1 B.2.1 d_law_law_228 ?_
        refine va_sld B.1 B.2.1 hX hbl hbA hI.2.2 hk1 d_law_law_229 ?_
        obtain ⟨r39, u40, v41, e42, e43, hRel⟩ := zl_begin N hN (xs ((nI k) + 1).toNatClampNeg)  hRel
        refine rx_Vi (n := 1) (As := [.int (xs ((nI k) + 1).toNatClampNeg)]) (rest := []) B hI hl.1 (zMet_il (wM a2 z v) (zc_CCC_begin_0 l D z a N (xs ((nI k) + 1).toNatClampNeg) u r39 u40 e42)) zw_729 zw_731 zw_732 zw_15 zw_730 (by decide +kernel) 0 (zap_l (wC_at_0 a z u)) hcl_CC rfl rfl (Nat.le_of_ble_eq_true rfl) d_law_law_230 ⟨Nat.le_of_ble_eq_true rfl, Nat.le_of_ble_eq_true rfl⟩ rfl rfl ⟨Nat.le_of_ble_eq_true rfl, Nat.le_of_ble_eq_true rfl⟩ (fun H locs hI => ?_)
        refine lv_aload_n B.1 B.2.1 d_law_law_233 rfl (lv_at hl 2 rfl) ?_
        refine lv_aload_n B.1 B.2.1 d_law_law_234 rfl (lv_at hl 0 rfl) ?_
        refine lv_iload_n B.1 B.2.1 d_law_law_235 rfl (lv_at hl 3 rfl) ?_
        refine lv_iconst (v := 1) B.1 B.2.1 d_law_law_236 (by decide) ?_
        refine lv_iadd B.1 B.2.1 d_law_law_237 ?_
        refine va_sld B.1 B.2.1 hX hbl hbA hI.2.2 hk1 d_law_law_238 ?_
        refine rx_Vi (n := 1) (As := [.int (xs ((nI k) + 1).toNatClampNeg)]) (rest := [.int r39]) B hI hl.1 (zMet_ir (wC a z u40) (zc_MMC_begin_0 l D z a2 N (xs ((nI k) + 1).toNatClampNeg) v r39 v41 e43)) zw_733 zw_735 zw_736 zw_399 zw_734 (by decide +kernel) ((wC a z u40).length + 0) (zap_r (wM_at_0 a2 z v)) hcl_MC rfl rfl (Nat.le_of_ble_eq_true rfl) d_law_law_239 ⟨Nat.le_of_ble_eq_true rfl, Nat.le_of_ble_eq_true rfl⟩ rfl rfl ⟨Nat.le_of_ble_eq_true rfl, Nat.le_of_ble_eq_true rfl⟩ (fun H locs hI => ?_)
        refine lv_icmp_eq (tgt := 439) B.1 B.2.1 d_law_law_242 (by decide) (fun hc44 => ?_) (fun hc44 => ?_)
        · refine lv_iinc (v := nI (k + 4)) (lv' := [(3, .int (nI (k + 4))), (0, .ref b), (1, .ref (a 0)), (2, .ref (a2 0))]) B.1 B.2.1 d_law_law_439 hl (k := 3) rfl (by rw [show Int32.ofInt 4 = nI 4 from by decide]; exact nI_add k 4) (by decide) rfl (fun ls hl => ?_)
          refine lv_goto (tgt := 18) B.1 B.2.1 d_law_law_442 (by decide) ?_
          exact ih (k + 4) _ _ _ _ _ (by omega) (by omega) hRel hI (lv_sub hl [1, 2, 3, 0] rfl)
        · exact absurd rfl hc44
      by_cases hc45 : ((xs (nI k).toNatClampNeg) &&& 15) = 5
      · refine lv_tableIn (off := 215) (tgt := 247) B.1 B.2.1 d_law_law_32 (by rw [hc45]; decide +kernel) (by rw [hc45]; decide +kernel) (by rw [hc45]; decide +kernel) (by decide) ?_
        refine lv_aload_n B.1 B.2.1 d_law_law_247 rfl (lv_at hl 1 rfl) ?_
        refine lv_aload_n B.1 B.2.1 d_law_law_248 rfl (lv_at hl 0 rfl) ?_
        refine lv_iload_n B.1 B.2.1 d_law_law_249 rfl (lv_at hl 3 rfl) ?_
        refine lv_iconst (v := 1) B.1 B.2.1 d_law_law_250 (by decide) ?_
        refine lv_iadd B.1 B.2.1 d_law_law_251 ?_
        refine va_sld B.1 B.2.1 hX hbl hbA hI.2.2 hk1 d_law_law_252 ?_
        refine lv_aload_n B.1 B.2.1 d_law_law_253 rfl (lv_at hl 0 rfl) ?_
        refine lv_iload_n B.1 B.2.1 d_law_law_254 rfl (lv_at hl 3 rfl) ?_
        refine lv_iconst (v := 2) B.1 B.2.1 d_law_law_255 (by decide) ?_
        refine lv_iadd B.1 B.2.1 d_law_law_256 ?_
        refine va_sld B.1 B.2.1 hX hbl hbA hI.2.2 hk2 d_law_law_257 ?_
        obtain ⟨r46, u47, v48, e49, e50, hRel⟩ := zl_constant N hN (xs ((nI k) + 1).toNatClampNeg) (xs ((nI k) + 2).toNatClampNeg)  hRel
        refine rx_Vi (n := 2) (As := [.int (xs ((nI k) + 1).toNatClampNeg), .int (xs ((nI k) + 2).toNatClampNeg)]) (rest := []) B hI hl.1 (zMet_il (wM a2 z v) (zc_CCC_constant_0 l D z a N (xs ((nI k) + 1).toNatClampNeg) (xs ((nI k) + 2).toNatClampNeg) u r46 u47 e49)) zw_737 zw_739 zw_740 zw_15 zw_738 (by decide +kernel) 0 (zap_l (wC_at_0 a z u)) hcl_CC rfl rfl (Nat.le_of_ble_eq_true rfl) d_law_law_258 ⟨Nat.le_of_ble_eq_true rfl, Nat.le_of_ble_eq_true rfl⟩ rfl rfl ⟨Nat.le_of_ble_eq_true rfl, Nat.le_of_ble_eq_true rfl⟩ (fun H locs hI => ?_)
        refine lv_aload_n B.1 B.2.1 d_law_law_261 rfl (lv_at hl 2 rfl) ?_
        refine lv_aload_n B.1 B.2.1 d_law_law_262 rfl (lv_at hl 0 rfl) ?_
        refine lv_iload_n B.1 B.2.1 d_law_law_263 rfl (lv_at hl 3 rfl) ?_
        refine lv_iconst (v := 1) B.1 B.2.1 d_law_law_264 (by decide) ?_
        refine lv_iadd B.1 B.2.1 d_law_law_265 ?_
        refine va_sld B.1 B.2.1 hX hbl hbA hI.2.2 hk1 d_law_law_266 ?_
        refine lv_aload_n B.1 B.2.1 d_law_law_267 rfl (lv_at hl 0 rfl) ?_
        refine lv_iload_n B.1 B.2.1 d_law_law_268 rfl (lv_at hl 3 rfl) ?_
        refine lv_iconst (v := 2) B.1 B.2.1 d_law_law_269 (by decide) ?_
        refine lv_iadd B.1 B.2.1 d_law_law_270 ?_
        refine va_sld B.1 B.2.1 hX hbl hbA hI.2.2 hk2 d_law_law_271 ?_
        refine rx_Vi (n := 2) (As := [.int (xs ((nI k) + 1).toNatClampNeg), .int (xs ((nI k) + 2).toNatClampNeg)]) (rest := [.int r46]) B hI hl.1 (zMet_ir (wC a z u47) (zc_MMC_constant_0 l D z a2 N (xs ((nI k) + 1).toNatClampNeg) (xs ((nI k) + 2).toNatClampNeg) v r46 v48 e50)) zw_741 zw_743 zw_744 zw_399 zw_742 (by decide +kernel) ((wC a z u47).length + 0) (zap_r (wM_at_0 a2 z v)) hcl_MC rfl rfl (Nat.le_of_ble_eq_true rfl) d_law_law_272 ⟨Nat.le_of_ble_eq_true rfl, Nat.le_of_ble_eq_true rfl⟩ rfl rfl ⟨Nat.le_of_ble_eq_true rfl, Nat.le_of_ble_eq_true rfl⟩ (fun H locs hI => ?_)
        refine lv_icmp_eq (tgt := 439) B.1 B.2.1 d_law_law_275 (by decide) (fun hc51 => ?_) (fun hc51 => ?_)
        · refine lv_iinc (v := nI (k + 4)) (lv' := [(3, .int (nI (k + 4))), (0, .ref b), (1, .ref (a 0)), (2, .ref (a2 0))]) B.1 B.2.1 d_law_law_439 hl (k := 3) rfl (by rw [show Int32.ofInt 4 = nI 4 from by decide]; exact nI_add k 4) (by decide) rfl (fun ls hl => ?_)
          refine lv_goto (tgt := 18) B.1 B.2.1 d_law_law_442 (by decide) ?_
          exact ih (k + 4) _ _ _ _ _ (by omega) (by omega) hRel hI (lv_sub hl [1, 2, 3, 0] rfl)
        · exact absurd rfl hc51
      by_cases hc52 : ((xs (nI k).toNatClampNeg) &&& 15) = 6
      · refine lv_tableIn (off := 248) (tgt := 280) B.1 B.2.1 d_law_law_32 (by rw [hc52]; decide +kernel) (by rw [hc52]; decide +kernel) (by rw [hc52]; decide +kernel) (by decide) ?_
        refine lv_aload_n B.1 B.2.1 d_law_law_280 rfl (lv_at hl 1 rfl) ?_
        refine lv_aload_n B.1 B.2.1 d_law_law_281 rfl (lv_at hl 0 rfl) ?_
        refine lv_iload_n B.1 B.2.1 d_law_law_282 rfl (lv_at hl 3 rfl) ?_
        refine lv_iconst (v := 1) B.1 B.2.1 d_law_law_283 (by decide) ?_
        refine lv_iadd B.1 B.2.1 d_law_law_284 ?_
        refine va_sld B.1 B.2.1 hX hbl hbA hI.2.2 hk1 d_law_law_285 ?_
        refine lv_aload_n B.1 B.2.1 d_law_law_286 rfl (lv_at hl 0 rfl) ?_
        refine lv_iload_n B.1 B.2.1 d_law_law_287 rfl (lv_at hl 3 rfl) ?_
        refine lv_iconst (v := 2) B.1 B.2.1 d_law_law_288 (by decide) ?_
        refine lv_iadd B.1 B.2.1 d_law_law_289 ?_
        refine va_sld B.1 B.2.1 hX hbl hbA hI.2.2 hk2 d_law_law_290 ?_
        obtain ⟨r53, u54, v55, e56, e57, hRel⟩ := zl_local N hN (xs ((nI k) + 1).toNatClampNeg) (xs ((nI k) + 2).toNatClampNeg)  hRel
        refine rx_Vi (n := 2) (As := [.int (xs ((nI k) + 1).toNatClampNeg), .int (xs ((nI k) + 2).toNatClampNeg)]) (rest := []) B hI hl.1 (zMet_il (wM a2 z v) (zc_CCC_local_0 l D z a N (xs ((nI k) + 1).toNatClampNeg) (xs ((nI k) + 2).toNatClampNeg) u r53 u54 e56)) zw_745 zw_747 zw_748 zw_15 zw_746 (by decide +kernel) 0 (zap_l (wC_at_0 a z u)) hcl_CC rfl rfl (Nat.le_of_ble_eq_true rfl) d_law_law_291 ⟨Nat.le_of_ble_eq_true rfl, Nat.le_of_ble_eq_true rfl⟩ rfl rfl ⟨Nat.le_of_ble_eq_true rfl, Nat.le_of_ble_eq_true rfl⟩ (fun H locs hI => ?_)
        refine lv_aload_n B.1 B.2.1 d_law_law_294 rfl (lv_at hl 2 rfl) ?_
        refine lv_aload_n B.1 B.2.1 d_law_law_295 rfl (lv_at hl 0 rfl) ?_
        refine lv_iload_n B.1 B.2.1 d_law_law_296 rfl (lv_at hl 3 rfl) ?_
        refine lv_iconst (v := 1) B.1 B.2.1 d_law_law_297 (by decide) ?_
        refine lv_iadd B.1 B.2.1 d_law_law_298 ?_
        refine va_sld B.1 B.2.1 hX hbl hbA hI.2.2 hk1 d_law_law_299 ?_
        refine lv_aload_n B.1 B.2.1 d_law_law_300 rfl (lv_at hl 0 rfl) ?_
        refine lv_iload_n B.1 B.2.1 d_law_law_301 rfl (lv_at hl 3 rfl) ?_
        refine lv_iconst (v := 2) B.1 B.2.1 d_law_law_302 (by decide) ?_
        refine lv_iadd B.1 B.2.1 d_law_law_303 ?_
        refine va_sld B.1 B.2.1 hX hbl hbA hI.2.2 hk2 d_law_law_304 ?_
        refine rx_Vi (n := 2) (As := [.int (xs ((nI k) + 1).toNatClampNeg), .int (xs ((nI k) + 2).toNatClampNeg)]) (rest := [.int r53]) B hI hl.1 (zMet_ir (wC a z u54) (zc_MMC_local_0 l D z a2 N (xs ((nI k) + 1).toNatClampNeg) (xs ((nI k) + 2).toNatClampNeg) v r53 v55 e57)) zw_749 zw_751 zw_752 zw_399 zw_750 (by decide +kernel) ((wC a z u54).length + 0) (zap_r (wM_at_0 a2 z v)) hcl_MC rfl rfl (Nat.le_of_ble_eq_true rfl) d_law_law_305 ⟨Nat.le_of_ble_eq_true rfl, Nat.le_of_ble_eq_true rfl⟩ rfl rfl ⟨Nat.le_of_ble_eq_true rfl, Nat.le_of_ble_eq_true rfl⟩ (fun H locs hI => ?_)
        refine lv_icmp_eq (tgt := 439) B.1 B.2.1 d_law_law_308 (by decide) (fun hc58 => ?_) (fun hc58 => ?_)
        · refine lv_iinc (v := nI (k + 4)) (lv' := [(3, .int (nI (k + 4))), (0, .ref b), (1, .ref (a 0)), (2, .ref (a2 0))]) B.1 B.2.1 d_law_law_439 hl (k := 3) rfl (by rw [show Int32.ofInt 4 = nI 4 from by decide]; exact nI_add k 4) (by decide) rfl (fun ls hl => ?_)
          refine lv_goto (tgt := 18) B.1 B.2.1 d_law_law_442 (by decide) ?_
          exact ih (k + 4) _ _ _ _ _ (by omega) (by omega) hRel hI (lv_sub hl [1, 2, 3, 0] rfl)
        · exact absurd rfl hc58
      by_cases hc59 : ((xs (nI k).toNatClampNeg) &&& 15) = 7
      · refine lv_tableIn (off := 281) (tgt := 313) B.1 B.2.1 d_law_law_32 (by rw [hc59]; decide +kernel) (by rw [hc59]; decide +kernel) (by rw [hc59]; decide +kernel) (by decide) ?_
        refine lv_aload_n B.1 B.2.1 d_law_law_313 rfl (lv_at hl 1 rfl) ?_
        refine lv_aload_n B.1 B.2.1 d_law_law_314 rfl (lv_at hl 0 rfl) ?_
        refine lv_iload_n B.1 B.2.1 d_law_law_315 rfl (lv_at hl 3 rfl) ?_
        refine lv_iconst (v := 1) B.1 B.2.1 d_law_law_316 (by decide) ?_
        refine lv_iadd B.1 B.2.1 d_law_law_317 ?_
        refine va_sld B.1 B.2.1 hX hbl hbA hI.2.2 hk1 d_law_law_318 ?_
        obtain ⟨r60, u61, v62, e63, e64, hRel⟩ := zl_label N hN (xs ((nI k) + 1).toNatClampNeg)  hRel
        refine rx_Vi (n := 1) (As := [.int (xs ((nI k) + 1).toNatClampNeg)]) (rest := []) B hI hl.1 (zMet_il (wM a2 z v) (zc_CCC_label_0 l D z a N (xs ((nI k) + 1).toNatClampNeg) u r60 u61 e63)) zw_753 zw_755 zw_756 zw_15 zw_754 (by decide +kernel) 0 (zap_l (wC_at_0 a z u)) hcl_CC rfl rfl (Nat.le_of_ble_eq_true rfl) d_law_law_319 ⟨Nat.le_of_ble_eq_true rfl, Nat.le_of_ble_eq_true rfl⟩ rfl rfl ⟨Nat.le_of_ble_eq_true rfl, Nat.le_of_ble_eq_true rfl⟩ (fun H locs hI => ?_)
        refine lv_aload_n B.1 B.2.1 d_law_law_322 rfl (lv_at hl 2 rfl) ?_
        refine lv_aload_n B.1 B.2.1 d_law_law_323 rfl (lv_at hl 0 rfl) ?_
        refine lv_iload_n B.1 B.2.1 d_law_law_324 rfl (lv_at hl 3 rfl) ?_
        refine lv_iconst (v := 1) B.1 B.2.1 d_law_law_325 (by decide) ?_
        refine lv_iadd B.1 B.2.1 d_law_law_326 ?_
        refine va_sld B.1 B.2.1 hX hbl hbA hI.2.2 hk1 d_law_law_327 ?_
        refine rx_Vi (n := 1) (As := [.int (xs ((nI k) + 1).toNatClampNeg)]) (rest := [.int r60]) B hI hl.1 (zMet_ir (wC a z u61) (zc_MMC_label_0 l D z a2 N (xs ((nI k) + 1).toNatClampNeg) v r60 v62 e64)) zw_757 zw_759 zw_760 zw_399 zw_758 (by decide +kernel) ((wC a z u61).length + 0) (zap_r (wM_at_0 a2 z v)) hcl_MC rfl rfl (Nat.le_of_ble_eq_true rfl) d_law_law_328 ⟨Nat.le_of_ble_eq_true rfl, Nat.le_of_ble_eq_true rfl⟩ rfl rfl ⟨Nat.le_of_ble_eq_true rfl, Nat.le_of_ble_eq_true rfl⟩ (fun H locs hI => ?_)
        refine lv_icmp_eq (tgt := 439) B.1 B.2.1 d_law_law_331 (by decide) (fun hc65 => ?_) (fun hc65 => ?_)
        · refine lv_iinc (v := nI (k + 4)) (lv' := [(3, .int (nI (k + 4))), (0, .ref b), (1, .ref (a 0)), (2, .ref (a2 0))]) B.1 B.2.1 d_law_law_439 hl (k := 3) rfl (by rw [show Int32.ofInt 4 = nI 4 from by decide]; exact nI_add k 4) (by decide) rfl (fun ls hl => ?_)
          refine lv_goto (tgt := 18) B.1 B.2.1 d_law_law_442 (by decide) ?_
          exact ih (k + 4) _ _ _ _ _ (by omega) (by omega) hRel hI (lv_sub hl [1, 2, 3, 0] rfl)
        · exact absurd rfl hc65
      by_cases hc66 : ((xs (nI k).toNatClampNeg) &&& 15) = 8
      · refine lv_tableIn (off := 304) (tgt := 336) B.1 B.2.1 d_law_law_32 (by rw [hc66]; decide +kernel) (by rw [hc66]; decide +kernel) (by rw [hc66]; decide +kernel) (by decide) ?_
        refine lv_aload_n B.1 B.2.1 d_law_law_336 rfl (lv_at hl 1 rfl) ?_
        refine lv_aload_n B.1 B.2.1 d_law_law_337 rfl (lv_at hl 0 rfl) ?_
        refine lv_iload_n B.1 B.2.1 d_law_law_338 rfl (lv_at hl 3 rfl) ?_
        refine lv_iconst (v := 1) B.1 B.2.1 d_law_law_339 (by decide) ?_
        refine lv_iadd B.1 B.2.1 d_law_law_340 ?_
        refine va_sld B.1 B.2.1 hX hbl hbA hI.2.2 hk1 d_law_law_341 ?_
        refine lv_aload_n B.1 B.2.1 d_law_law_342 rfl (lv_at hl 0 rfl) ?_
        refine lv_iload_n B.1 B.2.1 d_law_law_343 rfl (lv_at hl 3 rfl) ?_
        refine lv_iconst (v := 2) B.1 B.2.1 d_law_law_344 (by decide) ?_
        refine lv_iadd B.1 B.2.1 d_law_law_345 ?_
        refine va_sld B.1 B.2.1 hX hbl hbA hI.2.2 hk2 d_law_law_346 ?_
        refine lv_aload_n B.1 B.2.1 d_law_law_347 rfl (lv_at hl 0 rfl) ?_
        refine lv_iload_n B.1 B.2.1 d_law_law_348 rfl (lv_at hl 3 rfl) ?_
        refine lv_iconst (v := 3) B.1 B.2.1 d_law_law_349 (by decide) ?_
        refine lv_iadd B.1 B.2.1 d_law_law_350 ?_
        refine va_sld B.1 B.2.1 hX hbl hbA hI.2.2 hk3 d_law_law_351 ?_
        obtain ⟨r67, u68, v69, e70, e71, hRel⟩ := zl_step N hN (xs ((nI k) + 1).toNatClampNeg) (xs ((nI k) + 2).toNatClampNeg) (xs ((nI k) + 3).toNatClampNeg)  hRel
        refine rx_Vi (n := 3) (As := [.int (xs ((nI k) + 1).toNatClampNeg), .int (xs ((nI k) + 2).toNatClampNeg), .int (xs ((nI k) + 3).toNatClampNeg)]) (rest := []) B hI hl.1 (zMet_il (wM a2 z v) (zc_CCC_step_0 l D z a N (xs ((nI k) + 1).toNatClampNeg) (xs ((nI k) + 2).toNatClampNeg) (xs ((nI k) + 3).toNatClampNeg) u r67 u68 e70)) zw_761 zw_763 zw_764 zw_15 zw_762 (by decide +kernel) 0 (zap_l (wC_at_0 a z u)) hcl_CC rfl rfl (Nat.le_of_ble_eq_true rfl) d_law_law_352 ⟨Nat.le_of_ble_eq_true rfl, Nat.le_of_ble_eq_true rfl⟩ rfl rfl ⟨Nat.le_of_ble_eq_true rfl, Nat.le_of_ble_eq_true rfl⟩ (fun H locs hI => ?_)
        refine lv_aload_n B.1 B.2.1 d_law_law_355 rfl (lv_at hl 2 rfl) ?_
        refine lv_aload_n B.1 B.2.1 d_law_law_356 rfl (lv_at hl 0 rfl) ?_
        refine lv_iload_n B.1 B.2.1 d_law_law_357 rfl (lv_at hl 3 rfl) ?_
        refine lv_iconst (v := 1) B.1 B.2.1 d_law_law_358 (by decide) ?_
        refine lv_iadd B.1 B.2.1 d_law_law_359 ?_
        refine va_sld B.1 B.2.1 hX hbl hbA hI.2.2 hk1 d_law_law_360 ?_
        refine lv_aload_n B.1 B.2.1 d_law_law_361 rfl (lv_at hl 0 rfl) ?_
        refine lv_iload_n B.1 B.2.1 d_law_law_362 rfl (lv_at hl 3 rfl) ?_
        refine lv_iconst (v := 2) B.1 B.2.1 d_law_law_363 (by decide) ?_
        refine lv_iadd B.1 B.2.1 d_law_law_364 ?_
        refine va_sld B.1 B.2.1 hX hbl hbA hI.2.2 hk2 d_law_law_365 ?_
        refine lv_aload_n B.1 B.2.1 d_law_law_366 rfl (lv_at hl 0 rfl) ?_
        refine lv_iload_n B.1 B.2.1 d_law_law_367 rfl (lv_at hl 3 rfl) ?_
        refine lv_iconst (v := 3) B.1 B.2.1 d_law_law_368 (by decide) ?_
        refine lv_iadd B.1 B.2.1 d_law_law_369 ?_
        refine va_sld B.1 B.2.1 hX hbl hbA hI.2.2 hk3 d_law_law_370 ?_
        refine rx_Vi (n := 3) (As := [.int (xs ((nI k) + 1).toNatClampNeg), .int (xs ((nI k) + 2).toNatClampNeg), .int (xs ((nI k) + 3).toNatClampNeg)]) (rest := [.int r67]) B hI hl.1 (zMet_ir (wC a z u68) (zc_MMC_step_0 l D z a2 N (xs ((nI k) + 1).toNatClampNeg) (xs ((nI k) + 2).toNatClampNeg) (xs ((nI k) + 3).toNatClampNeg) v r67 v69 e71)) zw_765 zw_767 zw_768 zw_399 zw_766 (by decide +kernel) ((wC a z u68).length + 0) (zap_r (wM_at_0 a2 z v)) hcl_MC rfl rfl (Nat.le_of_ble_eq_true rfl) d_law_law_371 ⟨Nat.le_of_ble_eq_true rfl, Nat.le_of_ble_eq_true rfl⟩ rfl rfl ⟨Nat.le_of_ble_eq_true rfl, Nat.le_of_ble_eq_true rfl⟩ (fun H locs hI => ?_)
        refine lv_icmp_eq (tgt := 439) B.1 B.2.1 d_law_law_374 (by decide) (fun hc72 => ?_) (fun hc72 => ?_)
        · refine lv_iinc (v := nI (k + 4)) (lv' := [(3, .int (nI (k + 4))), (0, .ref b), (1, .ref (a 0)), (2, .ref (a2 0))]) B.1 B.2.1 d_law_law_439 hl (k := 3) rfl (by rw [show Int32.ofInt 4 = nI 4 from by decide]; exact nI_add k 4) (by decide) rfl (fun ls hl => ?_)
          refine lv_goto (tgt := 18) B.1 B.2.1 d_law_law_442 (by decide) ?_
          exact ih (k + 4) _ _ _ _ _ (by omega) (by omega) hRel hI (lv_sub hl [1, 2, 3, 0] rfl)
        · exact absurd rfl hc72
      by_cases hc73 : ((xs (nI k).toNatClampNeg) &&& 15) = 9
      · refine lv_tableIn (off := 347) (tgt := 379) B.1 B.2.1 d_law_law_32 (by rw [hc73]; decide +kernel) (by rw [hc73]; decide +kernel) (by rw [hc73]; decide +kernel) (by decide) ?_
        refine lv_aload_n B.1 B.2.1 d_law_law_379 rfl (lv_at hl 1 rfl) ?_
        obtain ⟨r74, u75, v76, e77, e78, hRel⟩ := zl_state N hN   hRel
        refine rx_Vi (n := 0) (As := []) (rest := []) B hI hl.1 (zMet_il (wM a2 z v) (zc_CCC_state_0 l D z a N  u r74 u75 e77)) zw_769 zw_771 zw_772 zw_15 zw_770 (by decide +kernel) 0 (zap_l (wC_at_0 a z u)) hcl_CC rfl rfl (Nat.le_of_ble_eq_true rfl) d_law_law_380 ⟨Nat.le_of_ble_eq_true rfl, Nat.le_of_ble_eq_true rfl⟩ rfl rfl ⟨Nat.le_of_ble_eq_true rfl, Nat.le_of_ble_eq_true rfl⟩ (fun H locs hI => ?_)
        refine lv_aload_n B.1 B.2.1 d_law_law_383 rfl (lv_at hl 2 rfl) ?_
        refine rx_Vi (n := 0) (As := []) (rest := [.int r74]) B hI hl.1 (zMet_ir (wC a z u75) (zc_MMC_state_0 l D z a2 N  v r74 v76 e78)) zw_773 zw_775 zw_776 zw_399 zw_774 (by decide +kernel) ((wC a z u75).length + 0) (zap_r (wM_at_0 a2 z v)) hcl_MC rfl rfl (Nat.le_of_ble_eq_true rfl) d_law_law_384 ⟨Nat.le_of_ble_eq_true rfl, Nat.le_of_ble_eq_true rfl⟩ rfl rfl ⟨Nat.le_of_ble_eq_true rfl, Nat.le_of_ble_eq_true rfl⟩ (fun H locs hI => ?_)
        refine lv_icmp_eq (tgt := 439) B.1 B.2.1 d_law_law_387 (by decide) (fun hc79 => ?_) (fun hc79 => ?_)
        · refine lv_iinc (v := nI (k + 4)) (lv' := [(3, .int (nI (k + 4))), (0, .ref b), (1, .ref (a 0)), (2, .ref (a2 0))]) B.1 B.2.1 d_law_law_439 hl (k := 3) rfl (by rw [show Int32.ofInt 4 = nI 4 from by decide]; exact nI_add k 4) (by decide) rfl (fun ls hl => ?_)
          refine lv_goto (tgt := 18) B.1 B.2.1 d_law_law_442 (by decide) ?_
          exact ih (k + 4) _ _ _ _ _ (by omega) (by omega) hRel hI (lv_sub hl [1, 2, 3, 0] rfl)
        · exact absurd rfl hc79
      by_cases hc80 : ((xs (nI k).toNatClampNeg) &&& 15) = 10
      · refine lv_tableIn (off := 360) (tgt := 392) B.1 B.2.1 d_law_law_32 (by rw [hc80]; decide +kernel) (by rw [hc80]; decide +kernel) (by rw [hc80]; decide +kernel) (by decide) ?_
        refine lv_aload_n B.1 B.2.1 d_law_law_392 rfl (lv_at hl 1 rfl) ?_
        refine lv_aload_n B.1 B.2.1 d_law_law_393 rfl (lv_at hl 0 rfl) ?_
        refine lv_iload_n B.1 B.2.1 d_law_law_394 rfl (lv_at hl 3 rfl) ?_
        refine lv_iconst (v := 1) B.1 B.2.1 d_law_law_395 (by decide) ?_
        refine lv_iadd B.1 B.2.1 d_law_law_396 ?_
        refine va_sld B.1 B.2.1 hX hbl hbA hI.2.2 hk1 d_law_law_397 ?_
        obtain ⟨r81, u82, v83, e84, e85, hRel⟩ := zl_look N hN (xs ((nI k) + 1).toNatClampNeg)  hRel
        refine rx_Vl (n := 1) (As := [.int (xs ((nI k) + 1).toNatClampNeg)]) (rest := []) B hI hl.1 (zMet_ll (wM a2 z v) (zc_CCC_look_0 l D z a N (xs ((nI k) + 1).toNatClampNeg) u r81 u82 e84)) zw_777 zw_779 zw_780 zw_15 zw_778 (by decide +kernel) 0 (zap_l (wC_at_0 a z u)) hcl_CC rfl rfl (Nat.le_of_ble_eq_true rfl) d_law_law_398 ⟨Nat.le_of_ble_eq_true rfl, Nat.le_of_ble_eq_true rfl⟩ rfl rfl ⟨Nat.le_of_ble_eq_true rfl, Nat.le_of_ble_eq_true rfl⟩ (fun H locs hI => ?_)
        refine lv_aload_n B.1 B.2.1 d_law_law_401 rfl (lv_at hl 2 rfl) ?_
        refine lv_aload_n B.1 B.2.1 d_law_law_402 rfl (lv_at hl 0 rfl) ?_
        refine lv_iload_n B.1 B.2.1 d_law_law_403 rfl (lv_at hl 3 rfl) ?_
        refine lv_iconst (v := 1) B.1 B.2.1 d_law_law_404 (by decide) ?_
        refine lv_iadd B.1 B.2.1 d_law_law_405 ?_
        refine va_sld B.1 B.2.1 hX hbl hbA hI.2.2 hk1 d_law_law_406 ?_
        refine rx_Vl (n := 1) (As := [.int (xs ((nI k) + 1).toNatClampNeg)]) (rest := [.long r81]) B hI hl.1 (zMet_lr (wC a z u82) (zc_MMC_look_0 l D z a2 N (xs ((nI k) + 1).toNatClampNeg) v r81 v83 e85)) zw_781 zw_783 zw_784 zw_399 zw_782 (by decide +kernel) ((wC a z u82).length + 0) (zap_r (wM_at_0 a2 z v)) hcl_MC rfl rfl (Nat.le_of_ble_eq_true rfl) d_law_law_407 ⟨Nat.le_of_ble_eq_true rfl, Nat.le_of_ble_eq_true rfl⟩ rfl rfl ⟨Nat.le_of_ble_eq_true rfl, Nat.le_of_ble_eq_true rfl⟩ (fun H locs hI => ?_)
        refine W.lcmp B.1 B.2.1 d_law_law_410 ?_
        refine lv_if_eq (tgt := 439) B.1 B.2.1 d_law_law_411 (by decide) (fun hc86 => ?_) (fun hc86 => ?_)
        · refine lv_iinc (v := nI (k + 4)) (lv' := [(3, .int (nI (k + 4))), (0, .ref b), (1, .ref (a 0)), (2, .ref (a2 0))]) B.1 B.2.1 d_law_law_439 hl (k := 3) rfl (by rw [show Int32.ofInt 4 = nI 4 from by decide]; exact nI_add k 4) (by decide) rfl (fun ls hl => ?_)
          refine lv_goto (tgt := 18) B.1 B.2.1 d_law_law_442 (by decide) ?_
          exact ih (k + 4) _ _ _ _ _ (by omega) (by omega) hRel hI (lv_sub hl [1, 2, 3, 0] rfl)
        · exact absurd (zcmp_self _) hc86
      by_cases hc87 : ((xs (nI k).toNatClampNeg) &&& 15) = 11
      · refine lv_tableIn (off := 384) (tgt := 416) B.1 B.2.1 d_law_law_32 (by rw [hc87]; decide +kernel) (by rw [hc87]; decide +kernel) (by rw [hc87]; decide +kernel) (by decide) ?_
        refine lv_aload_n B.1 B.2.1 d_law_law_416 rfl (lv_at hl 1 rfl) ?_
        refine lv_aload_n B.1 B.2.1 d_law_law_417 rfl (lv_at hl 0 rfl) ?_
        refine lv_iload_n B.1 B.2.1 d_law_law_418 rfl (lv_at hl 3 rfl) ?_
        refine lv_iconst (v := 1) B.1 B.2.1 d_law_law_419 (by decide) ?_
        refine lv_iadd B.1 B.2.1 d_law_law_420 ?_
        refine va_sld B.1 B.2.1 hX hbl hbA hI.2.2 hk1 d_law_law_421 ?_
        obtain ⟨r88, u89, v90, e91, e92, hRel⟩ := zl_operand N hN (xs ((nI k) + 1).toNatClampNeg)  hRel
        refine rx_Vi (n := 1) (As := [.int (xs ((nI k) + 1).toNatClampNeg)]) (rest := []) B hI hl.1 (zMet_il (wM a2 z v) (zc_CCC_operand_0 l D z a N (xs ((nI k) + 1).toNatClampNeg) u r88 u89 e91)) zw_785 zw_787 zw_788 zw_15 zw_786 (by decide +kernel) 0 (zap_l (wC_at_0 a z u)) hcl_CC rfl rfl (Nat.le_of_ble_eq_true rfl) d_law_law_422 ⟨Nat.le_of_ble_eq_true rfl, Nat.le_of_ble_eq_true rfl⟩ rfl rfl ⟨Nat.le_of_ble_eq_true rfl, Nat.le_of_ble_eq_true rfl⟩ (fun H locs hI => ?_)
        refine lv_aload_n B.1 B.2.1 d_law_law_425 rfl (lv_at hl 2 rfl) ?_
        refine lv_aload_n B.1 B.2.1 d_law_law_426 rfl (lv_at hl 0 rfl) ?_
        refine lv_iload_n B.1 B.2.1 d_law_law_427 rfl (lv_at hl 3 rfl) ?_
        refine lv_iconst (v := 1) B.1 B.2.1 d_law_law_428 (by decide) ?_
        refine lv_iadd B.1 B.2.1 d_law_law_429 ?_
        refine va_sld B.1 B.2.1 hX hbl hbA hI.2.2 hk1 d_law_law_430 ?_
        refine rx_Vi (n := 1) (As := [.int (xs ((nI k) + 1).toNatClampNeg)]) (rest := [.int r88]) B hI hl.1 (zMet_ir (wC a z u89) (zc_MMC_operand_0 l D z a2 N (xs ((nI k) + 1).toNatClampNeg) v r88 v90 e92)) zw_789 zw_791 zw_792 zw_399 zw_790 (by decide +kernel) ((wC a z u89).length + 0) (zap_r (wM_at_0 a2 z v)) hcl_MC rfl rfl (Nat.le_of_ble_eq_true rfl) d_law_law_431 ⟨Nat.le_of_ble_eq_true rfl, Nat.le_of_ble_eq_true rfl⟩ rfl rfl ⟨Nat.le_of_ble_eq_true rfl, Nat.le_of_ble_eq_true rfl⟩ (fun H locs hI => ?_)
        refine lv_icmp_eq (tgt := 439) B.1 B.2.1 d_law_law_434 (by decide) (fun hc93 => ?_) (fun hc93 => ?_)
        · refine lv_iinc (v := nI (k + 4)) (lv' := [(3, .int (nI (k + 4))), (0, .ref b), (1, .ref (a 0)), (2, .ref (a2 0))]) B.1 B.2.1 d_law_law_439 hl (k := 3) rfl (by rw [show Int32.ofInt 4 = nI 4 from by decide]; exact nI_add k 4) (by decide) rfl (fun ls hl => ?_)
          refine lv_goto (tgt := 18) B.1 B.2.1 d_law_law_442 (by decide) ?_
          exact ih (k + 4) _ _ _ _ _ (by omega) (by omega) hRel hI (lv_sub hl [1, 2, 3, 0] rfl)
        · exact absurd rfl hc93
      have ghc1 := lv_neT (a := 0) hc1 (by decide)
      have ghc8 := lv_neT (a := 1) hc8 (by decide)
      have ghc24 := lv_neT (a := 2) hc24 (by decide)
      have ghc31 := lv_neT (a := 3) hc31 (by decide)
      have ghc38 := lv_neT (a := 4) hc38 (by decide)
      have ghc45 := lv_neT (a := 5) hc45 (by decide)
      have ghc52 := lv_neT (a := 6) hc52 (by decide)
      have ghc59 := lv_neT (a := 7) hc59 (by decide)
      have ghc66 := lv_neT (a := 8) hc66 (by decide)
      have ghc73 := lv_neT (a := 9) hc73 (by decide)
      have ghc80 := lv_neT (a := 10) hc80 (by decide)
      have ghc87 := lv_neT (a := 11) hc87 (by decide)
      refine lv_tableOut (tgt := 439) B.1 B.2.1 d_law_law_32 (by omega) (by decide) ?_
      refine lv_iinc (v := nI (k + 4)) (lv' := [(3, .int (nI (k + 4))), (0, .ref b), (1, .ref (a 0)), (2, .ref (a2 0))]) B.1 B.2.1 d_law_law_439 hl (k := 3) rfl (by rw [show Int32.ofInt 4 = nI 4 from by decide]; exact nI_add k 4) (by decide) rfl (fun ls hl => ?_)
      refine lv_goto (tgt := 18) B.1 B.2.1 d_law_law_442 (by decide) ?_
      exact ih (k + 4) _ _ _ _ _ (by omega) (by omega) hRel hI (lv_sub hl [1, 2, 3, 0] rfl)
set_option maxHeartbeats 4000000 in
set_option maxRecDepth 100000 in
theorem whole_start {p : Program} {e : Env} {s : State} {m : MethodId} {below : List Frame} {meth : Method} {c : Code} (l : Launch) {b L : Nat} {xs : Nat → Int32} (hL : L ≤ 2048) (C0 : lw_At p s m meth c b L xs) : W p l e room_1 s m #[Value.ref b] below meth c s.heap [] 0 0 (lw_Z below #[Value.ref b] s) (entryFrame m ([Value.ref b] : List Value).toArray 4) := by
  obtain ⟨hx, hb, hr, hml, hown, hts, hX, hbl, hlk, hgv⟩ := id C0
  obtain ⟨c0, j0, hKn0⟩ := u_known (C := R_CC) (T := F_CC) (N := 2) (n := 2) hts (fun w h => (hin0_CC w h).1) (hts _ (List.mem_filter.mp zw_687).1)
  obtain ⟨c1, j1, hKn1⟩ := u_known (C := R_CCode) (T := F_CCode) (N := 10) (n := 10) hts (fun w h => (hin0_CCode w h).1) (hts _ (List.mem_filter.mp zw_678).1)
  obtain ⟨c2, j2, hKn2⟩ := u_known (C := R_CLocals) (T := F_CLocals) (N := 4) (n := 4) hts (fun w h => (hin0_CLocals w h).1) (hts _ (List.mem_filter.mp zw_662).1)
  obtain ⟨c3, j3, hKn3⟩ := u_known (C := R_CRows) (T := F_CRows) (N := 3) (n := 3) hts (fun w h => (hin0_CRows w h).1) (hts _ (List.mem_filter.mp zw_648).1)
  obtain ⟨c4, j4, hKn4⟩ := u_known (C := R_CShelf) (T := F_CShelf) (N := 3) (n := 3) hts (fun w h => (hin0_CShelf w h).1) (hts _ (List.mem_filter.mp zw_653).1)
  obtain ⟨c5, j5, hKn5⟩ := u_known (C := R_CStack) (T := F_CStack) (N := 10) (n := 10) hts (fun w h => (hin0_CStack w h).1) (hts _ (List.mem_filter.mp zw_667).1)
  obtain ⟨c6, j6, hKn6⟩ := u_known (C := R_CThings) (T := F_CThings) (N := 9) (n := 9) hts (fun w h => (hin0_CThings w h).1) (hts _ (List.mem_filter.mp zw_673).1)
  obtain ⟨c7, j7, hKn7⟩ := u_known (C := R_MC) (T := F_MC) (N := 39) (n := 39) hts (fun w h => (hin0_MC w h).1) (hts _ (List.mem_filter.mp zw_688).1)
  obtain ⟨dC, dI, hKc⟩ : ∃ (dC : Nat → ClassId) (dI : Nat → Nat → Nat), ∀ (k : Nat) (q : vw_C), zcl[k]? = some q → u_Kn s q.1 q.2.1 q.2.2 (dC k) (dI k) := by
    refine ⟨fun k => [c0, c1, c2, c3, c4, c5, c6, c7].getD k c0, fun k => [j0, j1, j2, j3, j4, j5, j6, j7].getD k j0, ?_⟩
    intro k q hq
    match k, hq with
    | 0, hq => cases hq; exact hKn0
    | 1, hq => cases hq; exact hKn1
    | 2, hq => cases hq; exact hKn2
    | 3, hq => cases hq; exact hKn3
    | 4, hq => cases hq; exact hKn4
    | 5, hq => cases hq; exact hKn5
    | 6, hq => cases hq; exact hKn6
    | 7, hq => cases hq; exact hKn7
    | k + 8, hq => simp [zcl] at hq
  obtain ⟨z1, hz1, hn1⟩ := zArr (hts _ (List.mem_filter.mp zw_643).1)
  obtain ⟨z2, hz2, hn2⟩ := zArr (hts _ (List.mem_filter.mp zw_645).1)
  obtain ⟨z3, hz3, hn3⟩ := zArr (hts _ (List.mem_filter.mp zw_658).1)
  obtain ⟨z, hz⟩ : ∃ z : zZ, z = (z1, z2, z3) := ⟨_, rfl⟩
  obtain ⟨D, hDe⟩ : ∃ D : va_G, D = (dC, dI) := ⟨_, rfl⟩
  have hK : va_K D zcl (zty z) s := by
    rw [hDe, hz]
    refine ⟨hKc, fun k q h => ?_⟩
    match k, h with
    | 0, h => cases h; exact ⟨hz1, hn1⟩
    | 1, h => cases h; exact ⟨hz2, hn2⟩
    | 2, h => cases h; exact ⟨hz3, hn3⟩
    | k + 3, h => simp [zty] at h
  clear hz hDe
  have hts9 : ∀ w ∈ zT, w.before #[Value.ref b] s = true := fun w hw => hts w (List.mem_filter.mp hw).1
  have hA9 : ∀ q : Nat, q < s.heap.size → ¬ (fun q : Nat => s.heap.size ≤ q) q := fun q h => Nat.not_le.mpr h
  have hs9 := flat_of_before _ hgv
  have hZ : zSt zst (fun q : Nat => s.heap.size ≤ q) s s.heap := by
    intro q hq
    simp only [zst, List.mem_cons, List.mem_nil_iff, or_false] at hq
    rcases hq with rfl | rfl | rfl | rfl
    · obtain ⟨t, ht, hT⟩ := va_Tof (tm := .static "CodeChecker" "INSTRUCTIONS" "[I") (ty := .int) (N := 14) (f := fun j => .int (t_X_INSTRUCTIONS.getD j 0)) (A := fun q : Nat => s.heap.size ≤ q) (by decide) (hs9 _ (List.mem_of_getElem? zsa_0)) (va_eqt (hs9 _ (List.mem_of_getElem? zsl_0))) (fun j hj => va_eqt (hs9 _ (List.mem_of_getElem? (of_decide_eq_true (List.all_eq_true.mp zse_0 j (List.mem_range.mpr hj)))))) hA9
      exact ⟨t, va_Zof (hts _ zw_683) (hts9 _ zw_15) ht hA9, hT⟩
    · obtain ⟨t, ht, hT⟩ := va_Tof (tm := .static "CodeChecker" "MOVED_BYTES" "[I") (ty := .int) (N := 23) (f := fun j => .int (t_X_MOVED_BYTES.getD j 0)) (A := fun q : Nat => s.heap.size ≤ q) (by decide) (hs9 _ (List.mem_of_getElem? zsa_1)) (va_eqt (hs9 _ (List.mem_of_getElem? zsl_1))) (fun j hj => va_eqt (hs9 _ (List.mem_of_getElem? (of_decide_eq_true (List.all_eq_true.mp zse_1 j (List.mem_range.mpr hj)))))) hA9
      exact ⟨t, va_Zof (hts _ zw_684) (hts9 _ zw_15) ht hA9, hT⟩
    · obtain ⟨t, ht, hT⟩ := va_Tof (tm := .static "CodeChecker" "PLAIN" "[I") (ty := .int) (N := 235) (f := fun j => .int (t_X_PLAIN.getD j 0)) (A := fun q : Nat => s.heap.size ≤ q) (by decide) (hs9 _ (List.mem_of_getElem? zsa_2)) (va_eqt (hs9 _ (List.mem_of_getElem? zsl_2))) (fun j hj => va_eqt (hs9 _ (List.mem_of_getElem? (of_decide_eq_true (List.all_eq_true.mp zse_2 j (List.mem_range.mpr hj)))))) hA9
      exact ⟨t, va_Zof (hts _ zw_685) (hts9 _ zw_15) ht hA9, hT⟩
    · obtain ⟨t, ht, hT⟩ := va_Tof (tm := .static "CodeChecker" "MOVED_TYPE" "[I") (ty := .int) (N := 23) (f := fun j => .int (t_X_MOVED_TYPE.getD j 0)) (A := fun q : Nat => s.heap.size ≤ q) (by decide) (hs9 _ (List.mem_of_getElem? zsa_3)) (va_eqt (hs9 _ (List.mem_of_getElem? zsl_3))) (fun j hj => va_eqt (hs9 _ (List.mem_of_getElem? (of_decide_eq_true (List.all_eq_true.mp zse_3 j (List.mem_range.mpr hj)))))) hA9
      exact ⟨t, va_Zof (hts _ zw_686) (hts9 _ zw_15) ht hA9, hT⟩
  obtain ⟨A, hAe⟩ : ∃ A : Nat → Prop, A = (fun q : Nat => s.heap.size ≤ q) := ⟨_, rfl⟩
  have B : bx p s m #[Value.ref b] c code 4 R_law A D z := by
    rw [hAe]
    exact ⟨hx, hb, hml, hown, hts9, hK, zNok_of hts, hZ, fun q h => h⟩
  have hI : iw D A s [] s.heap [] := ⟨fun k q h => by simp at h, ⟨fun i j p q h => by simp at h, fun k q h => by simp at h⟩, va_S.rf⟩
  have hl := lv_entry ([.ref b]) (n := 4) (Nat.le_of_ble_eq_true rfl)
  rw [lg_entry_eq]
  generalize (lg_sl ([.ref b]) ++ List.replicate (4 - (lg_sl ([.ref b])).length) Slot.unset).toArray = ls at hl ⊢
  have hl : lv_has ls 4 [(0, .ref b)] := hl
  refine rx_newc (fs := [.null, .null]) B hI hcl_CC hin_CC hty_CC zw_689 zw_687 zw_15 (by decide +kernel) (Nat.le_of_ble_eq_true rfl) (Nat.le_of_ble_eq_true rfl) d_law_law_0 (fun q0 H hI => ?_)
  refine lv_dup B.1 B.2.1 d_law_law_3 rfl ?_
  refine rx_ctorI (n := 0) (As := []) (rest := [.ref q0]) B hI hl.1 (zk_C0 l D z q0) zw_690 zw_692 zw_15 zw_691 rfl (by decide +kernel) 0 rfl [] [] rfl (by decide) (by decide) rfl rfl (Nat.le_of_ble_eq_true rfl) d_law_law_4 ⟨Nat.le_of_ble_eq_true rfl, Nat.le_of_ble_eq_true rfl⟩ rfl rfl ⟨Nat.le_of_ble_eq_true rfl, Nat.le_of_ble_eq_true rfl⟩ (fun a H locs ha hI => ?_)
  have ha : a 0 = q0 := ha
  rw [← ha]
  have hI : iw D A s (wC a z zi_C) H locs := by
    have h9 : ([] : va_W) ++ zs_C0 z a = wC a z zi_C := rfl
    rw [h9] at hI; exact hI
  refine lv_astore_n (lv' := [(1, .ref (a 0)), (0, .ref b)]) B.1 B.2.1 d_law_law_7 rfl hl (by decide) rfl (fun ls hl => ?_)
  refine rx_newc (fs := [.int 0, .null, .null, .null, .null, .null, .null, .null, .null, .int 0, .int 0, .int 0, .int 0, .int 0, .long 0, .int 0, .int 0, .null, .null, .int 0, .null, .int 0, .int 0, .null, .null, .null, .null, .null, .int 0, .int 0, .int 0, .null, .int 0, .int 0, .int 0, .int 0, .null, .int 0, .null]) B hI hcl_MC hin_MC hty_MC zw_693 zw_688 zw_399 (by decide +kernel) (Nat.le_of_ble_eq_true rfl) (Nat.le_of_ble_eq_true rfl) d_law_law_8 (fun q1 H hI => ?_)
  refine lv_dup B.1 B.2.1 d_law_law_11 rfl ?_
  refine rx_ctorI (n := 0) (As := []) (rest := [.ref q1]) B hI hl.1 (zk_M0 l D z q1) zw_694 zw_696 zw_399 zw_695 rfl (by decide +kernel) 38 rfl [0, 1, 2, 3, 4, 5, 6, 7, 8, 9, 10, 11, 12, 13, 14, 15, 16, 17, 18, 19, 20, 21, 22, 23, 24, 25, 26, 27, 28, 29, 30, 31, 32, 33, 34, 35, 36, 37] (wC a z zi_C) rfl (by decide) (by decide) rfl rfl (Nat.le_of_ble_eq_true rfl) d_law_law_12 ⟨Nat.le_of_ble_eq_true rfl, Nat.le_of_ble_eq_true rfl⟩ rfl rfl ⟨Nat.le_of_ble_eq_true rfl, Nat.le_of_ble_eq_true rfl⟩ (fun a2 H locs ha2 hI => ?_)
  have ha2 : a2 0 = q1 := ha2
  rw [← ha2]
  have hI : iw D A s (wC a z zi_C ++ wM a2 z zi_M) H locs := by
    have h9 : zs_M0 z a2 = wM a2 z zi_M := rfl
    rw [h9] at hI; exact hI
  refine lv_astore_n (lv' := [(2, .ref (a2 0)), (1, .ref (a 0)), (0, .ref b)]) B.1 B.2.1 d_law_law_15 rfl hl (by decide) rfl (fun ls hl => ?_)
  refine lv_iconst (v := 0) B.1 B.2.1 d_law_law_16 (by decide) ?_
  refine lv_istore_n (lv' := [(3, .int 0), (2, .ref (a2 0)), (1, .ref (a 0)), (0, .ref b)]) B.1 B.2.1 d_law_law_17 rfl hl (by decide) rfl (fun ls hl => ?_)
  subst hAe
  exact law_loop hL C0 B 1000000 (Nat.le_refl _) (L + 4) 0 _ _ _ _ _ (Nat.zero_le _) (by omega) zRel_start hI (lv_sub hl [3, 2, 1, 0] rfl)
