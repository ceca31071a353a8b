/-! pure: state, operand, look, label -/
theorem zl_state (N : Nat) (hN : 1000000 ≤ N) {u v : zU} (h : zRel u v) : ∃ r u1 v1, zf_CCC_state_0 N u = some (r, u1) ∧ zf_MMC_state_0 N v = some (r, v1) ∧ zRel u1 v1 := by
  obtain ⟨ty, n, hT, h8, hst, hO⟩ := id h
  unfold zf_CCC_state_0 zf_MMC_state_0
  rw [h8]
  exact ⟨_, _, _, rfl, rfl, h⟩
theorem zl_operand (N : Nat) (hN : 1000000 ≤ N) (x : Int32) {u v : zU} (h : zRel u v) : ∃ r u1 v1, zf_CCC_operand_0 N x u = some (r, u1) ∧ zf_MMC_operand_0 N x v = some (r, v1) ∧ zRel u1 v1 := by
  obtain ⟨ty, n, hT, h8, hst, hO⟩ := id h
  unfold zf_CCC_operand_0 zf_CCC_operand_0_b25 zf_CCStack_operandFromEnd_31 zf_CCStack_operandFromEnd_31_b24 zf_MMC_operand_0 zf_MMC_operand_0_b20 zf_MMC_operand_0_b37
  rw [zbd_eq cIsOpen, h8]
  by_cases ho : gi v 1 = 1
  · obtain ⟨b, c, H, lb, rw', lc, M, hB, hL⟩ := hO ho
    obtain ⟨-, ⟨c1, c2, c3, c4⟩, -⟩ := hB
    rw [if_pos ho, if_pos ho, if_neg (by decide), c2, c3]
    by_cases h1 : x < 0
    · rw [if_pos h1, if_pos h1]; exact ⟨_, _, _, rfl, rfl, h⟩
    · rw [if_neg h1, if_neg h1]
      obtain ⟨j, hj, rfl⟩ := nI_of h1
      by_cases h2 : j < c
      · rw [if_neg (nI_ge h2 (by omega)), if_pos (nI_lt h2 (by omega)), if_pos ((show nI _ ≤ 200 from nI_le (b := 200) c1 (by omega)))]
        obtain ⟨d, rfl⟩ : ∃ d, c = d + 1 := ⟨c - 1, by omega⟩
        rw [nI_pred, nI_sub (by omega), zck_pos (zin_of (by omega) (by omega)), zck_pos (zin_of (by omega) (by omega))]
        have e : ga u 18 (nI (d - j)) = ga v 10 (nI (d - j)) := by
          show u.2.2.1 18 _ = v.2.2.1 10 _
          rw [nI_clamp (by omega)]; exact c4 _ (by omega)
        rw [e]; exact ⟨_, _, _, rfl, rfl, h⟩
      · rw [if_pos (nI_le (by omega) (by omega)), if_neg (nI_nlt (by omega) (by omega))]; exact ⟨_, _, _, rfl, rfl, h⟩
  · rw [if_neg ho, if_neg ho, if_pos rfl]; exact ⟨_, _, _, rfl, rfl, h⟩
theorem zl_label (N : Nat) (hN : 1000000 ≤ N) (x : Int32) {u v : zU} (h : zRel u v) : ∃ r u1 v1, zf_CCC_label_0 N x u = some (r, u1) ∧ zf_MMC_label_0 N x v = some (r, v1) ∧ zRel u1 v1 := by
  obtain ⟨ty, n, hT, h8, hst, hO⟩ := id h
  unfold zf_CCC_label_0 zf_CCCode_addLabel_26 zf_CCCode_addLabel_26_b26 zf_MMC_label_0 zf_MMC_label_0_b17
  rw [zbd_eq cIsOpen, h8]
  by_cases ho : gi v 1 = 1
  · obtain ⟨b, c, H, lb, rw', lc, M, hB, hL⟩ := hO ho
    obtain ⟨⟨l1, l2, l3, l4⟩, l5, l6, l7, l8, l9⟩ := hL
    rw [if_pos ho, if_pos ho, if_neg (by decide), l2, l3, if_neg (nI_pos (by omega))]
    by_cases h2 : lb < 20
    · rw [if_neg (show ¬ nI _ = 20 from fun q => by have := (nI_eq (b := 20) (by omega) (by omega)).mp q; omega), if_pos ((show nI _ < 20 from nI_lt (b := 20) h2 (by omega))), zck_pos (zin_of h2 (by omega)), zck_pos (zin_of h2 (by omega)), nI_1]
      refine ⟨_, _, _, rfl, rfl, ty, n, ?_, h8, hst, fun _ => ?_⟩
      · refine RT_to (u := u) (v := v) (fun k hk => ?_) (fun k hk => ?_) rfl (fun k hk => ?_) hT
        · rw [gi_si, if_neg (by omega), gi_sa]
        · rw [a_si, a_sa, if_neg (by omega)]
        · rw [a_si, a_sa, if_neg (by omega)]
      · refine ⟨b, c, H, lb + 1, rw', lc, M, hB, ⟨by omega, rfl, rfl, ?_⟩, l5, l6, l7, l8, l9⟩
        intro i hi
        show upd (u.2.2.1 17) _ _ _ = upd (v.2.2.1 9) _ _ _
        rw [nI_clamp (by omega)]
        by_cases e : i = lb
        · subst e; rw [upd_at, upd_at]
        · rw [upd_ne _ _ e, upd_ne _ _ e]; exact l4 i (by omega)
    · have : lb = 20 := by omega
      subst this
      rw [if_pos (show nI 20 = 20 from rfl), if_neg (by decide)]; exact ⟨_, _, _, rfl, rfl, h⟩
  · rw [if_neg ho, if_neg ho, if_pos rfl]; exact ⟨_, _, _, rfl, rfl, h⟩
theorem ofN_add (a b : Nat) : Int64.ofNat a + Int64.ofNat b = Int64.ofNat (a + b) := (Int64.ofNat_add a b).symm
/-- the reference's sum of the rows -/
theorem mLook_l {N b c lb rw' lc : Nat} {M : Nat → Nat} {x : Int32} {u v : zU} (hL : RL lb rw' lc M u v) (R : Int64 → zU → Option (Int64 × zU)) (hR : ∀ n y w, gi w 6 = nI rw' → zf_MMC_look_0_b33 N (n + 1) x (nI b) y (nI rw') w = R y w) : ∀ (j i n : Nat), i + j = rw' → j < n → zf_MMC_look_0_b33 N n x (nI b) (Int64.ofNat (zSum M i)) (nI i) v = R (Int64.ofNat (zSum M rw')) v := by
  obtain ⟨l1, l5, ⟨k1, k2, k3⟩, ⟨r1, r2, r3⟩, l8, l9⟩ := hL
  intro j
  induction j with
  | zero =>
    intro i n h1 h2
    obtain ⟨m, rfl⟩ : ∃ m, n = m + 1 := ⟨n - 1, by omega⟩
    have e : i = rw' := by omega
    subst e
    exact hR m _ v r3
  | succ j ih =>
    intro i n h1 h2
    obtain ⟨m, rfl⟩ : ∃ m, n = m + 1 := ⟨n - 1, by omega⟩
    have e : gb v 0 (nI i) = Int64.ofNat (M i) := by
      show v.2.2.2 0 _ = _
      rw [nI_clamp (by omega)]; exact (l8 i (by omega)).2.2.1
    rw [zf_MMC_look_0_b33, r3, if_neg (nI_ge (by omega) (by omega)), zck_pos (zin_of (by omega) (by omega)), e, ofN_add, nI_1]
    exact ih (i + 1) m (by omega) (by omega)
theorem RC_self (u : zU) (c : Nat) (h14 : gi u 14 = nI c) : RC u (c, u.2.2.1 18, gi u 16) u := ⟨u.2.2.1 23, by
  show u = mkC u (nI c) _ _ _
  rw [← h14]; exact (mkC_self u).symm⟩
theorem cInner {N b : Nat} {u : zU} (hb : b < 60) (h15 : gi u 15 = nI (b + 1)) : zf_CCStack_hasInnermost_31 N u = some (1, u) := by
  unfold zf_CCStack_hasInnermost_31
  rw [h15, if_neg (nI_nle (by omega) (by omega)), if_neg ((show ¬ (60 : Int32) < nI _ from nI_nlt (a := 60) (by omega) (by omega)))]
  rfl
theorem zl_look (N : Nat) (hN : 1000000 ≤ N) (x : Int32) {u v : zU} (h : zRel u v) : ∃ r u1 v1, zf_CCC_look_0 N x u = some (r, u1) ∧ zf_MMC_look_0 N x v = some (r, v1) ∧ zRel u1 v1 := by
  obtain ⟨ty, n, hT, h8, hst, hO⟩ := id h
  unfold zf_CCC_look_0 zf_CCC_look_0_b24 zf_MMC_look_0 zf_MMC_look_0_b17
  rw [zbd_eq cIsOpen, h8]
  by_cases ho : gi v 1 = 1
  · obtain ⟨b, c, H, lb, rw', lc, M, hB, hL⟩ := hO ho
    obtain ⟨⟨b1, b2, b3, b4⟩, ⟨c1, c2, c3, c4⟩, ⟨d1, d2, d3, d4⟩, ⟨e1, e2⟩, f1, g1, k1⟩ := id hB
    have hu := RC_self u c c2
    rw [if_pos ho, if_pos ho, if_neg (by decide), b4, nI_pred]
    have rows : ∀ (R : Int64 → zU → Option (Int64 × zU)), (∀ m y w, gi w 6 = nI rw' → zf_MMC_look_0_b33 N (m + 1) x (nI b) y (nI rw') w = R y w) → zf_MMC_look_0_b33 N N x (nI b) 0 0 v = R (Int64.ofNat (zSum M rw')) v := by
      intro R hR
      have hr := hL.2.2.2.1.1
      have hl := hL.2.2.1.1
      exact mLook_l (b := b) (c := c) hL R hR rw' 0 N (by omega) (by omega)
    have fin : ∀ (y : Int64), zf_CCCode_figure_26 N x u = some (y, u) → zf_MMC_look_0_b33 N N x (nI b) 0 0 v = some (y, v) → (¬ x < 0) → x ≤ 5 → ∃ r u1 v1, (zbd (zf_CCCode_figure_26 N x u) fun r5 u6 => some (r5, u6)) = some (r, u1) ∧ (if x < 0 then some (-1, v) else if x ≤ 5 then zf_MMC_look_0_b33 N N x (nI b) 0 0 v else some (-1, v)) = some (r, v1) ∧ zRel u1 v1 := by
      intro y q1 q2 q3 q4
      rw [q1, q2, if_neg q3, if_pos q4]
      exact ⟨_, _, _, rfl, rfl, h⟩
    by_cases x0 : x = 0
    · subst x0
      refine fin (Int32.toInt64 (nI c)) ?_ ?_ (by decide) (by decide)
      · unfold zf_CCCode_figure_26; rw [if_pos rfl, c2]
      · have := rows (fun y w => some (Int32.toInt64 (gi w 9), w)) (fun m y w hw => by rw [zf_MMC_look_0_b33, hw, if_pos (Int32.le_refl _), if_pos rfl]; rfl)
        rw [this, c3]
    by_cases x1 : x = 1
    · subst x1
      refine fin (Int32.toInt64 (nI (b + 1))) ?_ ?_ (by decide) (by decide)
      · unfold zf_CCCode_figure_26; rw [if_neg (by decide), if_pos rfl, b3]
      · have := rows (fun y w => some (Int32.toInt64 (gi w 10), w)) (fun m y w hw => by rw [zf_MMC_look_0_b33, hw, if_pos (Int32.le_refl _), if_neg (by decide), if_pos rfl]; rfl)
        rw [this, b4]
    by_cases x2 : x = 2
    · subst x2
      refine fin (Int32.toInt64 (nI (H b))) ?_ ?_ (by decide) (by decide)
      · unfold zf_CCCode_figure_26 zf_CCStack_height_31
        have := cOf34 (N := N) b3 b2 (Nat.zero_le b) hu
        rw [if_neg (by decide), if_neg (by decide), if_pos rfl, zbd_eq (k := fun r1 u2 => some (r1, u2)) (show zf_CCStack_ofBlock_31_34 N 0 u = some (nI (H b), u) from by rw [← (d1 b (Nat.le_refl _)).1]; exact this)]
        rfl
      · have := rows (fun y w => zck (zin (nI b) 62) (some (Int32.toInt64 (ga w 13 (nI b)), w))) (fun m y w hw => by rw [zf_MMC_look_0_b33, hw, if_pos (Int32.le_refl _), if_neg (by decide), if_neg (by decide), if_pos rfl]; rfl)
        rw [this, zck_pos (zin_of (by omega) (by omega)), show ga v 13 (nI b) = nI (H b) from by show v.2.2.1 13 _ = _; rw [nI_clamp (by omega)]; exact (d1 b (Nat.le_refl _)).2]
    by_cases x3 : x = 3
    · subst x3
      have e14 : ga v 14 (nI b) = v.2.2.1 14 b := by show v.2.2.1 14 _ = _; rw [nI_clamp (by omega)]
      have e22 : ga u 22 (nI b) = u.2.2.1 22 b := by show u.2.2.1 22 _ = _; rw [nI_clamp (by omega)]
      refine fin (if v.2.2.1 14 b = 0 then 1 else 0) ?_ ?_ (by decide) (by decide)
      · unfold zf_CCCode_figure_26 zf_CCStack_isLive_31 zf_CCStack_isLive_31_b25 zf_CCStack_isLive_31_b26 zf_CCCode_figure_26_b82
        rw [if_neg (by decide), if_neg (by decide), if_neg (by decide), if_pos rfl, zbd_eq (cInner b2 b3), if_neg (by decide), b3, nI_pred, zck_pos (zin_of b2 (by omega)), e22]
        rcases f1 b (Nat.le_refl _) with ⟨q1, q2⟩ | ⟨q1, q2⟩
        · rw [q1, q2]; rfl
        · rw [q1, q2]; rfl
      · have := rows (fun y w => zck (zin (nI b) 62) (if ga w 14 (nI b) = 0 then some (1, w) else some (0, w))) (fun m y w hw => by rw [zf_MMC_look_0_b33, hw, if_pos (Int32.le_refl _), if_neg (by decide), if_neg (by decide), if_neg (by decide), if_pos rfl]; rfl)
        rw [this, zck_pos (zin_of (by omega) (by omega)), e14]
        split <;> rfl
    by_cases x4 : x = 4
    · subst x4
      refine fin (Int32.toInt64 (u.2.2.1 21 b)) ?_ ?_ (by decide) (by decide)
      · unfold zf_CCCode_figure_26 zf_CCStack_opener_31
        have := cOf35 (N := N) b3 b2 (Nat.zero_le b) hu
        rw [if_neg (by decide), if_neg (by decide), if_neg (by decide), if_neg (by decide), if_pos rfl, zbd_eq (k := fun r1 u2 => some (r1, u2)) (show zf_CCStack_ofBlock_31_35 N 0 u = some (u.2.2.1 21 b, u) from this)]
        rfl
      · have := rows (fun y w => zck (zin (nI b) 62) (some (Int32.toInt64 (ga w 11 (nI b)), w))) (fun m y w hw => by rw [zf_MMC_look_0_b33, hw, if_pos (Int32.le_refl _), if_neg (by decide), if_neg (by decide), if_neg (by decide), if_neg (by decide), if_pos rfl]; rfl)
        rw [this, zck_pos (zin_of (by omega) (by omega)), show ga v 11 (nI b) = u.2.2.1 21 b from by show v.2.2.1 11 _ = _; rw [nI_clamp (by omega)]; exact (e1 b (Nat.le_refl _)).symm]
    by_cases x5 : x = 5
    · subst x5
      refine fin (Int64.ofNat (zSum M rw')) ?_ ?_ (by decide) (by decide)
      · unfold zf_CCCode_figure_26
        rw [if_neg (by decide), if_neg (by decide), if_neg (by decide), if_neg (by decide), if_neg (by decide), if_pos rfl, hL.2.2.2.2.2]
      · have := rows (fun y w => some (y, w)) (fun m y w hw => by rw [zf_MMC_look_0_b33, hw, if_pos (Int32.le_refl _), if_neg (by decide), if_neg (by decide), if_neg (by decide), if_neg (by decide), if_neg (by decide)]; rfl)
        rw [this]
    have hf : zf_CCCode_figure_26 N x u = some (-1, u) := by
      unfold zf_CCCode_figure_26
      rw [if_neg x0, if_neg x1, if_neg x2, if_neg x3, if_neg x4, if_neg x5]
    have hx : x < 0 ∨ ¬ x ≤ 5 := by
      by_cases q : x < 0
      · exact Or.inl q
      · refine Or.inr (fun q2 => ?_)
        obtain ⟨j, hj, rfl⟩ := nI_of q
        have : j ≤ 5 := (nI_leI (b := 5) hj (by omega)).mp q2
        have c : j = 0 ∨ j = 1 ∨ j = 2 ∨ j = 3 ∨ j = 4 ∨ j = 5 := by omega
        rcases c with rfl | rfl | rfl | rfl | rfl | rfl
        · exact x0 rfl
        · exact x1 rfl
        · exact x2 rfl
        · exact x3 rfl
        · exact x4 rfl
        · exact x5 rfl
    rw [hf]
    by_cases q : x < 0
    · rw [if_pos q]; exact ⟨_, _, _, rfl, rfl, h⟩
    · rw [if_neg q, if_neg (hx.resolve_left q)]; exact ⟨_, _, _, rfl, rfl, h⟩
  · rw [if_neg ho, if_neg ho, if_pos rfl]; exact ⟨_, _, _, rfl, rfl, h⟩
