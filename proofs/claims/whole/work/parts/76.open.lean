/-! pure: begin, constant, local -/
theorem RB_to {ty b c : Nat} {H : Nat → Nat} {u v u' v' : zU} (h16 : gi u' 16 = gi u 16) (h15 : gi u' 15 = gi u 15) (h14 : gi u' 14 = gi u 14) (h9 : gi u' 9 = gi u 9) (h11 : gi u' 11 = gi u 11) (h3 : ∀ k, 18 ≤ k → k < 23 → u'.2.2.1 k = u.2.2.1 k) (g10 : gi v' 10 = gi v 10) (g9 : gi v' 9 = gi v 9) (g2' : gi v' 2 = gi v 2) (g4' : gi v' 4 = gi v 4) (g5' : gi v' 5 = gi v 5) (g2 : gj v' 0 = gj v 0) (g3 : ∀ k, 10 ≤ k → k < 15 → v'.2.2.1 k = v.2.2.1 k) (h : RB ty b c H u v) : RB ty b c H u' v' := by
  unfold RB at h ⊢
  rw [h16, h15, h14, h9, h11, h3 18 (by decide) (by decide), h3 20 (by decide) (by decide), h3 21 (by decide) (by decide), h3 22 (by decide) (by decide), h3 19 (by decide) (by decide), g10, g9, g2', g4', g5', g2, g3 10 (by decide) (by decide), g3 13 (by decide) (by decide), g3 11 (by decide) (by decide), g3 14 (by decide) (by decide), g3 12 (by decide) (by decide)]
  exact h
theorem zSum_mu {M : Nat → Nat} {k m : Nat} : ∀ j, j ≤ k → zSum (zMu M k m) j = zSum M j := by
  intro j
  induction j with
  | zero => intro _; rfl
  | succ j ih =>
    intro h
    show zSum (zMu M k m) j + zMu M k m j = zSum M j + M j
    rw [ih (by omega)]
    unfold zMu
    rw [if_neg (by omega)]
theorem zSum_mu1 {M : Nat → Nat} {k m : Nat} : zSum (zMu M k m) (k + 1) = zSum M k + m := by
  show zSum (zMu M k m) k + zMu M k m k = _
  rw [zSum_mu k (Nat.le_refl _)]
  unfold zMu
  rw [if_pos rfl]
/-- one more row of locals, on both sides -/
def rowC (u : zU) (t : Int32) (y : Int64) (rw' : Nat) : zU := si (sb (sa (sj u 0 (gj u 0 + y)) 16 (nI rw') t) 0 (nI rw') (gj u 0 + y)) 13 (nI (rw' + 1))
def rowM (v : zU) (t : Int32) (y : Int64) (rw' : Nat) : zU := si (sb (sa v 8 (nI rw') t) 0 (nI rw') y) 6 (nI (rw' + 1))
theorem cAppend {N rw' : Nat} {t : Int32} {y : Int64} {u : zU} (h : gi u 13 = nI rw') (hr : rw' < 52) : zf_CCLocals_append_27 N t y u = some ((), rowC u t y rw') := by
  unfold zf_CCLocals_append_27 rowC
  rw [h, if_neg (nI_pos (by omega)), if_neg ((show ¬ (52 : Int32) ≤ nI _ from nI_ge (b := 52) hr (by omega))), if_pos ((show nI _ < 52 from nI_lt (b := 52) hr (by omega))), zck_pos (zin_of hr (by omega)), zck_pos (zin_of hr (by omega)), nI_1]
theorem mAddRow {N rw' : Nat} {t : Int32} {y : Int64} {v : zU} (h : gi v 6 = nI rw') (hr : rw' < 52) : zf_MMC_addRow_0 N t y v = some ((), rowM v t y rw') := by
  unfold zf_MMC_addRow_0 rowM
  rw [h, zck_pos (zin_of (by omega) (by omega)), zck_pos (zin_of (by omega) (by omega)), nI_1]
theorem updL_at (f : Nat → Int64) (k : Nat) (x : Int64) : vp_updL f k x k = x := if_pos rfl
theorem updL_ne (f : Nat → Int64) {k j : Nat} (x : Int64) (h : j ≠ k) : vp_updL f k x j = f j := if_neg h
theorem RL_row {lb rw' lc lc' m : Nat} {M : Nat → Nat} {t : Int32} {u v : zU} (hr : rw' < 52) (hr2 : rw' < 12 + lc') (hlc : lc = lc') (ht : zV t) (hm : m < 2 ^ 32) (h : RL lb rw' lc M u v) : RL lb (rw' + 1) lc' (zMu M rw' m) (rowC u t (Int64.ofNat m) rw') (rowM v t (Int64.ofNat m) rw') := by
  subst hlc
  obtain ⟨l1, l5, k, ⟨r1, r2, r3⟩, l8, l9⟩ := h
  have er : (nI rw').toNatClampNeg = rw' := nI_clamp (by omega)
  have eg : gj u 0 + Int64.ofNat m = Int64.ofNat (zSum (zMu M rw' m) (rw' + 1)) := by rw [l9, ofN_add, zSum_mu1]
  refine ⟨l1, l5, k, ⟨by omega, rfl, rfl⟩, ?_, eg⟩
  intro i hi
  show upd (u.2.2.1 16) (nI rw').toNatClampNeg t i = upd (v.2.2.1 8) (nI rw').toNatClampNeg t i ∧ zV (upd (v.2.2.1 8) (nI rw').toNatClampNeg t i) ∧ vp_updL (v.2.2.2 0) (nI rw').toNatClampNeg (Int64.ofNat m) i = Int64.ofNat (zMu M rw' m i) ∧ zMu M rw' m i < 2 ^ 32 ∧ vp_updL (u.2.2.2 0) (nI rw').toNatClampNeg (gj u 0 + Int64.ofNat m) i = Int64.ofNat (zSum (zMu M rw' m) (i + 1))
  rw [er]
  by_cases e : i = rw'
  · subst e
    rw [upd_at, upd_at, updL_at, updL_at, eg]
    unfold zMu
    rw [if_pos rfl]
    exact ⟨rfl, ht, rfl, hm, rfl⟩
  · have hz : zMu M rw' m i = M i := by unfold zMu; rw [if_neg e]
    rw [upd_ne _ _ e, upd_ne _ _ e, updL_ne _ _ e, updL_ne _ _ e, hz, zSum_mu _ (by omega)]
    exact l8 i (by omega)
theorem RT_row {ty : Nat} {n : Nat → Nat} {rw' : Nat} {t : Int32} {y : Int64} {u v : zU} (h : RT ty n u v) : RT ty n (rowC u t y rw') (rowM v t y rw') := by
  refine RT_to (u := u) (v := v) (fun k hk => ?_) (fun k hk => ?_) rfl (fun k hk => ?_) h
  · show (if k = 13 then _ else gi u k) = gi u k
    rw [if_neg (by omega)]
  · show (if k = 16 then _ else u.2.2.1 k) = u.2.2.1 k
    rw [if_neg (by omega)]
  · show (if k = 8 then _ else v.2.2.1 k) = v.2.2.1 k
    rw [if_neg (by omega)]
theorem RB_row {ty b c : Nat} {H : Nat → Nat} {rw' : Nat} {t : Int32} {y : Int64} {u v : zU} (h : RB ty b c H u v) : RB ty b c H (rowC u t y rw') (rowM v t y rw') := by
  refine RB_to (u := u) (v := v) rfl rfl rfl rfl rfl (fun k a b => ?_) rfl rfl rfl rfl rfl rfl (fun k a b => ?_) h
  · show (if k = 16 then _ else u.2.2.1 k) = u.2.2.1 k
    rw [if_neg (by omega)]
  · show (if k = 8 then _ else v.2.2.1 k) = v.2.2.1 k
    rw [if_neg (by omega)]
theorem zand32 (x : Int32) : Int32.toInt64 x &&& 4294967295 = Int64.ofNat x.toBitVec.toNat := by
  apply Int64.toBitVec.inj
  show (x.toBitVec.signExtend 64 &&& 4294967295#64) = BitVec.ofNat 64 x.toBitVec.toNat
  apply BitVec.eq_of_toNat_eq
  have h := x.toBitVec.isLt
  rw [BitVec.toNat_and, BitVec.toNat_signExtend, BitVec.toNat_setWidth, BitVec.toNat_ofNat, BitVec.toNat_ofNat, show 4294967295 % 2 ^ 64 = 2 ^ 32 - 1 from by decide, Nat.and_two_pow_sub_one_eq_mod]
  split <;> omega
theorem zlow_nI {j : Nat} (h : j < 2 ^ 31) : Int32.toInt64 (nI j) &&& 4294967295 = Int64.ofNat j := by
  rw [zand32]
  congr 1
  show (BitVec.ofNat 32 j).toNat = j
  rw [BitVec.toNat_ofNat]
  omega
theorem zlow_neg {x : Int32} (h : x < 0) : 2 ^ 31 ≤ x.toBitVec.toNat := by
  have h1 : x.toInt < 0 := by rw [Int32.lt_iff_toInt_lt] at h; exact h
  have h2 : x.toInt = x.toBitVec.toInt := rfl
  rw [h2, BitVec.toInt_eq_toNat_cond] at h1
  have h3 := x.toBitVec.isLt
  split at h1 <;> omega
theorem zcmp {a b : Nat} (ha : a < 2 ^ 62) (hb : b < 2 ^ 62) : 0 ≤ lg_cmp (Int64.ofNat a) (Int64.ofNat b) ↔ b ≤ a := by
  have ea : (Int64.ofNat a).toInt = (a : Int) := lg_ofNat_toInt (by omega)
  have eb : (Int64.ofNat b).toInt = (b : Int) := lg_ofNat_toInt (by omega)
  unfold lg_cmp
  by_cases h1 : Int64.ofNat a > Int64.ofNat b
  · rw [if_pos h1]
    have : (Int64.ofNat b).toInt < (Int64.ofNat a).toInt := Int64.lt_iff_toInt_lt.mp h1
    rw [ea, eb] at this
    exact ⟨fun _ => by omega, fun _ => by decide⟩
  · rw [if_neg h1]
    have h1' : ¬ (Int64.ofNat b).toInt < (Int64.ofNat a).toInt := fun q => h1 (Int64.lt_iff_toInt_lt.mpr q)
    rw [ea, eb] at h1'
    by_cases h2 : Int64.ofNat a = Int64.ofNat b
    · rw [if_pos h2]
      have : (Int64.ofNat a).toInt = (Int64.ofNat b).toInt := by rw [h2]
      rw [ea, eb] at this
      exact ⟨fun _ => by omega, fun _ => by decide⟩
    · rw [if_neg h2]
      have : ¬ (Int64.ofNat a).toInt = (Int64.ofNat b).toInt := fun q => h2 (Int64.toInt_inj.mp q)
      rw [ea, eb] at this
      exact ⟨fun q => absurd q (by decide), fun q => by omega⟩
theorem zl64 {c : Nat} (h : c < 2 ^ 31) : Int32.toInt64 (nI c) = Int64.ofNat c := nI_l h
/-- a number of 32 bits without sign is below a count: so it is not negative, and below it -/
theorem zhas {x : Int32} {c : Nat} (hc : c < 2 ^ 31) : (0 ≤ lg_cmp (Int32.toInt64 x &&& 4294967295) (Int32.toInt64 (nI c))) ↔ ¬ (0 ≤ x ∧ x < nI c) := by
  rw [zl64 hc]
  by_cases h : x < 0
  · have h1 := zlow_neg h
    have h2 := x.toBitVec.isLt
    rw [zand32, zcmp (by omega) (by omega)]
    exact ⟨fun _ q => Int32.not_le.mpr h q.1, fun _ => by omega⟩
  · obtain ⟨j, hj, rfl⟩ := nI_of h
    rw [zlow_nI hj, zcmp (by omega) (by omega)]
    constructor
    · intro q1 q2
      have := (nI_ltI hj hc).mp q2.2
      omega
    · intro q1
      exact Nat.not_lt.mp (fun q => q1 ⟨nI_pos' hj, nI_lt q hc⟩)
theorem zl_local (N : Nat) (hN : 1000000 ≤ N) (t x : Int32) {u v : zU} (h : zRel u v) : ∃ r u1 v1, zf_CCC_local_0 N t x u = some (r, u1) ∧ zf_MMC_local_0 N t x v = some (r, v1) ∧ zRel u1 v1 := by
  obtain ⟨ty, n, hT, h8, hst, hO⟩ := id h
  unfold zf_CCC_local_0 zf_CCCode_addLocals_26 zf_CCCode_addLocals_26_b37 zf_MMC_local_0 zf_MMC_local_0_b38
  rw [zbd_eq cIsOpen, h8]
  by_cases ho : gi v 1 = 1
  · obtain ⟨b, c, H, lb, rw', lc, M, hB, hL⟩ := hO ho
    obtain ⟨k1, k2, k3⟩ := hL.2.2.1
    obtain ⟨r1, r2, r3⟩ := hL.2.2.2.1
    obtain ⟨f1, f2⟩ := hL.2.1
    have hbody := hB.2.2.2.2.2.2
    rw [if_pos ho, if_pos ho, if_neg (by decide), f1]
    rcases hbody with ⟨q1, q2, -⟩ | ⟨q1, q2, -⟩
    · rw [q1, q2, if_pos rfl, if_neg (show ¬ (1 : Int32) = 0 from by decide)]
      by_cases hb : gi v 3 = 0
      · rw [if_pos hb, if_pos hb, zbd_eq cIsV, zbd_eq mIsV]
        by_cases hV : zV t
        · rw [if_pos hV, if_neg (show ¬ (1 : Int32) = 0 from by decide), if_neg (show ¬ (1 : Int32) = 0 from by decide), k2, k3]
          by_cases hc : lc < 40
          · rw [if_pos ((show nI _ < 40 from nI_lt (b := 40) hc (by omega))), if_neg (show ¬ nI _ = 40 from fun q => by have := (nI_eq (b := 40) (by omega) (by omega)).mp q; omega)]
            obtain ⟨m, hm, em⟩ : ∃ m : Nat, m < 2 ^ 32 ∧ Int32.toInt64 x &&& 4294967295 = Int64.ofNat m := ⟨_, x.toBitVec.isLt, zand32 x⟩
            have hw : zf_CCC_withoutSign N x u = some (Int64.ofNat m, u) := by unfold zf_CCC_withoutSign; rw [em]
            rw [zbd_eq hw, em, zbd_eq (cAppend r2 (by omega)), zbd_eq (mAddRow r3 (by omega))]
            have g12 : gi (rowC u t (Int64.ofNat m) rw') 12 = nI lc := k2
            have g7 : gi (rowM v t (Int64.ofNat m) rw') 7 = nI lc := k3
            rw [g12, g7, nI_1]
            refine ⟨1, si (rowC u t (Int64.ofNat m) rw') 12 (nI (lc + 1)), si (rowM v t (Int64.ofNat m) rw') 7 (nI (lc + 1)), rfl, rfl, ty, n, ?_, h8, hst, fun _ => ?_⟩
            · refine RT_to (u := rowC u t (Int64.ofNat m) rw') (v := rowM v t (Int64.ofNat m) rw') (fun k hk => ?_) (fun k hk => rfl) rfl (fun k hk => rfl) (RT_row hT)
              rw [gi_si, if_neg (by omega)]
            · refine ⟨b, c, H, lb, rw' + 1, lc + 1, zMu M rw' m, ?_, ?_⟩
              · exact RB_to (u := rowC u t (Int64.ofNat m) rw') (v := rowM v t (Int64.ofNat m) rw') rfl rfl rfl rfl rfl (fun _ _ _ => rfl) rfl rfl rfl rfl rfl rfl (fun _ _ _ => rfl) (RB_row hB)
              · have hL2 : RL lb rw' (lc + 1) M (si u 12 (nI (lc + 1))) (si v 7 (nI (lc + 1))) := ⟨hL.1, hL.2.1, ⟨by omega, rfl, rfl⟩, ⟨by omega, r2, r3⟩, hL.2.2.2.2.1, hL.2.2.2.2.2⟩
                exact RL_row (t := t) (m := m) (by omega) (by omega) rfl hV hm hL2
          · have : lc = 40 := by omega
            subst this
            rw [if_neg (by decide), if_pos (show nI 40 = 40 from rfl)]; exact ⟨_, _, _, rfl, rfl, h⟩
        · rw [if_neg hV, if_pos rfl, if_pos rfl]; exact ⟨_, _, _, rfl, rfl, h⟩
      · rw [if_neg hb, if_neg hb]; exact ⟨_, _, _, rfl, rfl, h⟩
    · rw [q1, q2, if_neg (show ¬ (1 : Int32) = 0 from by decide), if_pos rfl]; exact ⟨_, _, _, rfl, rfl, h⟩
  · rw [if_neg ho, if_neg ho, if_pos rfl]; exact ⟨_, _, _, rfl, rfl, h⟩
