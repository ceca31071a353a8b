/-! pure: begin, constant -/
def zOpC (u : zU) (bt m : Int32) : zU := si (si (si (si (si (sj (si (si (sa (sa (sa (sa (si (si (si u 14 0) 15 0) 16 0) 19 0 bt) 20 0 0) 21 0 (-1)) 22 0 1) 15 1) 13 0) 0 0) 7 0) 12 0) 10 0) 9 m) 8 1
def zOpM (v : zU) (m : Int32) : zU := sa (sa (sa (si (si (si (si (si (si (si (si v 2 m) 3 0) 1 1) 6 0) 7 0) 8 0) 9 0) 10 1) 11 0 (-1)) 13 0 0) 14 0 0
theorem cOpen0 {N : Nat} {bt : Int32} {u : zU} : zf_CCCode_open_26 N bt 0 u = some ((), zOpC u bt 0) := rfl
theorem cOpen1 {N : Nat} {bt : Int32} {u : zU} : zf_CCCode_open_26 N bt 1 u = some ((), zOpC u bt 1) := rfl
theorem mOpen0 {N : Nat} {v : zU} : zf_MMC_beginCode_0 N 0 v = some ((), zOpM v 0) := rfl
theorem mOpen1 {N : Nat} {v : zU} : zf_MMC_beginCode_0 N 1 v = some ((), zOpM v 1) := rfl
theorem RT_open {ty : Nat} {n : Nat → Nat} {bt m m' : Int32} {u v u' v' : zU} (hu1 : u'.1 = (zOpC u bt m).1 ∨ ∃ x, u'.1 = va_up (zOpC u bt m).1 11 x) (hu2 : u'.2.2.1 = (zOpC u bt m).2.2.1) (hv1 : gi v' 0 = gi v 0) (hv2 : v'.2.2.1 = (zOpM v m').2.2.1) (h : RT ty n u v) : RT ty n u' v' := by
  refine RT_to (u := u) (v := v) (fun k hk => ?_) (fun k hk => ?_) hv1 (fun k hk => ?_) h
  · have hk9 : k = 0 ∨ k = 1 ∨ k = 2 ∨ k = 3 ∨ k = 4 ∨ k = 5 ∨ k = 6 := by omega
    rcases hu1 with e | ⟨x, e⟩
    · unfold gi; rw [e]
      rcases hk9 with rfl | rfl | rfl | rfl | rfl | rfl | rfl <;> rfl
    · unfold gi; rw [e]
      rcases hk9 with rfl | rfl | rfl | rfl | rfl | rfl | rfl <;> rfl
  · rw [hu2]
    show (if k = 22 then _ else if k = 21 then _ else if k = 20 then _ else if k = 19 then _ else u.2.2.1 k) = _
    rw [if_neg (by omega), if_neg (by omega), if_neg (by omega), if_neg (by omega)]
  · rw [hv2]
    show (if k = 14 then _ else if k = 13 then _ else if k = 11 then _ else v.2.2.1 k) = _
    rw [if_neg (by omega), if_neg (by omega), if_neg (by omega)]
theorem zq0 {P : Nat → Prop} (h : P 0) : ∀ q, q ≤ 0 → P q := fun q hq => by
  have : q = 0 := by omega
  subst this; exact h
theorem zBegin_l {N t s ty : Nat} {n : Nat → Nat} {H : Nat → Nat} (hs12 : s ≤ 12) (ht : t < 40) : ∀ (j i k : Nat) (M : Nat → Nat) (w z : zU), i + j = s → j < k → RT ty n w z → z.2.2.1 0 t = nI s → RB ty 0 0 H w z → RL 0 i 0 M w z → gi w 8 = 1 → gi z 1 = 1 → ∃ w' z' M', zf_CCCode_openBody_26_b20 N k (nI t) (nI s) (nI i) w = some ((), w') ∧ zf_MMC_begin_0_b26 N k (nI t) (nI i) z = some (1, z') ∧ RT ty n w' z' ∧ RB ty 0 0 H w' z' ∧ RL 0 s 0 M' w' z' ∧ gi w' 8 = 1 ∧ gi z' 1 = 1 := by
  intro j
  induction j with
  | zero =>
    intro i k M w z h1 h2 hT hsz hB hL h8 h9
    obtain ⟨m, rfl⟩ : ∃ m, k = m + 1 := ⟨k - 1, by omega⟩
    have e : i = s := by omega
    subst e
    have e0 : ga z 0 (nI t) = nI i := by show z.2.2.1 0 _ = _; rw [nI_clamp (by omega)]; exact hsz
    rw [zf_CCCode_openBody_26_b20, zf_MMC_begin_0_b26, if_pos (Int32.le_refl _), zck_pos (zin_of ht (by omega)), e0, if_pos (Int32.le_refl _)]
    exact ⟨w, z, M, rfl, rfl, hT, hB, hL, h8, h9⟩
  | succ j ih =>
    intro i k M w z h1 h2 hT hsz hB hL h8 h9
    obtain ⟨m, rfl⟩ : ∃ m, k = m + 1 := ⟨k - 1, by omega⟩
    have e0 : ga z 0 (nI t) = nI s := by show z.2.2.1 0 _ = _; rw [nI_clamp (by omega)]; exact hsz
    have ep : zPp (w.2.2.1 1) (nI t) i = z.2.2.1 2 (12 * t + i) := by
      unfold zPp
      rw [if_neg (nI_pos (by omega)), nI_clamp (by omega), hT.2.1.2.1]
    have eq : ga z 2 (nI (12 * t + i)) = z.2.2.1 2 (12 * t + i) := by show z.2.2.1 2 _ = _; rw [nI_clamp (by omega)]
    have hV : zV (z.2.2.1 2 (12 * t + i)) := hT.2.2.1.2.2.1 t ht i (by rw [hsz, nI_clamp (by omega)]; omega)
    have r2 := hL.2.2.2.1.2.1
    have r3 := hL.2.2.2.1.2.2
    rw [zf_CCCode_openBody_26_b20, zf_MMC_begin_0_b26, if_neg (nI_ge (by omega) (by omega)), zbd_eq (cPart2 ((show nI _ < 40 from nI_lt (b := 40) ht (by omega))) (by omega)), ep, zbd_eq (cAppend r2 (by omega)), zck_pos (zin_of ht (by omega)), e0, if_neg (nI_ge (by omega) (by omega)), zmul12', zck_pos (zin_of (by omega) (by omega)), eq, zbd_eq (mAddRow r3 (by omega)), nI_1]
    exact ih (i + 1) m _ _ _ (by omega) (by omega) (RT_row hT) hsz (RB_row hB) (RL_row (m := 1) (by omega) (by omega) rfl hV (by omega) hL) h8 h9
theorem zl_begin (N : Nat) (hN : 1000000 ≤ N) (x : Int32) {u v : zU} (h : zRel u v) : ∃ r u1 v1, zf_CCC_begin_0 N x u = some (r, u1) ∧ zf_MMC_begin_0 N x v = some (r, v1) ∧ zRel u1 v1 := by
  obtain ⟨ty, n, hT, h8, hst, hO⟩ := id h
  have t1 := hT.1.1
  have t2 := hT.1.2.1
  have t3 := hT.1.2.2
  unfold zf_CCC_begin_0 zf_MMC_begin_0 zf_MMC_begin_0_b12
  rw [zbd_eq (cHasType t2), t3]
  by_cases h1 : x < 0
  · rw [if_neg (show ¬ (0 ≤ x ∧ x < nI ty) from fun q => Int32.not_le.mpr h1 q.1), if_pos rfl, if_pos h1]; exact ⟨_, _, _, rfl, rfl, h⟩
  · rw [if_neg h1]
    obtain ⟨t, ht, rfl⟩ := nI_of h1
    by_cases h2 : nI t < nI ty
    · have h2' : t < ty := (nI_ltI ht (by omega)).mp h2
      rw [if_pos (show 0 ≤ nI t ∧ nI t < nI ty from ⟨nI_pos' ht, h2⟩), if_neg (show ¬ (1 : Int32) = 0 from by decide), if_pos h2, zbd_eq mOpen1]
      unfold zf_CCCode_openBody_26
      rw [zbd_eq cOpen0]
      have hT2 : RT ty n (zOpC u (nI t) 0) (si (zOpM v 1) 4 (nI t)) := RT_open (u := u) (v := v) (bt := nI t) (m := 0) (m' := 1) (Or.inl rfl) rfl rfl rfl hT
      obtain ⟨s, hs, hse⟩ := hT2.2.2.1.1 t (by omega)
      have hz : zNn false ((zOpC u (nI t) 0).2.2.1 0) (nI t) = s := by
        unfold zNn
        rw [if_neg (nI_pos (by omega)), nI_clamp (by omega), hT2.2.1.1, hse, nI_clamp (by omega)]
      rw [zbd_eq (cSize2 (by rw [hT2.2.1.1]; exact hT2.2.2.1.1) ((show nI _ < 40 from nI_lt (b := 40) (by omega) (by omega)))), hz]
      have hB : RB ty 0 0 (fun _ => 0) (zOpC u (nI t) 0) (si (zOpM v 1) 4 (nI t)) := by
        refine ⟨⟨rfl, by omega, rfl, rfl⟩, ⟨by omega, rfl, rfl, fun i hi => absurd hi (by omega)⟩, ⟨zq0 ⟨rfl, rfl⟩, fun q hq => absurd hq (by omega), Nat.le_refl 0, rfl⟩, ⟨zq0 rfl, rfl⟩, zq0 (Or.inl ⟨rfl, rfl⟩), ⟨fun q a b => absurd b (by omega), zq0 ⟨h2, fun q => absurd q h1⟩⟩, Or.inl ⟨rfl, rfl, rfl, h1⟩⟩
      have hL : RL 0 0 0 (fun _ => 1) (zOpC u (nI t) 0) (si (zOpM v 1) 4 (nI t)) := by
        refine ⟨⟨by omega, rfl, rfl, fun i hi => absurd hi (by omega)⟩, ⟨rfl, Or.inl rfl⟩, ⟨by omega, rfl, rfl⟩, ⟨by omega, rfl, rfl⟩, fun i hi => absurd hi (by omega), rfl⟩
      obtain ⟨w', z', M', e1, e2, hT3, hB3, hL3, a8, a9⟩ := zBegin_l (N := N) (t := t) hs (by omega) s 0 N _ _ _ (by omega) (by omega) hT2 hse hB hL rfl rfl
      have e1' : zf_CCCode_openBody_26_b20 N N (nI t) (nI s) 0 (zOpC u (nI t) 0) = some ((), w') := e1
      have e2' : zf_MMC_begin_0_b26 N N (nI t) 0 (si (zOpM v 1) 4 (nI t)) = some (1, z') := e2
      rw [e1', e2']
      exact ⟨_, _, _, rfl, rfl, ty, n, hT3, by rw [a8, a9], Or.inr (Or.inl a9), fun _ => ⟨0, 0, _, 0, s, 0, M', hB3, hL3⟩⟩
    · rw [if_neg (show ¬ (0 ≤ nI t ∧ nI t < nI ty) from fun q => h2 q.2), if_pos rfl, if_neg h2]; exact ⟨_, _, _, rfl, rfl, h⟩
theorem zl_constant (N : Nat) (hN : 1000000 ≤ N) (x g : Int32) {u v : zU} (h : zRel u v) : ∃ r u1 v1, zf_CCC_constant_0 N x g u = some (r, u1) ∧ zf_MMC_constant_0 N x g v = some (r, v1) ∧ zRel u1 v1 := by
  obtain ⟨ty, n, hT, h8, hst, hO⟩ := id h
  unfold zf_CCC_constant_0 zf_CCC_constant_0_b11 zf_CCCode_openConstant_26 zf_MMC_constant_0 zf_MMC_constant_0_b11
  rw [zbd_eq cIsV, zbd_eq mIsV]
  by_cases hV : zV x
  · rw [if_pos hV, if_neg (show ¬ (1 : Int32) = 0 from by decide), if_neg (show ¬ (1 : Int32) = 0 from by decide)]
    by_cases hg : 0 ≤ g
    · rw [if_pos hg, if_pos hg, zbd_eq cOpen1, zbd_eq mOpen0]
      refine ⟨1, si (zOpC u (x - 128) 1) 11 g, sj (si (zOpM v 0) 5 x) 0 (Int32.toInt64 g), rfl, rfl, ty, n, RT_open (u := u) (v := v) (bt := x - 128) (m := 1) (m' := 0) (Or.inr ⟨g, rfl⟩) rfl rfl rfl hT, rfl, Or.inr (Or.inl rfl), fun _ => ?_⟩
      have q1 : x - 128 + 128 = x := Int32.sub_add_cancel x 128
      have q2 : x - 128 < 0 := by rcases hV with rfl | rfl | rfl | rfl | rfl | rfl <;> decide
      have q3 : x - 128 ≠ -64 := by rcases hV with rfl | rfl | rfl | rfl | rfl | rfl <;> decide
      refine ⟨0, 0, fun _ => 0, 0, 0, 0, fun _ => 1, ?_, ?_⟩
      · refine ⟨⟨rfl, by omega, rfl, rfl⟩, ⟨by omega, rfl, rfl, fun i hi => absurd hi (by omega)⟩, ⟨zq0 ⟨rfl, rfl⟩, fun q hq => absurd hq (by omega), Nat.le_refl 0, rfl⟩, ⟨zq0 rfl, rfl⟩, zq0 (Or.inl ⟨rfl, rfl⟩), ⟨fun q a b => absurd b (by omega), zq0 ⟨?_, fun _ => Or.inr ?_⟩⟩, Or.inr ⟨rfl, rfl, q1.symm, q2, q3, rfl, hg⟩⟩
        · exact Int32.lt_of_lt_of_le q2 (nI_pos' (by have := hT.1.1; omega))
        · show zV (x - 128 + 128)
          rw [q1]; exact hV
      · exact ⟨⟨by omega, rfl, rfl, fun i hi => absurd hi (by omega)⟩, ⟨rfl, Or.inl rfl⟩, ⟨by omega, rfl, rfl⟩, ⟨by omega, rfl, rfl⟩, fun i hi => absurd hi (by omega), rfl⟩
    · rw [if_neg hg, if_neg hg]; exact ⟨_, _, _, rfl, rfl, h⟩
  · rw [if_neg hV, if_pos rfl, if_pos rfl]; exact ⟨_, _, _, rfl, rfl, h⟩
