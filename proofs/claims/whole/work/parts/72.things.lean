/-! pure: type, part, add, declare -/
section GS
variable (u : zU) (k j : Nat) (i x : Int32) (y : Int64)
theorem gi_si : gi (si u k x) j = if j = k then x else gi u j := rfl
theorem gi_sa : gi (sa u k i x) j = gi u j := rfl
theorem a_si : (si u k x).2.2.1 = u.2.2.1 := rfl
theorem a_sa : (sa u k i x).2.2.1 j = if j = k then upd (u.2.2.1 k) i.toNatClampNeg x else u.2.2.1 j := rfl
end GS
theorem upd_at (f : Nat → Int32) (k : Nat) (x : Int32) : upd f k x k = x := if_pos rfl
theorem upd_ne (f : Nat → Int32) {k j : Nat} (x : Int32) (h : j ≠ k) : upd f k x j = f j := if_neg h
theorem zBT_mono {ty ty' : Nat} {x : Int32} (h : ty ≤ ty') (h4 : ty' ≤ 40) (H : zBT ty x) : zBT ty' x := ⟨Int32.lt_of_lt_of_le H.1 (nI_le h (by omega)), H.2⟩
theorem RO_to {ty ty' : Nat} {u v u' v' : zU} (hty : ty ≤ ty') (hty4 : ty' ≤ 40) (h1 : ∀ k, 7 ≤ k → k < 17 → gi u' k = gi u k) (h2 : gj u' 0 = gj u 0) (h3 : ∀ k, 16 ≤ k → k < 23 → u'.2.2.1 k = u.2.2.1 k) (h4 : u'.2.2.2 0 = u.2.2.2 0) (g1 : ∀ k, 1 ≤ k → k < 11 → gi v' k = gi v k) (g2 : gj v' 0 = gj v 0) (g3 : ∀ k, 8 ≤ k → k < 15 → v'.2.2.1 k = v.2.2.1 k) (g4 : v'.2.2.2 0 = v.2.2.2 0) (h : RO ty u v) : RO ty' u' v' := by
  obtain ⟨b, c, H, lb, rw', lc, M, hB, hL⟩ := h
  refine ⟨b, c, H, lb, rw', lc, M, ?_, ?_⟩
  · unfold RB at hB ⊢
    rw [h1 16 (by decide) (by decide), h1 15 (by decide) (by decide), h1 14 (by decide) (by decide), h1 9 (by decide) (by decide), h1 11 (by decide) (by decide), h3 18 (by decide) (by decide), h3 20 (by decide) (by decide), h3 21 (by decide) (by decide), h3 22 (by decide) (by decide), h3 19 (by decide) (by decide), g1 10 (by decide) (by decide), g1 9 (by decide) (by decide), g1 2 (by decide) (by decide), g1 4 (by decide) (by decide), g1 5 (by decide) (by decide), g2, g3 10 (by decide) (by decide), g3 13 (by decide) (by decide), g3 11 (by decide) (by decide), g3 14 (by decide) (by decide), g3 12 (by decide) (by decide)]
    obtain ⟨a1, a2, a3, a4, a5, ⟨a6, a6'⟩, a7⟩ := hB
    exact ⟨a1, a2, a3, a4, a5, ⟨a6, fun q hq => zBT_mono hty hty4 (a6' q hq)⟩, a7⟩
  · unfold RL at hL ⊢
    rw [h1 7 (by decide) (by decide), h1 10 (by decide) (by decide), h1 12 (by decide) (by decide), h1 13 (by decide) (by decide), h2, h3 17 (by decide) (by decide), h3 16 (by decide) (by decide), h4, g1 8 (by decide) (by decide), g1 3 (by decide) (by decide), g1 7 (by decide) (by decide), g1 6 (by decide) (by decide), g3 9 (by decide) (by decide), g3 8 (by decide) (by decide), g4]
    exact hL
theorem zl_type (N : Nat) (hN : 1000000 ≤ N) {u v : zU} (h : zRel u v) : ∃ r u1 v1, zf_CCC_type_0 N u = some (r, u1) ∧ zf_MMC_type_0 N v = some (r, v1) ∧ zRel u1 v1 := by
  obtain ⟨ty, n, hT, h8, hst, hO⟩ := id h
  obtain ⟨⟨t1, t2, t3⟩, p, z, sh, vs, ms, f⟩ := hT
  unfold zf_CCC_type_0 zf_CCThings_makeType_1 zf_MMC_type_0
  rw [t2, t3]
  by_cases h4 : ty = 40
  · subst h4
    rw [if_neg (by decide), if_pos (show nI 40 = 40 from rfl)]
    exact ⟨_, _, _, rfl, rfl, h⟩
  · rw [if_pos ((show nI _ < 40 from nI_lt (b := 40) (by omega) (by omega))), if_neg (show ¬ nI ty = 40 from fun q => h4 ((nI_eq (b := 40) (by omega) (by omega)).mp q)), nI_1]
    refine ⟨_, _, _, rfl, rfl, ty + 1, n, ?_, h8, hst, fun h1 => ?_⟩
    · refine ⟨⟨by omega, rfl, rfl⟩, p, z, ?_, ?_, ms, f⟩
      · intro k hk
        rw [gi_si, if_neg (by omega)]
        exact sh k hk
      · intro k hk k2 k5 i hi
        obtain ⟨a1, a2, a3⟩ := vs k hk k2 k5 i hi
        exact ⟨a1, fun q => by obtain ⟨t, b1, b2⟩ := a2 q; exact ⟨t, by omega, b2⟩, a3⟩
    · exact RO_to (ty := ty) (by omega) (by omega) (fun k a b => by rw [gi_si, if_neg (by omega)]) rfl (fun k a b => rfl) rfl (fun k a b => by rw [gi_si, if_neg (by omega)]) rfl (fun k a b => rfl) rfl (hO h1)
def zMu (M : Nat → Nat) (k m : Nat) : Nat → Nat := fun j => if j = k then m else M j
theorem zMu_at (M : Nat → Nat) (k m : Nat) : zMu M k m k = m := if_pos rfl
theorem zMu_ne (M : Nat → Nat) {k j : Nat} (m : Nat) (h : j ≠ k) : zMu M k m j = M j := if_neg h
theorem RT_add {ty : Nat} {n : Nat → Nat} {u v u' v' : zU} {k c : Nat} {a a' m b2 : Int32} (hk : k < 6) (hc : n k = c) (hc4 : c < 40) (ha : k ≠ 2 → k ≠ 5 → a = a' ∧ zKd ty k a') (h3 : k = 3 → m = b2) (h0 : k = 0 → m = 0)
    (hu0 : gi u' 0 = gi u 0) (hui : ∀ j, j < 6 → j ≠ k → gi u' (j + 1) = gi u (j + 1)) (huk : gi u' (k + 1) = nI (c + 1)) (hua : ∀ j, j < 16 → j ≠ 2 * k + 4 → j ≠ 2 * k + 5 → u'.2.2.1 j = u.2.2.1 j) (hu4 : u'.2.2.1 (2 * k + 4) = upd (u.2.2.1 (2 * k + 4)) c a) (hu5 : u'.2.2.1 (2 * k + 5) = upd (u.2.2.1 (2 * k + 5)) c m)
    (hv0 : gi v' 0 = gi v 0) (hv : ∀ j, j < 8 → j ≠ 4 → j ≠ 5 → j ≠ 6 → v'.2.2.1 j = v.2.2.1 j) (hv4 : v'.2.2.1 4 = upd (v.2.2.1 4) k (nI (c + 1))) (hv5 : v'.2.2.1 5 = upd (v.2.2.1 5) (40 * k + c) a') (hv6 : v'.2.2.1 6 = upd (v.2.2.1 6) (40 * k + c) b2) (h : RT ty n u v) : RT ty (zMu n k (c + 1)) u' v' := by
  obtain ⟨⟨t1, t2, t3⟩, ⟨p1, p2, p3, p4⟩, z, sh, vs, ms, ⟨f1, f2⟩⟩ := h
  have w0 := hv 0 (by omega) (by omega) (by omega) (by omega)
  have w1 := hv 1 (by omega) (by omega) (by omega) (by omega)
  have w2 := hv 2 (by omega) (by omega) (by omega) (by omega)
  have w3 := hv 3 (by omega) (by omega) (by omega) (by omega)
  have w7 := hv 7 (by omega) (by omega) (by omega) (by omega)
  refine ⟨⟨t1, by rw [hu0]; exact t2, by rw [hv0]; exact t3⟩, ⟨?_, ?_, ?_, ?_⟩, ?_, ?_, ?_, ?_, ?_, ?_⟩
  · rw [hua 0 (by omega) (by omega) (by omega), w0]; exact p1
  · rw [hua 1 (by omega) (by omega) (by omega), w2]; exact p2
  · rw [hua 2 (by omega) (by omega) (by omega), w1]; exact p3
  · rw [hua 3 (by omega) (by omega) (by omega), w3]; exact p4
  · rw [w0, w1, w2, w3]; exact z
  · intro j hj
    obtain ⟨s1, s2, s3⟩ := sh j hj
    rw [hv4]
    by_cases e : j = k
    · subst e
      rw [huk, zMu_at, upd_at]
      exact ⟨by omega, rfl, rfl⟩
    · rw [hui j hj e, zMu_ne _ _ e, upd_ne _ _ e]
      exact ⟨s1, s2, s3⟩
  · intro j hj j2 j5 i hi
    rw [hv5]
    by_cases e : j = k
    · subst e
      rw [zMu_at] at hi
      rw [hu4]
      by_cases ie : i = c
      · subst ie
        rw [upd_at, upd_at]; exact ha j2 j5
      · rw [upd_ne _ _ ie, upd_ne _ _ (by omega)]; exact vs j hj j2 j5 i (by omega)
    · rw [zMu_ne _ _ e] at hi
      have := (sh j hj).1
      rw [hua (2 * j + 4) (by omega) (by omega) (by omega), upd_ne _ _ (by omega)]; exact vs j hj j2 j5 i hi
  · intro i hi
    rw [hv6]
    by_cases e : 3 = k
    · subst e
      rw [zMu_at] at hi
      rw [show u'.2.2.1 11 = upd (u.2.2.1 11) c m from hu5]
      by_cases ie : i = c
      · subst ie
        rw [upd_at, show 120 + i = 40 * 3 + i from by omega, upd_at]; exact h3 rfl
      · rw [upd_ne _ _ ie, upd_ne _ _ (by omega)]; exact ms i (by omega)
    · rw [zMu_ne _ _ e] at hi
      have := (sh 3 (by omega)).1
      rw [hua 11 (by omega) (by omega) (by omega), upd_ne _ _ (by omega)]; exact ms i hi
  · intro i hi
    rw [w7]
    by_cases e : 0 = k
    · subst e
      rw [zMu_at] at hi
      rw [show u'.2.2.1 5 = upd (u.2.2.1 5) c m from hu5]
      by_cases ie : i = c
      · subst ie
        rw [upd_at, f2 i (by omega)]; exact h0 rfl
      · rw [upd_ne _ _ ie]; exact f1 i (by omega)
    · rw [zMu_ne _ _ e] at hi
      rw [hua 5 (by omega) (by omega) (by omega)]; exact f1 i hi
  · intro i hi
    rw [w7]
    refine f2 i ?_
    by_cases e : 0 = k
    · subst e; rw [zMu_at] at hi; omega
    · rw [zMu_ne _ _ e] at hi; exact hi
