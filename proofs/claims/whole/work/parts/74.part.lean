/-! pure: declare, part -/
theorem cHas0 {N c : Nat} {x : Int32} {u : zU} (hc : gi u 1 = nI c) : zf_CCShelf_has_8 N x u = some (if 0 ≤ x ∧ x < nI c then 1 else 0, u) := by
  unfold zf_CCShelf_has_8 zf_CCShelf_has_8_b16 zf_CCShelf_has_8_b17
  rw [hc]
  by_cases h1 : x < 0
  · rw [if_pos h1, if_neg (fun q => Int32.not_le.mpr h1 q.1)]; rfl
  · rw [if_neg h1]
    by_cases h2 : nI c ≤ x
    · rw [if_pos h2, if_neg (fun q => Int32.not_le.mpr q.2 h2)]; rfl
    · rw [if_neg h2, if_pos ⟨Int32.not_lt.mp h1, Int32.not_le.mp h2⟩]; rfl
theorem RT_declare {ty : Nat} {n : Nat → Nat} {u v : zU} {j : Nat} (hj : j < n 0) (h : RT ty n u v) : RT ty n (sa u 5 (nI j) 1) (sa v 7 (nI j) 1) := by
  obtain ⟨t, p, z, sh, vs, ms, ⟨f1, f2⟩⟩ := h
  have h40 := (sh 0 (by omega)).1
  have ej : (nI j).toNatClampNeg = j := nI_clamp (by omega)
  refine ⟨t, p, z, sh, ?_, ms, ?_, ?_⟩
  · intro k hk k2 k5 i hi
    rw [a_sa, if_neg (by omega), a_sa, if_neg (by omega)]
    exact vs k hk k2 k5 i hi
  · intro i hi
    rw [a_sa, if_pos rfl, a_sa, if_pos rfl, ej]
    by_cases e : i = j
    · subst e; rw [upd_at, upd_at]
    · rw [upd_ne _ _ e, upd_ne _ _ e]; exact f1 i hi
  · intro i hi
    rw [a_sa, if_pos rfl, ej, upd_ne _ _ (by omega)]
    exact f2 i hi
theorem zl_declare (N : Nat) (hN : 1000000 ≤ N) (x : Int32) {u v : zU} (h : zRel u v) : ∃ r u1 v1, zf_CCC_declare_0 N x u = some (r, u1) ∧ zf_MMC_declare_0 N x v = some (r, v1) ∧ zRel u1 v1 := by
  obtain ⟨ty, n, hT, h8, hst, hO⟩ := id h
  obtain ⟨s1, s2, s3⟩ := hT.2.2.2.1 0 (by omega)
  have e4 : ga v 4 0 = nI (n 0) := s3
  unfold zf_CCC_declare_0 zf_CCShelf_mark_8 zf_CCShelf_mark_8_b17 zf_MMC_declare_0 zf_MMC_declare_0_b14
  rw [cHas0 s2, zck_pos (by decide), e4]
  by_cases h1 : x < 0
  · rw [if_neg (fun q => Int32.not_le.mpr h1 q.1), if_pos h1]
    exact ⟨_, _, _, rfl, rfl, h⟩
  · rw [if_neg h1]
    obtain ⟨j, hj, rfl⟩ := nI_of h1
    by_cases h2 : nI j < nI (n 0)
    · have h2' : j < n 0 := (nI_ltI hj (by omega)).mp h2
      rw [if_pos ⟨nI_pos' hj, h2⟩, if_pos h2, zck_pos (zin_of (by omega) (by omega)), nar1]
      refine ⟨1, sa u 5 (nI j) 1, sa v 7 (nI j) 1, ?_, rfl, ?_⟩
      · show zbd (if (1 : Int32) = 0 then some (0, u) else if nI j < 40 then zck (zin (nI j) 40) (some (1, sa u 5 (nI j) (vp_nar .boolean 1))) else some (0, u)) _ = _
        rw [if_neg (by decide), if_pos ((show nI _ < 40 from nI_lt (b := 40) (by omega) (by omega))), zck_pos (zin_of (by omega) (by omega)), nar1]; rfl
      · refine zRel_things (RT_declare h2' hT) h8 hst hO (fun _ _ _ => rfl) rfl (fun k a b => ?_) rfl (fun _ _ _ => rfl) rfl (fun k a b => ?_) rfl
        · rw [a_sa, if_neg (by omega)]
        · rw [a_sa, if_neg (by omega)]
    · rw [if_neg (fun q => h2 q.2), if_neg h2]
      exact ⟨_, _, _, rfl, rfl, h⟩
theorem cIsOpen {N : Nat} {u : zU} : zf_CCCode_isOpen_26 N u = some (if gi u 8 = 1 then 1 else 0, u) := by
  unfold zf_CCCode_isOpen_26 zf_CCCode_isOpen_26_b13
  by_cases h : gi u 8 = 1
  · rw [if_pos h, if_pos h]; rfl
  · rw [if_neg h, if_neg h]; rfl
theorem zSz_upd {sz : Nat → Int32} {t s : Nat} (h : zSz sz) (hs : s < 12) : zSz (upd sz t (nI (s + 1))) := by
  intro q hq
  by_cases e : q = t
  · subst e; exact ⟨s + 1, by omega, upd_at _ _ _⟩
  · rw [upd_ne _ _ e]; exact h q hq
theorem zVals_upd {sz pt : Nat → Int32} {t s : Nat} {x : Int32} (h : zSz sz) (hv : zVals sz pt) (ht : t < 40) (hs : s < 12) (hst : sz t = nI s) (hx : zV x) : zVals (upd sz t (nI (s + 1))) (upd pt (12 * t + s) x) := by
  intro q hq i hi
  by_cases e : q = t
  · subst e
    rw [upd_at, nI_clamp (by omega)] at hi
    by_cases ie : i = s
    · subst ie; rw [upd_at]; exact hx
    · rw [upd_ne _ _ (by omega)]
      exact hv q hq i (by rw [hst, nI_clamp (by omega)]; omega)
  · rw [upd_ne _ _ e] at hi
    obtain ⟨n, hn, hne⟩ := h q hq
    have : i < 12 := by rw [hne, nI_clamp (by omega)] at hi; omega
    rw [upd_ne _ _ (by omega)]
    exact hv q hq i hi
theorem cAppendR {N t s : Nat} {x : Int32} {u : zU} (hs : zSz (u.2.2.1 2)) (ht : t < 40) (hst : u.2.2.1 2 t = nI s) (hs12 : s ≤ 12) : zf_CCRows_append_5 N (nI t) x u = some (if s < 12 then (nI (s + 1), sa (sa u 3 (nI (12 * t + s)) x) 2 (nI t) (nI (s + 1))) else (-1, u)) := by
  have e : zNn true (u.2.2.1 2) (nI t) = s := by unfold zNn; rw [if_neg (nI_pos (by omega)), nI_clamp (by omega), hst, nI_clamp (by omega)]
  unfold zf_CCRows_append_5 zf_CCRows_append_5_b45
  rw [zbd_eq (cSize5 hs ((show nI _ < 40 from nI_lt (b := 40) ht (by omega)))), e, if_neg (nI_pos (by omega)), if_neg ((show ¬ (40 : Int32) ≤ nI _ from nI_ge (b := 40) ht (by omega))), zmul12, nI_1]
  by_cases h : s < 12
  · rw [if_neg ((show ¬ (12 : Int32) ≤ nI _ from nI_ge (b := 12) h (by omega))), if_neg (nI_pos (by omega)), if_pos ((show nI _ < 480 from nI_lt (b := 480) (by omega) (by omega))), zck_pos (zin_of (by omega) (by omega)), zck_pos (zin_of ht (by omega)), if_pos h]
  · rw [if_pos ((show (12 : Int32) ≤ nI _ from nI_le (a := 12) (by omega) (by omega))), if_neg h]
theorem mPartR9 {N t s : Nat} {x : Int32} {v : zU} (ht : t < 40) (hst : v.2.2.1 1 t = nI s) (hs12 : s ≤ 12) : zf_MMC_part_0_b50 N 1 x (nI t) (nI s) v = some (if s < 12 then (nI (s + 1), sa (sa v 3 (nI (12 * t + s)) x) 1 (nI t) (nI (s + 1))) else (-1, v)) := by
  have e4 : ∀ (w : zU), w.2.2.1 1 = v.2.2.1 1 → ga w 1 (nI t) = nI s := fun w hw => by show w.2.2.1 1 _ = _; rw [hw, nI_clamp (by omega), hst]
  unfold zf_MMC_part_0_b50 zf_MMC_part_0_b114
  by_cases h : s < 12
  · rw [if_neg (show ¬ nI _ = 12 from fun q => by have := (nI_eq (b := 12) (by omega) (by omega)).mp q; omega), if_neg (by decide), zmul12', e4 (sa v 3 (nI (12 * t + s)) x) rfl, nI_1, zck_pos (zin_of (by omega) (by omega)), zck_pos (zin_of ht (by omega)), zck_pos (zin_of ht (by omega)), if_pos h]
  · have : s = 12 := by omega
    subst this
    rw [if_pos (show nI 12 = 12 from rfl), if_neg h]
theorem RT_partR {ty t s : Nat} {n : Nat → Nat} {x : Int32} {u v : zU} (ht : t < 40) (hst : v.2.2.1 1 t = nI s) (hs12 : s < 12) (hx : zV x) (h : RT ty n u v) : RT ty n (sa (sa u 3 (nI (12 * t + s)) x) 2 (nI t) (nI (s + 1))) (sa (sa v 3 (nI (12 * t + s)) x) 1 (nI t) (nI (s + 1))) := by
  obtain ⟨t0, ⟨p1, p2, p3, p4⟩, ⟨z1, z2, z3, z4⟩, sh, vs, ms, f⟩ := h
  have et : (nI t).toNatClampNeg = t := nI_clamp (by omega)
  have ei : (nI (12 * t + s)).toNatClampNeg = 12 * t + s := nI_clamp (by omega)
  refine ⟨t0, ⟨?_, ?_, ?_, ?_⟩, ⟨?_, ?_, ?_, ?_⟩, sh, ?_, ms, f⟩
  · exact p1
  · exact p2
  · show upd (u.2.2.1 2) _ _ = upd (v.2.2.1 1) _ _; rw [p3]
  · show upd (u.2.2.1 3) _ _ = upd (v.2.2.1 3) _ _; rw [p4]
  · exact z1
  · show zSz (upd (v.2.2.1 1) _ _); rw [et]; exact zSz_upd z2 hs12
  · exact z3
  · show zVals (upd (v.2.2.1 1) _ _) (upd (v.2.2.1 3) _ _); rw [et, ei]; exact zVals_upd z2 z4 ht hs12 hst hx
  · intro k hk k2 k5 i hi
    rw [a_sa, if_neg (by omega), a_sa, if_neg (by omega)]
    exact vs k hk k2 k5 i hi
theorem cAppendP {N t s : Nat} {x : Int32} {u : zU} (hs : zSz (u.2.2.1 0)) (ht : t < 40) (hst : u.2.2.1 0 t = nI s) (hs12 : s ≤ 12) : zf_CCRows_append_2 N (nI t) x u = some (if s < 12 then (nI (s + 1), sa (sa u 1 (nI (12 * t + s)) x) 0 (nI t) (nI (s + 1))) else (-1, u)) := by
  have e : zNn false (u.2.2.1 0) (nI t) = s := by unfold zNn; rw [if_neg (nI_pos (by omega)), nI_clamp (by omega), hst, nI_clamp (by omega)]
  unfold zf_CCRows_append_2 zf_CCRows_append_2_b45
  rw [zbd_eq (cSize2 hs ((show nI _ < 40 from nI_lt (b := 40) ht (by omega)))), e, if_neg (nI_pos (by omega)), if_neg ((show ¬ (40 : Int32) ≤ nI _ from nI_ge (b := 40) ht (by omega))), zmul12, nI_1]
  by_cases h : s < 12
  · rw [if_neg ((show ¬ (12 : Int32) ≤ nI _ from nI_ge (b := 12) h (by omega))), if_neg (nI_pos (by omega)), if_pos ((show nI _ < 480 from nI_lt (b := 480) (by omega) (by omega))), zck_pos (zin_of (by omega) (by omega)), zck_pos (zin_of ht (by omega)), if_pos h]
  · rw [if_pos ((show (12 : Int32) ≤ nI _ from nI_le (a := 12) (by omega) (by omega))), if_neg h]
theorem mPartP9 {N t s : Nat} {x : Int32} {v : zU} (ht : t < 40) (hst : v.2.2.1 0 t = nI s) (hs12 : s ≤ 12) : zf_MMC_part_0_b50 N 0 x (nI t) (nI s) v = some (if s < 12 then (nI (s + 1), sa (sa v 2 (nI (12 * t + s)) x) 0 (nI t) (nI (s + 1))) else (-1, v)) := by
  have e4 : ∀ (w : zU), w.2.2.1 0 = v.2.2.1 0 → ga w 0 (nI t) = nI s := fun w hw => by show w.2.2.1 0 _ = _; rw [hw, nI_clamp (by omega), hst]
  unfold zf_MMC_part_0_b50 zf_MMC_part_0_b114
  by_cases h : s < 12
  · rw [if_neg (show ¬ nI _ = 12 from fun q => by have := (nI_eq (b := 12) (by omega) (by omega)).mp q; omega), if_pos rfl, zmul12', e4 (sa v 2 (nI (12 * t + s)) x) rfl, nI_1, zck_pos (zin_of (by omega) (by omega)), zck_pos (zin_of ht (by omega)), zck_pos (zin_of ht (by omega)), if_pos h]
  · have : s = 12 := by omega
    subst this
    rw [if_pos (show nI 12 = 12 from rfl), if_neg h]
theorem RT_partP {ty t s : Nat} {n : Nat → Nat} {x : Int32} {u v : zU} (ht : t < 40) (hst : v.2.2.1 0 t = nI s) (hs12 : s < 12) (hx : zV x) (h : RT ty n u v) : RT ty n (sa (sa u 1 (nI (12 * t + s)) x) 0 (nI t) (nI (s + 1))) (sa (sa v 2 (nI (12 * t + s)) x) 0 (nI t) (nI (s + 1))) := by
  obtain ⟨t0, ⟨p1, p2, p3, p4⟩, ⟨z1, z2, z3, z4⟩, sh, vs, ms, f⟩ := h
  have et : (nI t).toNatClampNeg = t := nI_clamp (by omega)
  have ei : (nI (12 * t + s)).toNatClampNeg = 12 * t + s := nI_clamp (by omega)
  refine ⟨t0, ⟨?_, ?_, ?_, ?_⟩, ⟨?_, ?_, ?_, ?_⟩, sh, ?_, ms, f⟩
  · show upd (u.2.2.1 0) _ _ = upd (v.2.2.1 0) _ _; rw [p1]
  · show upd (u.2.2.1 1) _ _ = upd (v.2.2.1 2) _ _; rw [p2]
  · exact p3
  · exact p4
  · show zSz (upd (v.2.2.1 0) _ _); rw [et]; exact zSz_upd z1 hs12
  · exact z2
  · show zVals (upd (v.2.2.1 0) _ _) (upd (v.2.2.1 2) _ _); rw [et, ei]; exact zVals_upd z1 z3 ht hs12 hst hx
  · exact z4
  · intro k hk k2 k5 i hi
    rw [a_sa, if_neg (by omega), a_sa, if_neg (by omega)]
    exact vs k hk k2 k5 i hi
theorem zl_part (N : Nat) (hN : 1000000 ≤ N) (r x : Int32) (hz : zbz r) {u v : zU} (h : zRel u v) : ∃ a u1 v1, zf_CCC_part_0 N r x u = some (a, u1) ∧ zf_MMC_part_0 N r x v = some (a, v1) ∧ zRel u1 v1 := by
  obtain ⟨ty, n, hT, h8, hst, hO⟩ := id h
  have t1 := hT.1.1
  have t2 := hT.1.2.1
  have t3 := hT.1.2.2
  obtain ⟨p1, p2, p3, p4⟩ := hT.2.1
  obtain ⟨z1, z2, z3, z4⟩ := hT.2.2.1
  unfold zf_CCC_part_0 zf_CCC_part_0_b17 zf_MMC_part_0 zf_MMC_part_0_b22
  rw [zbd_eq cIsOpen, h8]
  by_cases ho : gi v 1 = 1
  · have e : ∃ v1, (if gi v 0 = 0 then some (-1, v) else zbd (zf_MMC_isValue N x v) fun r2 u3 => if r2 = 0 then some (-1, u3) else if gi u3 1 = 1 then some (-1, u3) else if r = 0 then zck (zin (gi u3 0 - 1) 40) (zf_MMC_part_0_b50 N r x (gi u3 0 - 1) (ga u3 0 (gi u3 0 - 1)) u3) else zck (zin (gi u3 0 - 1) 40) (zf_MMC_part_0_b50 N r x (gi u3 0 - 1) (ga u3 1 (gi u3 0 - 1)) u3)) = some ((-1 : Int32), v1) ∧ v1 = v := by
      rw [zbd_eq mIsV]
      by_cases q : gi v 0 = 0
      · rw [if_pos q]; exact ⟨_, rfl, rfl⟩
      · rw [if_neg q]
        by_cases hV : zV x
        · rw [if_pos hV, if_neg (by decide), if_pos ho]; exact ⟨_, rfl, rfl⟩
        · rw [if_neg hV, if_pos rfl]; exact ⟨_, rfl, rfl⟩
    obtain ⟨v1, e1, rfl⟩ := e
    rw [if_pos ho, if_neg (by decide)]
    exact ⟨_, _, _, rfl, e1, h⟩
  · rw [if_neg ho, if_pos rfl, zbd_eq cIsV, zbd_eq mIsV]
    by_cases hV : zV x
    · rw [if_pos hV, if_neg (show ¬ (1 : Int32) = 0 from by decide), if_neg (show ¬ (1 : Int32) = 0 from by decide), if_neg ho, t3]
      unfold zf_CCThings_extendLatestType_1
      rw [t2]
      by_cases q : ty = 0
      · subst q
        rw [if_pos nI_0]
        have c2 : zf_CCRows_append_2 N (nI 0 - 1) x u = some (-1, u) := by
          unfold zf_CCRows_append_2 zf_CCRows_append_2_b45
          rw [zbd_eq (cSize2 (by rw [p1]; exact z1) (by decide)), if_pos zm1lt]
        have c5 : zf_CCRows_append_5 N (nI 0 - 1) x u = some (-1, u) := by
          unfold zf_CCRows_append_5 zf_CCRows_append_5_b45
          rw [zbd_eq (cSize5 (by rw [p3]; exact z2) (by decide)), if_pos zm1lt]
        rw [c2, c5]
        refine ⟨-1, u, v, ?_, rfl, h⟩
        split <;> rfl
      · obtain ⟨t, rfl⟩ : ∃ t, ty = t + 1 := ⟨ty - 1, by omega⟩
        rw [if_neg (nI_ne0 (by omega) (by omega)), nI_pred, zck_pos (zin_of (by omega) (by omega)), zck_pos (zin_of (by omega) (by omega))]
        rcases hz with rfl | rfl
        · rw [if_pos rfl, if_pos rfl]
          obtain ⟨s, hs, hse⟩ := z1 t (by omega)
          have e0 : ga v 0 (nI t) = nI s := by rw [← hse]; show v.2.2.1 0 _ = _; rw [nI_clamp (by omega)]
          rw [e0, mPartP9 (by omega) hse hs, cAppendP (s := s) (by rw [p1]; exact z1) (by omega) (by rw [p1]; exact hse) hs]
          by_cases q : s < 12
          · rw [if_pos q, if_pos q]
            refine ⟨_, _, _, rfl, rfl, ?_⟩
            refine zRel_things (RT_partP (by omega) hse q hV hT) h8 hst hO (fun _ _ _ => rfl) rfl (fun k a b => ?_) rfl (fun _ _ _ => rfl) rfl (fun k a b => ?_) rfl
            · rw [a_sa, if_neg (by omega), a_sa, if_neg (by omega)]
            · rw [a_sa, if_neg (by omega), a_sa, if_neg (by omega)]
          · rw [if_neg q, if_neg q]; exact ⟨_, _, _, rfl, rfl, h⟩
        · rw [if_neg (by decide), if_neg (by decide)]
          obtain ⟨s, hs, hse⟩ := z2 t (by omega)
          have e0 : ga v 1 (nI t) = nI s := by rw [← hse]; show v.2.2.1 1 _ = _; rw [nI_clamp (by omega)]
          rw [e0, mPartR9 (by omega) hse hs, cAppendR (s := s) (by rw [p3]; exact z2) (by omega) (by rw [p3]; exact hse) hs]
          by_cases q : s < 12
          · rw [if_pos q, if_pos q]
            refine ⟨_, _, _, rfl, rfl, ?_⟩
            refine zRel_things (RT_partR (by omega) hse q hV hT) h8 hst hO (fun _ _ _ => rfl) rfl (fun k a b => ?_) rfl (fun _ _ _ => rfl) rfl (fun k a b => ?_) rfl
            · rw [a_sa, if_neg (by omega), a_sa, if_neg (by omega)]
            · rw [a_sa, if_neg (by omega), a_sa, if_neg (by omega)]
          · rw [if_neg q, if_neg q]; exact ⟨_, _, _, rfl, rfl, h⟩
    · rw [if_neg hV, if_pos rfl, if_pos rfl]
      refine ⟨-1, u, v, rfl, ?_, h⟩
      split <;> rfl
