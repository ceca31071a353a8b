/-! pure: add -/
theorem zbd_ite {α β : Type} {c : Prop} [Decidable c] {x y : α × zU} {k : α → zU → Option β} : zbd (some (if c then x else y)) k = if c then k x.1 x.2 else k y.1 y.2 := by split <;> rfl
theorem nar0 : vp_nar .boolean 0 = 0 := by decide
theorem nar1 : vp_nar .boolean 1 = 1 := by decide
theorem z40 {k c : Nat} : 40 * nI k + nI c = nI (40 * k + c) := by
  rw [show 40 * nI k = nI (40 * k) from by
    show Int32.ofNat 40 * Int32.ofNat k = Int32.ofNat (40 * k)
    rw [← Int32.ofNat_mul], nI_add]
theorem cHasType {N ty : Nat} {a : Int32} {u : zU} (t2 : gi u 0 = nI ty) : zf_CCThings_hasType_1 N a u = some (if 0 ≤ a ∧ a < nI ty then 1 else 0, u) := by
  unfold zf_CCThings_hasType_1 zf_CCThings_hasType_1_b16 zf_CCThings_hasType_1_b17
  rw [t2]
  by_cases h1 : a < 0
  · rw [if_pos h1, if_neg (fun q => Int32.not_le.mpr h1 q.1)]; rfl
  · rw [if_neg h1]
    by_cases h2 : nI ty ≤ a
    · rw [if_pos h2, if_neg (fun q => Int32.not_le.mpr q.2 h2)]; rfl
    · rw [if_neg h2, if_pos ⟨Int32.not_lt.mp h1, Int32.not_le.mp h2⟩]; rfl
theorem cPut0 {N c : Nat} {a m : Int32} {u : zU} (hc : gi u 1 = nI c) (h4 : c ≤ 40) : zf_CCShelf_put_8 N a m u = some (if c < 40 then (nI c, si (sa (sa u 4 (nI c) a) 5 (nI c) (vp_nar .boolean m)) 1 (nI (c + 1))) else (-1, u)) := by
  unfold zf_CCShelf_put_8 zf_CCShelf_put_8_b31
  rw [hc, if_neg (nI_pos (by omega))]
  by_cases h : c < 40
  · rw [if_neg ((show ¬ (40 : Int32) ≤ nI _ from nI_ge (b := 40) h (by omega))), if_pos ((show nI _ < 40 from nI_lt (b := 40) h (by omega))), zck_pos (zin_of h (by omega)), zck_pos (zin_of h (by omega)), if_pos h, nI_1, nI_pred]
  · rw [if_pos ((show (40 : Int32) ≤ nI _ from nI_le (a := 40) (by omega) (by omega))), if_neg h]
theorem cAdd0 {N c ty : Nat} {a b : Int32} {u : zU} (t2 : gi u 0 = nI ty) (hc : gi u 1 = nI c) (h4 : c ≤ 40) : zf_CCC_add_0 N 0 a b u = some (if (0 ≤ a ∧ a < nI ty) ∧ c < 40 then (nI c, si (sa (sa u 4 (nI c) a) 5 (nI c) 0) 1 (nI (c + 1))) else (-1, u)) := by
  unfold zf_CCC_add_0 zf_CCThings_addThing_1 zf_CCThings_addThing_1_b61
  rw [if_pos rfl, zbd_eq (cHasType t2)]
  by_cases h : (0 ≤ a ∧ a < nI ty)
  · rw [if_pos h, if_neg (by decide), cPut0 hc h4]
    by_cases h9 : c < 40
    · rw [if_pos h9, if_pos ⟨h, h9⟩, nar0]; rfl
    · rw [if_neg h9, if_neg (fun q => h9 q.2)]; rfl
  · rw [if_neg h, if_pos rfl, if_neg (fun q => h q.1)]; rfl
theorem cPut1 {N c : Nat} {a m : Int32} {u : zU} (hc : gi u 2 = nI c) (h4 : c ≤ 40) : zf_CCShelf_put_11 N a m u = some (if c < 40 then (nI c, si (sa (sa u 6 (nI c) a) 7 (nI c) (vp_nar .boolean m)) 2 (nI (c + 1))) else (-1, u)) := by
  unfold zf_CCShelf_put_11 zf_CCShelf_put_11_b31
  rw [hc, if_neg (nI_pos (by omega))]
  by_cases h : c < 40
  · rw [if_neg ((show ¬ (40 : Int32) ≤ nI _ from nI_ge (b := 40) h (by omega))), if_pos ((show nI _ < 40 from nI_lt (b := 40) h (by omega))), zck_pos (zin_of h (by omega)), zck_pos (zin_of h (by omega)), if_pos h, nI_1, nI_pred]
  · rw [if_pos ((show (40 : Int32) ≤ nI _ from nI_le (a := 40) (by omega) (by omega))), if_neg h]
theorem cAdd1 {N c ty : Nat} {a b : Int32} {u : zU} (hc : gi u 2 = nI c) (h4 : c ≤ 40) : zf_CCC_add_0 N 1 a b u = some (if zR a ∧ c < 40 then (nI c, si (sa (sa u 6 (nI c) a) 7 (nI c) 0) 2 (nI (c + 1))) else (-1, u)) := by
  unfold zf_CCC_add_0 zf_CCThings_addThing_1 zf_CCThings_addThing_1_b82
  rw [if_neg (by decide), if_pos rfl, zbd_eq (cIsR)]
  by_cases h : zR a
  · rw [if_pos h, if_neg (by decide), cPut1 hc h4]
    by_cases h9 : c < 40
    · rw [if_pos h9, if_pos ⟨h, h9⟩, nar0]; rfl
    · rw [if_neg h9, if_neg (fun q => h9 q.2)]; rfl
  · rw [if_neg h, if_pos rfl, if_neg (fun q => h q.1)]; rfl
theorem cPut2 {N c : Nat} {a m : Int32} {u : zU} (hc : gi u 3 = nI c) (h4 : c ≤ 40) : zf_CCShelf_put_14 N a m u = some (if c < 40 then (nI c, si (sa (sa u 8 (nI c) a) 9 (nI c) (vp_nar .boolean m)) 3 (nI (c + 1))) else (-1, u)) := by
  unfold zf_CCShelf_put_14 zf_CCShelf_put_14_b31
  rw [hc, if_neg (nI_pos (by omega))]
  by_cases h : c < 40
  · rw [if_neg ((show ¬ (40 : Int32) ≤ nI _ from nI_ge (b := 40) h (by omega))), if_pos ((show nI _ < 40 from nI_lt (b := 40) h (by omega))), zck_pos (zin_of h (by omega)), zck_pos (zin_of h (by omega)), if_pos h, nI_1, nI_pred]
  · rw [if_pos ((show (40 : Int32) ≤ nI _ from nI_le (a := 40) (by omega) (by omega))), if_neg h]
theorem cAdd2 {N c ty : Nat} {a b : Int32} {u : zU} (hc : gi u 3 = nI c) (h4 : c ≤ 40) : zf_CCC_add_0 N 2 a b u = some (if True ∧ c < 40 then (nI c, si (sa (sa u 8 (nI c) 0) 9 (nI c) 0) 3 (nI (c + 1))) else (-1, u)) := by
  unfold zf_CCC_add_0 zf_CCThings_addThing_1
  rw [if_neg (by decide), if_neg (by decide), if_pos rfl, cPut2 hc h4]
  by_cases h9 : c < 40
  · rw [if_pos h9, if_pos ⟨trivial, h9⟩, nar0]; rfl
  · rw [if_neg h9, if_neg (fun q => h9 q.2)]; rfl
theorem cPut3 {N c : Nat} {a m : Int32} {u : zU} (hc : gi u 4 = nI c) (h4 : c ≤ 40) : zf_CCShelf_put_17 N a m u = some (if c < 40 then (nI c, si (sa (sa u 10 (nI c) a) 11 (nI c) (vp_nar .boolean m)) 4 (nI (c + 1))) else (-1, u)) := by
  unfold zf_CCShelf_put_17 zf_CCShelf_put_17_b31
  rw [hc, if_neg (nI_pos (by omega))]
  by_cases h : c < 40
  · rw [if_neg ((show ¬ (40 : Int32) ≤ nI _ from nI_ge (b := 40) h (by omega))), if_pos ((show nI _ < 40 from nI_lt (b := 40) h (by omega))), zck_pos (zin_of h (by omega)), zck_pos (zin_of h (by omega)), if_pos h, nI_1, nI_pred]
  · rw [if_pos ((show (40 : Int32) ≤ nI _ from nI_le (a := 40) (by omega) (by omega))), if_neg h]
theorem cAdd3 {N c ty : Nat} {a b : Int32} {u : zU} (hc : gi u 4 = nI c) (h4 : c ≤ 40) : zf_CCC_add_0 N 3 a b u = some (if (zV a ∧ (b = 0 ∨ b = 1)) ∧ c < 40 then (nI c, si (sa (sa u 10 (nI c) a) 11 (nI c) (if b = 1 then 1 else 0)) 4 (nI (c + 1))) else (-1, u)) := by
  unfold zf_CCC_add_0 zf_CCThings_addThing_1 zf_CCThings_addThing_1_b130 zf_CCThings_addThing_1_b109 zf_CCThings_addThing_1_b124 zf_CCThings_addThing_1_b131
  rw [if_neg (by decide), if_neg (by decide), if_neg (by decide), if_pos rfl, zbd_eq cIsV]
  by_cases h : zV a
  · rw [if_pos h, if_neg (by decide), cPut3 hc h4, cPut3 hc h4]
    by_cases b0 : b = 0
    · subst b0
      rw [if_pos rfl, if_neg (show ¬ (0 : Int32) = 1 from by decide), if_neg (show ¬ (0 : Int32) = 1 from by decide)]
      by_cases h9 : c < 40
      · rw [if_pos h9, if_pos ⟨⟨h, Or.inl rfl⟩, h9⟩, nar0]; rfl
      · rw [if_neg h9, if_neg (fun q => h9 q.2)]; rfl
    · rw [if_neg b0]
      by_cases b1 : b = 1
      · rw [if_pos b1, if_pos b1, if_pos b1]
        by_cases h9 : c < 40
        · rw [if_pos h9, if_pos ⟨⟨h, Or.inr b1⟩, h9⟩, nar1]; rfl
        · rw [if_neg h9, if_neg (fun q => h9 q.2)]; rfl
      · rw [if_neg b1, if_neg (fun q => q.1.2.elim b0 b1)]; rfl
  · rw [if_neg h, if_pos rfl, if_neg (fun q => h q.1.1)]; rfl
theorem cPut4 {N c : Nat} {a m : Int32} {u : zU} (hc : gi u 5 = nI c) (h4 : c ≤ 40) : zf_CCShelf_put_20 N a m u = some (if c < 40 then (nI c, si (sa (sa u 12 (nI c) a) 13 (nI c) (vp_nar .boolean m)) 5 (nI (c + 1))) else (-1, u)) := by
  unfold zf_CCShelf_put_20 zf_CCShelf_put_20_b31
  rw [hc, if_neg (nI_pos (by omega))]
  by_cases h : c < 40
  · rw [if_neg ((show ¬ (40 : Int32) ≤ nI _ from nI_ge (b := 40) h (by omega))), if_pos ((show nI _ < 40 from nI_lt (b := 40) h (by omega))), zck_pos (zin_of h (by omega)), zck_pos (zin_of h (by omega)), if_pos h, nI_1, nI_pred]
  · rw [if_pos ((show (40 : Int32) ≤ nI _ from nI_le (a := 40) (by omega) (by omega))), if_neg h]
theorem cAdd4 {N c ty : Nat} {a b : Int32} {u : zU} (hc : gi u 5 = nI c) (h4 : c ≤ 40) : zf_CCC_add_0 N 4 a b u = some (if zR a ∧ c < 40 then (nI c, si (sa (sa u 12 (nI c) a) 13 (nI c) 0) 5 (nI (c + 1))) else (-1, u)) := by
  unfold zf_CCC_add_0 zf_CCThings_addThing_1 zf_CCThings_addThing_1_b152
  rw [if_neg (by decide), if_neg (by decide), if_neg (by decide), if_neg (by decide), if_pos rfl, zbd_eq (cIsR)]
  by_cases h : zR a
  · rw [if_pos h, if_neg (by decide), cPut4 hc h4]
    by_cases h9 : c < 40
    · rw [if_pos h9, if_pos ⟨h, h9⟩, nar0]; rfl
    · rw [if_neg h9, if_neg (fun q => h9 q.2)]; rfl
  · rw [if_neg h, if_pos rfl, if_neg (fun q => h q.1)]; rfl
theorem cPut5 {N c : Nat} {a m : Int32} {u : zU} (hc : gi u 6 = nI c) (h4 : c ≤ 40) : zf_CCShelf_put_23 N a m u = some (if c < 40 then (nI c, si (sa (sa u 14 (nI c) a) 15 (nI c) (vp_nar .boolean m)) 6 (nI (c + 1))) else (-1, u)) := by
  unfold zf_CCShelf_put_23 zf_CCShelf_put_23_b31
  rw [hc, if_neg (nI_pos (by omega))]
  by_cases h : c < 40
  · rw [if_neg ((show ¬ (40 : Int32) ≤ nI _ from nI_ge (b := 40) h (by omega))), if_pos ((show nI _ < 40 from nI_lt (b := 40) h (by omega))), zck_pos (zin_of h (by omega)), zck_pos (zin_of h (by omega)), if_pos h, nI_1, nI_pred]
  · rw [if_pos ((show (40 : Int32) ≤ nI _ from nI_le (a := 40) (by omega) (by omega))), if_neg h]
theorem cAdd5 {N c ty : Nat} {a b : Int32} {u : zU} (hc : gi u 6 = nI c) (h4 : c ≤ 40) : zf_CCC_add_0 N 5 a b u = some (if True ∧ c < 40 then (nI c, si (sa (sa u 14 (nI c) 0) 15 (nI c) 0) 6 (nI (c + 1))) else (-1, u)) := by
  unfold zf_CCC_add_0 zf_CCThings_addThing_1
  rw [if_neg (by decide), if_neg (by decide), if_neg (by decide), if_neg (by decide), if_neg (by decide), if_pos rfl, cPut5 hc h4]
  by_cases h9 : c < 40
  · rw [if_pos h9, if_pos ⟨trivial, h9⟩, nar0]; rfl
  · rw [if_neg h9, if_neg (fun q => h9 q.2)]; rfl
theorem mAdd89 {N k c : Nat} {a b : Int32} {v : zU} (hk : k < 6) (hc : v.2.2.1 4 k = nI c) (h4 : c < 40) : zf_MMC_add_0_b89 N (nI k) a b 1 v = some (nI c, sa (sa (sa v 5 (nI (40 * k + c)) a) 6 (nI (40 * k + c)) b) 4 (nI k) (nI (c + 1))) := by
  have ek : (nI k).toNatClampNeg = k := nI_clamp (by omega)
  have e4 : ∀ (w : zU), w.2.2.1 4 = v.2.2.1 4 → ga w 4 (nI k) = nI c := fun w hw => by show w.2.2.1 4 _ = _; rw [hw, ek, hc]
  have e5 : ∀ (w : zU) (x : Int32), ga (sa w 4 (nI k) x) 4 (nI k) = x := fun w x => by show upd (w.2.2.1 4) _ _ _ = _; rw [upd_at]
  unfold zf_MMC_add_0_b89
  rw [if_neg (by decide), e5, e4 v rfl, z40, e4 (sa v 5 (nI (40 * k + c)) a) rfl, z40, e4 (sa (sa v 5 (nI (40 * k + c)) a) 6 (nI (40 * k + c)) b) rfl, nI_1, nI_pred]
  rw [zck_pos (zin_of hk (by omega)), zck_pos (zin_of (by omega) (by omega)), zck_pos (zin_of hk (by omega)), zck_pos (zin_of (by omega) (by omega)), zck_pos (zin_of hk (by omega)), zck_pos (zin_of hk (by omega)), zck_pos (zin_of hk (by omega))]
theorem mAdd89z {N : Nat} {x a b : Int32} {v : zU} : zf_MMC_add_0_b89 N x a b 0 v = some (-1, v) := by
  unfold zf_MMC_add_0_b89; rw [if_pos rfl]
theorem mAdd0 {N c ty : Nat} {a b : Int32} {v : zU} (t3 : gi v 0 = nI ty) (hc : v.2.2.1 4 0 = nI c) (h4 : c ≤ 40) : zf_MMC_add_0 N 0 a b v = some (if (0 ≤ a ∧ a < nI ty) ∧ c < 40 then (nI c, sa (sa (sa v 5 (nI (0 + c)) a) 6 (nI (0 + c)) b) 4 (nI 0) (nI (c + 1))) else (-1, v)) := by
  have e4 : ga v 4 0 = nI c := hc
  have g9 : c < 40 → zf_MMC_add_0_b89 N 0 a b 1 v = some (nI c, sa (sa (sa v 5 (nI (0 + c)) a) 6 (nI (0 + c)) b) 4 (nI 0) (nI (c + 1))) := fun h9 => mAdd89 (k := 0) (by omega) hc h9
  unfold zf_MMC_add_0 zf_MMC_add_0_b20 zf_MMC_add_0_b42 zf_MMC_add_0_b56 zf_MMC_add_0_b84 zf_MMC_add_0_b88
  rw [if_neg (by decide), if_neg (by decide), zck_pos (by decide), e4]
  by_cases h9 : c < 40
  · rw [if_neg (show ¬ nI _ = 40 from fun q => by have := (nI_eq (b := 40) (by omega) (by omega)).mp q; omega), g9 h9, mAdd89z]
    rw [if_pos rfl, t3]
    by_cases h1 : a < 0
    · rw [if_pos h1, if_neg (fun q => Int32.not_le.mpr h1 q.1.1)]
    · rw [if_neg h1]
      by_cases h2 : nI ty ≤ a
      · rw [if_pos h2, if_neg (fun q => Int32.not_le.mpr q.1.2 h2)]
      · rw [if_neg h2, if_pos ⟨⟨Int32.not_lt.mp h1, Int32.not_le.mp h2⟩, h9⟩]
  · have : c = 40 := by omega
    subst this
    rw [if_pos (show nI 40 = 40 from rfl), if_neg (fun q => h9 q.2)]
theorem mAdd1 {N c ty : Nat} {a b : Int32} {v : zU} (hc : v.2.2.1 4 1 = nI c) (h4 : c ≤ 40) : zf_MMC_add_0 N 1 a b v = some (if zR a ∧ c < 40 then (nI c, sa (sa (sa v 5 (nI (40 + c)) a) 6 (nI (40 + c)) b) 4 (nI 1) (nI (c + 1))) else (-1, v)) := by
  have e4 : ga v 4 1 = nI c := hc
  have g9 : c < 40 → zf_MMC_add_0_b89 N 1 a b 1 v = some (nI c, sa (sa (sa v 5 (nI (40 + c)) a) 6 (nI (40 + c)) b) 4 (nI 1) (nI (c + 1))) := fun h9 => mAdd89 (k := 1) (by omega) hc h9
  unfold zf_MMC_add_0 zf_MMC_add_0_b20 zf_MMC_add_0_b42 zf_MMC_add_0_b56 zf_MMC_add_0_b84 zf_MMC_add_0_b88
  rw [if_neg (by decide), if_neg (by decide), zck_pos (by decide), e4]
  by_cases h9 : c < 40
  · rw [if_neg (show ¬ nI _ = 40 from fun q => by have := (nI_eq (b := 40) (by omega) (by omega)).mp q; omega), g9 h9, mAdd89z]
    rw [if_neg (by decide), if_pos rfl, zbd_eq mIsR]
    by_cases h : zR a
    · rw [if_pos h, if_pos ⟨h, h9⟩, g9 h9]
    · rw [if_neg h, if_neg (fun q => h q.1), mAdd89z]
  · have : c = 40 := by omega
    subst this
    rw [if_pos (show nI 40 = 40 from rfl), if_neg (fun q => h9 q.2)]
theorem mAdd2 {N c ty : Nat} {a b : Int32} {v : zU} (hc : v.2.2.1 4 2 = nI c) (h4 : c ≤ 40) : zf_MMC_add_0 N 2 a b v = some (if True ∧ c < 40 then (nI c, sa (sa (sa v 5 (nI (80 + c)) a) 6 (nI (80 + c)) b) 4 (nI 2) (nI (c + 1))) else (-1, v)) := by
  have e4 : ga v 4 2 = nI c := hc
  have g9 : c < 40 → zf_MMC_add_0_b89 N 2 a b 1 v = some (nI c, sa (sa (sa v 5 (nI (80 + c)) a) 6 (nI (80 + c)) b) 4 (nI 2) (nI (c + 1))) := fun h9 => mAdd89 (k := 2) (by omega) hc h9
  unfold zf_MMC_add_0 zf_MMC_add_0_b20 zf_MMC_add_0_b42 zf_MMC_add_0_b56 zf_MMC_add_0_b84 zf_MMC_add_0_b88
  rw [if_neg (by decide), if_neg (by decide), zck_pos (by decide), e4]
  by_cases h9 : c < 40
  · rw [if_neg (show ¬ nI _ = 40 from fun q => by have := (nI_eq (b := 40) (by omega) (by omega)).mp q; omega), g9 h9, mAdd89z]
    rw [if_neg (by decide), if_neg (by decide), if_neg (by decide), if_neg (by decide), if_pos ⟨trivial, h9⟩]
  · have : c = 40 := by omega
    subst this
    rw [if_pos (show nI 40 = 40 from rfl), if_neg (fun q => h9 q.2)]
theorem mAdd3 {N c ty : Nat} {a b : Int32} {v : zU} (hc : v.2.2.1 4 3 = nI c) (h4 : c ≤ 40) : zf_MMC_add_0 N 3 a b v = some (if (zV a ∧ (b = 0 ∨ b = 1)) ∧ c < 40 then (nI c, sa (sa (sa v 5 (nI (120 + c)) a) 6 (nI (120 + c)) b) 4 (nI 3) (nI (c + 1))) else (-1, v)) := by
  have e4 : ga v 4 3 = nI c := hc
  have g9 : c < 40 → zf_MMC_add_0_b89 N 3 a b 1 v = some (nI c, sa (sa (sa v 5 (nI (120 + c)) a) 6 (nI (120 + c)) b) 4 (nI 3) (nI (c + 1))) := fun h9 => mAdd89 (k := 3) (by omega) hc h9
  unfold zf_MMC_add_0 zf_MMC_add_0_b20 zf_MMC_add_0_b42 zf_MMC_add_0_b56 zf_MMC_add_0_b84 zf_MMC_add_0_b88
  rw [if_neg (by decide), if_neg (by decide), zck_pos (by decide), e4]
  by_cases h9 : c < 40
  · rw [if_neg (show ¬ nI _ = 40 from fun q => by have := (nI_eq (b := 40) (by omega) (by omega)).mp q; omega), g9 h9, mAdd89z]
    rw [if_neg (by decide), if_neg (by decide), if_neg (by decide), if_pos rfl, zbd_eq mIsV]
    by_cases h : zV a
    · rw [if_pos h, if_neg (by decide)]
      by_cases b0 : b = 0
      · rw [if_pos b0, if_pos ⟨⟨h, Or.inl b0⟩, h9⟩, g9 h9]
      · rw [if_neg b0]
        by_cases b1 : b = 1
        · rw [if_pos b1, if_pos ⟨⟨h, Or.inr b1⟩, h9⟩, g9 h9]
        · rw [if_neg b1, if_neg (fun q => q.1.2.elim b0 b1), mAdd89z]
    · rw [if_neg h, if_pos rfl, if_neg (fun q => h q.1.1), mAdd89z]
  · have : c = 40 := by omega
    subst this
    rw [if_pos (show nI 40 = 40 from rfl), if_neg (fun q => h9 q.2)]
theorem mAdd4 {N c ty : Nat} {a b : Int32} {v : zU} (hc : v.2.2.1 4 4 = nI c) (h4 : c ≤ 40) : zf_MMC_add_0 N 4 a b v = some (if zR a ∧ c < 40 then (nI c, sa (sa (sa v 5 (nI (160 + c)) a) 6 (nI (160 + c)) b) 4 (nI 4) (nI (c + 1))) else (-1, v)) := by
  have e4 : ga v 4 4 = nI c := hc
  have g9 : c < 40 → zf_MMC_add_0_b89 N 4 a b 1 v = some (nI c, sa (sa (sa v 5 (nI (160 + c)) a) 6 (nI (160 + c)) b) 4 (nI 4) (nI (c + 1))) := fun h9 => mAdd89 (k := 4) (by omega) hc h9
  unfold zf_MMC_add_0 zf_MMC_add_0_b20 zf_MMC_add_0_b42 zf_MMC_add_0_b56 zf_MMC_add_0_b84 zf_MMC_add_0_b88
  rw [if_neg (by decide), if_neg (by decide), zck_pos (by decide), e4]
  by_cases h9 : c < 40
  · rw [if_neg (show ¬ nI _ = 40 from fun q => by have := (nI_eq (b := 40) (by omega) (by omega)).mp q; omega), g9 h9, mAdd89z]
    rw [if_neg (by decide), if_neg (by decide), if_pos rfl, zbd_eq mIsR]
    by_cases h : zR a
    · rw [if_pos h, if_pos ⟨h, h9⟩, g9 h9]
    · rw [if_neg h, if_neg (fun q => h q.1), mAdd89z]
  · have : c = 40 := by omega
    subst this
    rw [if_pos (show nI 40 = 40 from rfl), if_neg (fun q => h9 q.2)]
theorem mAdd5 {N c ty : Nat} {a b : Int32} {v : zU} (hc : v.2.2.1 4 5 = nI c) (h4 : c ≤ 40) : zf_MMC_add_0 N 5 a b v = some (if True ∧ c < 40 then (nI c, sa (sa (sa v 5 (nI (200 + c)) a) 6 (nI (200 + c)) b) 4 (nI 5) (nI (c + 1))) else (-1, v)) := by
  have e4 : ga v 4 5 = nI c := hc
  have g9 : c < 40 → zf_MMC_add_0_b89 N 5 a b 1 v = some (nI c, sa (sa (sa v 5 (nI (200 + c)) a) 6 (nI (200 + c)) b) 4 (nI 5) (nI (c + 1))) := fun h9 => mAdd89 (k := 5) (by omega) hc h9
  unfold zf_MMC_add_0 zf_MMC_add_0_b20 zf_MMC_add_0_b42 zf_MMC_add_0_b56 zf_MMC_add_0_b84 zf_MMC_add_0_b88
  rw [if_neg (by decide), if_neg (by decide), zck_pos (by decide), e4]
  by_cases h9 : c < 40
  · rw [if_neg (show ¬ nI _ = 40 from fun q => by have := (nI_eq (b := 40) (by omega) (by omega)).mp q; omega), g9 h9, mAdd89z]
    rw [if_neg (by decide), if_neg (by decide), if_neg (by decide), if_neg (by decide), if_pos ⟨trivial, h9⟩]
  · have : c = 40 := by omega
    subst this
    rw [if_pos (show nI 40 = 40 from rfl), if_neg (fun q => h9 q.2)]
theorem zRel_things {u v u' v' : zU} {ty : Nat} {n' : Nat → Nat} (hT : RT ty n' u' v') (h8 : gi u 8 = gi v 1) (hst : gi v 1 = 0 ∨ gi v 1 = 1 ∨ gi v 1 = 2) (hO : gi v 1 = 1 → RO ty u v) (h1 : ∀ k, 7 ≤ k → k < 17 → gi u' k = gi u k) (h2 : gj u' 0 = gj u 0) (h3 : ∀ k, 16 ≤ k → k < 23 → u'.2.2.1 k = u.2.2.1 k) (h4 : u'.2.2.2 0 = u.2.2.2 0) (g1 : ∀ k, 1 ≤ k → k < 11 → gi v' k = gi v k) (g2 : gj v' 0 = gj v 0) (g3 : ∀ k, 8 ≤ k → k < 15 → v'.2.2.1 k = v.2.2.1 k) (g4 : v'.2.2.2 0 = v.2.2.2 0) : zRel u' v' := by
  refine ⟨ty, n', hT, by rw [h1 8 (by decide) (by decide), g1 1 (by decide) (by decide)]; exact h8, by rw [g1 1 (by decide) (by decide)]; exact hst, fun q => ?_⟩
  rw [g1 1 (by decide) (by decide)] at q
  exact RO_to (Nat.le_refl _) hT.1.1 h1 h2 h3 h4 g1 g2 g3 g4 (hO q)
theorem zl_addk {ty : Nat} {n : Nat → Nat} {u v : zU} {k c : Nat} {a a' m b2 : Int32} (hk : k < 6) (hc : n k = c) (hc4 : c < 40) (ha : k ≠ 2 → k ≠ 5 → a = a' ∧ zKd ty k a') (h3 : k = 3 → m = b2) (h0 : k = 0 → m = 0) (hT : RT ty n u v) (h8 : gi u 8 = gi v 1) (hst : gi v 1 = 0 ∨ gi v 1 = 1 ∨ gi v 1 = 2) (hO : gi v 1 = 1 → RO ty u v) : zRel (si (sa (sa u (2 * k + 4) (nI c) a) (2 * k + 5) (nI c) m) (k + 1) (nI (c + 1))) (sa (sa (sa v 5 (nI (40 * k + c)) a') 6 (nI (40 * k + c)) b2) 4 (nI k) (nI (c + 1))) := by
  have ec : (nI c).toNatClampNeg = c := nI_clamp (by omega)
  have ek : (nI k).toNatClampNeg = k := nI_clamp (by omega)
  have ei : (nI (40 * k + c)).toNatClampNeg = 40 * k + c := nI_clamp (by omega)
  refine zRel_things (RT_add (u := u) (v := v) hk hc hc4 ha h3 h0 ?_ ?_ ?_ ?_ ?_ ?_ rfl ?_ ?_ ?_ ?_ hT) h8 hst hO (fun j a1 a2 => ?_) rfl (fun j a1 a2 => ?_) rfl (fun j a1 a2 => rfl) rfl (fun j a1 a2 => ?_) rfl
  · rw [gi_si, if_neg (by omega), gi_sa, gi_sa]
  · intro j hj e; rw [gi_si, if_neg (by omega), gi_sa, gi_sa]
  · rw [gi_si, if_pos rfl]
  · intro j h1 h2 h3; rw [a_si, a_sa, if_neg (by omega), a_sa, if_neg (by omega)]
  · rw [a_si, a_sa, if_neg (by omega), a_sa, if_pos rfl, ec]
  · rw [a_si, a_sa, if_pos rfl, ec, a_sa, if_neg (by omega)]
  · intro j h1 h4 h5 h6; rw [a_sa, if_neg (by omega), a_sa, if_neg (by omega), a_sa, if_neg (by omega)]
  · show upd (v.2.2.1 4) (nI k).toNatClampNeg _ = _; rw [ek]
  · show upd (v.2.2.1 5) (nI (40 * k + c)).toNatClampNeg _ = _; rw [ei]
  · show upd (v.2.2.1 6) (nI (40 * k + c)).toNatClampNeg _ = _; rw [ei]
  · rw [gi_si, if_neg (by omega), gi_sa, gi_sa]
  · rw [a_si, a_sa, if_neg (by omega), a_sa, if_neg (by omega)]
  · rw [a_sa, if_neg (by omega), a_sa, if_neg (by omega), a_sa, if_neg (by omega)]
theorem zl_add (N : Nat) (hN : 1000000 ≤ N) (x a b : Int32) {u v : zU} (h : zRel u v) : ∃ r u1 v1, zf_CCC_add_0 N x a b u = some (r, u1) ∧ zf_MMC_add_0 N x a b v = some (r, v1) ∧ zRel u1 v1 := by
  obtain ⟨ty, n, hT, h8, hst, hO⟩ := id h
  have t2 := hT.1.2.1
  have t3 := hT.1.2.2
  have sh := hT.2.2.2.1
  by_cases x0 : x = 0
  · subst x0
    obtain ⟨s1, s2, s3⟩ := sh 0 (by omega)
    rw [cAdd0 (ty := ty) t2 s2 s1, mAdd0 (ty := ty) t3 s3 s1]
    by_cases g : (0 ≤ a ∧ a < nI ty) ∧ n 0 < 40
    · rw [if_pos g, if_pos g]
      refine ⟨_, _, _, rfl, rfl, zl_addk (k := 0) (by omega) rfl g.2 (fun _ _ => ⟨rfl, fun _ => ?_, fun q => by omega, fun q => by omega⟩) (fun q => by omega) (fun _ => rfl) hT h8 hst hO⟩
      obtain ⟨t, ht, e⟩ := nI_of (Int32.not_lt.mpr g.1.1)
      exact ⟨t, (nI_ltI ht (by have := hT.1.1; omega)).mp (by rw [← e]; exact g.1.2), e⟩
    · rw [if_neg g, if_neg g]
      exact ⟨_, _, _, rfl, rfl, h⟩
  by_cases x1 : x = 1
  · subst x1
    obtain ⟨s1, s2, s3⟩ := sh 1 (by omega)
    rw [cAdd1 (ty := ty) s2 s1, mAdd1 (ty := ty) s3 s1]
    by_cases g : zR a ∧ n 1 < 40
    · rw [if_pos g, if_pos g]
      refine ⟨_, _, _, rfl, rfl, zl_addk (k := 1) (by omega) rfl g.2 (fun _ _ => ⟨rfl, fun q => by omega, fun _ => g.1, fun q => by omega⟩) (fun q => by omega) (fun q => by omega) hT h8 hst hO⟩
    · rw [if_neg g, if_neg g]
      exact ⟨_, _, _, rfl, rfl, h⟩
  by_cases x2 : x = 2
  · subst x2
    obtain ⟨s1, s2, s3⟩ := sh 2 (by omega)
    rw [cAdd2 (ty := ty) s2 s1, mAdd2 (ty := ty) s3 s1]
    by_cases g : True ∧ n 2 < 40
    · rw [if_pos g, if_pos g]
      refine ⟨_, _, _, rfl, rfl, zl_addk (k := 2) (by omega) rfl g.2 (fun q _ => absurd rfl q) (fun q => by omega) (fun q => by omega) hT h8 hst hO⟩
    · rw [if_neg g, if_neg g]
      exact ⟨_, _, _, rfl, rfl, h⟩
  by_cases x3 : x = 3
  · subst x3
    obtain ⟨s1, s2, s3⟩ := sh 3 (by omega)
    rw [cAdd3 (ty := ty) s2 s1, mAdd3 (ty := ty) s3 s1]
    by_cases g : (zV a ∧ (b = 0 ∨ b = 1)) ∧ n 3 < 40
    · rw [if_pos g, if_pos g]
      refine ⟨_, _, _, rfl, rfl, zl_addk (k := 3) (by omega) rfl g.2 (fun _ _ => ⟨rfl, fun q => by omega, fun q => by omega, fun _ => g.1.1⟩) (fun _ => by rcases g.1.2 with q | q <;> rw [q] <;> rfl) (fun q => by omega) hT h8 hst hO⟩
    · rw [if_neg g, if_neg g]
      exact ⟨_, _, _, rfl, rfl, h⟩
  by_cases x4 : x = 4
  · subst x4
    obtain ⟨s1, s2, s3⟩ := sh 4 (by omega)
    rw [cAdd4 (ty := ty) s2 s1, mAdd4 (ty := ty) s3 s1]
    by_cases g : zR a ∧ n 4 < 40
    · rw [if_pos g, if_pos g]
      refine ⟨_, _, _, rfl, rfl, zl_addk (k := 4) (by omega) rfl g.2 (fun _ _ => ⟨rfl, fun q => by omega, fun _ => g.1, fun q => by omega⟩) (fun q => by omega) (fun q => by omega) hT h8 hst hO⟩
    · rw [if_neg g, if_neg g]
      exact ⟨_, _, _, rfl, rfl, h⟩
  by_cases x5 : x = 5
  · subst x5
    obtain ⟨s1, s2, s3⟩ := sh 5 (by omega)
    rw [cAdd5 (ty := ty) s2 s1, mAdd5 (ty := ty) s3 s1]
    by_cases g : True ∧ n 5 < 40
    · rw [if_pos g, if_pos g]
      refine ⟨_, _, _, rfl, rfl, zl_addk (k := 5) (by omega) rfl g.2 (fun _ q => absurd rfl q) (fun q => by omega) (fun q => by omega) hT h8 hst hO⟩
    · rw [if_neg g, if_neg g]
      exact ⟨_, _, _, rfl, rfl, h⟩
  have hc : zf_CCC_add_0 N x a b u = some (-1, u) := by
    unfold zf_CCC_add_0 zf_CCThings_addThing_1
    rw [if_neg x0, if_neg x1, if_neg x2, if_neg x3, if_neg x4, if_neg x5]; rfl
  have hm : zf_MMC_add_0 N x a b v = some (-1, v) := by
    unfold zf_MMC_add_0 zf_MMC_add_0_b20
    by_cases q1 : x < 0
    · rw [if_pos q1]
    · rw [if_neg q1]
      by_cases q2 : 5 < x
      · rw [if_pos q2]
      · obtain ⟨j, hj, rfl⟩ := nI_of q1
        have : j ≤ 5 := Nat.not_lt.mp (fun q => q2 ((show (5 : Int32) < nI _ from nI_lt (a := 5) q (by omega))))
        have c : j = 0 ∨ j = 1 ∨ j = 2 ∨ j = 3 ∨ j = 4 ∨ j = 5 := by omega
        rcases c with rfl | rfl | rfl | rfl | rfl | rfl
        · exact absurd rfl x0
        · exact absurd rfl x1
        · exact absurd rfl x2
        · exact absurd rfl x3
        · exact absurd rfl x4
        · exact absurd rfl x5
  rw [hc, hm]
  exact ⟨_, _, _, rfl, rfl, h⟩
