/-! pure: rows of types, taken from the last, given from the first -/
def zDown (p : Nat → Int32) : Nat → List Int32
  | 0 => []
  | n + 1 => p n :: zDown p n
def zUp (p : Nat → Int32) (i : Nat) : Nat → List Int32
  | 0 => []
  | n + 1 => p i :: zUp p (i + 1) n
/-- how many types a block type has, and which -/
def zNn (res : Bool) (sz : Nat → Int32) (bt : Int32) : Nat := if bt < 0 then (if res = true ∧ bt ≠ -64 then 1 else 0) else (sz bt.toNatClampNeg).toNatClampNeg
def zPp (pt : Nat → Int32) (bt : Int32) (i : Nat) : Int32 := if bt < 0 then bt + 128 else pt (12 * bt.toNatClampNeg + i)
def zSz (sz : Nat → Int32) : Prop := ∀ t, t < 40 → ∃ n, n ≤ 12 ∧ sz t = nI n
theorem zNn_le {res : Bool} {sz : Nat → Int32} {bt : Int32} (hs : zSz sz) (hb : bt < 40) : zNn res sz bt ≤ 12 := by
  unfold zNn
  by_cases h : bt < 0
  · rw [if_pos h]; split <;> omega
  · rw [if_neg h]
    obtain ⟨t, ht, rfl⟩ := nI_of h
    have h40 : t < 40 := (nI_ltI ht (by decide)).mp hb
    rw [nI_clamp ht]
    obtain ⟨n, hn, e⟩ := hs t h40
    rw [e, nI_clamp (by omega)]; exact hn
theorem zmul12 {t i : Nat} : nI t * 12 + nI i = nI (12 * t + i) := by
  rw [show nI t * 12 = nI (12 * t) from by
    show Int32.ofNat t * Int32.ofNat 12 = Int32.ofNat (12 * t)
    rw [← Int32.ofNat_mul, Nat.mul_comm], nI_add]
theorem zmul12' {t i : Nat} : 12 * nI t + nI i = nI (12 * t + i) := by
  rw [show 12 * nI t = nI (12 * t) from by
    show Int32.ofNat 12 * Int32.ofNat t = Int32.ofNat (12 * t)
    rw [← Int32.ofNat_mul], nI_add]
theorem cSize5 {N : Nat} {u : zU} {bt : Int32} (hs : zSz (u.2.2.1 2)) (hb : bt < 40) : zf_CCRows_sizeOf_5 N bt u = some (nI (zNn true (u.2.2.1 2) bt), u) := by
  unfold zf_CCRows_sizeOf_5 zf_CCRows_sizeOf_5_b42 zf_CCRows_sizeOf_5_b22 zf_CCRows_sizeOf_5_b21 zf_CCRows_sizeOf_5_b22 zNn
  by_cases h : bt < 0
  · rw [if_neg (Int32.not_le.mpr h), if_pos h, if_neg (by decide)]
    by_cases q : bt = -64
    · rw [if_pos q, if_neg (fun a => a.2 q)]; rfl
    · rw [if_neg q, if_pos ⟨rfl, q⟩]; rfl
  · obtain ⟨t, ht, rfl⟩ := nI_of h
    have h40 : t < 40 := (nI_ltI ht (by decide)).mp hb
    rw [if_pos (nI_pos' ht), if_neg ((show ¬ (40 : Int32) ≤ nI _ from nI_ge (b := 40) h40 (by omega))), if_neg h, zck_pos (zin_of h40 (by omega)), nI_clamp ht]
    obtain ⟨n, hn, e⟩ := hs t h40
    rw [e, nI_clamp (by omega)]
    show some (u.2.2.1 2 (nI t).toNatClampNeg, u) = _
    rw [nI_clamp ht, e]
theorem cSize2 {N : Nat} {u : zU} {bt : Int32} (hs : zSz (u.2.2.1 0)) (hb : bt < 40) : zf_CCRows_sizeOf_2 N bt u = some (nI (zNn false (u.2.2.1 0) bt), u) := by
  unfold zf_CCRows_sizeOf_2 zf_CCRows_sizeOf_2_b42 zf_CCRows_sizeOf_2_b22 zf_CCRows_sizeOf_2_b21 zf_CCRows_sizeOf_2_b22 zNn
  by_cases h : bt < 0
  · rw [if_neg (Int32.not_le.mpr h), if_pos h, if_pos rfl, if_neg (fun a => Bool.false_ne_true a.1)]; rfl
  · obtain ⟨t, ht, rfl⟩ := nI_of h
    have h40 : t < 40 := (nI_ltI ht (by decide)).mp hb
    rw [if_pos (nI_pos' ht), if_neg ((show ¬ (40 : Int32) ≤ nI _ from nI_ge (b := 40) h40 (by omega))), if_neg h, zck_pos (zin_of h40 (by omega)), nI_clamp ht]
    obtain ⟨n, hn, e⟩ := hs t h40
    rw [e, nI_clamp (by omega)]
    show some (u.2.2.1 0 (nI t).toNatClampNeg, u) = _
    rw [nI_clamp ht, e]
theorem cPart5 {N : Nat} {u : zU} {bt : Int32} {i : Nat} (hb : bt < 40) (hi : i < 12) : zf_CCRows_partOf_5 N bt (nI i) u = some (zPp (u.2.2.1 3) bt i, u) := by
  unfold zf_CCRows_partOf_5 zPp
  by_cases h : bt < 0
  · rw [if_neg (Int32.not_le.mpr h), if_pos h]
  · obtain ⟨t, ht, rfl⟩ := nI_of h
    have h40 : t < 40 := (nI_ltI ht (by decide)).mp hb
    rw [if_pos (nI_pos' ht), if_neg ((show ¬ (40 : Int32) ≤ nI _ from nI_ge (b := 40) h40 (by omega))), if_neg h, if_neg (nI_pos (by omega)), if_pos ((show nI _ < 12 from nI_lt (b := 12) hi (by omega))), zmul12, zck_pos (zin_of (by omega) (by omega)), nI_clamp ht]
    show some (u.2.2.1 3 (nI (12 * t + i)).toNatClampNeg, u) = _
    rw [nI_clamp (by omega)]
theorem cPart2 {N : Nat} {u : zU} {bt : Int32} {i : Nat} (hb : bt < 40) (hi : i < 12) : zf_CCRows_partOf_2 N bt (nI i) u = some (zPp (u.2.2.1 1) bt i, u) := by
  unfold zf_CCRows_partOf_2 zPp
  by_cases h : bt < 0
  · rw [if_neg (Int32.not_le.mpr h), if_pos h]
  · obtain ⟨t, ht, rfl⟩ := nI_of h
    have h40 : t < 40 := (nI_ltI ht (by decide)).mp hb
    rw [if_pos (nI_pos' ht), if_neg ((show ¬ (40 : Int32) ≤ nI _ from nI_ge (b := 40) h40 (by omega))), if_neg h, if_neg (nI_pos (by omega)), if_pos ((show nI _ < 12 from nI_lt (b := 12) hi (by omega))), zmul12, zck_pos (zin_of (by omega) (by omega)), nI_clamp ht]
    show some (u.2.2.1 1 (nI (12 * t + i)).toNatClampNeg, u) = _
    rw [nI_clamp (by omega)]
theorem znm1 (n : Nat) : nI n + (-1) = nI n - 1 := by
  rw [Int32.sub_eq_add_neg]
theorem zm1lt : (nI 0 : Int32) - 1 < 0 := by decide
