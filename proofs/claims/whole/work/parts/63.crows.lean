theorem cTakeRow5_l {N : Nat} {u0 : zU} {b h : Nat} {lv : Bool} {bt : Int32} (X : CxC u0 b h lv) (hb : bt < 40) : ∀ (i n : Nat) (s : zS) (u : zU), i ≤ 12 → i < n → zOk h s → RC u0 s u → ∃ u', zf_CCStack_takeRow_31_5_b8 N n bt (nI i - 1) u = some ((), u') ∧ RC u0 (aTakes h lv (zDown (zPp (u0.2.2.1 3) bt) i) s) u' := by
  intro i
  induction i with
  | zero =>
    intro n s u h1 h2 H hu
    obtain ⟨m, rfl⟩ : ∃ m, n = m + 1 := ⟨n - 1, by omega⟩
    rw [zf_CCStack_takeRow_31_5_b8, if_pos zm1lt]
    exact ⟨u, rfl, hu⟩
  | succ i ih =>
    intro n s u h1 h2 H hu
    obtain ⟨m, rfl⟩ : ∃ m, n = m + 1 := ⟨n - 1, by omega⟩
    have hp : zf_CCRows_partOf_5 N bt (nI i) u = some (zPp (u0.2.2.1 3) bt i, u) := by
      rw [cPart5 hb (by omega)]
      obtain ⟨k, rfl⟩ := hu
      rfl
    obtain ⟨u1, e1, r1⟩ := cTake (N := N) (zPp (u0.2.2.1 3) bt i) X H hu
    rw [zf_CCStack_takeRow_31_5_b8, nI_pred, if_neg (nI_pos (by omega)), zbd_eq hp, zbd_eq e1, znm1]
    exact ih m _ _ (by omega) (by omega) (zOk_take H) r1
theorem cTakeRow5 {N : Nat} {u0 : zU} {b h : Nat} {lv : Bool} {bt : Int32} {s : zS} {u : zU} (hN : 1000 ≤ N) (X : CxC u0 b h lv) (hs : zSz (u0.2.2.1 2)) (hb : bt < 40) (H : zOk h s) (hu : RC u0 s u) : ∃ u', zf_CCStack_takeRow_31_5 N bt u = some ((), u') ∧ RC u0 (aTakes h lv (zDown (zPp (u0.2.2.1 3) bt) (zNn true (u0.2.2.1 2) bt)) s) u' := by
  have hp : zf_CCRows_sizeOf_5 N bt u = some (nI (zNn true (u0.2.2.1 2) bt), u) := by
    obtain ⟨k, rfl⟩ := hu
    exact cSize5 hs hb
  have h12 := zNn_le (res := true) hs hb
  unfold zf_CCStack_takeRow_31_5
  rw [zbd_eq hp]
  exact cTakeRow5_l X hb _ N s u h12 (by omega) H hu
theorem cTakeRow2_l {N : Nat} {u0 : zU} {b h : Nat} {lv : Bool} {bt : Int32} (X : CxC u0 b h lv) (hb : bt < 40) : ∀ (i n : Nat) (s : zS) (u : zU), i ≤ 12 → i < n → zOk h s → RC u0 s u → ∃ u', zf_CCStack_takeRow_31_2_b8 N n bt (nI i - 1) u = some ((), u') ∧ RC u0 (aTakes h lv (zDown (zPp (u0.2.2.1 1) bt) i) s) u' := by
  intro i
  induction i with
  | zero =>
    intro n s u h1 h2 H hu
    obtain ⟨m, rfl⟩ : ∃ m, n = m + 1 := ⟨n - 1, by omega⟩
    rw [zf_CCStack_takeRow_31_2_b8, if_pos zm1lt]
    exact ⟨u, rfl, hu⟩
  | succ i ih =>
    intro n s u h1 h2 H hu
    obtain ⟨m, rfl⟩ : ∃ m, n = m + 1 := ⟨n - 1, by omega⟩
    have hp : zf_CCRows_partOf_2 N bt (nI i) u = some (zPp (u0.2.2.1 1) bt i, u) := by
      rw [cPart2 hb (by omega)]
      obtain ⟨k, rfl⟩ := hu
      rfl
    obtain ⟨u1, e1, r1⟩ := cTake (N := N) (zPp (u0.2.2.1 1) bt i) X H hu
    rw [zf_CCStack_takeRow_31_2_b8, nI_pred, if_neg (nI_pos (by omega)), zbd_eq hp, zbd_eq e1, znm1]
    exact ih m _ _ (by omega) (by omega) (zOk_take H) r1
theorem cTakeRow2 {N : Nat} {u0 : zU} {b h : Nat} {lv : Bool} {bt : Int32} {s : zS} {u : zU} (hN : 1000 ≤ N) (X : CxC u0 b h lv) (hs : zSz (u0.2.2.1 0)) (hb : bt < 40) (H : zOk h s) (hu : RC u0 s u) : ∃ u', zf_CCStack_takeRow_31_2 N bt u = some ((), u') ∧ RC u0 (aTakes h lv (zDown (zPp (u0.2.2.1 1) bt) (zNn false (u0.2.2.1 0) bt)) s) u' := by
  have hp : zf_CCRows_sizeOf_2 N bt u = some (nI (zNn false (u0.2.2.1 0) bt), u) := by
    obtain ⟨k, rfl⟩ := hu
    exact cSize2 hs hb
  have h12 := zNn_le (res := false) hs hb
  unfold zf_CCStack_takeRow_31_2
  rw [zbd_eq hp]
  exact cTakeRow2_l X hb _ N s u h12 (by omega) H hu
theorem cGiveRow5_l {N : Nat} {u0 : zU} {h : Nat} {bt : Int32} (hb : bt < 40) : ∀ (j i n : Nat) (s : zS) (u : zU), i + j ≤ 12 → j < n → zOk h s → RC u0 s u → ∃ u', zf_CCStack_giveRow_31_5_b9 N n bt (nI (i + j)) (nI i) u = some ((), u') ∧ RC u0 (aGives (zUp (zPp (u0.2.2.1 3) bt) i j) s) u' := by
  intro j
  induction j with
  | zero =>
    intro i n s u h1 h2 H hu
    obtain ⟨m, rfl⟩ : ∃ m, n = m + 1 := ⟨n - 1, by omega⟩
    rw [zf_CCStack_giveRow_31_5_b9, if_pos (nI_le (by omega) (by omega))]
    exact ⟨u, rfl, hu⟩
  | succ j ih =>
    intro i n s u h1 h2 H hu
    obtain ⟨m, rfl⟩ : ∃ m, n = m + 1 := ⟨n - 1, by omega⟩
    have hp : zf_CCRows_partOf_5 N bt (nI i) u = some (zPp (u0.2.2.1 3) bt i, u) := by
      rw [cPart5 hb (by omega)]
      obtain ⟨k, rfl⟩ := hu
      rfl
    obtain ⟨u1, e1, r1⟩ := cGive (N := N) (zPp (u0.2.2.1 3) bt i) H hu
    rw [zf_CCStack_giveRow_31_5_b9, if_neg (nI_ge (by omega) (by omega)), zbd_eq hp, zbd_eq e1, nI_1, show i + (j + 1) = (i + 1) + j from by omega]
    exact ih (i + 1) m _ _ (by omega) (by omega) (zOk_give H) r1
theorem cGiveRow5 {N : Nat} {u0 : zU} {h : Nat} {bt : Int32} {s : zS} {u : zU} (hN : 1000 ≤ N) (hs : zSz (u0.2.2.1 2)) (hb : bt < 40) (H : zOk h s) (hu : RC u0 s u) : ∃ u', zf_CCStack_giveRow_31_5 N bt u = some ((), u') ∧ RC u0 (aGives (zUp (zPp (u0.2.2.1 3) bt) 0 (zNn true (u0.2.2.1 2) bt)) s) u' := by
  have hp : zf_CCRows_sizeOf_5 N bt u = some (nI (zNn true (u0.2.2.1 2) bt), u) := by
    obtain ⟨k, rfl⟩ := hu
    exact cSize5 hs hb
  have h12 := zNn_le (res := true) hs hb
  unfold zf_CCStack_giveRow_31_5
  rw [zbd_eq hp]
  have h9 := cGiveRow5_l (N := N) (u0 := u0) (h := h) hb (zNn true (u0.2.2.1 2) bt) 0 N s u (by omega) (by omega) H hu
  rw [Nat.zero_add] at h9
  exact h9
theorem cGiveRow2_l {N : Nat} {u0 : zU} {h : Nat} {bt : Int32} (hb : bt < 40) : ∀ (j i n : Nat) (s : zS) (u : zU), i + j ≤ 12 → j < n → zOk h s → RC u0 s u → ∃ u', zf_CCStack_giveRow_31_2_b9 N n bt (nI (i + j)) (nI i) u = some ((), u') ∧ RC u0 (aGives (zUp (zPp (u0.2.2.1 1) bt) i j) s) u' := by
  intro j
  induction j with
  | zero =>
    intro i n s u h1 h2 H hu
    obtain ⟨m, rfl⟩ : ∃ m, n = m + 1 := ⟨n - 1, by omega⟩
    rw [zf_CCStack_giveRow_31_2_b9, if_pos (nI_le (by omega) (by omega))]
    exact ⟨u, rfl, hu⟩
  | succ j ih =>
    intro i n s u h1 h2 H hu
    obtain ⟨m, rfl⟩ : ∃ m, n = m + 1 := ⟨n - 1, by omega⟩
    have hp : zf_CCRows_partOf_2 N bt (nI i) u = some (zPp (u0.2.2.1 1) bt i, u) := by
      rw [cPart2 hb (by omega)]
      obtain ⟨k, rfl⟩ := hu
      rfl
    obtain ⟨u1, e1, r1⟩ := cGive (N := N) (zPp (u0.2.2.1 1) bt i) H hu
    rw [zf_CCStack_giveRow_31_2_b9, if_neg (nI_ge (by omega) (by omega)), zbd_eq hp, zbd_eq e1, nI_1, show i + (j + 1) = (i + 1) + j from by omega]
    exact ih (i + 1) m _ _ (by omega) (by omega) (zOk_give H) r1
theorem cGiveRow2 {N : Nat} {u0 : zU} {h : Nat} {bt : Int32} {s : zS} {u : zU} (hN : 1000 ≤ N) (hs : zSz (u0.2.2.1 0)) (hb : bt < 40) (H : zOk h s) (hu : RC u0 s u) : ∃ u', zf_CCStack_giveRow_31_2 N bt u = some ((), u') ∧ RC u0 (aGives (zUp (zPp (u0.2.2.1 1) bt) 0 (zNn false (u0.2.2.1 0) bt)) s) u' := by
  have hp : zf_CCRows_sizeOf_2 N bt u = some (nI (zNn false (u0.2.2.1 0) bt), u) := by
    obtain ⟨k, rfl⟩ := hu
    exact cSize2 hs hb
  have h12 := zNn_le (res := false) hs hb
  unfold zf_CCStack_giveRow_31_2
  rw [zbd_eq hp]
  have h9 := cGiveRow2_l (N := N) (u0 := u0) (h := h) hb (zNn false (u0.2.2.1 0) bt) 0 N s u (by omega) (by omega) H hu
  rw [Nat.zero_add] at h9
  exact h9
