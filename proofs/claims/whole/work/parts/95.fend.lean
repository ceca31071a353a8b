/-! pure: 11 -/
theorem aGives_ok (l : List Int32) : ∀ {s : zS}, s.2.2 = 0 → s.1 + l.length ≤ 200 → (aGives l s).2.2 = 0 := by
  induction l with
  | nil => intro s h _; exact h
  | cons t l ih =>
    intro s h h2
    have h3 : s.1 + (l.length + 1) ≤ 200 := h2
    have e : aGive t s = (s.1 + 1, upd s.2.1 s.1 t, 0) := by unfold aGive; rw [if_pos h, if_pos (by omega)]
    show (aGives l (aGive t s)).2.2 = 0
    rw [e]
    exact ih rfl (by show s.1 + 1 + l.length ≤ 200; omega)
theorem zUp_len (p : Nat → Int32) : ∀ (k i : Nat), (zUp p i k).length = k := by
  intro k
  induction k with
  | zero => intro i; rfl
  | succ k ih => intro i; show (zUp p (i + 1) k).length + 1 = k + 1; rw [ih]
theorem mkC_15 (u : zU) (c : Int32) (f : Nat → Int32) (e : Int32) (k : Nat → Int32) (z : Int32) : si (mkC u c f e k) 15 z = mkC (si u 15 z) c f e k := by
  refine Prod.ext ?_ rfl
  funext q
  by_cases h14 : q = 14
  · subst h14; rfl
  by_cases h15 : q = 15
  · subst h15; rfl
  by_cases h16 : q = 16
  · subst h16; rfl
  simp only [si, mkC, va_up, if_neg h14, if_neg h15, if_neg h16]
section EN
variable {N ty b c lb rw' lc : Nat} {n H M : Nat → Nat} {u v u' w' : zU} {s : zS} {tk : Int32} {wn : Nat} {p : Nat → Int32} {x y : Int32} {lv : Bool}
theorem cLike_l {bt : Int32} {k : Nat} (hb : bt < 40) (hk : k ≤ 12) : ∀ (j i m : Nat), i + j = k → j < m → ∃ ok : Bool, zf_CCThings_hasLikeParametersAndResults_1_b25 N m bt (nI k) (nI i) u' = some (if ok then 1 else 0, u') ∧ (ok = true ↔ ∀ q, i ≤ q → q < k → zPp (u'.2.2.1 1) bt q = zPp (u'.2.2.1 3) bt q) := by
  intro j
  induction j with
  | zero =>
    intro i m h1 h2
    obtain ⟨m, rfl⟩ : ∃ q, m = q + 1 := ⟨m - 1, by omega⟩
    rw [zf_CCThings_hasLikeParametersAndResults_1_b25, if_pos (nI_le (by omega) (by omega))]
    exact ⟨true, rfl, fun _ q a1 a2 => absurd a2 (by omega), fun _ => rfl⟩
  | succ j ih =>
    intro i m h1 h2
    obtain ⟨m, rfl⟩ : ∃ q, m = q + 1 := ⟨m - 1, by omega⟩
    obtain ⟨ok, e1, e2⟩ := ih (i + 1) m (by omega) (by omega)
    rw [zf_CCThings_hasLikeParametersAndResults_1_b25, if_neg (nI_ge (by omega) (by omega)), zbd_eq (cPart2 hb (by omega)), zbd_eq (cPart5 hb (by omega)), nI_1]
    by_cases q : zPp (u'.2.2.1 1) bt i = zPp (u'.2.2.1 3) bt i
    · rw [if_pos q, e1]
      refine ⟨ok, rfl, ?_⟩
      rw [e2]
      constructor
      · intro h z a1 a2
        by_cases e : z = i
        · subst e; exact q
        · exact h z (by omega) a2
      · intro h z a1 a2; exact h z (by omega) a2
    · rw [if_neg q]
      exact ⟨false, rfl, fun h => absurd h (by decide), fun h => absurd (h i (Nat.le_refl _) (by omega)) q⟩
/-- whether the parameters of a block are its results -/
def zLk (v : zU) (bt : Int32) : Prop := zNn false (v.2.2.1 0) bt = zNn true (v.2.2.1 1) bt ∧ ∀ q, q < zNn true (v.2.2.1 1) bt → zPp (v.2.2.1 2) bt q = zPp (v.2.2.1 3) bt q
theorem cLike {bt : Int32} (hN : 1000 ≤ N) (hT : RT ty n u v) (hb : bt < 40) (hu : RC u s u') : ∃ ok : Bool, zf_CCThings_hasLikeParametersAndResults_1 N bt u' = some (if ok then 1 else 0, u') ∧ (ok = true ↔ zLk v bt) := by
  obtain ⟨p1, p2, p3, p4⟩ := hT.2.1
  obtain ⟨z1, z2, z3, z4⟩ := hT.2.2.1
  have c0 : u'.2.2.1 0 = v.2.2.1 0 := by rw [RC_a (by decide) hu]; exact p1
  have c1 : u'.2.2.1 1 = v.2.2.1 2 := by rw [RC_a (by decide) hu]; exact p2
  have c2 : u'.2.2.1 2 = v.2.2.1 1 := by rw [RC_a (by decide) hu]; exact p3
  have c3 : u'.2.2.1 3 = v.2.2.1 3 := by rw [RC_a (by decide) hu]; exact p4
  have b1 := zNn_le (res := false) z1 hb
  have b2 := zNn_le (res := true) z2 hb
  unfold zf_CCThings_hasLikeParametersAndResults_1 zLk
  rw [zbd_eq (cSize2 (by rw [c0]; exact z1) hb), zbd_eq (cSize5 (by rw [c2]; exact z2) hb), c0, c2]
  by_cases q : zNn false (v.2.2.1 0) bt = zNn true (v.2.2.1 1) bt
  · rw [q, if_pos rfl]
    obtain ⟨ok, e1, e2⟩ := cLike_l (N := N) (u' := u') hb b2 (zNn true (v.2.2.1 1) bt) 0 N (by omega) (by omega)
    rw [c1, c3] at e2
    refine ⟨ok, e1, ?_⟩
    rw [e2]
    exact ⟨fun h => ⟨rfl, fun z a => h z (Nat.zero_le _) a⟩, fun h z _ a => h.2 z a⟩
  · rw [if_neg (fun a => q ((nI_eq (by omega) (by omega)).mp a))]
    exact ⟨false, rfl, fun h => absurd h (by decide), fun h => absurd h.1 q⟩
theorem mLike {bt : Int32} (hN : 1000 ≤ N) (hT : RT ty n u v) (hB : RB ty b c H u v) (hw : RM (zB0 v) s tk wn p w') (hbt : bt = u.2.2.1 19 b) : ∃ ok : Bool, (zbd (zf_MMC_countOf_0 N (nI b) 0 w') (fun r4 u5 => zbd (zf_MMC_countOf_0 N (nI b) 1 u5) (fun r7 u8 => if r4 = r7 then zf_MMC_end_0_b31 N (nI b) 1 u8 else zf_MMC_end_0_b31 N (nI b) 0 u8))) = zf_MMC_end_0_b77 N (nI b) (if ok then 1 else 0) w' ∧ (1 ≤ b → (ok = true ↔ zLk v bt)) := by
  subst hbt
  have t1 := hT.1.1
  obtain ⟨z1, z2, z3, z4⟩ := hT.2.2.1
  have a2 := hB.1.2.1
  have hHB := zHB t1 hB
  have hb4 := zBT_40 t1 (hB.2.2.2.2.2.1.2 b (Nat.le_refl _))
  have b1 := zNn_le (res := false) z1 hb4
  have b2 := zNn_le (res := true) z2 hb4
  have eR : zf_MMC_countOf_0 N (nI b) 1 w' = some (nI (zNn true (v.2.2.1 1) (u.2.2.1 19 b)), w') := mCountR (v0 := zB0 v) hHB (show zSz ((zB0 v).2.2.1 1) from z2) (Nat.le_refl _) hw
  have no : ∀ (i : Nat) (m : Nat), zf_MMC_end_0_b34 N (m + 1) (nI b) 0 (nI i) w' = zf_MMC_end_0_b77 N (nI b) 0 w' := by
    intro i m
    rw [zf_MMC_end_0_b34, zbd_eq eR, if_pos (show (0 : Int32) = 0 from rfl)]
    split <;> rfl
  obtain ⟨N', hN'⟩ : ∃ q, N = q + 1 := ⟨N - 1, by omega⟩
  rcases Nat.eq_zero_or_pos b with b0 | bp
  · have e0 : zf_MMC_countOf_0 N (nI b) 0 w' = some (0, w') := by rw [b0]; rfl
    rw [zbd_eq e0, zbd_eq eR]
    by_cases q : (0 : Int32) = nI (zNn true (v.2.2.1 1) (u.2.2.1 19 b))
    · rw [if_pos q]
      refine ⟨true, ?_, fun h => by omega⟩
      unfold zf_MMC_end_0_b31
      have hfu : zf_MMC_end_0_b34 N N (nI b) 1 0 w' = zf_MMC_end_0_b34 N (N' + 1) (nI b) 1 0 w' := by rw [← hN']
      rw [hfu, zf_MMC_end_0_b34, zbd_eq eR, if_pos (by rw [← q]; decide)]; rfl
    · rw [if_neg q]
      refine ⟨false, ?_, fun h => by omega⟩
      unfold zf_MMC_end_0_b31
      have hfu : zf_MMC_end_0_b34 N N (nI b) 0 0 w' = zf_MMC_end_0_b34 N (N' + 1) (nI b) 0 (nI 0) w' := by rw [← hN']; rfl
      rw [hfu]; exact no 0 N'
  · have eP : zf_MMC_countOf_0 N (nI b) 0 w' = some (nI (zNn false (v.2.2.1 0) (u.2.2.1 19 b)), w') := mCountP (v0 := zB0 v) hHB (show zSz ((zB0 v).2.2.1 0) from z1) bp (Nat.le_refl _) hw
    rw [zbd_eq eP, zbd_eq eR]
    unfold zLk
    by_cases q : zNn false (v.2.2.1 0) (u.2.2.1 19 b) = zNn true (v.2.2.1 1) (u.2.2.1 19 b)
    · rw [if_pos (by rw [q])]
      have loop : ∀ (j i m : Nat), i + j = zNn true (v.2.2.1 1) (u.2.2.1 19 b) → j + 1 < m → ∃ ok : Bool, zf_MMC_end_0_b34 N m (nI b) 1 (nI i) w' = zf_MMC_end_0_b77 N (nI b) (if ok then 1 else 0) w' ∧ (ok = true ↔ ∀ z, i ≤ z → z < zNn true (v.2.2.1 1) (u.2.2.1 19 b) → zPp (v.2.2.1 2) (u.2.2.1 19 b) z = zPp (v.2.2.1 3) (u.2.2.1 19 b) z) := by
        intro j
        induction j with
        | zero =>
          intro i m h1 h2
          obtain ⟨m, rfl⟩ : ∃ q, m = q + 1 := ⟨m - 1, by omega⟩
          rw [zf_MMC_end_0_b34, zbd_eq eR, if_pos (nI_le (by omega) (by omega))]
          exact ⟨true, rfl, fun _ z a1 a2 => absurd a2 (by omega), fun _ => rfl⟩
        | succ j ih =>
          intro i m h1 h2
          obtain ⟨m, rfl⟩ : ∃ q, m = q + 1 := ⟨m - 1, by omega⟩
          have pP : zf_MMC_partOf_0 N (nI b) 0 (nI i) w' = some (zPp (v.2.2.1 2) (u.2.2.1 19 b) i, w') := mPartP (v0 := zB0 v) hHB bp (Nat.le_refl _) (by omega) hw
          have pR : zf_MMC_partOf_0 N (nI b) 1 (nI i) w' = some (zPp (v.2.2.1 3) (u.2.2.1 19 b) i, w') := mPartR (v0 := zB0 v) hHB (Nat.le_refl _) (by omega) hw
          rw [zf_MMC_end_0_b34, zbd_eq eR, if_neg (nI_ge (by omega) (by omega)), if_neg (show ¬ (1 : Int32) = 0 from by decide), zbd_eq pP, zbd_eq pR]
          unfold zf_MMC_end_0_b70
          rw [nI_1]
          by_cases z : zPp (v.2.2.1 2) (u.2.2.1 19 b) i = zPp (v.2.2.1 3) (u.2.2.1 19 b) i
          · rw [if_pos z]
            obtain ⟨ok, e1, e2⟩ := ih (i + 1) m (by omega) (by omega)
            refine ⟨ok, e1, ?_⟩
            rw [e2]
            constructor
            · intro h y a1 a2
              by_cases e : y = i
              · subst e; exact z
              · exact h y (by omega) a2
            · intro h y a1 a2; exact h y (by omega) a2
          · rw [if_neg z]
            obtain ⟨m, rfl⟩ : ∃ q, m = q + 1 := ⟨m - 1, by omega⟩
            rw [no (i + 1) m]
            exact ⟨false, rfl, fun h => absurd h (by decide), fun h => absurd (h i (Nat.le_refl _) (by omega)) z⟩
      obtain ⟨ok, e1, e2⟩ := loop _ 0 N (Nat.zero_add _) (by omega)
      refine ⟨ok, e1, fun _ => ?_⟩
      rw [e2]
      exact ⟨fun h => ⟨q, fun z a => h z (Nat.zero_le _) a⟩, fun h z _ a => h.2 z a⟩
    · rw [if_neg (fun a => q ((nI_eq (by omega) (by omega)).mp a))]
      refine ⟨false, ?_, fun _ => ⟨fun h => absurd h (by decide), fun h => absurd h.1 q⟩⟩
      unfold zf_MMC_end_0_b31
      have hfu : zf_MMC_end_0_b34 N N (nI b) 0 0 w' = zf_MMC_end_0_b34 N (N' + 1) (nI b) 0 (nI 0) w' := by rw [← hN']; rfl
      rw [hfu]; exact no 0 N'
end EN
