/-! pure: an abstract row of operands: how many, which, the fault; both sides are tied to it -/
abbrev zS : Type := Nat × (Nat → Int32) × Int32
def aStop (k : Int32) (s : zS) : zS := if s.2.2 = 0 then (s.1, s.2.1, k) else s
/-- take whatever is there: the height of the innermost block is h, lv says whether it is alive -/
def aAny (h : Nat) (lv : Bool) (s : zS) : Int32 × zS :=
  if s.2.2 = 0 then
    if h < s.1 then (s.2.1 (s.1 - 1), (s.1 - 1, s.2.1, 0))
    else if lv then (0, (s.1, s.2.1, 1)) else (0, s)
  else (0, s)
def aTake (h : Nat) (lv : Bool) (t : Int32) (s : zS) : Int32 × zS :=
  if (aAny h lv s).1 = 0 then aAny h lv s
  else if (aAny h lv s).1 = t then aAny h lv s
  else ((aAny h lv s).1, aStop 1 (aAny h lv s).2)
def aGive (t : Int32) (s : zS) : zS :=
  if s.2.2 = 0 then if s.1 < 200 then (s.1 + 1, upd s.2.1 s.1 t, 0) else (s.1, s.2.1, 15) else s
def aTakes (h : Nat) (lv : Bool) : List Int32 → zS → zS
  | [], s => s
  | t :: l, s => aTakes h lv l (aTake h lv t s).2
def aGives : List Int32 → zS → zS
  | [], s => s
  | t :: l, s => aGives l (aGive t s)
/-- what holds of it all along -/
def zOk (h : Nat) (s : zS) : Prop := h ≤ s.1 ∧ s.1 ≤ 200 ∧ 0 ≤ s.2.2
theorem zOk_stop {h : Nat} {s : zS} {k : Int32} (hk : 0 ≤ k) (H : zOk h s) : zOk h (aStop k s) := by
  unfold aStop
  split
  · exact ⟨H.1, H.2.1, hk⟩
  · exact H
theorem zOk_any {h : Nat} {lv : Bool} {s : zS} (H : zOk h s) : zOk h (aAny h lv s).2 := by
  obtain ⟨h1, h2, h3⟩ := H
  unfold aAny
  by_cases e : s.2.2 = 0
  · rw [if_pos e]
    by_cases c : h < s.1
    · rw [if_pos c]; exact ⟨by simp only; omega, by simp only; omega, (by decide : (0 : Int32) ≤ 0)⟩
    · rw [if_neg c]
      cases lv
      · exact ⟨h1, h2, h3⟩
      · exact ⟨h1, h2, (by decide : (0 : Int32) ≤ 1)⟩
  · rw [if_neg e]; exact ⟨h1, h2, h3⟩
theorem zOk_take {h : Nat} {lv : Bool} {t : Int32} {s : zS} (H : zOk h s) : zOk h (aTake h lv t s).2 := by
  have H1 := zOk_any (lv := lv) H
  unfold aTake
  split
  · exact H1
  · split
    · exact H1
    · exact zOk_stop (by decide) H1
theorem zOk_give {h : Nat} {t : Int32} {s : zS} (H : zOk h s) : zOk h (aGive t s) := by
  obtain ⟨h1, h2, h3⟩ := H
  unfold aGive
  split
  · split
    · exact ⟨by simp only; omega, by simp only; omega, (by decide : (0 : Int32) ≤ 0)⟩
    · exact ⟨h1, h2, (by decide : (0 : Int32) ≤ 15)⟩
  · exact ⟨h1, h2, h3⟩
theorem zOk_takes {h : Nat} {lv : Bool} (l : List Int32) : ∀ {s : zS}, zOk h s → zOk h (aTakes h lv l s) := by
  induction l with
  | nil => intro s H; exact H
  | cons t l ih => intro s H; exact ih (zOk_take H)
theorem zOk_gives {h : Nat} (l : List Int32) : ∀ {s : zS}, zOk h s → zOk h (aGives l s) := by
  induction l with
  | nil => intro s H; exact H
  | cons t l ih => intro s H; exact ih (zOk_give H)
/-- behind a fault nothing more is done -/
theorem aAny_ne {h : Nat} {lv : Bool} {s : zS} (e : s.2.2 ≠ 0) : aAny h lv s = (0, s) := by unfold aAny; rw [if_neg e]
theorem aTake_ne {h : Nat} {lv : Bool} {t : Int32} {s : zS} (e : s.2.2 ≠ 0) : aTake h lv t s = (0, s) := by unfold aTake; rw [aAny_ne e]; rfl
theorem aGive_ne {t : Int32} {s : zS} (e : s.2.2 ≠ 0) : aGive t s = s := by unfold aGive; rw [if_neg e]
theorem aStop_ne {t : Int32} {s : zS} (e : s.2.2 ≠ 0) : aStop t s = s := by unfold aStop; rw [if_neg e]
theorem aTakes_ne {h : Nat} {lv : Bool} (l : List Int32) : ∀ {s : zS}, s.2.2 ≠ 0 → aTakes h lv l s = s := by
  induction l with
  | nil => intro s e; rfl
  | cons t l ih => intro s e; rw [aTakes, aTake_ne e]; exact ih e
theorem aGives_ne (l : List Int32) : ∀ {s : zS}, s.2.2 ≠ 0 → aGives l s = s := by
  induction l with
  | nil => intro s e; rfl
  | cons t l ih => intro s e; rw [aGives, aGive_ne e]; exact ih e
/-! the class: its state with other operands -/
def mkC (u0 : zU) (c : Int32) (f : Nat → Int32) (e : Int32) (k : Nat → Int32) : zU := (va_up (va_up u0.1 14 c) 16 e, u0.2.1, va_up (va_up u0.2.2.1 18 f) 23 k, u0.2.2.2)
theorem va_up2 {α : Type} (f : Nat → α) (k : Nat) (v w : α) : va_up (va_up f k v) k w = va_up f k w := by
  funext j; unfold va_up; split <;> rfl
theorem va_upc {α : Type} (f : Nat → α) {k j : Nat} (v w : α) (h : k ≠ j) : va_up (va_up f k v) j w = va_up (va_up f j w) k v := by
  funext i; unfold va_up
  by_cases a : i = j
  · rw [if_pos a, if_neg (fun q => h (q.symm.trans a)), if_pos a]
  · rw [if_neg a, if_neg a]
theorem va_upI {α : Type} (f : Nat → α) (k : Nat) : va_up f k (f k) = f := by
  funext j; unfold va_up; split
  · rename_i q; rw [q]
  · rfl
theorem mkC_14 (u0 : zU) (c c' : Int32) (f : Nat → Int32) (e : Int32) (k : Nat → Int32) : si (mkC u0 c f e k) 14 c' = mkC u0 c' f e k := by
  unfold si mkC
  simp only
  rw [va_upc _ _ _ (by decide : (16 : Nat) ≠ 14), va_up2]
theorem mkC_16 (u0 : zU) (c : Int32) (f : Nat → Int32) (e e' : Int32) (k : Nat → Int32) : si (mkC u0 c f e k) 16 e' = mkC u0 c f e' k := by
  unfold si mkC
  simp only
  rw [va_up2]
theorem mkC_18 (u0 : zU) (c : Int32) (f : Nat → Int32) (e : Int32) (k : Nat → Int32) (i v : Int32) : sa (mkC u0 c f e k) 18 i v = mkC u0 c (upd f i.toNatClampNeg v) e k := by
  unfold sa mkC
  simp only
  rw [va_upc _ _ _ (by decide : (23 : Nat) ≠ 18), va_up2]; rfl
theorem mkC_23 (u0 : zU) (c : Int32) (f : Nat → Int32) (e : Int32) (k : Nat → Int32) (i v : Int32) : sa (mkC u0 c f e k) 23 i v = mkC u0 c f e (upd k i.toNatClampNeg v) := by
  unfold sa mkC
  simp only
  rw [va_up2]; rfl
theorem mkC_self (u : zU) : mkC u (gi u 14) (u.2.2.1 18) (gi u 16) (u.2.2.1 23) = u := by
  unfold mkC gi
  rw [va_upI, va_upI, va_upI, va_upI]
def RC (u0 : zU) (s : zS) (u : zU) : Prop := ∃ k : Nat → Int32, u = mkC u0 (nI s.1) s.2.1 s.2.2 k
/-- the innermost block: its number b, its height h, whether it is alive -/
def CxC (u0 : zU) (b h : Nat) (lv : Bool) : Prop := gi u0 15 = nI (b + 1) ∧ b < 60 ∧ u0.2.2.1 20 b = nI h ∧ u0.2.2.1 22 b = (if lv then 1 else 0) ∧ h ≤ 200
theorem zin_of {n N : Nat} (h : n < N) (hN : N < 2 ^ 31) : zin (nI n) N := nI_in h hN
theorem cAny {N : Nat} {u0 : zU} {b h : Nat} {lv : Bool} {s : zS} {u : zU} (X : CxC u0 b h lv) (H : zOk h s) (hu : RC u0 s u) : ∃ u', zf_CCStack_takeAny_31 N u = some ((aAny h lv s).1, u') ∧ RC u0 (aAny h lv s).2 u' := by
  obtain ⟨k, rfl⟩ := hu
  obtain ⟨c, f, e⟩ := s
  obtain ⟨hb, hb6, hh, hl, hh2⟩ := X
  obtain ⟨h1, h2, h3⟩ := H
  simp only at h1 h2 h3
  have g15 : gi (mkC u0 (nI c) f e k) 15 = nI (b + 1) := hb
  have g16 : gi (mkC u0 (nI c) f e k) 16 = e := rfl
  have g14 : gi (mkC u0 (nI c) f e k) 14 = nI c := rfl
  have b1 : nI (b + 1) - 1 = nI b := nI_pred b
  have hbz : (nI b).toNatClampNeg = b := nI_clamp (by omega)
  unfold zf_CCStack_takeAny_31 aAny
  rw [g15, g16, b1]
  simp only
  by_cases he : e = 0
  · subst he
    rw [if_pos rfl, if_pos rfl, if_neg (nI_pos (by omega)), if_pos ((show nI _ < 60 from nI_lt (b := 60) hb6 (by omega))), zck_pos (zin_of hb6 (by omega)), g14]
    have g20 : ga (mkC u0 (nI c) f 0 k) 20 (nI b) = nI h := by rw [← hh]; show u0.2.2.1 20 _ = _; rw [hbz]
    have g22 : ga (mkC u0 (nI c) f 0 k) 22 (nI b) = (if lv then 1 else 0) := by rw [← hl]; show u0.2.2.1 22 _ = _; rw [hbz]
    rw [g20]
    by_cases hc : h < c
    · obtain ⟨d, rfl⟩ : ∃ d, c = d + 1 := ⟨c - 1, by omega⟩
      rw [if_pos hc, nI_pred, if_neg (nI_nlt (by omega) (by omega)), if_neg (nI_pos (by omega)), if_neg ((show ¬ (200 : Int32) ≤ nI _ from nI_ge (a := d) (b := 200) (by omega) (by omega))), zck_pos (zin_of (by omega) (by omega)), mkC_14]
      have g18 : ga (mkC u0 (nI d) f 0 k) 18 (nI d) = f d := by show f _ = _; rw [nI_clamp (by omega)]
      rw [g18]
      exact ⟨_, rfl, k, rfl⟩
    · rw [if_neg hc]
      have hch : c = h := by omega
      subst hch
      have : nI c - 1 < nI c := by
        rcases Nat.eq_zero_or_pos c with rfl | hp
        · decide
        · obtain ⟨d, rfl⟩ : ∃ d, c = d + 1 := ⟨c - 1, by omega⟩
          rw [nI_pred]; exact nI_lt (by omega) (by omega)
      rw [if_pos this]
      unfold zf_CCStack_takeAny_31_b68
      rw [zck_pos (zin_of hb6 (by omega)), g22]
      cases lv
      · show ∃ u', zf_CCStack_takeAny_31_b82 N (mkC u0 (nI c) f 0 k) = some (0, u') ∧ RC u0 (c, f, 0) u'
        exact ⟨_, rfl, k, rfl⟩
      · show ∃ u', zf_CCStack_takeAny_31_b82 N (si (mkC u0 (nI c) f 0 k) 16 1) = some (0, u') ∧ RC u0 (c, f, 1) u'
        unfold zf_CCStack_takeAny_31_b82
        rw [mkC_16]
        exact ⟨_, rfl, k, rfl⟩
  · rw [if_neg he, if_neg he]
    exact ⟨_, rfl, k, rfl⟩
