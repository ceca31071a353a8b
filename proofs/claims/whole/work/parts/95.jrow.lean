/-! pure: 14 -/
/-- what is taken for a label, kept by place -/
def aColl (h : Nat) (lv : Bool) (p : Nat → Int32) : Nat → (Nat → Int32) × zS → (Nat → Int32) × zS
  | 0, x => x
  | i + 1, x => aColl h lv p i (upd x.1 i (aTake h lv (p i) x.2).1, (aTake h lv (p i) x.2).2)
theorem aColl_ok {h : Nat} {lv : Bool} {p : Nat → Int32} : ∀ (i : Nat) {x : (Nat → Int32) × zS}, zOk h x.2 → zOk h (aColl h lv p i x).2 := by
  intro i
  induction i with
  | zero => intro x H; exact H
  | succ i ih => intro x H; exact ih (zOk_take (t := p i) H)
theorem aColl_ne {h : Nat} {lv : Bool} {p : Nat → Int32} : ∀ (i : Nat) {x : (Nat → Int32) × zS}, x.2.2.2 ≠ 0 → (aColl h lv p i x).2 = x.2 := by
  intro i
  induction i with
  | zero => intro x _; rfl
  | succ i ih =>
    intro x e
    show (aColl h lv p i (upd x.1 i (aTake h lv (p i) x.2).1, (aTake h lv (p i) x.2).2)).2 = x.2
    have e2 : (aTake h lv (p i) x.2).2 = x.2 := by rw [aTake_ne e]
    rw [ih (by rw [e2]; exact e), e2]
theorem zUp_ext {p q : Nat → Int32} : ∀ (k i : Nat), (∀ j, i ≤ j → j < i + k → p j = q j) → zUp p i k = zUp q i k := by
  intro k
  induction k with
  | zero => intro i _; rfl
  | succ k ih =>
    intro i e
    show p i :: zUp p (i + 1) k = q i :: zUp q (i + 1) k
    rw [e i (Nat.le_refl _) (by omega), ih (i + 1) (fun j a b => e j (by omega) (by omega))]
/-- what passing a label does -/
def aPass (h : Nat) (lv : Bool) (p : Nat → Int32) (k : Nat) (t : Nat → Int32) (s : zS) : zS := aGives (zUp (aColl h lv p k (t, s)).1 0 k) (aColl h lv p k (t, s)).2
theorem aPass_ok {h : Nat} {lv : Bool} {p t : Nat → Int32} {k : Nat} {s : zS} (H : zOk h s) : zOk h (aPass h lv p k t s) := zOk_gives _ (aColl_ok k H)
theorem aPass_ne {h : Nat} {lv : Bool} {p t : Nat → Int32} {k : Nat} {s : zS} (e : s.2.2 ≠ 0) : aPass h lv p k t s = s := by
  unfold aPass
  have : (aColl h lv p k (t, s)).2 = s := aColl_ne k (x := (t, s)) e
  rw [this, aGives_ne _ e]
section CP
variable {N : Nat} {u0 : zU} {b h : Nat} {lv : Bool} {bt : Int32}
theorem cColl2 {X : Int32} (Cx : CxC u0 b h lv) (hb : bt < 40) : ∀ (i n : Nat) (s : zS) (t : Nat → Int32) (u : zU), i ≤ 12 → i < n → zOk h s → RCk u0 s t u → ∃ u', zf_CCStack_passLabel_31_b53a N n bt X (nI i - 1) u = zf_CCStack_passLabel_31_b83 N X u' ∧ RCk u0 (aColl h lv (zPp (u0.2.2.1 1) bt) i (t, s)).2 (aColl h lv (zPp (u0.2.2.1 1) bt) i (t, s)).1 u' := by
  intro i
  induction i with
  | zero =>
    intro n s t u h1 h2 H hu
    obtain ⟨m, rfl⟩ : ∃ m, n = m + 1 := ⟨n - 1, by omega⟩
    rw [zf_CCStack_passLabel_31_b53a, if_pos zm1lt]
    exact ⟨u, rfl, hu⟩
  | succ i ih =>
    intro n s t u h1 h2 H hu
    obtain ⟨m, rfl⟩ : ∃ m, n = m + 1 := ⟨n - 1, by omega⟩
    have hp : zf_CCRows_partOf_2 N bt (nI i) u = some (zPp (u0.2.2.1 1) bt i, u) := by
      rw [cPart2 hb (by omega)]
      unfold RCk at hu; subst hu
      rfl
    obtain ⟨u1, e1, r1⟩ := cTakek (N := N) (zPp (u0.2.2.1 1) bt i) Cx H hu
    rw [zf_CCStack_passLabel_31_b53a, nI_pred, if_neg (nI_pos (by omega)), zbd_eq hp, zbd_eq e1, zck_pos (zin_of (by omega) (by omega)), znm1]
    have r2 : RCk u0 (aTake h lv (zPp (u0.2.2.1 1) bt i) s).2 (upd t i (aTake h lv (zPp (u0.2.2.1 1) bt i) s).1) (sa u1 23 (nI i) (aTake h lv (zPp (u0.2.2.1 1) bt i) s).1) := by
      unfold RCk at r1 ⊢
      rw [r1, mkC_23, nI_clamp (by omega)]
    exact ih m _ _ _ (by omega) (by omega) (zOk_take H) r2
theorem cColl5 {X : Int32} (Cx : CxC u0 b h lv) (hb : bt < 40) : ∀ (i n : Nat) (s : zS) (t : Nat → Int32) (u : zU), i ≤ 12 → i < n → zOk h s → RCk u0 s t u → ∃ u', zf_CCStack_passLabel_31_b53b N n bt X (nI i - 1) u = zf_CCStack_passLabel_31_b83 N X u' ∧ RCk u0 (aColl h lv (zPp (u0.2.2.1 3) bt) i (t, s)).2 (aColl h lv (zPp (u0.2.2.1 3) bt) i (t, s)).1 u' := by
  intro i
  induction i with
  | zero =>
    intro n s t u h1 h2 H hu
    obtain ⟨m, rfl⟩ : ∃ m, n = m + 1 := ⟨n - 1, by omega⟩
    rw [zf_CCStack_passLabel_31_b53b, if_pos zm1lt]
    exact ⟨u, rfl, hu⟩
  | succ i ih =>
    intro n s t u h1 h2 H hu
    obtain ⟨m, rfl⟩ : ∃ m, n = m + 1 := ⟨n - 1, by omega⟩
    have hp : zf_CCRows_partOf_5 N bt (nI i) u = some (zPp (u0.2.2.1 3) bt i, u) := by
      rw [cPart5 hb (by omega)]
      unfold RCk at hu; subst hu
      rfl
    obtain ⟨u1, e1, r1⟩ := cTakek (N := N) (zPp (u0.2.2.1 3) bt i) Cx H hu
    rw [zf_CCStack_passLabel_31_b53b, nI_pred, if_neg (nI_pos (by omega)), zbd_eq hp, zbd_eq e1, zck_pos (zin_of (by omega) (by omega)), znm1]
    have r2 : RCk u0 (aTake h lv (zPp (u0.2.2.1 3) bt i) s).2 (upd t i (aTake h lv (zPp (u0.2.2.1 3) bt i) s).1) (sa u1 23 (nI i) (aTake h lv (zPp (u0.2.2.1 3) bt i) s).1) := by
      unfold RCk at r1 ⊢
      rw [r1, mkC_23, nI_clamp (by omega)]
    exact ih m _ _ _ (by omega) (by omega) (zOk_take H) r2
theorem cGiveT : ∀ (j i n : Nat) (s : zS) (t : Nat → Int32) (u : zU), i + j ≤ 12 → j < n → zOk h s → RCk u0 s t u → ∃ u', zf_CCStack_passLabel_31_b86 N n (nI (i + j)) (nI i) u = some ((), u') ∧ RCk u0 (aGives (zUp t i j) s) t u' := by
  intro j
  induction j with
  | zero =>
    intro i n s t u h1 h2 H hu
    obtain ⟨m, rfl⟩ : ∃ m, n = m + 1 := ⟨n - 1, by omega⟩
    rw [zf_CCStack_passLabel_31_b86, if_pos (nI_le (by omega) (by omega))]
    exact ⟨u, rfl, hu⟩
  | succ j ih =>
    intro i n s t u h1 h2 H hu
    obtain ⟨m, rfl⟩ : ∃ m, n = m + 1 := ⟨n - 1, by omega⟩
    have hp : ga u 23 (nI i) = t i := by
      unfold RCk at hu; subst hu
      show t _ = _
      rw [nI_clamp (by omega)]
    obtain ⟨u1, e1, r1⟩ := cGivek (N := N) (t i) H hu
    rw [zf_CCStack_passLabel_31_b86, if_neg (nI_ge (by omega) (by omega)), zck_pos (zin_of (by omega) (by omega)), hp, zbd_eq e1, nI_1, show i + (j + 1) = (i + 1) + j from by omega]
    exact ih (i + 1) m _ _ _ (by omega) (by omega) (zOk_give H) r1
theorem cPass {x d : Nat} {s : zS} {u : zU} (hN : 1000 ≤ N) (X : CxC u0 b h lv) (hx : x ≤ b) (hd : d ≤ 12) (hs0 : zSz (u0.2.2.1 0)) (hs1 : zSz (u0.2.2.1 2)) (hB : u0.2.2.1 19 (b - x) < 40) (H : zOk h s) (hu : RC u0 s u) : ∃ t u', zf_CCStack_passLabel_31 N (nI x) (nI d) u = some ((), u') ∧ RC u0 (if zLn (u0.2.2.1 21 (b - x)) (u0.2.2.1 0) (u0.2.2.1 2) (u0.2.2.1 19 (b - x)) = d then aPass h lv (zLp (u0.2.2.1 21 (b - x)) (u0.2.2.1 1) (u0.2.2.1 3) (u0.2.2.1 19 (b - x))) d t s else aStop 5 s) u' := by
  have h15 := X.1
  have hb := X.2.1
  have a0 := RC_a (k := 0) (by decide) hu
  have a2 := RC_a (k := 2) (by decide) hu
  have c2 : zf_CCRows_sizeOf_2 N (u0.2.2.1 19 (b - x)) u = some (nI (zNn false (u0.2.2.1 0) (u0.2.2.1 19 (b - x))), u) := by rw [← a0]; exact cSize2 (by rw [a0]; exact hs0) hB
  have c5 : zf_CCRows_sizeOf_5 N (u0.2.2.1 19 (b - x)) u = some (nI (zNn true (u0.2.2.1 2) (u0.2.2.1 19 (b - x))), u) := by rw [← a2]; exact cSize5 (by rw [a2]; exact hs1) hB
  have k0 := zNn_le (res := false) hs0 hB
  have k1 := zNn_le (res := true) hs1 hB
  obtain ⟨t, ht⟩ := hu
  have hk : RCk u0 s t u := ht
  refine ⟨t, ?_⟩
  have no : ∃ u', zf_CCStack_passLabel_31_b41 N u = some ((), u') ∧ RC u0 (aStop 5 s) u' := by
    obtain ⟨u1, e1, r1⟩ := cFail (N := N) 5 (show RC u0 s u from ⟨t, ht⟩)
    unfold zf_CCStack_passLabel_31_b41
    rw [zbd_eq e1]; exact ⟨u1, rfl, r1⟩
  have give : ∀ (p : Nat → Int32) (u1 : zU), RCk u0 (aColl h lv p d (t, s)).2 (aColl h lv p d (t, s)).1 u1 → ∃ u', zf_CCStack_passLabel_31_b83 N (nI d) u1 = some ((), u') ∧ RC u0 (aPass h lv p d t s) u' := by
    intro p u1 r1
    unfold zf_CCStack_passLabel_31_b83
    have g := cGiveT (N := N) (u0 := u0) (h := h) d 0 N _ _ u1 (by omega) (by omega) (aColl_ok d (x := (t, s)) H) r1
    rw [Nat.zero_add] at g
    obtain ⟨u2, e2, r2⟩ := g
    exact ⟨u2, e2, _, r2⟩
  unfold zf_CCStack_passLabel_31 zLn zLp
  rw [zbd_eq (cLabelRows h15 hb hx ⟨t, ht⟩)]
  by_cases h3 : u0.2.2.1 21 (b - x) = 3
  · rw [if_pos h3, if_pos h3, if_pos h3, if_pos rfl, zbd_eq (cOf33 h15 hb hx ⟨t, ht⟩), zbd_eq c2]
    by_cases q : zNn false (u0.2.2.1 0) (u0.2.2.1 19 (b - x)) = d
    · rw [if_pos (by rw [q]), if_pos (show nI (zNn false (u0.2.2.1 0) (u0.2.2.1 19 (b - x))) ≤ 12 from nI_le (b := 12) k0 (by omega)), if_pos q, q]
      obtain ⟨u1, e1, r1⟩ := cColl2 (N := N) (X := nI d) X hB d N s t u hd (by omega) H hk
      rw [e1]; exact give _ u1 r1
    · rw [if_neg (fun a => q ((nI_eq (by omega) (by omega)).mp a)), if_neg q]; exact no
  · rw [if_neg h3, if_neg h3, if_neg h3, if_neg (by decide), if_pos rfl, zbd_eq (cOf33 h15 hb hx ⟨t, ht⟩), zbd_eq c5]
    by_cases q : zNn true (u0.2.2.1 2) (u0.2.2.1 19 (b - x)) = d
    · rw [if_pos (by rw [q]), if_pos (show nI (zNn true (u0.2.2.1 2) (u0.2.2.1 19 (b - x))) ≤ 12 from nI_le (b := 12) k1 (by omega)), if_pos q, q]
      obtain ⟨u1, e1, r1⟩ := cColl5 (N := N) (X := nI d) X hB d N s t u hd (by omega) H hk
      rw [e1]; exact give _ u1 r1
    · rw [if_neg (fun a => q ((nI_eq (by omega) (by omega)).mp a)), if_neg q]; exact no
end CP
section MP
variable {N : Nat} {v0 : zU} {b h : Nat} {lv : Bool} {wn : Nat} {p : Nat → Int32} {k14 : Int32 → Int32 → Int32 → zU → Option (Unit × zU)} {x1 x2 x3 : Int32}
theorem mColl (Y : CxM v0 b h lv) (hp : ∀ i, i < wn → p i ≠ -1) (hw9 : wn ≤ 12) : ∀ (i n : Nat) (s : zS) (tk : Int32) (t tg : Nat → Int32) (v : zU), i ≤ wn → i < n → zOk h s → RMk v0 s tk wn p tg v → (∀ q, i ≤ q → q < wn → tg q = t q) → ∃ v' tk' tg', zf_MMC_table_0_b63 N k14 n x1 x2 x3 (nI i - 1) v = zf_MMC_table_0_b103 N k14 x1 x2 x3 v' ∧ RMk v0 (aColl h lv p i (t, s)).2 tk' wn p tg' v' ∧ ((aColl h lv p i (t, s)).2.2.2 = 0 → ∀ q, q < wn → tg' q = (aColl h lv p i (t, s)).1 q) := by
  intro i
  induction i with
  | zero =>
    intro n s tk t tg v h1 h2 H hv ht
    obtain ⟨m, rfl⟩ : ∃ m, n = m + 1 := ⟨n - 1, by omega⟩
    rw [zf_MMC_table_0_b63, if_pos zm1lt]
    exact ⟨v, tk, tg, rfl, hv, fun _ q hq => ht q (Nat.zero_le _) hq⟩
  | succ i ih =>
    intro n s tk t tg v h1 h2 H hv ht
    obtain ⟨m, rfl⟩ : ∃ m, n = m + 1 := ⟨n - 1, by omega⟩
    have hw : ga v 16 (nI i) = p i := by
      obtain ⟨g, w, rfl, hg, hw⟩ := hv
      show w _ = _
      rw [nI_clamp (by omega)]; exact hw i (by omega)
    have h11 : gi v 11 = s.2.2 := by
      obtain ⟨g, w, rfl, hg, hw⟩ := hv
      rfl
    rw [zf_MMC_table_0_b63, nI_pred, if_neg (nI_pos (by omega)), h11]
    by_cases he : s.2.2 = 0
    · obtain ⟨v1, tk1, e1, r1, q1⟩ := mTakek (N := N) (p i) Y H hv
      have hk : aTk h lv (p i) s = aTake h lv (p i) s := by unfold aTk; rw [if_neg (hp i (by omega))]
      rw [hk] at r1 q1
      have q1 := q1 he
      subst q1
      have v12 : gi v1 12 = (aTake h lv (p i) s).1 := by
        obtain ⟨g, w, rfl, hg, hw⟩ := r1
        rfl
      have r2 : RMk v0 (aTake h lv (p i) s).2 (aTake h lv (p i) s).1 wn p (upd tg i (aTake h lv (p i) s).1) (sa v1 17 (nI i) (aTake h lv (p i) s).1) := by
        obtain ⟨g, w, rfl, hg, hw⟩ := r1
        refine ⟨g, w, ?_, hg, hw⟩
        rw [mkM_a17, nI_clamp (by omega)]
      rw [if_pos he, zck_pos (zin_of (by omega) (by omega)), hw, zbd_eq e1, zck_pos (zin_of (by omega) (by omega)), znm1, v12]
      refine ih m _ _ (upd t i (aTake h lv (p i) s).1) _ _ (by omega) (by omega) (zOk_take H) r2 ?_
      intro q a1 a2
      by_cases e : q = i
      · subst e; rw [upd_at, upd_at]
      · rw [upd_ne _ _ e, upd_ne _ _ e]; exact ht q (by omega) a2
    · rw [if_neg he]
      have e : (aColl h lv p (i + 1) (t, s)).2 = s := aColl_ne (i + 1) (x := (t, s)) he
      rw [e]
      exact ⟨v, tk, tg, rfl, hv, fun a => absurd a he⟩
theorem mGiveT (hw9 : wn ≤ 12) : ∀ (j i n : Nat) (s : zS) (tk : Int32) (tg : Nat → Int32) (v : zU), i + j = wn → j < n → zOk h s → RMk v0 s tk wn p tg v → ∃ v', zf_MMC_table_0_b106 N k14 n x1 x2 x3 (nI i) v = k14 x1 x2 (x3 + 1) v' ∧ RMk v0 (aGives (zUp tg i j) s) tk wn p tg v' := by
  intro j
  induction j with
  | zero =>
    intro i n s tk tg v h1 h2 H hv
    obtain ⟨m, rfl⟩ : ∃ m, n = m + 1 := ⟨n - 1, by omega⟩
    have hw : gi v 18 = nI wn := by
      obtain ⟨g, w, rfl, hg, hw⟩ := hv
      rfl
    rw [zf_MMC_table_0_b106, hw, if_pos (nI_le (by omega) (by omega))]
    exact ⟨v, rfl, hv⟩
  | succ j ih =>
    intro i n s tk tg v h1 h2 H hv
    obtain ⟨m, rfl⟩ : ∃ m, n = m + 1 := ⟨n - 1, by omega⟩
    have hw : gi v 18 = nI wn ∧ ga v 17 (nI i) = tg i := by
      obtain ⟨g, w, rfl, hg, hw⟩ := hv
      refine ⟨rfl, ?_⟩
      show tg _ = _
      rw [nI_clamp (by omega)]
    obtain ⟨v1, e1, r1⟩ := mGivek (N := N) (tg i) H hv
    rw [zf_MMC_table_0_b106, hw.1, if_neg (nI_ge (by omega) (by omega)), zck_pos (zin_of (by omega) (by omega)), hw.2, zbd_eq e1, nI_1]
    exact ih (i + 1) m _ _ _ _ (by omega) (by omega) (zOk_give H) r1
theorem mPass {B : Nat → Int32} {x i : Nat} {s : zS} {tk : Int32} {wn0 : Nat} {p0 : Nat → Int32} {v : zU} (t : Nat → Int32) (hN : 1000 ≤ N) (Y : CxM v0 b h lv) (hB : HB v0 b B) (hO : ∀ q, q ≤ b → v0.2.2.1 11 q = 3 → 1 ≤ q) (hs0 : zSz (v0.2.2.1 0)) (hs1 : zSz (v0.2.2.1 1)) (hx : x ≤ b) (hi : i < 20) (h9 : v0.2.2.1 9 i = nI x) (hp : ∀ q, q < zLn (v0.2.2.1 11 (b - x)) (v0.2.2.1 0) (v0.2.2.1 1) (B (b - x)) → zLp (v0.2.2.1 11 (b - x)) (v0.2.2.1 2) (v0.2.2.1 3) (B (b - x)) q ≠ -1) (H : zOk h s) (hv : RM v0 s tk wn0 p0 v) : ∃ v' tk' wn' p', zf_MMC_table_0_b41 N k14 x1 x2 (nI i) v = k14 x1 x2 (nI (i + 1)) v' ∧ RM v0 (aPass h lv (zLp (v0.2.2.1 11 (b - x)) (v0.2.2.1 2) (v0.2.2.1 3) (B (b - x))) (zLn (v0.2.2.1 11 (b - x)) (v0.2.2.1 0) (v0.2.2.1 1) (B (b - x))) t s) tk' wn' p' v' := by
  have k12 := zLn_le (o := v0.2.2.1 11 (b - x)) hs0 hs1 (hB.2.2.1 (b - x) (by omega))
  obtain ⟨w1, f1, g1⟩ := mWantNothing (N := N) p0 hv
  have e9 : ga w1 9 (nI i) = nI x := by show w1.2.2.1 9 _ = _; rw [RM_a (k := 9) (by decide) g1, nI_clamp (by omega)]; exact h9
  obtain ⟨w2, f2, g2⟩ := mWantLabel (N := N) hN hB hO hs0 hs1 Y.1 hx g1
  generalize zLn (v0.2.2.1 11 (b - x)) (v0.2.2.1 0) (v0.2.2.1 1) (B (b - x)) = k at k12 hp g2
  generalize zLp (v0.2.2.1 11 (b - x)) (v0.2.2.1 2) (v0.2.2.1 3) (B (b - x)) = p at hp g2
  obtain ⟨g, w, tg, ew, hg, hw⟩ := g2
  have r2 : RMk v0 s tk k p tg w2 := ⟨g, w, ew, hg, hw⟩
  have e18 : gi w2 18 = nI k := by rw [ew]; rfl
  obtain ⟨w3, tk3, tg3, f3, g3, q3⟩ := mColl (N := N) (k14 := k14) (x1 := x1) (x2 := x2) (x3 := nI i) Y hp k12 k N s tk t tg w2 (Nat.le_refl _) (by omega) H r2 (fun q a1 a2 => absurd a2 (by omega))
  obtain ⟨w4, f4, g4⟩ := mGiveT (N := N) (k14 := k14) (x1 := x1) (x2 := x2) (x3 := nI i) (h := h) k12 k 0 N _ tk3 tg3 w3 (by omega) (by omega) (aColl_ok k (x := (t, s)) H) g3
  unfold zf_MMC_table_0_b41
  rw [zbd_eq f1, zck_pos (zin_of hi (by omega)), e9, zbd_eq f2, e18, f3]
  unfold zf_MMC_table_0_b103
  refine ⟨w4, tk3, k, p, by rw [← nI_1]; exact f4, ?_⟩
  have es : aGives (zUp tg3 0 k) (aColl h lv p k (t, s)).2 = aPass h lv p k t s := by
    unfold aPass
    by_cases e : (aColl h lv p k (t, s)).2.2.2 = 0
    · rw [zUp_ext k 0 (fun j _ a => q3 e j (by omega))]
    · rw [aGives_ne _ e, aGives_ne _ e]
  rw [← es]
  obtain ⟨g, w, ew, hg, hw⟩ := g4
  exact ⟨g, w, tg3, ew, hg, hw⟩
end MP
section GT
variable {N ty b c lb rw' lc : Nat} {n H M : Nat → Nat} {u v u' w' : zU} {s : zS} {tk : Int32} {wn : Nat} {p : Nat → Int32} {x y : Int32} {lv : Bool}
theorem zTable {x d : Nat} (hN : 1000 ≤ N) (hT : RT ty n u v) (hB : RB ty b c H u v) (hL : RL lb rw' lc M u v) (X : CxC u b (H b) lv) (Y : CxM (zB0 v) b (H b) lv) (hd : d ≤ 12) (hl : ∀ q, q < lb → zHs (b + 1) (v.2.2.1 9 q)) : ∀ (j i n m : Nat) (s : zS) (tk : Int32) (wn : Nat) (p : Nat → Int32) (u' w' : zU), i + j = lb → j < n → j < m → zOk (H b) s → RC u s u' → RM (zB0 v) s tk wn p w' → ∃ s2 tk2 wn2 p2 u2 w2, zf_CCCode_branchByRow_26_b21 N n (nI x) (nI d) (nI i) u' = zf_CCCode_branchByRow_26_b58 N (nI x) u2 ∧ zf_MMC_table_0_b14 N m (nI x) (nI d) (nI i) w' = zbd (zf_MMC_wantNothing_0 N w2) (fun _ u3 => zbd (zf_MMC_wantLabel_0 N (nI x) u3) (fun _ u6 => zbd (zf_MMC_takeWanted_0 N u6) (fun _ u9 => zbd (zf_MMC_die_0 N u9) (fun _ u12 => some ((), u12))))) ∧ zOk (H b) s2 ∧ RC u s2 u2 ∧ RM (zB0 v) s2 tk2 wn2 p2 w2 := by
  have t1 := hT.1.1
  obtain ⟨p1, p2, p3, p4⟩ := hT.2.1
  obtain ⟨z1, z2, z3, z4⟩ := hT.2.2.1
  have b60 := hB.1.2.1
  obtain ⟨l1, l2, l3, l4⟩ := hL.1
  intro j
  induction j with
  | zero =>
    intro i n m s tk wn p u' w' e hn hm Ho hu hw
    obtain ⟨n, rfl⟩ : ∃ q, n = q + 1 := ⟨n - 1, by omega⟩
    obtain ⟨m, rfl⟩ : ∃ q, m = q + 1 := ⟨m - 1, by omega⟩
    have u7 : gi u' 7 = nI lb := by rw [RC_i (k := 7) (by decide) hu]; exact l2
    have w8 : gi w' 8 = nI lb := by rw [zRM_i (by omega) hw]; exact l3
    rw [zf_CCCode_branchByRow_26_b21, zf_MMC_table_0_b14, u7, w8, if_pos (nI_le (by omega) (by omega)), if_pos (nI_le (by omega) (by omega))]
    exact ⟨s, tk, wn, p, u', w', rfl, rfl, Ho, hu, hw⟩
  | succ j ih =>
    intro i n m s tk wn p u' w' e hn hm Ho hu hw
    obtain ⟨n, rfl⟩ : ∃ q, n = q + 1 := ⟨n - 1, by omega⟩
    obtain ⟨m, rfl⟩ : ∃ q, m = q + 1 := ⟨m - 1, by omega⟩
    have u7 : gi u' 7 = nI lb := by rw [RC_i (k := 7) (by decide) hu]; exact l2
    have w8 : gi w' 8 = nI lb := by rw [zRM_i (by omega) hw]; exact l3
    obtain ⟨q, hq, eq⟩ := zHs_j (hl i (by omega)) (by omega)
    have u17 : ga u' 17 (nI i) = nI q := by show u'.2.2.1 17 _ = _; rw [RC_a (k := 17) (by decide) hu, nI_clamp (by omega), l4 i (by omega)]; exact eq
    have w9 : ga w' 9 (nI i) = nI q := by show w'.2.2.1 9 _ = _; rw [zRM_a (by omega) hw, nI_clamp (by omega)]; exact eq
    have hbt := hB.2.2.2.2.2.1.2 (b - q) (by omega)
    have hb4 := zBT_40 t1 hbt
    obtain ⟨lab1, lab2⟩ := zLab hT hB (j := q) (by omega)
    have b12 := zLn_le (o := (zB0 v).2.2.1 11 (b - q)) (p0 := (zB0 v).2.2.1 0) (r0 := (zB0 v).2.2.1 1) z1 z2 hb4
    obtain ⟨t, u1, e1, r1⟩ := cPass (N := N) (x := q) (d := d) hN X (by omega) hd (by rw [p1]; exact z1) (by rw [p3]; exact z2) hb4 Ho hu
    have lc := mLabelCount (N := N) (x := q) (zHB t1 hB) (zHO hB) z1 z2 (show gi (zB0 v) 10 = nI (b + 1) from hB.1.2.2.2) (by omega) hw
    have hpass : ∀ (s : zS) (tk : Int32) (wn : Nat) (p : Nat → Int32) (w' : zU), zOk (H b) s → RM (zB0 v) s tk wn p w' → ∃ v' tk' wn' p', zf_MMC_table_0_b41 N (zf_MMC_table_0_b14 N m) (nI x) (nI d) (nI i) w' = zf_MMC_table_0_b14 N m (nI x) (nI d) (nI (i + 1)) v' ∧ RM (zB0 v) (aPass (H b) lv (zLp ((zB0 v).2.2.1 11 (b - q)) ((zB0 v).2.2.1 2) ((zB0 v).2.2.1 3) (u.2.2.1 19 (b - q))) (zLn ((zB0 v).2.2.1 11 (b - q)) ((zB0 v).2.2.1 0) ((zB0 v).2.2.1 1) (u.2.2.1 19 (b - q))) t s) tk' wn' p' v' := by
      intro s tk wn p w' Ho hw
      exact mPass (N := N) t hN Y (zHB t1 hB) (zHO hB) z1 z2 (by omega) (by omega) eq (fun z hz => zV_ne (zLp_V t1 hbt z3 z4 hz)) Ho hw
    rw [lab1, lab2] at r1
    rw [zf_CCCode_branchByRow_26_b21, zf_MMC_table_0_b14, u7, w8, if_neg (nI_ge (by omega) (by omega)), if_neg (nI_ge (by omega) (by omega)), if_neg (show ¬ (20 : Int32) ≤ nI i from nI_ge (b := 20) (by omega) (by omega)), zck_pos (zin_of (by omega) (by omega)), zck_pos (zin_of (by omega) (by omega)), u17, w9, zbd_eq e1, zbd_eq lc, nI_1]
    by_cases sz : zLn ((zB0 v).2.2.1 11 (b - q)) ((zB0 v).2.2.1 0) ((zB0 v).2.2.1 1) (u.2.2.1 19 (b - q)) = d
    · rw [if_pos sz] at r1
      obtain ⟨w1, tk1, wn1, q1, f1, g1⟩ := hpass s tk wn p w' Ho hw
      rw [sz] at g1
      rw [if_pos (by rw [sz]), f1]
      exact ih (i + 1) n m _ _ _ _ _ _ (by omega) (by omega) (by omega) (aPass_ok Ho) r1 g1
    · rw [if_neg sz] at r1
      obtain ⟨w0, f0, g0⟩ := mStop (N := N) 5 hw
      have H1 : zOk (H b) (aStop 5 s) := zOk_stop (by decide) Ho
      obtain ⟨w1, tk1, wn1, q1, f1, g1⟩ := hpass (aStop 5 s) tk wn p w0 H1 g0
      rw [aPass_ne (aStop_n0 (by decide))] at g1
      rw [if_neg (fun a => sz ((nI_eq (by omega) (by omega)).mp a)), zbd_eq f0, f1]
      exact ih (i + 1) n m _ _ _ _ _ _ (by omega) (by omega) (by omega) H1 r1 g1
theorem zGo_14 (hN : 1000 ≤ N) (hT : RT ty n u v) (hB : RB ty b c H u v) (hL : RL lb rw' lc M u v) (h8 : gi u 8 = gi v 1) (h1 : gi v 1 = 1) (Ho : zOk (H b) s) (hu : RC u s u') (hw : RM (zB0 v) s tk wn p w') (hx : zHs (b + 1) x) (hl : ∀ q, q < lb → zHs (b + 1) (w'.2.2.1 9 q)) : zGo N (zf_CCCode_carryOut_26 N 14 x u') (zf_MMC_perform_0 N 14 x y w') := by
  obtain ⟨lv, X, Y⟩ := zCxC hB
  have t1 := hT.1.1
  have b60 := hB.1.2.1
  obtain ⟨j, hj, rfl⟩ := zHs_j hx (by omega)
  obtain ⟨p1, p2, p3, p4⟩ := hT.2.1
  obtain ⟨z1, z2, z3, z4⟩ := hT.2.2.1
  have hbt := hB.2.2.2.2.2.1.2 (b - j) (by omega)
  have hb4 := zBT_40 t1 hbt
  have l20 := hL.1.1
  have hl' : ∀ q, q < lb → zHs (b + 1) (v.2.2.1 9 q) := fun q hq => by have := hl q hq; rw [zRM_a (by omega) hw] at this; exact this
  obtain ⟨lab1, lab2⟩ := zLab hT hB (j := j) (by omega)
  have b12 := zLn_le (o := (zB0 v).2.2.1 11 (b - j)) (p0 := (zB0 v).2.2.1 0) (r0 := (zB0 v).2.2.1 1) z1 z2 hb4
  obtain ⟨u0, e0, r0⟩ := cTake (N := N) 127 X Ho hu
  have cs := cLabelSize (N := N) (x := j) X.1 X.2.1 (by omega) (by rw [p1]; exact z1) (by rw [p3]; exact z2) hb4 r0
  rw [lab1] at cs
  obtain ⟨w0, f0, g0⟩ := mWantNothing (N := N) p hw
  obtain ⟨w9, tk9, f9, g9⟩ := mTk (N := N) 127 (by decide) Y Ho g0
  have lc := mLabelCount (N := N) (x := j) (zHB t1 hB) (zHO hB) z1 z2 (show gi (zB0 v) 10 = nI (b + 1) from hB.1.2.2.2) (by omega) g9
  generalize hd : zLn ((zB0 v).2.2.1 11 (b - j)) ((zB0 v).2.2.1 0) ((zB0 v).2.2.1 1) (u.2.2.1 19 (b - j)) = d at cs lc b12
  obtain ⟨s2, tk2, wn2, q2, u2, w2, e2, f2, H2, r2, g2⟩ := zTable (N := N) (x := j) (d := d) hN hT hB hL X Y b12 hl' lb 0 N N _ tk9 _ _ u0 w9 (by omega) (by omega) (by omega) (zOk_take (t := 127) Ho) r0 g9
  obtain ⟨u3, e3, r3⟩ := cTakeLabel (N := N) (x := j) hN X (by omega) (by rw [p1]; exact z1) (by rw [p3]; exact z2) hb4 H2 r2
  obtain ⟨w3, f3, g3⟩ := mWantNothing (N := N) p g2
  obtain ⟨w4, w5, tk5, f4, f5, g5⟩ := mLabTake (N := N) (j := j) hN hT hB Y (by omega) H2 g3
  refine zGoD hN hT hB hL h8 h1 X Y r3 g5 (zOk_takes _ H2) ?_ ?_
  · rw [carB (zPl_of hN (by decide +kernel : zPl 60 14 0 = some (-1))) (by decide) (by decide)]
    have hc : zf_CCCode_carryOutBranch_26 N 14 (nI j) u' = zbd (zf_CCCode_branchByRow_26 N (nI j) u') zI := rfl
    have hb : zf_CCCode_branchByRow_26 N (nI j) u' = zbd (zf_CCStack_die_31 N u3) zI := by
      unfold zf_CCCode_branchByRow_26
      rw [zbd_eq e0, zbd_eq cs, show zf_CCCode_branchByRow_26_b21 N N (nI j) (nI d) 0 u0 = zf_CCCode_branchByRow_26_b58 N (nI j) u2 from e2]
      unfold zf_CCCode_branchByRow_26_b58
      rw [zbd_eq e3]
    rw [hc, hb, zbdI, zbdI]
  · have hper : zf_MMC_perform_0 N 14 (nI j) y w' = zbd (zbd (zf_MMC_wantNothing_0 N w') (fun _ z => zbd (zf_MMC_table_0 N (nI j) z) zI)) zI := rfl
    have hb : zf_MMC_table_0 N (nI j) w0 = zbd (zf_MMC_die_0 N w5) zI := by
      unfold zf_MMC_table_0
      rw [zbd_eq f9, zbd_eq lc, show zf_MMC_table_0_b14 N N (nI j) (nI d) 0 w9 = _ from f2, zbd_eq f3, zbd_eq f4, zbd_eq f5]
    rw [hper, zbdI, zbd_eq f0, hb, zbdI, zbdI]
end GT
