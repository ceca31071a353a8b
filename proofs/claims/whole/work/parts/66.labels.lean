/-! pure: what a block or a label wants, in the reference; rows of a label, in the class -/
theorem nI_sub {a b : Nat} (h : b ≤ a) : nI a - nI b = nI (a - b) := by
  have e : nI a = nI (a - b) + nI b := by rw [nI_add]; congr 1; omega
  rw [e, Int32.add_sub_cancel]
def zLn (o : Int32) (p0 r0 : Nat → Int32) (bt : Int32) : Nat := if o = 3 then zNn false p0 bt else zNn true r0 bt
def zLp (o : Int32) (p1 r1 : Nat → Int32) (bt : Int32) : Nat → Int32 := if o = 3 then zPp p1 bt else zPp r1 bt
theorem zLn_le {o : Int32} {p0 r0 : Nat → Int32} {bt : Int32} (h1 : zSz p0) (h2 : zSz r0) (hb : bt < 40) : zLn o p0 r0 bt ≤ 12 := by
  unfold zLn; split
  · exact zNn_le h1 hb
  · exact zNn_le h2 hb
section ML
variable {N : Nat} {v0 : zU} {b : Nat} {B : Nat → Int32} {s : zS} {tk : Int32} {v : zU} {q : Nat}
theorem mWantBlockR_l (hB : HB v0 b B) (hs : zSz (v0.2.2.1 1)) (hq : q ≤ b) : ∀ (j i n : Nat) (v : zU), i + j = zNn true (v0.2.2.1 1) (B q) → j < n → RM v0 s tk i (zPp (v0.2.2.1 3) (B q)) v → ∃ v', zf_MMC_wantBlock_0_b2 N n (nI q) 1 (nI i) v = some ((), v') ∧ RM v0 s tk (zNn true (v0.2.2.1 1) (B q)) (zPp (v0.2.2.1 3) (B q)) v' := by
  have h12 := zNn_le (res := true) hs (hB.2.2.1 q hq)
  intro j
  induction j with
  | zero =>
    intro i n v h1 h2 hv
    obtain ⟨m, rfl⟩ : ∃ m, n = m + 1 := ⟨n - 1, by omega⟩
    rw [zf_MMC_wantBlock_0_b2, zbd_eq (mCountR hB hs hq hv), if_pos (nI_le (by omega) (by omega))]
    have e : i = zNn true (v0.2.2.1 1) (B q) := by omega
    subst e
    exact ⟨v, rfl, hv⟩
  | succ j ih =>
    intro i n v h1 h2 hv
    obtain ⟨m, rfl⟩ : ∃ m, n = m + 1 := ⟨n - 1, by omega⟩
    obtain ⟨v1, e1, r1⟩ := mWantOne (N := N) _ rfl (by omega) hv
    rw [zf_MMC_wantBlock_0_b2, zbd_eq (mCountR hB hs hq hv), if_neg (nI_ge (by omega) (by omega)), zbd_eq (mPartR hB hq (by omega) hv), zbd_eq e1, nI_1]
    exact ih (i + 1) m _ (by omega) (by omega) r1
theorem mWantBlockR {p : Nat → Int32} (hN : 1000 ≤ N) (hB : HB v0 b B) (hs : zSz (v0.2.2.1 1)) (hq : q ≤ b) (hv : RM v0 s tk 0 p v) : ∃ v', zf_MMC_wantBlock_0 N (nI q) 1 v = some ((), v') ∧ RM v0 s tk (zNn true (v0.2.2.1 1) (B q)) (zPp (v0.2.2.1 3) (B q)) v' := by
  have h12 := zNn_le (res := true) hs (hB.2.2.1 q hq)
  have hv0 : RM v0 s tk 0 (zPp (v0.2.2.1 3) (B q)) v := by
    obtain ⟨g, w, tg, rfl, hg, hw⟩ := hv
    exact ⟨g, w, tg, rfl, hg, fun i hi => absurd hi (by omega)⟩
  unfold zf_MMC_wantBlock_0
  exact mWantBlockR_l hB hs hq _ 0 N v (Nat.zero_add _) (by omega) hv0
theorem mWantBlockP_l (hB : HB v0 b B) (hs : zSz (v0.2.2.1 0)) (q1 : 1 ≤ q) (hq : q ≤ b) : ∀ (j i n : Nat) (v : zU), i + j = zNn false (v0.2.2.1 0) (B q) → j < n → RM v0 s tk i (zPp (v0.2.2.1 2) (B q)) v → ∃ v', zf_MMC_wantBlock_0_b2 N n (nI q) 0 (nI i) v = some ((), v') ∧ RM v0 s tk (zNn false (v0.2.2.1 0) (B q)) (zPp (v0.2.2.1 2) (B q)) v' := by
  have h12 := zNn_le (res := false) hs (hB.2.2.1 q hq)
  intro j
  induction j with
  | zero =>
    intro i n v h1 h2 hv
    obtain ⟨m, rfl⟩ : ∃ m, n = m + 1 := ⟨n - 1, by omega⟩
    rw [zf_MMC_wantBlock_0_b2, zbd_eq (mCountP hB hs q1 hq hv), if_pos (nI_le (by omega) (by omega))]
    have e : i = zNn false (v0.2.2.1 0) (B q) := by omega
    subst e
    exact ⟨v, rfl, hv⟩
  | succ j ih =>
    intro i n v h1 h2 hv
    obtain ⟨m, rfl⟩ : ∃ m, n = m + 1 := ⟨n - 1, by omega⟩
    obtain ⟨v1, e1, r1⟩ := mWantOne (N := N) _ rfl (by omega) hv
    rw [zf_MMC_wantBlock_0_b2, zbd_eq (mCountP hB hs q1 hq hv), if_neg (nI_ge (by omega) (by omega)), zbd_eq (mPartP hB q1 hq (by omega) hv), zbd_eq e1, nI_1]
    exact ih (i + 1) m _ (by omega) (by omega) r1
theorem mWantBlockP {p : Nat → Int32} (hN : 1000 ≤ N) (hB : HB v0 b B) (hs : zSz (v0.2.2.1 0)) (q1 : 1 ≤ q) (hq : q ≤ b) (hv : RM v0 s tk 0 p v) : ∃ v', zf_MMC_wantBlock_0 N (nI q) 0 v = some ((), v') ∧ RM v0 s tk (zNn false (v0.2.2.1 0) (B q)) (zPp (v0.2.2.1 2) (B q)) v' := by
  have h12 := zNn_le (res := false) hs (hB.2.2.1 q hq)
  have hv0 : RM v0 s tk 0 (zPp (v0.2.2.1 2) (B q)) v := by
    obtain ⟨g, w, tg, rfl, hg, hw⟩ := hv
    exact ⟨g, w, tg, rfl, hg, fun i hi => absurd hi (by omega)⟩
  unfold zf_MMC_wantBlock_0
  exact mWantBlockP_l hB hs q1 hq _ 0 N v (Nat.zero_add _) (by omega) hv0
theorem mBlockOf {x : Nat} {wn : Nat} {p : Nat → Int32} (h10 : gi v0 10 = nI (b + 1)) (hx : x ≤ b) (hv : RM v0 s tk wn p v) : zf_MMC_blockOf_0 N (nI x) v = some (nI (b - x), v) := by
  unfold zf_MMC_blockOf_0
  rw [RM_i (k := 10) (by decide) hv, h10, nI_pred, nI_sub hx]
theorem mLabelCount {x : Nat} {wn : Nat} {p : Nat → Int32} (hB : HB v0 b B) (hO : ∀ q, q ≤ b → v0.2.2.1 11 q = 3 → 1 ≤ q) (hs0 : zSz (v0.2.2.1 0)) (hs1 : zSz (v0.2.2.1 1)) (h10 : gi v0 10 = nI (b + 1)) (hx : x ≤ b) (hv : RM v0 s tk wn p v) : zf_MMC_labelCount_0 N (nI x) v = some (nI (zLn (v0.2.2.1 11 (b - x)) (v0.2.2.1 0) (v0.2.2.1 1) (B (b - x))), v) := by
  have hb := hB.1
  have e11 : ga v 11 (nI (b - x)) = v0.2.2.1 11 (b - x) := by show v.2.2.1 11 _ = _; rw [RM_a (k := 11) (by decide) hv, nI_clamp (by omega)]
  unfold zf_MMC_labelCount_0 zf_MMC_labelCount_0_b25
  rw [zbd_eq (mBlockOf h10 hx hv), zbd_eq (mBlockOf h10 hx hv), zck_pos (zin_of (by omega) (by omega)), e11]
  unfold zLn
  by_cases h3 : v0.2.2.1 11 (b - x) = 3
  · rw [if_pos h3, if_pos h3, zbd_eq (mCountP hB hs0 (hO _ (by omega) h3) (by omega) hv)]
  · rw [if_neg h3, if_neg h3, zbd_eq (mCountR hB hs1 (by omega) hv)]
theorem mLabelPart {x i : Nat} {wn : Nat} {p : Nat → Int32} (hB : HB v0 b B) (hO : ∀ q, q ≤ b → v0.2.2.1 11 q = 3 → 1 ≤ q) (h10 : gi v0 10 = nI (b + 1)) (hx : x ≤ b) (hi : i < 12) (hv : RM v0 s tk wn p v) : zf_MMC_labelPart_0 N (nI x) (nI i) v = some (zLp (v0.2.2.1 11 (b - x)) (v0.2.2.1 2) (v0.2.2.1 3) (B (b - x)) i, v) := by
  have hb := hB.1
  have e11 : ga v 11 (nI (b - x)) = v0.2.2.1 11 (b - x) := by show v.2.2.1 11 _ = _; rw [RM_a (k := 11) (by decide) hv, nI_clamp (by omega)]
  unfold zf_MMC_labelPart_0 zf_MMC_labelPart_0_b25
  rw [zbd_eq (mBlockOf h10 hx hv), zbd_eq (mBlockOf h10 hx hv), zck_pos (zin_of (by omega) (by omega)), e11]
  unfold zLp
  by_cases h3 : v0.2.2.1 11 (b - x) = 3
  · rw [if_pos h3, if_pos h3, zbd_eq (mPartP hB (hO _ (by omega) h3) (by omega) hi hv)]
  · rw [if_neg h3, if_neg h3, zbd_eq (mPartR hB (by omega) hi hv)]
theorem mWantLabel_l {x : Nat} (hB : HB v0 b B) (hO : ∀ q, q ≤ b → v0.2.2.1 11 q = 3 → 1 ≤ q) (hs0 : zSz (v0.2.2.1 0)) (hs1 : zSz (v0.2.2.1 1)) (h10 : gi v0 10 = nI (b + 1)) (hx : x ≤ b) : ∀ (j i n : Nat) (v : zU), i + j = zLn (v0.2.2.1 11 (b - x)) (v0.2.2.1 0) (v0.2.2.1 1) (B (b - x)) → j < n → RM v0 s tk i (zLp (v0.2.2.1 11 (b - x)) (v0.2.2.1 2) (v0.2.2.1 3) (B (b - x))) v → ∃ v', zf_MMC_wantLabel_0_b2 N n (nI x) (nI i) v = some ((), v') ∧ RM v0 s tk (zLn (v0.2.2.1 11 (b - x)) (v0.2.2.1 0) (v0.2.2.1 1) (B (b - x))) (zLp (v0.2.2.1 11 (b - x)) (v0.2.2.1 2) (v0.2.2.1 3) (B (b - x))) v' := by
  have h12 := zLn_le (o := v0.2.2.1 11 (b - x)) hs0 hs1 (hB.2.2.1 (b - x) (by omega))
  intro j
  induction j with
  | zero =>
    intro i n v h1 h2 hv
    obtain ⟨m, rfl⟩ : ∃ m, n = m + 1 := ⟨n - 1, by omega⟩
    rw [zf_MMC_wantLabel_0_b2, zbd_eq (mLabelCount hB hO hs0 hs1 h10 hx hv), if_pos (nI_le (by omega) (by omega))]
    have e : i = zLn (v0.2.2.1 11 (b - x)) (v0.2.2.1 0) (v0.2.2.1 1) (B (b - x)) := by omega
    subst e
    exact ⟨v, rfl, hv⟩
  | succ j ih =>
    intro i n v h1 h2 hv
    obtain ⟨m, rfl⟩ : ∃ m, n = m + 1 := ⟨n - 1, by omega⟩
    obtain ⟨v1, e1, r1⟩ := mWantOne (N := N) _ rfl (by omega) hv
    rw [zf_MMC_wantLabel_0_b2, zbd_eq (mLabelCount hB hO hs0 hs1 h10 hx hv), if_neg (nI_ge (by omega) (by omega)), zbd_eq (mLabelPart hB hO h10 hx (by omega) hv), zbd_eq e1, nI_1]
    exact ih (i + 1) m _ (by omega) (by omega) r1
theorem mWantLabel {x : Nat} {p : Nat → Int32} (hN : 1000 ≤ N) (hB : HB v0 b B) (hO : ∀ q, q ≤ b → v0.2.2.1 11 q = 3 → 1 ≤ q) (hs0 : zSz (v0.2.2.1 0)) (hs1 : zSz (v0.2.2.1 1)) (h10 : gi v0 10 = nI (b + 1)) (hx : x ≤ b) (hv : RM v0 s tk 0 p v) : ∃ v', zf_MMC_wantLabel_0 N (nI x) v = some ((), v') ∧ RM v0 s tk (zLn (v0.2.2.1 11 (b - x)) (v0.2.2.1 0) (v0.2.2.1 1) (B (b - x))) (zLp (v0.2.2.1 11 (b - x)) (v0.2.2.1 2) (v0.2.2.1 3) (B (b - x))) v' := by
  have h12 := zLn_le (o := v0.2.2.1 11 (b - x)) hs0 hs1 (hB.2.2.1 (b - x) (by omega))
  have hv0 : RM v0 s tk 0 (zLp (v0.2.2.1 11 (b - x)) (v0.2.2.1 2) (v0.2.2.1 3) (B (b - x))) v := by
    obtain ⟨g, w, tg, rfl, hg, hw⟩ := hv
    exact ⟨g, w, tg, rfl, hg, fun i hi => absurd hi (by omega)⟩
  unfold zf_MMC_wantLabel_0
  exact mWantLabel_l hB hO hs0 hs1 h10 hx _ 0 N v (Nat.zero_add _) (by omega) hv0
end ML
section CL
variable {N : Nat} {u0 : zU} {b h : Nat} {lv : Bool} {s : zS} {u : zU} {x : Nat}
theorem RC_i {k : Nat} (hk : k ≠ 14 ∧ k ≠ 16) (hu : RC u0 s u) : gi u k = gi u0 k := by
  obtain ⟨t, rfl⟩ := hu
  unfold gi mkC va_up
  simp only
  rw [if_neg hk.2, if_neg hk.1]
theorem RC_a {k : Nat} (hk : k ≠ 18 ∧ k ≠ 23) (hu : RC u0 s u) : u.2.2.1 k = u0.2.2.1 k := by
  obtain ⟨t, rfl⟩ := hu
  unfold mkC va_up
  simp only
  rw [if_neg hk.2, if_neg hk.1]
theorem cOf33 (h15 : gi u0 15 = nI (b + 1)) (hb : b < 60) (hx : x ≤ b) (hu : RC u0 s u) : zf_CCStack_ofBlock_31_33 N (nI x) u = some (u0.2.2.1 19 (b - x), u) := by
  unfold zf_CCStack_ofBlock_31_33 zf_CCStack_ofBlock_31_33_b30 zf_CCStack_ofBlock_31_33_b29
  rw [RC_i (k := 15) (by decide) hu, h15, nI_pred, nI_sub hx, if_neg (nI_pos (by omega)), if_neg (nI_pos (by omega)), if_neg ((show ¬ (60 : Int32) ≤ nI _ from nI_ge (b := 60) (by omega) (by omega))), zck_pos (zin_of (by omega) (by omega))]
  show some (u.2.2.1 19 _, u) = _
  rw [RC_a (k := 19) (by decide) hu, nI_clamp (by omega)]
theorem cOf34 (h15 : gi u0 15 = nI (b + 1)) (hb : b < 60) (hx : x ≤ b) (hu : RC u0 s u) : zf_CCStack_ofBlock_31_34 N (nI x) u = some (u0.2.2.1 20 (b - x), u) := by
  unfold zf_CCStack_ofBlock_31_34 zf_CCStack_ofBlock_31_34_b30 zf_CCStack_ofBlock_31_34_b29
  rw [RC_i (k := 15) (by decide) hu, h15, nI_pred, nI_sub hx, if_neg (nI_pos (by omega)), if_neg (nI_pos (by omega)), if_neg ((show ¬ (60 : Int32) ≤ nI _ from nI_ge (b := 60) (by omega) (by omega))), zck_pos (zin_of (by omega) (by omega))]
  show some (u.2.2.1 20 _, u) = _
  rw [RC_a (k := 20) (by decide) hu, nI_clamp (by omega)]
theorem cOf35 (h15 : gi u0 15 = nI (b + 1)) (hb : b < 60) (hx : x ≤ b) (hu : RC u0 s u) : zf_CCStack_ofBlock_31_35 N (nI x) u = some (u0.2.2.1 21 (b - x), u) := by
  unfold zf_CCStack_ofBlock_31_35 zf_CCStack_ofBlock_31_35_b30 zf_CCStack_ofBlock_31_35_b29
  rw [RC_i (k := 15) (by decide) hu, h15, nI_pred, nI_sub hx, if_neg (nI_pos (by omega)), if_neg (nI_pos (by omega)), if_neg ((show ¬ (60 : Int32) ≤ nI _ from nI_ge (b := 60) (by omega) (by omega))), zck_pos (zin_of (by omega) (by omega))]
  show some (u.2.2.1 21 _, u) = _
  rw [RC_a (k := 21) (by decide) hu, nI_clamp (by omega)]
theorem cLabelRows (h15 : gi u0 15 = nI (b + 1)) (hb : b < 60) (hx : x ≤ b) (hu : RC u0 s u) : zf_CCStack_labelRows_31 N (nI x) u = some (if u0.2.2.1 21 (b - x) = 3 then 2 else 5, u) := by
  unfold zf_CCStack_labelRows_31
  rw [zbd_eq (cOf35 h15 hb hx hu)]
  by_cases h3 : u0.2.2.1 21 (b - x) = 3
  · rw [if_pos h3, if_pos h3]
  · rw [if_neg h3, if_neg h3]
theorem cLabelSize (h15 : gi u0 15 = nI (b + 1)) (hb : b < 60) (hx : x ≤ b) (hs0 : zSz (u0.2.2.1 0)) (hs1 : zSz (u0.2.2.1 2)) (hB : u0.2.2.1 19 (b - x) < 40) (hu : RC u0 s u) : zf_CCStack_labelSize_31 N (nI x) u = some (nI (zLn (u0.2.2.1 21 (b - x)) (u0.2.2.1 0) (u0.2.2.1 2) (u0.2.2.1 19 (b - x))), u) := by
  have a0 := RC_a (k := 0) (by decide) hu
  have a2 := RC_a (k := 2) (by decide) hu
  have c2 : zf_CCRows_sizeOf_2 N (u0.2.2.1 19 (b - x)) u = some (nI (zNn false (u0.2.2.1 0) (u0.2.2.1 19 (b - x))), u) := by rw [← a0]; exact cSize2 (by rw [a0]; exact hs0) hB
  have c5 : zf_CCRows_sizeOf_5 N (u0.2.2.1 19 (b - x)) u = some (nI (zNn true (u0.2.2.1 2) (u0.2.2.1 19 (b - x))), u) := by rw [← a2]; exact cSize5 (by rw [a2]; exact hs1) hB
  unfold zf_CCStack_labelSize_31 zLn
  rw [zbd_eq (cLabelRows h15 hb hx hu)]
  by_cases h3 : u0.2.2.1 21 (b - x) = 3
  · rw [if_pos h3, if_pos h3, if_pos rfl, zbd_eq (cOf33 h15 hb hx hu), zbd_eq c2]
  · rw [if_neg h3, if_neg h3, if_neg (by decide), if_pos rfl, zbd_eq (cOf33 h15 hb hx hu), zbd_eq c5]
theorem cTakeLabel (hN : 1000 ≤ N) (X : CxC u0 b h lv) (hx : x ≤ b) (hs0 : zSz (u0.2.2.1 0)) (hs1 : zSz (u0.2.2.1 2)) (hB : u0.2.2.1 19 (b - x) < 40) (H : zOk h s) (hu : RC u0 s u) : ∃ u', zf_CCStack_takeLabel_31 N (nI x) u = some ((), u') ∧ RC u0 (aTakes h lv (zDown (zLp (u0.2.2.1 21 (b - x)) (u0.2.2.1 1) (u0.2.2.1 3) (u0.2.2.1 19 (b - x))) (zLn (u0.2.2.1 21 (b - x)) (u0.2.2.1 0) (u0.2.2.1 2) (u0.2.2.1 19 (b - x)))) s) u' := by
  have h15 := X.1
  have hb := X.2.1
  unfold zf_CCStack_takeLabel_31 zLn zLp
  rw [zbd_eq (cLabelRows h15 hb hx hu)]
  by_cases h3 : u0.2.2.1 21 (b - x) = 3
  · obtain ⟨u1, e1, r1⟩ := cTakeRow2 hN X hs0 hB H hu
    rw [if_pos h3, if_pos h3, if_pos h3, if_pos rfl, zbd_eq (cOf33 h15 hb hx hu), zbd_eq e1]
    exact ⟨u1, rfl, r1⟩
  · obtain ⟨u1, e1, r1⟩ := cTakeRow5 hN X hs1 hB H hu
    rw [if_neg h3, if_neg h3, if_neg h3, if_neg (by decide), if_pos rfl, zbd_eq (cOf33 h15 hb hx hu), zbd_eq e1]
    exact ⟨u1, rfl, r1⟩
theorem cGiveLabel (hN : 1000 ≤ N) (X : CxC u0 b h lv) (hx : x ≤ b) (hs0 : zSz (u0.2.2.1 0)) (hs1 : zSz (u0.2.2.1 2)) (hB : u0.2.2.1 19 (b - x) < 40) (H : zOk h s) (hu : RC u0 s u) : ∃ u', zf_CCStack_giveLabel_31 N (nI x) u = some ((), u') ∧ RC u0 (aGives (zUp (zLp (u0.2.2.1 21 (b - x)) (u0.2.2.1 1) (u0.2.2.1 3) (u0.2.2.1 19 (b - x))) 0 (zLn (u0.2.2.1 21 (b - x)) (u0.2.2.1 0) (u0.2.2.1 2) (u0.2.2.1 19 (b - x)))) s) u' := by
  have h15 := X.1
  have hb := X.2.1
  unfold zf_CCStack_giveLabel_31 zLn zLp
  rw [zbd_eq (cLabelRows h15 hb hx hu)]
  by_cases h3 : u0.2.2.1 21 (b - x) = 3
  · obtain ⟨u1, e1, r1⟩ := cGiveRow2 hN hs0 hB H hu
    rw [if_pos h3, if_pos h3, if_pos h3, if_pos rfl, zbd_eq (cOf33 h15 hb hx hu), zbd_eq e1]
    exact ⟨u1, rfl, r1⟩
  · obtain ⟨u1, e1, r1⟩ := cGiveRow5 hN hs1 hB H hu
    rw [if_neg h3, if_neg h3, if_neg h3, if_neg (by decide), if_pos rfl, zbd_eq (cOf33 h15 hb hx hu), zbd_eq e1]
    exact ⟨u1, rfl, r1⟩
end CL
