/-! pure: instructions that only take and give -/
abbrev zI : Unit → zU → Option (Unit × zU) := fun _ z => some ((), z)
theorem zbdI (X : Option (Unit × zU)) : zbd X zI = X := by
  cases X with
  | none => rfl
  | some q => obtain ⟨a, z⟩ := q; rfl
section PL
variable {N b h : Nat} {lv : Bool} {u0 v0 : zU} {s : zS} {tk : Int32} {wn : Nat} {p : Nat → Int32} {u w : zU}
/-- the class's answer and the reference's end are those of one abstract row -/
def zK1 (h : Nat) (u0 v0 : zU) (C : Option (Int32 × zU)) (R : Option (Unit × zU)) : Prop := ∃ (s' : zS) (tk' : Int32) (wn' : Nat) (p' : Nat → Int32) (u' w' : zU), C = some (s'.2.2, u') ∧ RC u0 s' u' ∧ R = some ((), w') ∧ RM v0 s' tk' wn' p' w' ∧ zOk h s'
theorem cTimes_l (t : Int32) (X : CxC u0 b h lv) : ∀ (j i n : Nat) (s : zS) (u : zU), i + j ≤ 12 → j < n → zOk h s → RC u0 s u → ∃ u', zf_CCStack_takeTimes_31_b2 N n t (nI (i + j)) (nI i) u = some ((), u') ∧ RC u0 (aTakes h lv (zDown (fun _ => t) j) s) u' := by
  intro j
  induction j with
  | zero =>
    intro i n s u h1 h2 H hu
    obtain ⟨m, rfl⟩ : ∃ m, n = m + 1 := ⟨n - 1, by omega⟩
    rw [zf_CCStack_takeTimes_31_b2, if_pos (nI_le (by omega) (by omega))]
    exact ⟨u, rfl, hu⟩
  | succ j ih =>
    intro i n s u h1 h2 H hu
    obtain ⟨m, rfl⟩ : ∃ m, n = m + 1 := ⟨n - 1, by omega⟩
    obtain ⟨u1, e1, r1⟩ := cTake (N := N) t X H hu
    rw [zf_CCStack_takeTimes_31_b2, if_neg (nI_ge (by omega) (by omega)), zbd_eq e1, nI_1, show i + (j + 1) = (i + 1) + j from by omega]
    exact ih (i + 1) m _ _ (by omega) (by omega) (zOk_take H) r1
theorem cTimes (t : Int32) (k : Nat) (hk : k ≤ 12) (hN : 1000 ≤ N) (X : CxC u0 b h lv) (H : zOk h s) (hu : RC u0 s u) : ∃ u', zf_CCStack_takeTimes_31 N t (nI k) u = some ((), u') ∧ RC u0 (aTakes h lv (zDown (fun _ => t) k) s) u' := by
  unfold zf_CCStack_takeTimes_31
  have h9 := cTimes_l (N := N) t X k 0 N s u (by omega) (by omega) H hu
  rw [Nat.zero_add] at h9
  exact h9
theorem mTk (t : Int32) (ht : t ≠ -1) (X : CxM v0 b h lv) (H : zOk h s) (hv : RM v0 s tk wn p w) : ∃ v' tk', zf_MMC_take_0 N t w = some ((), v') ∧ RM v0 (aTake h lv t s).2 tk' wn p v' := by
  obtain ⟨v', tk', e, r, -⟩ := mTake (N := N) t X H hv
  have : aTk h lv t s = aTake h lv t s := by unfold aTk; rw [if_neg ht]
  rw [this] at r
  exact ⟨v', tk', e, r⟩
theorem mOne (t g : Int32) (ht : t ≠ -1) (X : CxM v0 b h lv) (H : zOk h s) (hv : RM v0 s tk wn p w) : ∃ v' tk', zf_MMC_one_0 N t g w = some ((), v') ∧ RM v0 (aGive g (aTakes h lv (zDown (fun _ => t) 1) s)) tk' wn p v' := by
  obtain ⟨v1, tk1, e1, r1⟩ := mTk (N := N) t ht X H hv
  obtain ⟨v2, e2, r2⟩ := mGive (N := N) g (zOk_take H) r1
  unfold zf_MMC_one_0
  rw [zbd_eq e1, zbd_eq e2]
  exact ⟨v2, tk1, rfl, r2⟩
theorem mTwo (t g : Int32) (ht : t ≠ -1) (X : CxM v0 b h lv) (H : zOk h s) (hv : RM v0 s tk wn p w) : ∃ v' tk', zf_MMC_two_0 N t g w = some ((), v') ∧ RM v0 (aGive g (aTakes h lv (zDown (fun _ => t) 2) s)) tk' wn p v' := by
  obtain ⟨v1, tk1, e1, r1⟩ := mTk (N := N) t ht X H hv
  obtain ⟨v2, tk2, e2, r2⟩ := mTk (N := N) t ht X (zOk_take H) r1
  obtain ⟨v3, e3, r3⟩ := mGive (N := N) g (zOk_take (zOk_take H)) r2
  unfold zf_MMC_two_0
  rw [zbd_eq e1, zbd_eq e2, zbd_eq e3]
  exact ⟨v3, tk2, rfl, r3⟩
theorem mThree (X : CxM v0 b h lv) (H : zOk h s) (hv : RM v0 s tk wn p w) : ∃ v' tk', zf_MMC_takeThree_0 N w = some ((), v') ∧ RM v0 (aTakes h lv (zDown (fun _ => 127) 3) s) tk' wn p v' := by
  obtain ⟨v1, tk1, e1, r1⟩ := mTk (N := N) 127 (by decide) X H hv
  obtain ⟨v2, tk2, e2, r2⟩ := mTk (N := N) 127 (by decide) X (zOk_take H) r1
  obtain ⟨v3, tk3, e3, r3⟩ := mTk (N := N) 127 (by decide) X (zOk_take (zOk_take H)) r2
  unfold zf_MMC_takeThree_0
  rw [zbd_eq e1, zbd_eq e2, zbd_eq e3]
  exact ⟨v3, tk3, rfl, r3⟩
theorem RC_16 (hu : RC u0 s u) : gi u 16 = s.2.2 := by obtain ⟨k, rfl⟩ := hu; rfl
/-- a line of the class's table: k operands of the type t, and g comes -/
theorem zLine {i x L : Int32} (k : Nat) (t g : Int32) (hg : g ≠ -1) (hk : k ≤ 3) (hN : 1000 ≤ N) (X : CxC u0 b h lv) (H : zOk h s) (hu : RC u0 s u) (hpl : zf_CCC_plainLine N i u = some (L, u)) (hL : ¬ L < 0) (hc : ∀ z, zf_CCCode_carryOutPlain_26 N L z = zbd (zf_CCStack_takeTimes_31 N t (nI k) z) (fun _ z => if g = -1 then some ((), z) else zbd (zf_CCStack_give_31 N g z) (fun _ z => some ((), z))))
    {R : Option (Unit × zU)} (hm : ∃ v' tk', R = some ((), v') ∧ RM v0 (aGive g (aTakes h lv (zDown (fun _ => t) k) s)) tk' wn p v') : zK1 h u0 v0 (zf_CCCode_carryOut_26 N i x u) R := by
  obtain ⟨u1, e1, r1⟩ := cTimes (N := N) t k (by omega) hN X H hu
  obtain ⟨v', tk', em, rm⟩ := hm
  have H1 : zOk h (aTakes h lv (zDown (fun _ => t) k) s) := zOk_takes _ H
  obtain ⟨u2, e2, r2⟩ := cGive (N := N) g H1 r1
  unfold zf_CCCode_carryOut_26 zf_CCCode_carryOut_26_b88
  rw [zbd_eq hpl, if_neg hL, hc u, zbd_eq e1, if_neg hg, zbd_eq e2]
  exact ⟨_, tk', wn, p, u2, v', by show some (gi u2 16, u2) = _; rw [RC_16 r2], r2, em, rm, zOk_give H1⟩
/-- nothing comes -/
theorem zLine3 {i x L : Int32} (k : Nat) (t : Int32) (hk : k ≤ 3) (hN : 1000 ≤ N) (X : CxC u0 b h lv) (H : zOk h s) (hu : RC u0 s u) (hpl : zf_CCC_plainLine N i u = some (L, u)) (hL : ¬ L < 0) (hc : ∀ z, zf_CCCode_carryOutPlain_26 N L z = zbd (zf_CCStack_takeTimes_31 N t (nI k) z) (fun _ z => if (-1 : Int32) = -1 then some ((), z) else zbd (zf_CCStack_give_31 N (-1) z) (fun _ z => some ((), z))))
    {R : Option (Unit × zU)} (hm : ∃ v' tk', R = some ((), v') ∧ RM v0 (aTakes h lv (zDown (fun _ => t) k) s) tk' wn p v') : zK1 h u0 v0 (zf_CCCode_carryOut_26 N i x u) R := by
  obtain ⟨u1, e1, r1⟩ := cTimes (N := N) t k (by omega) hN X H hu
  obtain ⟨v', tk', em, rm⟩ := hm
  have H1 : zOk h (aTakes h lv (zDown (fun _ => t) k) s) := zOk_takes _ H
  unfold zf_CCCode_carryOut_26 zf_CCCode_carryOut_26_b88
  rw [zbd_eq hpl, if_neg hL, hc u, zbd_eq e1, if_pos rfl]
  exact ⟨_, tk', wn, p, u1, v', by show some (gi u1 16, u1) = _; rw [RC_16 r1], r1, em, rm, H1⟩
end PL
/-- the line of an instruction, without the state -/
def zPl : Nat → Int32 → Int32 → Option Int32
  | 0, _, _ => none
  | n + 1, x, i => if 235 ≤ i + 4 then some (-1) else if zin i 235 then (if x < t_X_PLAIN.getD i.toNatClampNeg 0 then zPl n x (i + 5) else if zin (i + 1) 235 then (if t_X_PLAIN.getD (i + 1).toNatClampNeg 0 < x then zPl n x (i + 5) else some i) else none) else none
theorem zPl_eq {N : Nat} {u : zU} : ∀ (n : Nat) (x i r : Int32), zPl n x i = some r → ∀ m, zf_CCC_plainLine_b2 N (n + m) x i u = some (r, u) := by
  intro n
  induction n with
  | zero => intro x i r h; cases h
  | succ n ih =>
    intro x i r h m
    rw [zPl] at h
    rw [show n + 1 + m = (n + m) + 1 from by omega, zf_CCC_plainLine_b2]
    unfold zf_CCC_plainLine_b34
    by_cases a : 235 ≤ i + 4
    · rw [if_pos a] at h ⊢; cases h; rfl
    rw [if_neg a] at h ⊢
    by_cases b : zin i 235
    · rw [if_pos b] at h
      rw [zck_pos b]
      by_cases c : x < t_X_PLAIN.getD i.toNatClampNeg 0
      · rw [if_pos c] at h ⊢; exact ih x (i + 5) r h m
      · rw [if_neg c] at h ⊢
        by_cases d : zin (i + 1) 235
        · rw [if_pos d] at h
          rw [zck_pos d]
          by_cases e : t_X_PLAIN.getD (i + 1).toNatClampNeg 0 < x
          · rw [if_pos e] at h ⊢; exact ih x (i + 5) r h m
          · rw [if_neg e] at h ⊢; cases h; rfl
        · rw [if_neg d] at h; cases h
    · rw [if_neg b] at h; cases h
theorem zPl_of {N : Nat} {u : zU} {x r : Int32} (hN : 1000 ≤ N) (h : zPl 60 x 0 = some r) : zf_CCC_plainLine N x u = some (r, u) := by
  unfold zf_CCC_plainLine
  have h9 := zPl_eq (N := N) (u := u) 60 x 0 r h (N - 60)
  rw [show 60 + (N - 60) = N from by omega] at h9
  exact h9
theorem cLn_0 {N : Nat} : ∀ z, zf_CCCode_carryOutPlain_26 N 0 z = zbd (zf_CCStack_takeTimes_31 N 0 (nI 0) z) (fun _ z => if (127 : Int32) = -1 then some ((), z) else zbd (zf_CCStack_give_31 N 127 z) (fun _ z => some ((), z))) := by
  intro z
  have e3 : t_X_PLAIN.getD ((0 : Int32) + 3).toNatClampNeg 0 = 0 := by decide +kernel
  have e2 : t_X_PLAIN.getD ((0 : Int32) + 2).toNatClampNeg 0 = nI 0 := by decide +kernel
  have e4 : t_X_PLAIN.getD ((0 : Int32) + 4).toNatClampNeg 0 = 127 := by decide +kernel
  unfold zf_CCCode_carryOutPlain_26
  rw [if_neg (by decide), if_pos (by decide), zck_pos (by decide), zck_pos (by decide), e3, e2]
  congr 1
theorem cLn_5 {N : Nat} : ∀ z, zf_CCCode_carryOutPlain_26 N 5 z = zbd (zf_CCStack_takeTimes_31 N 127 (nI 1) z) (fun _ z => if (127 : Int32) = -1 then some ((), z) else zbd (zf_CCStack_give_31 N 127 z) (fun _ z => some ((), z))) := by
  intro z
  have e3 : t_X_PLAIN.getD ((5 : Int32) + 3).toNatClampNeg 0 = 127 := by decide +kernel
  have e2 : t_X_PLAIN.getD ((5 : Int32) + 2).toNatClampNeg 0 = nI 1 := by decide +kernel
  have e4 : t_X_PLAIN.getD ((5 : Int32) + 4).toNatClampNeg 0 = 127 := by decide +kernel
  unfold zf_CCCode_carryOutPlain_26
  rw [if_neg (by decide), if_pos (by decide), zck_pos (by decide), zck_pos (by decide), e3, e2]
  congr 1
theorem cLn_10 {N : Nat} : ∀ z, zf_CCCode_carryOutPlain_26 N 10 z = zbd (zf_CCStack_takeTimes_31 N 0 (nI 0) z) (fun _ z => if (127 : Int32) = -1 then some ((), z) else zbd (zf_CCStack_give_31 N 127 z) (fun _ z => some ((), z))) := by
  intro z
  have e3 : t_X_PLAIN.getD ((10 : Int32) + 3).toNatClampNeg 0 = 0 := by decide +kernel
  have e2 : t_X_PLAIN.getD ((10 : Int32) + 2).toNatClampNeg 0 = nI 0 := by decide +kernel
  have e4 : t_X_PLAIN.getD ((10 : Int32) + 4).toNatClampNeg 0 = 127 := by decide +kernel
  unfold zf_CCCode_carryOutPlain_26
  rw [if_neg (by decide), if_pos (by decide), zck_pos (by decide), zck_pos (by decide), e3, e2]
  congr 1
theorem cLn_15 {N : Nat} : ∀ z, zf_CCCode_carryOutPlain_26 N 15 z = zbd (zf_CCStack_takeTimes_31 N 0 (nI 0) z) (fun _ z => if (126 : Int32) = -1 then some ((), z) else zbd (zf_CCStack_give_31 N 126 z) (fun _ z => some ((), z))) := by
  intro z
  have e3 : t_X_PLAIN.getD ((15 : Int32) + 3).toNatClampNeg 0 = 0 := by decide +kernel
  have e2 : t_X_PLAIN.getD ((15 : Int32) + 2).toNatClampNeg 0 = nI 0 := by decide +kernel
  have e4 : t_X_PLAIN.getD ((15 : Int32) + 4).toNatClampNeg 0 = 126 := by decide +kernel
  unfold zf_CCCode_carryOutPlain_26
  rw [if_neg (by decide), if_pos (by decide), zck_pos (by decide), zck_pos (by decide), e3, e2]
  congr 1
theorem cLn_20 {N : Nat} : ∀ z, zf_CCCode_carryOutPlain_26 N 20 z = zbd (zf_CCStack_takeTimes_31 N 0 (nI 0) z) (fun _ z => if (125 : Int32) = -1 then some ((), z) else zbd (zf_CCStack_give_31 N 125 z) (fun _ z => some ((), z))) := by
  intro z
  have e3 : t_X_PLAIN.getD ((20 : Int32) + 3).toNatClampNeg 0 = 0 := by decide +kernel
  have e2 : t_X_PLAIN.getD ((20 : Int32) + 2).toNatClampNeg 0 = nI 0 := by decide +kernel
  have e4 : t_X_PLAIN.getD ((20 : Int32) + 4).toNatClampNeg 0 = 125 := by decide +kernel
  unfold zf_CCCode_carryOutPlain_26
  rw [if_neg (by decide), if_pos (by decide), zck_pos (by decide), zck_pos (by decide), e3, e2]
  congr 1
theorem cLn_25 {N : Nat} : ∀ z, zf_CCCode_carryOutPlain_26 N 25 z = zbd (zf_CCStack_takeTimes_31 N 0 (nI 0) z) (fun _ z => if (124 : Int32) = -1 then some ((), z) else zbd (zf_CCStack_give_31 N 124 z) (fun _ z => some ((), z))) := by
  intro z
  have e3 : t_X_PLAIN.getD ((25 : Int32) + 3).toNatClampNeg 0 = 0 := by decide +kernel
  have e2 : t_X_PLAIN.getD ((25 : Int32) + 2).toNatClampNeg 0 = nI 0 := by decide +kernel
  have e4 : t_X_PLAIN.getD ((25 : Int32) + 4).toNatClampNeg 0 = 124 := by decide +kernel
  unfold zf_CCCode_carryOutPlain_26
  rw [if_neg (by decide), if_pos (by decide), zck_pos (by decide), zck_pos (by decide), e3, e2]
  congr 1
theorem cLn_30 {N : Nat} : ∀ z, zf_CCCode_carryOutPlain_26 N 30 z = zbd (zf_CCStack_takeTimes_31 N 127 (nI 1) z) (fun _ z => if (127 : Int32) = -1 then some ((), z) else zbd (zf_CCStack_give_31 N 127 z) (fun _ z => some ((), z))) := by
  intro z
  have e3 : t_X_PLAIN.getD ((30 : Int32) + 3).toNatClampNeg 0 = 127 := by decide +kernel
  have e2 : t_X_PLAIN.getD ((30 : Int32) + 2).toNatClampNeg 0 = nI 1 := by decide +kernel
  have e4 : t_X_PLAIN.getD ((30 : Int32) + 4).toNatClampNeg 0 = 127 := by decide +kernel
  unfold zf_CCCode_carryOutPlain_26
  rw [if_neg (by decide), if_pos (by decide), zck_pos (by decide), zck_pos (by decide), e3, e2]
  congr 1
theorem cLn_35 {N : Nat} : ∀ z, zf_CCCode_carryOutPlain_26 N 35 z = zbd (zf_CCStack_takeTimes_31 N 127 (nI 2) z) (fun _ z => if (127 : Int32) = -1 then some ((), z) else zbd (zf_CCStack_give_31 N 127 z) (fun _ z => some ((), z))) := by
  intro z
  have e3 : t_X_PLAIN.getD ((35 : Int32) + 3).toNatClampNeg 0 = 127 := by decide +kernel
  have e2 : t_X_PLAIN.getD ((35 : Int32) + 2).toNatClampNeg 0 = nI 2 := by decide +kernel
  have e4 : t_X_PLAIN.getD ((35 : Int32) + 4).toNatClampNeg 0 = 127 := by decide +kernel
  unfold zf_CCCode_carryOutPlain_26
  rw [if_neg (by decide), if_pos (by decide), zck_pos (by decide), zck_pos (by decide), e3, e2]
  congr 1
theorem cLn_40 {N : Nat} : ∀ z, zf_CCCode_carryOutPlain_26 N 40 z = zbd (zf_CCStack_takeTimes_31 N 126 (nI 1) z) (fun _ z => if (127 : Int32) = -1 then some ((), z) else zbd (zf_CCStack_give_31 N 127 z) (fun _ z => some ((), z))) := by
  intro z
  have e3 : t_X_PLAIN.getD ((40 : Int32) + 3).toNatClampNeg 0 = 126 := by decide +kernel
  have e2 : t_X_PLAIN.getD ((40 : Int32) + 2).toNatClampNeg 0 = nI 1 := by decide +kernel
  have e4 : t_X_PLAIN.getD ((40 : Int32) + 4).toNatClampNeg 0 = 127 := by decide +kernel
  unfold zf_CCCode_carryOutPlain_26
  rw [if_neg (by decide), if_pos (by decide), zck_pos (by decide), zck_pos (by decide), e3, e2]
  congr 1
theorem cLn_45 {N : Nat} : ∀ z, zf_CCCode_carryOutPlain_26 N 45 z = zbd (zf_CCStack_takeTimes_31 N 126 (nI 2) z) (fun _ z => if (127 : Int32) = -1 then some ((), z) else zbd (zf_CCStack_give_31 N 127 z) (fun _ z => some ((), z))) := by
  intro z
  have e3 : t_X_PLAIN.getD ((45 : Int32) + 3).toNatClampNeg 0 = 126 := by decide +kernel
  have e2 : t_X_PLAIN.getD ((45 : Int32) + 2).toNatClampNeg 0 = nI 2 := by decide +kernel
  have e4 : t_X_PLAIN.getD ((45 : Int32) + 4).toNatClampNeg 0 = 127 := by decide +kernel
  unfold zf_CCCode_carryOutPlain_26
  rw [if_neg (by decide), if_pos (by decide), zck_pos (by decide), zck_pos (by decide), e3, e2]
  congr 1
theorem cLn_50 {N : Nat} : ∀ z, zf_CCCode_carryOutPlain_26 N 50 z = zbd (zf_CCStack_takeTimes_31 N 125 (nI 2) z) (fun _ z => if (127 : Int32) = -1 then some ((), z) else zbd (zf_CCStack_give_31 N 127 z) (fun _ z => some ((), z))) := by
  intro z
  have e3 : t_X_PLAIN.getD ((50 : Int32) + 3).toNatClampNeg 0 = 125 := by decide +kernel
  have e2 : t_X_PLAIN.getD ((50 : Int32) + 2).toNatClampNeg 0 = nI 2 := by decide +kernel
  have e4 : t_X_PLAIN.getD ((50 : Int32) + 4).toNatClampNeg 0 = 127 := by decide +kernel
  unfold zf_CCCode_carryOutPlain_26
  rw [if_neg (by decide), if_pos (by decide), zck_pos (by decide), zck_pos (by decide), e3, e2]
  congr 1
theorem cLn_55 {N : Nat} : ∀ z, zf_CCCode_carryOutPlain_26 N 55 z = zbd (zf_CCStack_takeTimes_31 N 124 (nI 2) z) (fun _ z => if (127 : Int32) = -1 then some ((), z) else zbd (zf_CCStack_give_31 N 127 z) (fun _ z => some ((), z))) := by
  intro z
  have e3 : t_X_PLAIN.getD ((55 : Int32) + 3).toNatClampNeg 0 = 124 := by decide +kernel
  have e2 : t_X_PLAIN.getD ((55 : Int32) + 2).toNatClampNeg 0 = nI 2 := by decide +kernel
  have e4 : t_X_PLAIN.getD ((55 : Int32) + 4).toNatClampNeg 0 = 127 := by decide +kernel
  unfold zf_CCCode_carryOutPlain_26
  rw [if_neg (by decide), if_pos (by decide), zck_pos (by decide), zck_pos (by decide), e3, e2]
  congr 1
theorem cLn_60 {N : Nat} : ∀ z, zf_CCCode_carryOutPlain_26 N 60 z = zbd (zf_CCStack_takeTimes_31 N 127 (nI 1) z) (fun _ z => if (127 : Int32) = -1 then some ((), z) else zbd (zf_CCStack_give_31 N 127 z) (fun _ z => some ((), z))) := by
  intro z
  have e3 : t_X_PLAIN.getD ((60 : Int32) + 3).toNatClampNeg 0 = 127 := by decide +kernel
  have e2 : t_X_PLAIN.getD ((60 : Int32) + 2).toNatClampNeg 0 = nI 1 := by decide +kernel
  have e4 : t_X_PLAIN.getD ((60 : Int32) + 4).toNatClampNeg 0 = 127 := by decide +kernel
  unfold zf_CCCode_carryOutPlain_26
  rw [if_neg (by decide), if_pos (by decide), zck_pos (by decide), zck_pos (by decide), e3, e2]
  congr 1
theorem cLn_65 {N : Nat} : ∀ z, zf_CCCode_carryOutPlain_26 N 65 z = zbd (zf_CCStack_takeTimes_31 N 127 (nI 2) z) (fun _ z => if (127 : Int32) = -1 then some ((), z) else zbd (zf_CCStack_give_31 N 127 z) (fun _ z => some ((), z))) := by
  intro z
  have e3 : t_X_PLAIN.getD ((65 : Int32) + 3).toNatClampNeg 0 = 127 := by decide +kernel
  have e2 : t_X_PLAIN.getD ((65 : Int32) + 2).toNatClampNeg 0 = nI 2 := by decide +kernel
  have e4 : t_X_PLAIN.getD ((65 : Int32) + 4).toNatClampNeg 0 = 127 := by decide +kernel
  unfold zf_CCCode_carryOutPlain_26
  rw [if_neg (by decide), if_pos (by decide), zck_pos (by decide), zck_pos (by decide), e3, e2]
  congr 1
theorem cLn_70 {N : Nat} : ∀ z, zf_CCCode_carryOutPlain_26 N 70 z = zbd (zf_CCStack_takeTimes_31 N 126 (nI 1) z) (fun _ z => if (126 : Int32) = -1 then some ((), z) else zbd (zf_CCStack_give_31 N 126 z) (fun _ z => some ((), z))) := by
  intro z
  have e3 : t_X_PLAIN.getD ((70 : Int32) + 3).toNatClampNeg 0 = 126 := by decide +kernel
  have e2 : t_X_PLAIN.getD ((70 : Int32) + 2).toNatClampNeg 0 = nI 1 := by decide +kernel
  have e4 : t_X_PLAIN.getD ((70 : Int32) + 4).toNatClampNeg 0 = 126 := by decide +kernel
  unfold zf_CCCode_carryOutPlain_26
  rw [if_neg (by decide), if_pos (by decide), zck_pos (by decide), zck_pos (by decide), e3, e2]
  congr 1
theorem cLn_75 {N : Nat} : ∀ z, zf_CCCode_carryOutPlain_26 N 75 z = zbd (zf_CCStack_takeTimes_31 N 126 (nI 2) z) (fun _ z => if (126 : Int32) = -1 then some ((), z) else zbd (zf_CCStack_give_31 N 126 z) (fun _ z => some ((), z))) := by
  intro z
  have e3 : t_X_PLAIN.getD ((75 : Int32) + 3).toNatClampNeg 0 = 126 := by decide +kernel
  have e2 : t_X_PLAIN.getD ((75 : Int32) + 2).toNatClampNeg 0 = nI 2 := by decide +kernel
  have e4 : t_X_PLAIN.getD ((75 : Int32) + 4).toNatClampNeg 0 = 126 := by decide +kernel
  unfold zf_CCCode_carryOutPlain_26
  rw [if_neg (by decide), if_pos (by decide), zck_pos (by decide), zck_pos (by decide), e3, e2]
  congr 1
theorem cLn_80 {N : Nat} : ∀ z, zf_CCCode_carryOutPlain_26 N 80 z = zbd (zf_CCStack_takeTimes_31 N 125 (nI 1) z) (fun _ z => if (125 : Int32) = -1 then some ((), z) else zbd (zf_CCStack_give_31 N 125 z) (fun _ z => some ((), z))) := by
  intro z
  have e3 : t_X_PLAIN.getD ((80 : Int32) + 3).toNatClampNeg 0 = 125 := by decide +kernel
  have e2 : t_X_PLAIN.getD ((80 : Int32) + 2).toNatClampNeg 0 = nI 1 := by decide +kernel
  have e4 : t_X_PLAIN.getD ((80 : Int32) + 4).toNatClampNeg 0 = 125 := by decide +kernel
  unfold zf_CCCode_carryOutPlain_26
  rw [if_neg (by decide), if_pos (by decide), zck_pos (by decide), zck_pos (by decide), e3, e2]
  congr 1
theorem cLn_85 {N : Nat} : ∀ z, zf_CCCode_carryOutPlain_26 N 85 z = zbd (zf_CCStack_takeTimes_31 N 125 (nI 2) z) (fun _ z => if (125 : Int32) = -1 then some ((), z) else zbd (zf_CCStack_give_31 N 125 z) (fun _ z => some ((), z))) := by
  intro z
  have e3 : t_X_PLAIN.getD ((85 : Int32) + 3).toNatClampNeg 0 = 125 := by decide +kernel
  have e2 : t_X_PLAIN.getD ((85 : Int32) + 2).toNatClampNeg 0 = nI 2 := by decide +kernel
  have e4 : t_X_PLAIN.getD ((85 : Int32) + 4).toNatClampNeg 0 = 125 := by decide +kernel
  unfold zf_CCCode_carryOutPlain_26
  rw [if_neg (by decide), if_pos (by decide), zck_pos (by decide), zck_pos (by decide), e3, e2]
  congr 1
theorem cLn_90 {N : Nat} : ∀ z, zf_CCCode_carryOutPlain_26 N 90 z = zbd (zf_CCStack_takeTimes_31 N 124 (nI 1) z) (fun _ z => if (124 : Int32) = -1 then some ((), z) else zbd (zf_CCStack_give_31 N 124 z) (fun _ z => some ((), z))) := by
  intro z
  have e3 : t_X_PLAIN.getD ((90 : Int32) + 3).toNatClampNeg 0 = 124 := by decide +kernel
  have e2 : t_X_PLAIN.getD ((90 : Int32) + 2).toNatClampNeg 0 = nI 1 := by decide +kernel
  have e4 : t_X_PLAIN.getD ((90 : Int32) + 4).toNatClampNeg 0 = 124 := by decide +kernel
  unfold zf_CCCode_carryOutPlain_26
  rw [if_neg (by decide), if_pos (by decide), zck_pos (by decide), zck_pos (by decide), e3, e2]
  congr 1
theorem cLn_95 {N : Nat} : ∀ z, zf_CCCode_carryOutPlain_26 N 95 z = zbd (zf_CCStack_takeTimes_31 N 124 (nI 2) z) (fun _ z => if (124 : Int32) = -1 then some ((), z) else zbd (zf_CCStack_give_31 N 124 z) (fun _ z => some ((), z))) := by
  intro z
  have e3 : t_X_PLAIN.getD ((95 : Int32) + 3).toNatClampNeg 0 = 124 := by decide +kernel
  have e2 : t_X_PLAIN.getD ((95 : Int32) + 2).toNatClampNeg 0 = nI 2 := by decide +kernel
  have e4 : t_X_PLAIN.getD ((95 : Int32) + 4).toNatClampNeg 0 = 124 := by decide +kernel
  unfold zf_CCCode_carryOutPlain_26
  rw [if_neg (by decide), if_pos (by decide), zck_pos (by decide), zck_pos (by decide), e3, e2]
  congr 1
theorem cLn_100 {N : Nat} : ∀ z, zf_CCCode_carryOutPlain_26 N 100 z = zbd (zf_CCStack_takeTimes_31 N 126 (nI 1) z) (fun _ z => if (127 : Int32) = -1 then some ((), z) else zbd (zf_CCStack_give_31 N 127 z) (fun _ z => some ((), z))) := by
  intro z
  have e3 : t_X_PLAIN.getD ((100 : Int32) + 3).toNatClampNeg 0 = 126 := by decide +kernel
  have e2 : t_X_PLAIN.getD ((100 : Int32) + 2).toNatClampNeg 0 = nI 1 := by decide +kernel
  have e4 : t_X_PLAIN.getD ((100 : Int32) + 4).toNatClampNeg 0 = 127 := by decide +kernel
  unfold zf_CCCode_carryOutPlain_26
  rw [if_neg (by decide), if_pos (by decide), zck_pos (by decide), zck_pos (by decide), e3, e2]
  congr 1
theorem cLn_105 {N : Nat} : ∀ z, zf_CCCode_carryOutPlain_26 N 105 z = zbd (zf_CCStack_takeTimes_31 N 125 (nI 1) z) (fun _ z => if (127 : Int32) = -1 then some ((), z) else zbd (zf_CCStack_give_31 N 127 z) (fun _ z => some ((), z))) := by
  intro z
  have e3 : t_X_PLAIN.getD ((105 : Int32) + 3).toNatClampNeg 0 = 125 := by decide +kernel
  have e2 : t_X_PLAIN.getD ((105 : Int32) + 2).toNatClampNeg 0 = nI 1 := by decide +kernel
  have e4 : t_X_PLAIN.getD ((105 : Int32) + 4).toNatClampNeg 0 = 127 := by decide +kernel
  unfold zf_CCCode_carryOutPlain_26
  rw [if_neg (by decide), if_pos (by decide), zck_pos (by decide), zck_pos (by decide), e3, e2]
  congr 1
theorem cLn_110 {N : Nat} : ∀ z, zf_CCCode_carryOutPlain_26 N 110 z = zbd (zf_CCStack_takeTimes_31 N 124 (nI 1) z) (fun _ z => if (127 : Int32) = -1 then some ((), z) else zbd (zf_CCStack_give_31 N 127 z) (fun _ z => some ((), z))) := by
  intro z
  have e3 : t_X_PLAIN.getD ((110 : Int32) + 3).toNatClampNeg 0 = 124 := by decide +kernel
  have e2 : t_X_PLAIN.getD ((110 : Int32) + 2).toNatClampNeg 0 = nI 1 := by decide +kernel
  have e4 : t_X_PLAIN.getD ((110 : Int32) + 4).toNatClampNeg 0 = 127 := by decide +kernel
  unfold zf_CCCode_carryOutPlain_26
  rw [if_neg (by decide), if_pos (by decide), zck_pos (by decide), zck_pos (by decide), e3, e2]
  congr 1
theorem cLn_115 {N : Nat} : ∀ z, zf_CCCode_carryOutPlain_26 N 115 z = zbd (zf_CCStack_takeTimes_31 N 127 (nI 1) z) (fun _ z => if (126 : Int32) = -1 then some ((), z) else zbd (zf_CCStack_give_31 N 126 z) (fun _ z => some ((), z))) := by
  intro z
  have e3 : t_X_PLAIN.getD ((115 : Int32) + 3).toNatClampNeg 0 = 127 := by decide +kernel
  have e2 : t_X_PLAIN.getD ((115 : Int32) + 2).toNatClampNeg 0 = nI 1 := by decide +kernel
  have e4 : t_X_PLAIN.getD ((115 : Int32) + 4).toNatClampNeg 0 = 126 := by decide +kernel
  unfold zf_CCCode_carryOutPlain_26
  rw [if_neg (by decide), if_pos (by decide), zck_pos (by decide), zck_pos (by decide), e3, e2]
  congr 1
theorem cLn_120 {N : Nat} : ∀ z, zf_CCCode_carryOutPlain_26 N 120 z = zbd (zf_CCStack_takeTimes_31 N 125 (nI 1) z) (fun _ z => if (126 : Int32) = -1 then some ((), z) else zbd (zf_CCStack_give_31 N 126 z) (fun _ z => some ((), z))) := by
  intro z
  have e3 : t_X_PLAIN.getD ((120 : Int32) + 3).toNatClampNeg 0 = 125 := by decide +kernel
  have e2 : t_X_PLAIN.getD ((120 : Int32) + 2).toNatClampNeg 0 = nI 1 := by decide +kernel
  have e4 : t_X_PLAIN.getD ((120 : Int32) + 4).toNatClampNeg 0 = 126 := by decide +kernel
  unfold zf_CCCode_carryOutPlain_26
  rw [if_neg (by decide), if_pos (by decide), zck_pos (by decide), zck_pos (by decide), e3, e2]
  congr 1
theorem cLn_125 {N : Nat} : ∀ z, zf_CCCode_carryOutPlain_26 N 125 z = zbd (zf_CCStack_takeTimes_31 N 124 (nI 1) z) (fun _ z => if (126 : Int32) = -1 then some ((), z) else zbd (zf_CCStack_give_31 N 126 z) (fun _ z => some ((), z))) := by
  intro z
  have e3 : t_X_PLAIN.getD ((125 : Int32) + 3).toNatClampNeg 0 = 124 := by decide +kernel
  have e2 : t_X_PLAIN.getD ((125 : Int32) + 2).toNatClampNeg 0 = nI 1 := by decide +kernel
  have e4 : t_X_PLAIN.getD ((125 : Int32) + 4).toNatClampNeg 0 = 126 := by decide +kernel
  unfold zf_CCCode_carryOutPlain_26
  rw [if_neg (by decide), if_pos (by decide), zck_pos (by decide), zck_pos (by decide), e3, e2]
  congr 1
theorem cLn_130 {N : Nat} : ∀ z, zf_CCCode_carryOutPlain_26 N 130 z = zbd (zf_CCStack_takeTimes_31 N 127 (nI 1) z) (fun _ z => if (125 : Int32) = -1 then some ((), z) else zbd (zf_CCStack_give_31 N 125 z) (fun _ z => some ((), z))) := by
  intro z
  have e3 : t_X_PLAIN.getD ((130 : Int32) + 3).toNatClampNeg 0 = 127 := by decide +kernel
  have e2 : t_X_PLAIN.getD ((130 : Int32) + 2).toNatClampNeg 0 = nI 1 := by decide +kernel
  have e4 : t_X_PLAIN.getD ((130 : Int32) + 4).toNatClampNeg 0 = 125 := by decide +kernel
  unfold zf_CCCode_carryOutPlain_26
  rw [if_neg (by decide), if_pos (by decide), zck_pos (by decide), zck_pos (by decide), e3, e2]
  congr 1
theorem cLn_135 {N : Nat} : ∀ z, zf_CCCode_carryOutPlain_26 N 135 z = zbd (zf_CCStack_takeTimes_31 N 126 (nI 1) z) (fun _ z => if (125 : Int32) = -1 then some ((), z) else zbd (zf_CCStack_give_31 N 125 z) (fun _ z => some ((), z))) := by
  intro z
  have e3 : t_X_PLAIN.getD ((135 : Int32) + 3).toNatClampNeg 0 = 126 := by decide +kernel
  have e2 : t_X_PLAIN.getD ((135 : Int32) + 2).toNatClampNeg 0 = nI 1 := by decide +kernel
  have e4 : t_X_PLAIN.getD ((135 : Int32) + 4).toNatClampNeg 0 = 125 := by decide +kernel
  unfold zf_CCCode_carryOutPlain_26
  rw [if_neg (by decide), if_pos (by decide), zck_pos (by decide), zck_pos (by decide), e3, e2]
  congr 1
theorem cLn_140 {N : Nat} : ∀ z, zf_CCCode_carryOutPlain_26 N 140 z = zbd (zf_CCStack_takeTimes_31 N 124 (nI 1) z) (fun _ z => if (125 : Int32) = -1 then some ((), z) else zbd (zf_CCStack_give_31 N 125 z) (fun _ z => some ((), z))) := by
  intro z
  have e3 : t_X_PLAIN.getD ((140 : Int32) + 3).toNatClampNeg 0 = 124 := by decide +kernel
  have e2 : t_X_PLAIN.getD ((140 : Int32) + 2).toNatClampNeg 0 = nI 1 := by decide +kernel
  have e4 : t_X_PLAIN.getD ((140 : Int32) + 4).toNatClampNeg 0 = 125 := by decide +kernel
  unfold zf_CCCode_carryOutPlain_26
  rw [if_neg (by decide), if_pos (by decide), zck_pos (by decide), zck_pos (by decide), e3, e2]
  congr 1
theorem cLn_145 {N : Nat} : ∀ z, zf_CCCode_carryOutPlain_26 N 145 z = zbd (zf_CCStack_takeTimes_31 N 127 (nI 1) z) (fun _ z => if (124 : Int32) = -1 then some ((), z) else zbd (zf_CCStack_give_31 N 124 z) (fun _ z => some ((), z))) := by
  intro z
  have e3 : t_X_PLAIN.getD ((145 : Int32) + 3).toNatClampNeg 0 = 127 := by decide +kernel
  have e2 : t_X_PLAIN.getD ((145 : Int32) + 2).toNatClampNeg 0 = nI 1 := by decide +kernel
  have e4 : t_X_PLAIN.getD ((145 : Int32) + 4).toNatClampNeg 0 = 124 := by decide +kernel
  unfold zf_CCCode_carryOutPlain_26
  rw [if_neg (by decide), if_pos (by decide), zck_pos (by decide), zck_pos (by decide), e3, e2]
  congr 1
theorem cLn_150 {N : Nat} : ∀ z, zf_CCCode_carryOutPlain_26 N 150 z = zbd (zf_CCStack_takeTimes_31 N 126 (nI 1) z) (fun _ z => if (124 : Int32) = -1 then some ((), z) else zbd (zf_CCStack_give_31 N 124 z) (fun _ z => some ((), z))) := by
  intro z
  have e3 : t_X_PLAIN.getD ((150 : Int32) + 3).toNatClampNeg 0 = 126 := by decide +kernel
  have e2 : t_X_PLAIN.getD ((150 : Int32) + 2).toNatClampNeg 0 = nI 1 := by decide +kernel
  have e4 : t_X_PLAIN.getD ((150 : Int32) + 4).toNatClampNeg 0 = 124 := by decide +kernel
  unfold zf_CCCode_carryOutPlain_26
  rw [if_neg (by decide), if_pos (by decide), zck_pos (by decide), zck_pos (by decide), e3, e2]
  congr 1
theorem cLn_155 {N : Nat} : ∀ z, zf_CCCode_carryOutPlain_26 N 155 z = zbd (zf_CCStack_takeTimes_31 N 125 (nI 1) z) (fun _ z => if (124 : Int32) = -1 then some ((), z) else zbd (zf_CCStack_give_31 N 124 z) (fun _ z => some ((), z))) := by
  intro z
  have e3 : t_X_PLAIN.getD ((155 : Int32) + 3).toNatClampNeg 0 = 125 := by decide +kernel
  have e2 : t_X_PLAIN.getD ((155 : Int32) + 2).toNatClampNeg 0 = nI 1 := by decide +kernel
  have e4 : t_X_PLAIN.getD ((155 : Int32) + 4).toNatClampNeg 0 = 124 := by decide +kernel
  unfold zf_CCCode_carryOutPlain_26
  rw [if_neg (by decide), if_pos (by decide), zck_pos (by decide), zck_pos (by decide), e3, e2]
  congr 1
theorem cLn_160 {N : Nat} : ∀ z, zf_CCCode_carryOutPlain_26 N 160 z = zbd (zf_CCStack_takeTimes_31 N 125 (nI 1) z) (fun _ z => if (127 : Int32) = -1 then some ((), z) else zbd (zf_CCStack_give_31 N 127 z) (fun _ z => some ((), z))) := by
  intro z
  have e3 : t_X_PLAIN.getD ((160 : Int32) + 3).toNatClampNeg 0 = 125 := by decide +kernel
  have e2 : t_X_PLAIN.getD ((160 : Int32) + 2).toNatClampNeg 0 = nI 1 := by decide +kernel
  have e4 : t_X_PLAIN.getD ((160 : Int32) + 4).toNatClampNeg 0 = 127 := by decide +kernel
  unfold zf_CCCode_carryOutPlain_26
  rw [if_neg (by decide), if_pos (by decide), zck_pos (by decide), zck_pos (by decide), e3, e2]
  congr 1
theorem cLn_165 {N : Nat} : ∀ z, zf_CCCode_carryOutPlain_26 N 165 z = zbd (zf_CCStack_takeTimes_31 N 124 (nI 1) z) (fun _ z => if (126 : Int32) = -1 then some ((), z) else zbd (zf_CCStack_give_31 N 126 z) (fun _ z => some ((), z))) := by
  intro z
  have e3 : t_X_PLAIN.getD ((165 : Int32) + 3).toNatClampNeg 0 = 124 := by decide +kernel
  have e2 : t_X_PLAIN.getD ((165 : Int32) + 2).toNatClampNeg 0 = nI 1 := by decide +kernel
  have e4 : t_X_PLAIN.getD ((165 : Int32) + 4).toNatClampNeg 0 = 126 := by decide +kernel
  unfold zf_CCCode_carryOutPlain_26
  rw [if_neg (by decide), if_pos (by decide), zck_pos (by decide), zck_pos (by decide), e3, e2]
  congr 1
theorem cLn_170 {N : Nat} : ∀ z, zf_CCCode_carryOutPlain_26 N 170 z = zbd (zf_CCStack_takeTimes_31 N 127 (nI 1) z) (fun _ z => if (125 : Int32) = -1 then some ((), z) else zbd (zf_CCStack_give_31 N 125 z) (fun _ z => some ((), z))) := by
  intro z
  have e3 : t_X_PLAIN.getD ((170 : Int32) + 3).toNatClampNeg 0 = 127 := by decide +kernel
  have e2 : t_X_PLAIN.getD ((170 : Int32) + 2).toNatClampNeg 0 = nI 1 := by decide +kernel
  have e4 : t_X_PLAIN.getD ((170 : Int32) + 4).toNatClampNeg 0 = 125 := by decide +kernel
  unfold zf_CCCode_carryOutPlain_26
  rw [if_neg (by decide), if_pos (by decide), zck_pos (by decide), zck_pos (by decide), e3, e2]
  congr 1
theorem cLn_175 {N : Nat} : ∀ z, zf_CCCode_carryOutPlain_26 N 175 z = zbd (zf_CCStack_takeTimes_31 N 126 (nI 1) z) (fun _ z => if (124 : Int32) = -1 then some ((), z) else zbd (zf_CCStack_give_31 N 124 z) (fun _ z => some ((), z))) := by
  intro z
  have e3 : t_X_PLAIN.getD ((175 : Int32) + 3).toNatClampNeg 0 = 126 := by decide +kernel
  have e2 : t_X_PLAIN.getD ((175 : Int32) + 2).toNatClampNeg 0 = nI 1 := by decide +kernel
  have e4 : t_X_PLAIN.getD ((175 : Int32) + 4).toNatClampNeg 0 = 124 := by decide +kernel
  unfold zf_CCCode_carryOutPlain_26
  rw [if_neg (by decide), if_pos (by decide), zck_pos (by decide), zck_pos (by decide), e3, e2]
  congr 1
theorem cLn_180 {N : Nat} : ∀ z, zf_CCCode_carryOutPlain_26 N 180 z = zbd (zf_CCStack_takeTimes_31 N 127 (nI 1) z) (fun _ z => if (127 : Int32) = -1 then some ((), z) else zbd (zf_CCStack_give_31 N 127 z) (fun _ z => some ((), z))) := by
  intro z
  have e3 : t_X_PLAIN.getD ((180 : Int32) + 3).toNatClampNeg 0 = 127 := by decide +kernel
  have e2 : t_X_PLAIN.getD ((180 : Int32) + 2).toNatClampNeg 0 = nI 1 := by decide +kernel
  have e4 : t_X_PLAIN.getD ((180 : Int32) + 4).toNatClampNeg 0 = 127 := by decide +kernel
  unfold zf_CCCode_carryOutPlain_26
  rw [if_neg (by decide), if_pos (by decide), zck_pos (by decide), zck_pos (by decide), e3, e2]
  congr 1
theorem cLn_185 {N : Nat} : ∀ z, zf_CCCode_carryOutPlain_26 N 185 z = zbd (zf_CCStack_takeTimes_31 N 126 (nI 1) z) (fun _ z => if (126 : Int32) = -1 then some ((), z) else zbd (zf_CCStack_give_31 N 126 z) (fun _ z => some ((), z))) := by
  intro z
  have e3 : t_X_PLAIN.getD ((185 : Int32) + 3).toNatClampNeg 0 = 126 := by decide +kernel
  have e2 : t_X_PLAIN.getD ((185 : Int32) + 2).toNatClampNeg 0 = nI 1 := by decide +kernel
  have e4 : t_X_PLAIN.getD ((185 : Int32) + 4).toNatClampNeg 0 = 126 := by decide +kernel
  unfold zf_CCCode_carryOutPlain_26
  rw [if_neg (by decide), if_pos (by decide), zck_pos (by decide), zck_pos (by decide), e3, e2]
  congr 1
theorem cLn_190 {N : Nat} : ∀ z, zf_CCCode_carryOutPlain_26 N 190 z = zbd (zf_CCStack_takeTimes_31 N 0 (nI 0) z) (fun _ z => if (112 : Int32) = -1 then some ((), z) else zbd (zf_CCStack_give_31 N 112 z) (fun _ z => some ((), z))) := by
  intro z
  have e3 : t_X_PLAIN.getD ((190 : Int32) + 3).toNatClampNeg 0 = 0 := by decide +kernel
  have e2 : t_X_PLAIN.getD ((190 : Int32) + 2).toNatClampNeg 0 = nI 0 := by decide +kernel
  have e4 : t_X_PLAIN.getD ((190 : Int32) + 4).toNatClampNeg 0 = 112 := by decide +kernel
  unfold zf_CCCode_carryOutPlain_26
  rw [if_neg (by decide), if_pos (by decide), zck_pos (by decide), zck_pos (by decide), e3, e2]
  congr 1
theorem cLn_195 {N : Nat} : ∀ z, zf_CCCode_carryOutPlain_26 N 195 z = zbd (zf_CCStack_takeTimes_31 N 125 (nI 1) z) (fun _ z => if (127 : Int32) = -1 then some ((), z) else zbd (zf_CCStack_give_31 N 127 z) (fun _ z => some ((), z))) := by
  intro z
  have e3 : t_X_PLAIN.getD ((195 : Int32) + 3).toNatClampNeg 0 = 125 := by decide +kernel
  have e2 : t_X_PLAIN.getD ((195 : Int32) + 2).toNatClampNeg 0 = nI 1 := by decide +kernel
  have e4 : t_X_PLAIN.getD ((195 : Int32) + 4).toNatClampNeg 0 = 127 := by decide +kernel
  unfold zf_CCCode_carryOutPlain_26
  rw [if_neg (by decide), if_pos (by decide), zck_pos (by decide), zck_pos (by decide), e3, e2]
  congr 1
theorem cLn_200 {N : Nat} : ∀ z, zf_CCCode_carryOutPlain_26 N 200 z = zbd (zf_CCStack_takeTimes_31 N 124 (nI 1) z) (fun _ z => if (127 : Int32) = -1 then some ((), z) else zbd (zf_CCStack_give_31 N 127 z) (fun _ z => some ((), z))) := by
  intro z
  have e3 : t_X_PLAIN.getD ((200 : Int32) + 3).toNatClampNeg 0 = 124 := by decide +kernel
  have e2 : t_X_PLAIN.getD ((200 : Int32) + 2).toNatClampNeg 0 = nI 1 := by decide +kernel
  have e4 : t_X_PLAIN.getD ((200 : Int32) + 4).toNatClampNeg 0 = 127 := by decide +kernel
  unfold zf_CCCode_carryOutPlain_26
  rw [if_neg (by decide), if_pos (by decide), zck_pos (by decide), zck_pos (by decide), e3, e2]
  congr 1
theorem cLn_205 {N : Nat} : ∀ z, zf_CCCode_carryOutPlain_26 N 205 z = zbd (zf_CCStack_takeTimes_31 N 125 (nI 1) z) (fun _ z => if (126 : Int32) = -1 then some ((), z) else zbd (zf_CCStack_give_31 N 126 z) (fun _ z => some ((), z))) := by
  intro z
  have e3 : t_X_PLAIN.getD ((205 : Int32) + 3).toNatClampNeg 0 = 125 := by decide +kernel
  have e2 : t_X_PLAIN.getD ((205 : Int32) + 2).toNatClampNeg 0 = nI 1 := by decide +kernel
  have e4 : t_X_PLAIN.getD ((205 : Int32) + 4).toNatClampNeg 0 = 126 := by decide +kernel
  unfold zf_CCCode_carryOutPlain_26
  rw [if_neg (by decide), if_pos (by decide), zck_pos (by decide), zck_pos (by decide), e3, e2]
  congr 1
theorem cLn_210 {N : Nat} : ∀ z, zf_CCCode_carryOutPlain_26 N 210 z = zbd (zf_CCStack_takeTimes_31 N 124 (nI 1) z) (fun _ z => if (126 : Int32) = -1 then some ((), z) else zbd (zf_CCStack_give_31 N 126 z) (fun _ z => some ((), z))) := by
  intro z
  have e3 : t_X_PLAIN.getD ((210 : Int32) + 3).toNatClampNeg 0 = 124 := by decide +kernel
  have e2 : t_X_PLAIN.getD ((210 : Int32) + 2).toNatClampNeg 0 = nI 1 := by decide +kernel
  have e4 : t_X_PLAIN.getD ((210 : Int32) + 4).toNatClampNeg 0 = 126 := by decide +kernel
  unfold zf_CCCode_carryOutPlain_26
  rw [if_neg (by decide), if_pos (by decide), zck_pos (by decide), zck_pos (by decide), e3, e2]
  congr 1
theorem cLn_215 {N : Nat} : ∀ z, zf_CCCode_carryOutPlain_26 N 215 z = zbd (zf_CCStack_takeTimes_31 N 127 (nI 3) z) (fun _ z => if ((-1) : Int32) = -1 then some ((), z) else zbd (zf_CCStack_give_31 N (-1) z) (fun _ z => some ((), z))) := by
  intro z
  have e3 : t_X_PLAIN.getD ((215 : Int32) + 3).toNatClampNeg 0 = 127 := by decide +kernel
  have e2 : t_X_PLAIN.getD ((215 : Int32) + 2).toNatClampNeg 0 = nI 3 := by decide +kernel
  have e4 : t_X_PLAIN.getD ((215 : Int32) + 4).toNatClampNeg 0 = (-1) := by decide +kernel
  unfold zf_CCCode_carryOutPlain_26
  rw [if_neg (by decide), if_pos (by decide), zck_pos (by decide), zck_pos (by decide), e3, e2]
  congr 1
theorem cLn_220 {N : Nat} : ∀ z, zf_CCCode_carryOutPlain_26 N 220 z = zbd (zf_CCStack_takeTimes_31 N 127 (nI 3) z) (fun _ z => if ((-1) : Int32) = -1 then some ((), z) else zbd (zf_CCStack_give_31 N (-1) z) (fun _ z => some ((), z))) := by
  intro z
  have e3 : t_X_PLAIN.getD ((220 : Int32) + 3).toNatClampNeg 0 = 127 := by decide +kernel
  have e2 : t_X_PLAIN.getD ((220 : Int32) + 2).toNatClampNeg 0 = nI 3 := by decide +kernel
  have e4 : t_X_PLAIN.getD ((220 : Int32) + 4).toNatClampNeg 0 = (-1) := by decide +kernel
  unfold zf_CCCode_carryOutPlain_26
  rw [if_neg (by decide), if_pos (by decide), zck_pos (by decide), zck_pos (by decide), e3, e2]
  congr 1
theorem cLn_225 {N : Nat} : ∀ z, zf_CCCode_carryOutPlain_26 N 225 z = zbd (zf_CCStack_takeTimes_31 N 127 (nI 3) z) (fun _ z => if ((-1) : Int32) = -1 then some ((), z) else zbd (zf_CCStack_give_31 N (-1) z) (fun _ z => some ((), z))) := by
  intro z
  have e3 : t_X_PLAIN.getD ((225 : Int32) + 3).toNatClampNeg 0 = 127 := by decide +kernel
  have e2 : t_X_PLAIN.getD ((225 : Int32) + 2).toNatClampNeg 0 = nI 3 := by decide +kernel
  have e4 : t_X_PLAIN.getD ((225 : Int32) + 4).toNatClampNeg 0 = (-1) := by decide +kernel
  unfold zf_CCCode_carryOutPlain_26
  rw [if_neg (by decide), if_pos (by decide), zck_pos (by decide), zck_pos (by decide), e3, e2]
  congr 1
theorem cLn_230 {N : Nat} : ∀ z, zf_CCCode_carryOutPlain_26 N 230 z = zbd (zf_CCStack_takeTimes_31 N 0 (nI 0) z) (fun _ z => if (127 : Int32) = -1 then some ((), z) else zbd (zf_CCStack_give_31 N 127 z) (fun _ z => some ((), z))) := by
  intro z
  have e3 : t_X_PLAIN.getD ((230 : Int32) + 3).toNatClampNeg 0 = 0 := by decide +kernel
  have e2 : t_X_PLAIN.getD ((230 : Int32) + 2).toNatClampNeg 0 = nI 0 := by decide +kernel
  have e4 : t_X_PLAIN.getD ((230 : Int32) + 4).toNatClampNeg 0 = 127 := by decide +kernel
  unfold zf_CCCode_carryOutPlain_26
  rw [if_neg (by decide), if_pos (by decide), zck_pos (by decide), zck_pos (by decide), e3, e2]
  congr 1
