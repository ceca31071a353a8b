/-! pure: choice, references, labels, calls -/
def aCh (a b : Int32) (s : zS) : zS := aGive (if a = 0 then b else a) (if a ≠ 0 ∧ b ≠ 0 ∧ a ≠ b then aStop 1 (if zR a ∨ zR b then aStop 7 s else s) else (if zR a ∨ zR b then aStop 7 s else s))
theorem aCh_ne {a b : Int32} {s : zS} (e : s.2.2 ≠ 0) : aCh a b s = s := by
  have h1 : (if zR a ∨ zR b then aStop 7 s else s) = s := by
    split
    · exact aStop_ne e
    · rfl
  have h2 : (if a ≠ 0 ∧ b ≠ 0 ∧ a ≠ b then aStop 1 (if zR a ∨ zR b then aStop 7 s else s) else (if zR a ∨ zR b then aStop 7 s else s)) = s := by
    rw [h1]
    split
    · exact aStop_ne e
    · rfl
  unfold aCh
  rw [h2]; exact aGive_ne e
theorem zOk_if {h : Nat} {c : Prop} [Decidable c] {s1 s2 : zS} (h1 : zOk h s1) (h2 : zOk h s2) : zOk h (if c then s1 else s2) := by split; exact h1; exact h2
theorem zOk_ch {h : Nat} {a b : Int32} {s : zS} (H : zOk h s) : zOk h (aCh a b s) := by
  have h1 : zOk h (if zR a ∨ zR b then aStop 7 s else s) := zOk_if (zOk_stop (by decide) H) H
  exact zOk_give (zOk_if (zOk_stop (by decide) h1) h1)
section CT
variable {N b h c : Nat} {lv : Bool} {u0 v0 : zU} {s : zS} {tk : Int32} {wn : Nat} {p : Nat → Int32} {u w : zU} {x y : Int32}
theorem cCh (a d : Int32) (H : zOk h s) (hu : RC u0 s u) : ∃ u', (zbd (zf_CCC_isReferenceType N a u) (fun r10 u11 => if r10 = 0 then zbd (zf_CCC_isReferenceType N d u11) (fun r14 u15 => if r14 = 0 then zf_CCStack_choose_31_b37 N a d u15 else zf_CCStack_choose_31_b31 N a d u15) else zf_CCStack_choose_31_b31 N a d u11)) = some ((), u') ∧ RC u0 (aCh a d s) u' := by
  have hg : ∀ s u, zOk h s → RC u0 s u → ∃ u', zf_CCStack_choose_31_b55 N a d u = some ((), u') ∧ RC u0 (aGive (if a = 0 then d else a) s) u' := by
    intro s u H hu
    unfold zf_CCStack_choose_31_b55 zf_CCStack_choose_31_b65
    obtain ⟨u1, e1, r1⟩ := cGive (N := N) (if a = 0 then d else a) H hu
    by_cases a0 : a = 0
    · rw [if_pos a0] at e1 r1 ⊢; rw [if_pos a0, zbd_eq e1]; exact ⟨u1, rfl, r1⟩
    · rw [if_neg a0] at e1 r1 ⊢; rw [if_neg a0, zbd_eq e1]; exact ⟨u1, rfl, r1⟩
  have h37 : ∀ s u, zOk h s → RC u0 s u → ∃ u', zf_CCStack_choose_31_b37 N a d u = some ((), u') ∧ RC u0 (aGive (if a = 0 then d else a) (if a ≠ 0 ∧ d ≠ 0 ∧ a ≠ d then aStop 1 s else s)) u' := by
    intro s u H hu
    unfold zf_CCStack_choose_31_b37
    by_cases e : a = d
    · rw [if_pos e, if_neg (show ¬ (a ≠ 0 ∧ d ≠ 0 ∧ a ≠ d) from fun q => q.2.2 e)]; exact hg s u H hu
    rw [if_neg e]
    by_cases a0 : a = 0
    · rw [if_pos a0, if_neg (show ¬ (a ≠ 0 ∧ d ≠ 0 ∧ a ≠ d) from fun q => q.1 a0)]; exact hg s u H hu
    rw [if_neg a0]
    by_cases d0 : d = 0
    · rw [if_pos d0, if_neg (show ¬ (a ≠ 0 ∧ d ≠ 0 ∧ a ≠ d) from fun q => q.2.1 d0)]; exact hg s u H hu
    rw [if_neg d0, if_pos (show a ≠ 0 ∧ d ≠ 0 ∧ a ≠ d from ⟨a0, d0, e⟩)]
    obtain ⟨u1, e1, r1⟩ := cFail (N := N) 1 hu
    rw [zbd_eq e1]; exact hg _ u1 (zOk_stop (by decide) H) r1
  have h31 : ∃ u', zf_CCStack_choose_31_b31 N a d u = some ((), u') ∧ RC u0 (aGive (if a = 0 then d else a) (if a ≠ 0 ∧ d ≠ 0 ∧ a ≠ d then aStop 1 (aStop 7 s) else aStop 7 s)) u' := by
    obtain ⟨u1, e1, r1⟩ := cFail (N := N) 7 hu
    unfold zf_CCStack_choose_31_b31
    rw [zbd_eq e1]; exact h37 _ u1 (zOk_stop (by decide) H) r1
  unfold aCh
  rw [zbd_eq cIsR]
  by_cases ra : zR a
  · rw [if_pos ra, if_neg (show ¬ (1 : Int32) = 0 from by decide), if_pos (show zR a ∨ zR d from Or.inl ra)]; exact h31
  · rw [if_neg ra, if_pos rfl, zbd_eq cIsR]
    by_cases rd : zR d
    · rw [if_pos rd, if_neg (show ¬ (1 : Int32) = 0 from by decide), if_pos (show zR a ∨ zR d from Or.inr rd)]; exact h31
    · rw [if_neg rd, if_pos rfl, if_neg (show ¬ (zR a ∨ zR d) from fun q => q.elim ra rd)]; exact h37 s u H hu
theorem mCh (a d : Int32) (H : zOk h s) (hw : RM v0 s tk wn p w) : ∃ w', (zbd (zf_MMC_isReference N a w) (fun r10 u11 => if r10 = 0 then zbd (zf_MMC_isReference N d u11) (fun r14 u15 => if r14 = 0 then zf_MMC_choice_0_b46 N a d u15 else zf_MMC_choice_0_b40 N a d u15) else zf_MMC_choice_0_b40 N a d u11)) = some ((), w') ∧ RM v0 (aCh a d s) tk wn p w' := by
  have hg : ∀ s w, zOk h s → RM v0 s tk wn p w → ∃ u', zf_MMC_choice_0_b64 N a d w = some ((), u') ∧ RM v0 (aGive (if a = 0 then d else a) s) tk wn p u' := by
    intro s u H hu
    unfold zf_MMC_choice_0_b64 zf_MMC_choice_0_b74
    obtain ⟨u1, e1, r1⟩ := mGive (N := N) (if a = 0 then d else a) H hu
    by_cases a0 : a = 0
    · rw [if_pos a0] at e1 r1 ⊢; rw [if_pos a0, zbd_eq e1]; exact ⟨u1, rfl, r1⟩
    · rw [if_neg a0] at e1 r1 ⊢; rw [if_neg a0, zbd_eq e1]; exact ⟨u1, rfl, r1⟩
  have h37 : ∀ s w, zOk h s → RM v0 s tk wn p w → ∃ u', zf_MMC_choice_0_b46 N a d w = some ((), u') ∧ RM v0 (aGive (if a = 0 then d else a) (if a ≠ 0 ∧ d ≠ 0 ∧ a ≠ d then aStop 1 s else s)) tk wn p u' := by
    intro s u H hu
    unfold zf_MMC_choice_0_b46
    by_cases a0 : a = 0
    · rw [if_pos a0, if_neg (show ¬ (a ≠ 0 ∧ d ≠ 0 ∧ a ≠ d) from fun q => q.1 a0)]; exact hg s u H hu
    rw [if_neg a0]
    by_cases d0 : d = 0
    · rw [if_pos d0, if_neg (show ¬ (a ≠ 0 ∧ d ≠ 0 ∧ a ≠ d) from fun q => q.2.1 d0)]; exact hg s u H hu
    rw [if_neg d0]
    by_cases e : a = d
    · rw [if_pos e, if_neg (show ¬ (a ≠ 0 ∧ d ≠ 0 ∧ a ≠ d) from fun q => q.2.2 e)]; exact hg s u H hu
    rw [if_neg e, if_pos (show a ≠ 0 ∧ d ≠ 0 ∧ a ≠ d from ⟨a0, d0, e⟩)]
    obtain ⟨u1, e1, r1⟩ := mStop (N := N) 1 hu
    rw [zbd_eq e1]; exact hg _ u1 (zOk_stop (by decide) H) r1
  have h31 : ∃ u', zf_MMC_choice_0_b40 N a d w = some ((), u') ∧ RM v0 (aGive (if a = 0 then d else a) (if a ≠ 0 ∧ d ≠ 0 ∧ a ≠ d then aStop 1 (aStop 7 s) else aStop 7 s)) tk wn p u' := by
    obtain ⟨u1, e1, r1⟩ := mStop (N := N) 7 hw
    unfold zf_MMC_choice_0_b40
    rw [zbd_eq e1]; exact h37 _ u1 (zOk_stop (by decide) H) r1
  unfold aCh
  rw [zbd_eq mIsR]
  by_cases ra : zR a
  · rw [if_pos ra, if_neg (show ¬ (1 : Int32) = 0 from by decide), if_pos (show zR a ∨ zR d from Or.inl ra)]; exact h31
  · rw [if_neg ra, if_pos rfl, zbd_eq mIsR]
    by_cases rd : zR d
    · rw [if_pos rd, if_neg (show ¬ (1 : Int32) = 0 from by decide), if_pos (show zR a ∨ zR d from Or.inr rd)]; exact h31
    · rw [if_neg rd, if_pos rfl, if_neg (show ¬ (zR a ∨ zR d) from fun q => q.elim ra rd)]; exact h37 s w H hw
theorem aAny_e {s : zS} (h2 : (aAny h lv s).2.2.2 = 0) : s.2.2 = 0 := by
  by_cases e : s.2.2 = 0
  · exact e
  · rw [aAny_ne e] at h2; exact h2
theorem aTake_e {t : Int32} {s : zS} (h2 : (aTake h lv t s).2.2.2 = 0) : s.2.2 = 0 := by
  by_cases e : s.2.2 = 0
  · exact e
  · rw [aTake_ne e] at h2; exact h2
theorem mAny (X : CxM v0 b h lv) (H : zOk h s) (hv : RM v0 s tk wn p w) : ∃ v' tk', zf_MMC_take_0 N (-1) w = some ((), v') ∧ RM v0 (aAny h lv s).2 tk' wn p v' ∧ (s.2.2 = 0 → tk' = (aAny h lv s).1) := by
  obtain ⟨v', tk', e, r, q⟩ := mTake (N := N) (-1) X H hv
  have : aTk h lv (-1) s = aAny h lv s := by unfold aTk; rw [if_pos rfl]
  rw [this] at r q
  exact ⟨v', tk', e, r, q⟩
theorem RM_12 (hw : RM v0 s tk wn p w) : gi w 12 = tk := by obtain ⟨g, x, tg, rfl, hg, hx⟩ := hw; rfl
theorem zNk_27 (hN : 1000 ≤ N) (X : CxC u0 b h lv) (Y : CxM v0 b h lv) (H : zOk h s) (hu : RC u0 s u) (hw : RM v0 s tk wn p w) : zK1 h u0 v0 (zf_CCCode_carryOut_26 N 27 x u) (zf_MMC_perform_0 N 27 x y w) := by
  have hcar : zf_CCCode_carryOut_26 N 27 x u = zbd (zf_CCCode_carryOutVariable_26 N 27 x u) (fun _ z => some (gi z 16, z)) := by
    unfold zf_CCCode_carryOut_26
    rw [zbd_eq (zPl_of hN (by decide +kernel : zPl 60 27 0 = some (-1))), if_pos (by decide)]; rfl
  have hper : zf_MMC_perform_0 N 27 x y w = zbd (zbd (zf_MMC_choice_0 N w) zI) zI := rfl
  rw [hcar, hper, zbdI, zbdI]
  obtain ⟨u1, e1, r1⟩ := cTake (N := N) 127 X H hu
  have H1 := zOk_take (lv := lv) (t := 127) H
  obtain ⟨u2, e2, r2⟩ := cAny (N := N) X H1 r1
  have H2 := zOk_any (lv := lv) H1
  obtain ⟨u3, e3, r3⟩ := cAny (N := N) X H2 r2
  have H3 := zOk_any (lv := lv) H2
  obtain ⟨u4, e4, r4⟩ := cCh (N := N) (aAny h lv (aTake h lv 127 s).2).1 (aAny h lv (aAny h lv (aTake h lv 127 s).2).2).1 H3 r3
  obtain ⟨w1, k1, f1, g1⟩ := mTk (N := N) 127 (by decide) Y H hw
  obtain ⟨w2, k2, f2, g2, q2⟩ := mAny (N := N) Y H1 g1
  obtain ⟨w3, k3, f3, g3, q3⟩ := mAny (N := N) Y H2 g2
  obtain ⟨w4, f4, g4⟩ := mCh (N := N) k2 k3 H3 g3
  have hch : aCh k2 k3 (aAny h lv (aAny h lv (aTake h lv 127 s).2).2).2 = aCh (aAny h lv (aTake h lv 127 s).2).1 (aAny h lv (aAny h lv (aTake h lv 127 s).2).2).1 (aAny h lv (aAny h lv (aTake h lv 127 s).2).2).2 := by
    by_cases e : (aAny h lv (aAny h lv (aTake h lv 127 s).2).2).2.2.2 = 0
    · have e2 := aAny_e e
      rw [q2 (aAny_e e2), q3 e2]
    · rw [aCh_ne e, aCh_ne e]
  rw [hch] at g4
  refine zFin (s' := aCh (aAny h lv (aTake h lv 127 s).2).1 (aAny h lv (aAny h lv (aTake h lv 127 s).2).2).1 (aAny h lv (aAny h lv (aTake h lv 127 s).2).2).2) (u' := u4) (w' := w4) ?_ r4 ?_ g4 (zOk_ch H3)
  · show zbd (zf_CCStack_choose_31 N u) (fun _ z => some ((), z)) = some ((), u4)
    have : zf_CCStack_choose_31 N u = some ((), u4) := by
      unfold zf_CCStack_choose_31
      rw [zbd_eq e1, zbd_eq e2, zbd_eq e3]; exact e4
    rw [zbd_eq this]
  · unfold zf_MMC_choice_0
    rw [zbd_eq f1, zbd_eq f2, zbd_eq f3, RM_12 g2, RM_12 g3]; exact f4
theorem zNk_209 (hN : 1000 ≤ N) (X : CxC u0 b h lv) (Y : CxM v0 b h lv) (H : zOk h s) (he : s.2.2 = 0) (hu : RC u0 s u) (hw : RM v0 s tk wn p w) : zK1 h u0 v0 (zf_CCCode_carryOut_26 N 209 x u) (zf_MMC_perform_0 N 209 x y w) := by
  have hcar : zf_CCCode_carryOut_26 N 209 x u = zbd (zf_CCCode_carryOutReference_26 N 209 x u) (fun _ z => some (gi z 16, z)) := by
    unfold zf_CCCode_carryOut_26
    rw [zbd_eq (zPl_of hN (by decide +kernel : zPl 60 209 0 = some (-1))), if_pos (by decide)]; rfl
  have hper : zf_MMC_perform_0 N 209 x y w = zbd (zbd (zf_MMC_take_0 N (-1) w) (fun _ z => if (gi z 12) = 0 then zf_MMC_other_0_b112 N z else zbd (zf_MMC_isReference N (gi z 12) z) (fun r10 u11 => if r10 = 0 then zbd (zf_MMC_stop_0 N 7 u11) (fun _ u15 => zf_MMC_other_0_b112 N u15) else zf_MMC_other_0_b112 N u11))) zI := rfl
  rw [hcar, hper, zbdI]
  obtain ⟨u1, e1, r1⟩ := cAny (N := N) X H hu
  have H1 := zOk_any (lv := lv) H
  obtain ⟨w1, k1, f1, g1, q1⟩ := mAny (N := N) Y H hw
  have q1 := q1 he
  subst q1
  have sub : ∃ s' u' w', zf_CCStack_takeReference_31 N u = some ((), u') ∧ RC u0 s' u' ∧ zOk h s' ∧ RM v0 s' (aAny h lv s).1 wn p w' ∧ (if (aAny h lv s).1 = 0 then zf_MMC_other_0_b112 N w1 else zbd (zf_MMC_isReference N (aAny h lv s).1 w1) (fun r10 u11 => if r10 = 0 then zbd (zf_MMC_stop_0 N 7 u11) (fun _ u15 => zf_MMC_other_0_b112 N u15) else zf_MMC_other_0_b112 N u11)) = zf_MMC_other_0_b112 N w' := by
    unfold zf_CCStack_takeReference_31 zf_CCStack_takeReference_31_b22
    rw [zbd_eq e1, zbd_eq cIsR, zbd_eq mIsR]
    by_cases a0 : (aAny h lv s).1 = 0
    · rw [if_pos a0, if_pos a0]; exact ⟨_, u1, w1, rfl, r1, H1, g1, rfl⟩
    · rw [if_neg a0, if_neg a0]
      by_cases r : zR (aAny h lv s).1
      · rw [if_pos r, if_neg (show ¬ (1 : Int32) = 0 from by decide), if_neg (show ¬ (1 : Int32) = 0 from by decide)]; exact ⟨_, u1, w1, rfl, r1, H1, g1, rfl⟩
      · rw [if_neg r, if_pos rfl, if_pos rfl]
        obtain ⟨u2, e2, r2⟩ := cFail (N := N) 7 r1
        obtain ⟨w2, f2, g2⟩ := mStop (N := N) 7 g1
        rw [zbd_eq e2, zbd_eq f2]
        exact ⟨_, u2, w2, rfl, r2, zOk_stop (by decide) H1, g2, rfl⟩
  obtain ⟨s', u', w', a1, a2, a3, a4, a5⟩ := sub
  obtain ⟨u3, e3, r3⟩ := cGive (N := N) 127 a3 a2
  obtain ⟨w3, f3, g3⟩ := mGive (N := N) 127 a3 a4
  refine zFin (u' := u3) (w' := w3) ?_ r3 ?_ g3 (zOk_give a3)
  · show zbd (zf_CCStack_takeReference_31 N u) (fun _ z => zbd (zf_CCStack_give_31 N 127 z) (fun _ z => some ((), z))) = some ((), u3)
    rw [zbd_eq a1, zbd_eq e3]
  · rw [zbd_eq f1, RM_12 g1, a5]
    unfold zf_MMC_other_0_b112 zf_MMC_other_0_b188
    rw [zbd_eq f3]
theorem zNk_1 (hN : 1000 ≤ N) (H : zOk h s) (hu : RC u0 s u) (hw : RM v0 s tk wn p w) : zK1 h u0 v0 (zf_CCCode_carryOut_26 N 1 x u) (zf_MMC_perform_0 N 1 x y w) := by
  have hcar : zf_CCCode_carryOut_26 N 1 x u = zbd (zf_CCCode_carryOutBlock_26 N 1 x u) (fun _ z => some (gi z 16, z)) := by
    unfold zf_CCCode_carryOut_26
    rw [zbd_eq (zPl_of hN (by decide +kernel : zPl 60 1 0 = some (-1))), if_pos (by decide)]; rfl
  have hper : zf_MMC_perform_0 N 1 x y w = zbd (zbd (zf_MMC_wantNothing_0 N w) (fun _ z => some ((), z))) zI := rfl
  obtain ⟨w1, f1, g1⟩ := mWantNothing (N := N) p hw
  rw [hcar, hper, zbdI]
  exact zFin (show some ((), u) = some ((), u) from rfl) hu (by rw [zbd_eq f1]) g1 H
end CT
