/-! pure: how the class's state and the reference's hang together between two calls -/
abbrev zV (t : Int32) : Prop := t = 127 ∨ t = 126 ∨ t = 125 ∨ t = 124 ∨ t = 112 ∨ t = 111
abbrev zR (t : Int32) : Prop := t = 112 ∨ t = 111
theorem zV_ne {t : Int32} (h : zV t) : t ≠ -1 := by rcases h with rfl | rfl | rfl | rfl | rfl | rfl <;> decide
theorem zV_n0 {t : Int32} (h : zV t) : t ≠ 0 := by rcases h with rfl | rfl | rfl | rfl | rfl | rfl <;> decide
theorem zR_V {t : Int32} (h : zR t) : zV t := by rcases h with rfl | rfl <;> decide
def zVals (sz pt : Nat → Int32) : Prop := ∀ t, t < 40 → ∀ i, i < (sz t).toNatClampNeg → zV (pt (12 * t + i))
/-- what may be a thing's type -/
def zKd (ty k : Nat) (x : Int32) : Prop := (k = 0 → ∃ t, t < ty ∧ x = nI t) ∧ (k = 1 ∨ k = 4 → zR x) ∧ (k = 3 → zV x)
/-- what there is besides the code: ty types, n k things of the kind k -/
def RT (ty : Nat) (n : Nat → Nat) (u v : zU) : Prop :=
  (ty ≤ 40 ∧ gi u 0 = nI ty ∧ gi v 0 = nI ty) ∧
  (u.2.2.1 0 = v.2.2.1 0 ∧ u.2.2.1 1 = v.2.2.1 2 ∧ u.2.2.1 2 = v.2.2.1 1 ∧ u.2.2.1 3 = v.2.2.1 3) ∧
  (zSz (v.2.2.1 0) ∧ zSz (v.2.2.1 1) ∧ zVals (v.2.2.1 0) (v.2.2.1 2) ∧ zVals (v.2.2.1 1) (v.2.2.1 3)) ∧
  (∀ k, k < 6 → n k ≤ 40 ∧ gi u (k + 1) = nI (n k) ∧ v.2.2.1 4 k = nI (n k)) ∧
  (∀ k, k < 6 → k ≠ 2 → k ≠ 5 → ∀ i, i < n k → u.2.2.1 (2 * k + 4) i = v.2.2.1 5 (40 * k + i) ∧ zKd ty k (v.2.2.1 5 (40 * k + i))) ∧
  (∀ i, i < n 3 → u.2.2.1 11 i = v.2.2.1 6 (120 + i)) ∧
  ((∀ i, i < n 0 → u.2.2.1 5 i = v.2.2.1 7 i) ∧ ∀ i, n 0 ≤ i → v.2.2.1 7 i = 0)
theorem RT_to {ty : Nat} {n : Nat → Nat} {u v u' v' : zU} (h1 : ∀ k, k < 7 → gi u' k = gi u k) (h2 : ∀ k, k < 16 → u'.2.2.1 k = u.2.2.1 k) (h3 : gi v' 0 = gi v 0) (h4 : ∀ k, k < 8 → v'.2.2.1 k = v.2.2.1 k) (h : RT ty n u v) : RT ty n u' v' := by
  unfold RT at h ⊢
  rw [h1 0 (by decide), h3, h2 0 (by decide), h2 1 (by decide), h2 2 (by decide), h2 3 (by decide), h2 5 (by decide), h2 11 (by decide), h4 0 (by decide), h4 1 (by decide), h4 2 (by decide), h4 3 (by decide), h4 4 (by decide), h4 5 (by decide), h4 6 (by decide), h4 7 (by decide)]
  obtain ⟨a1, a2, a3, a5, a6, a7⟩ := h
  exact ⟨a1, a2, a3, fun k hk => by rw [h1 (k + 1) (by omega)]; exact a5 k hk, fun k hk => by rw [h2 (2 * k + 4) (by omega)]; exact a6 k hk, a7⟩
/-- a block type that may stand in code -/
def zBT (ty : Nat) (x : Int32) : Prop := x < nI ty ∧ (x < 0 → x = -64 ∨ zV (x + 128))
theorem zBT_40 {ty : Nat} {x : Int32} (hty : ty ≤ 40) (h : zBT ty x) : x < 40 := by
  have h1 := h.1
  have h2 : nI ty ≤ nI 40 := nI_le hty (by omega)
  exact Int32.lt_of_lt_of_le h1 h2
/-- blocks and operands of open code: b + 1 blocks, c operands, H the blocks' heights -/
def RB (ty b c : Nat) (H : Nat → Nat) (u v : zU) : Prop :=
  (gi u 16 = 0 ∧ b < 60 ∧ gi u 15 = nI (b + 1) ∧ gi v 10 = nI (b + 1)) ∧
  (c ≤ 200 ∧ gi u 14 = nI c ∧ gi v 9 = nI c ∧ ∀ i, i < c → u.2.2.1 18 i = v.2.2.1 10 i) ∧
  ((∀ q, q ≤ b → u.2.2.1 20 q = nI (H q) ∧ v.2.2.1 13 q = nI (H q)) ∧ (∀ q, q < b → H q ≤ H (q + 1)) ∧ H b ≤ c ∧ H 0 = 0) ∧
  ((∀ q, q ≤ b → u.2.2.1 21 q = v.2.2.1 11 q) ∧ u.2.2.1 21 0 = -1) ∧
  (∀ q, q ≤ b → (u.2.2.1 22 q = 1 ∧ v.2.2.1 14 q = 0) ∨ (u.2.2.1 22 q = 0 ∧ v.2.2.1 14 q = 1)) ∧
  ((∀ q, 1 ≤ q → q ≤ b → v.2.2.1 12 q = u.2.2.1 19 q) ∧ ∀ q, q ≤ b → zBT ty (u.2.2.1 19 q)) ∧
  ((gi v 2 = 1 ∧ gi u 9 = 0 ∧ gi v 4 = u.2.2.1 19 0 ∧ ¬ u.2.2.1 19 0 < 0) ∨ (gi v 2 = 0 ∧ gi u 9 = 1 ∧ gi v 5 = u.2.2.1 19 0 + 128 ∧ u.2.2.1 19 0 < 0 ∧ u.2.2.1 19 0 ≠ -64 ∧ gj v 0 = Int32.toInt64 (gi u 11) ∧ 0 ≤ gi u 11))
def zSum (M : Nat → Nat) : Nat → Nat
  | 0 => 0
  | n + 1 => zSum M n + M n
/-- labels and locals of open code -/
def RL (lb rw lc : Nat) (M : Nat → Nat) (u v : zU) : Prop :=
  (lb ≤ 20 ∧ gi u 7 = nI lb ∧ gi v 8 = nI lb ∧ ∀ i, i < lb → u.2.2.1 17 i = v.2.2.1 9 i) ∧
  (gi u 10 = gi v 3 ∧ zbz (gi v 3)) ∧
  (lc ≤ 40 ∧ gi u 12 = nI lc ∧ gi v 7 = nI lc) ∧
  (rw ≤ 12 + lc ∧ gi u 13 = nI rw ∧ gi v 6 = nI rw) ∧
  (∀ i, i < rw → u.2.2.1 16 i = v.2.2.1 8 i ∧ zV (v.2.2.1 8 i) ∧ v.2.2.2 0 i = Int64.ofNat (M i) ∧ M i < 2 ^ 32 ∧ u.2.2.2 0 i = Int64.ofNat (zSum M (i + 1))) ∧
  gj u 0 = Int64.ofNat (zSum M rw)
def RO (ty : Nat) (u v : zU) : Prop := ∃ (b c : Nat) (H : Nat → Nat) (lb rw lc : Nat) (M : Nat → Nat), RB ty b c H u v ∧ RL lb rw lc M u v
def zRel (u v : zU) : Prop := ∃ (ty : Nat) (n : Nat → Nat), RT ty n u v ∧ gi u 8 = gi v 1 ∧ (gi v 1 = 0 ∨ gi v 1 = 1 ∨ gi v 1 = 2) ∧ (gi v 1 = 1 → RO ty u v)
/-- it holds at the start -/
def zi_C : zU := (fun _ => 0, fun _ => 0, fun _ _ => 0, fun _ _ => 0)
def zi_M : zU := (fun _ => 0, fun _ => 0, fun _ _ => 0, fun _ _ => 0)
theorem zRel_start : zRel zi_C zi_M := by
  refine ⟨0, fun _ => 0, ⟨⟨by omega, rfl, rfl⟩, ⟨rfl, rfl, rfl, rfl⟩, ⟨fun t _ => ⟨0, by omega, rfl⟩, fun t _ => ⟨0, by omega, rfl⟩, ?_, ?_⟩, fun k _ => ⟨Nat.zero_le _, rfl, rfl⟩, fun k _ _ _ i hi => absurd hi (Nat.not_lt_zero i), fun i hi => absurd hi (Nat.not_lt_zero i), ⟨fun i hi => absurd hi (Nat.not_lt_zero i), fun i _ => rfl⟩⟩, rfl, Or.inl rfl, fun h => absurd h (by decide)⟩
  · intro t _ i hi; exact absurd hi (by show ¬ i < (0 : Int32).toNatClampNeg; simp)
  · intro t _ i hi; exact absurd hi (by show ¬ i < (0 : Int32).toNatClampNeg; simp)
