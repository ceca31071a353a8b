/-! base: a state of numbers, a world of cells, contracts that keep to one world -/
abbrev zU : Type := (Nat → Int32) × (Nat → Int64) × (Nat → Nat → Int32) × (Nat → Nat → Int64)
abbrev zZ : Type := ClassId × ClassId × ClassId
abbrev zty (z : zZ) : List (ClassId × FieldType) := [(z.1, .int), (z.2.1, .boolean), (z.2.2, .long)]
abbrev gi (u : zU) (k : Nat) : Int32 := u.1 k
abbrev gj (u : zU) (k : Nat) : Int64 := u.2.1 k
abbrev ga (u : zU) (k : Nat) (i : Int32) : Int32 := u.2.2.1 k i.toNatClampNeg
abbrev gb (u : zU) (k : Nat) (i : Int32) : Int64 := u.2.2.2 k i.toNatClampNeg
def si (u : zU) (k : Nat) (v : Int32) : zU := (va_up u.1 k v, u.2)
def sj (u : zU) (k : Nat) (v : Int64) : zU := (u.1, va_up u.2.1 k v, u.2.2)
def sa (u : zU) (k : Nat) (i v : Int32) : zU := (u.1, u.2.1, va_up u.2.2.1 k (upd (u.2.2.1 k) i.toNatClampNeg v), u.2.2.2)
def sb (u : zU) (k : Nat) (i : Int32) (v : Int64) : zU := (u.1, u.2.1, u.2.2.1, va_up u.2.2.2 k (vp_updL (u.2.2.2 k) i.toNatClampNeg v))
abbrev zin (i : Int32) (n : Nat) : Prop := ¬ (i < 0 ∨ n ≤ i.toNatClampNeg)
abbrev zbz (v : Int32) : Prop := v = 0 ∨ v = 1
def zck {α : Type} (c : Prop) [Decidable c] (x : Option α) : Option α := if c then x else none
def zbd {α β : Type} (x : Option (α × zU)) (k : α → zU → Option β) : Option β := match x with
  | none => none
  | some q => k q.1 q.2
theorem zck_some {α : Type} {c : Prop} [Decidable c] {x : Option α} {r : α} (h : zck c x = some r) : c ∧ x = some r := by
  unfold zck at h
  by_cases hc : c
  · rw [if_pos hc] at h; exact ⟨hc, h⟩
  · rw [if_neg hc] at h; cases h
theorem zck_pos {α : Type} {c : Prop} [Decidable c] {x : Option α} (h : c) : zck c x = x := if_pos h
theorem zbd_some {α β : Type} {x : Option (α × zU)} {k : α → zU → Option β} {z : β} (h : zbd x k = some z) : ∃ r u, x = some (r, u) ∧ k r u = some z := by
  unfold zbd at h
  cases x with
  | none => cases h
  | some q => exact ⟨q.1, q.2, rfl, h⟩
theorem zbd_eq {α β : Type} {x : Option (α × zU)} {k : α → zU → Option β} {r : α} {u : zU} (h : x = some (r, u)) : zbd x k = k r u := by rw [h]; rfl
theorem zrt {α : Type} {v r : α} {u t : zU} (h : some (v, u) = some (r, t)) : v = r ∧ u = t := by cases h; exact ⟨rfl, rfl⟩

def t_X_INSTRUCTIONS : List Int32 := [0, 5, 11, 17, 26, 28, 32, 38, 40, 196, 208, 210, 256, 273]
def t_X_MOVED_BYTES : List Int32 := [4, 8, 4, 8, 1, 1, 2, 2, 1, 1, 2, 2, 4, 4, 4, 8, 4, 8, 1, 2, 1, 2, 4]
def t_X_PLAIN : List Int32 := [63, 63, 0, 0, 127, 64, 64, 1, 127, 127, 65, 65, 0, 0, 127, 66, 66, 0, 0, 126, 67, 67, 0, 0, 125, 68, 68, 0, 0, 124, 69, 69, 1, 127, 127, 70, 79, 2, 127, 127, 80, 80, 1, 126, 127, 81, 90, 2, 126, 127, 91, 96, 2, 125, 127, 97, 102, 2, 124, 127, 103, 105, 1, 127, 127, 106, 120, 2, 127, 127, 121, 123, 1, 126, 126, 124, 138, 2, 126, 126, 139, 145, 1, 125, 125, 146, 152, 2, 125, 125, 153, 159, 1, 124, 124, 160, 166, 2, 124, 124, 167, 167, 1, 126, 127, 168, 169, 1, 125, 127, 170, 171, 1, 124, 127, 172, 173, 1, 127, 126, 174, 175, 1, 125, 126, 176, 177, 1, 124, 126, 178, 179, 1, 127, 125, 180, 181, 1, 126, 125, 182, 182, 1, 124, 125, 183, 184, 1, 127, 124, 185, 186, 1, 126, 124, 187, 187, 1, 125, 124, 188, 188, 1, 125, 127, 189, 189, 1, 124, 126, 190, 190, 1, 127, 125, 191, 191, 1, 126, 124, 192, 193, 1, 127, 127, 194, 196, 1, 126, 126, 210, 210, 0, 0, 112, 256, 257, 1, 125, 127, 258, 259, 1, 124, 127, 260, 261, 1, 125, 126, 262, 263, 1, 124, 126, 264, 264, 3, 127, (-1), 266, 268, 3, 127, (-1), 270, 270, 3, 127, (-1), 272, 272, 0, 0, 127]
def t_X_MOVED_TYPE : List Int32 := [127, 126, 125, 124, 127, 127, 127, 127, 126, 126, 126, 126, 126, 126, 127, 126, 125, 124, 127, 127, 126, 126, 126]
def zst : List (String × String × List Int32) := [("CodeChecker", "INSTRUCTIONS", t_X_INSTRUCTIONS), ("CodeChecker", "MOVED_BYTES", t_X_MOVED_BYTES), ("CodeChecker", "PLAIN", t_X_PLAIN), ("CodeChecker", "MOVED_TYPE", t_X_MOVED_TYPE)]
