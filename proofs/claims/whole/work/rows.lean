section
/-! base: a state of numbers, a world of cells, contracts that keep to one world -/
abbrev zU : Type := (Nat → Int32) × (Nat → Int64) × (Nat → Nat → Int32) × (Nat → Nat → Int64)
abbrev zZ : Type := ClassId × ClassId × ClassId
abbrev zty (z : zZ) : List (ClassId × FieldType) := [(z.1, .int), (z.2.1, .boolean), (z.2.2, .long)]
abbrev gi (u : zU) (k : Nat) : Int32 := u.1 k
abbrev gj (u : zU) (k : Nat) : Int64 := u.2.1 k
abbrev ga (u : zU) (k : Nat) (i : Int32) : Int32 := u.2.2.1 k i.toNatClampNeg
abbrev gb (u : zU) (k : Nat) (i : Int32) : Int64 := u.2.2.2 k i.toNatClampNeg
def si (u : zU) (k : Nat) (v : Int32) : zU := (va_up u.1 k v, u.2)
def sj (u : zU) (k : Nat) (v : Int64) : zU := (u.1, va_up u.2.1 k v, u.2.2)
def sa (u : zU) (k : Nat) (i v : Int32) : zU := (u.1, u.2.1, va_up u.2.2.1 k (upd (u.2.2.1 k) i.toNatClampNeg v), u.2.2.2)
def sb (u : zU) (k : Nat) (i : Int32) (v : Int64) : zU := (u.1, u.2.1, u.2.2.1, va_up u.2.2.2 k (vp_updL (u.2.2.2 k) i.toNatClampNeg v))
abbrev zin (i : Int32) (n : Nat) : Prop := ¬ (i < 0 ∨ n ≤ i.toNatClampNeg)
abbrev zbz (v : Int32) : Prop := v = 0 ∨ v = 1
def zck {α : Type} (c : Prop) [Decidable c] (x : Option α) : Option α := if c then x else none
def zbd {α β : Type} (x : Option (α × zU)) (k : α → zU → Option β) : Option β := match x with
  | none => none
  | some q => k q.1 q.2
theorem zck_some {α : Type} {c : Prop} [Decidable c] {x : Option α} {r : α} (h : zck c x = some r) : c ∧ x = some r := by
  unfold zck at h
  by_cases hc : c
  · rw [if_pos hc] at h; exact ⟨hc, h⟩
  · rw [if_neg hc] at h; cases h
theorem zck_pos {α : Type} {c : Prop} [Decidable c] {x : Option α} (h : c) : zck c x = x := if_pos h
theorem zbd_some {α β : Type} {x : Option (α × zU)} {k : α → zU → Option β} {z : β} (h : zbd x k = some z) : ∃ r u, x = some (r, u) ∧ k r u = some z := by
  unfold zbd at h
  cases x with
  | none => cases h
  | some q => exact ⟨q.1, q.2, rfl, h⟩
theorem zbd_eq {α β : Type} {x : Option (α × zU)} {k : α → zU → Option β} {r : α} {u : zU} (h : x = some (r, u)) : zbd x k = k r u := by rw [h]; rfl
theorem zrt {α : Type} {v r : α} {u t : zU} (h : some (v, u) = some (r, t)) : v = r ∧ u = t := by cases h; exact ⟨rfl, rfl⟩

def t_X_INSTRUCTIONS : List Int32 := [0, 5, 11, 17, 26, 28, 32, 38, 40, 196, 208, 210, 256, 273]
def t_X_MOVED_BYTES : List Int32 := [4, 8, 4, 8, 1, 1, 2, 2, 1, 1, 2, 2, 4, 4, 4, 8, 4, 8, 1, 2, 1, 2, 4]
def t_X_PLAIN : List Int32 := [63, 63, 0, 0, 127, 64, 64, 1, 127, 127, 65, 65, 0, 0, 127, 66, 66, 0, 0, 126, 67, 67, 0, 0, 125, 68, 68, 0, 0, 124, 69, 69, 1, 127, 127, 70, 79, 2, 127, 127, 80, 80, 1, 126, 127, 81, 90, 2, 126, 127, 91, 96, 2, 125, 127, 97, 102, 2, 124, 127, 103, 105, 1, 127, 127, 106, 120, 2, 127, 127, 121, 123, 1, 126, 126, 124, 138, 2, 126, 126, 139, 145, 1, 125, 125, 146, 152, 2, 125, 125, 153, 159, 1, 124, 124, 160, 166, 2, 124, 124, 167, 167, 1, 126, 127, 168, 169, 1, 125, 127, 170, 171, 1, 124, 127, 172, 173, 1, 127, 126, 174, 175, 1, 125, 126, 176, 177, 1, 124, 126, 178, 179, 1, 127, 125, 180, 181, 1, 126, 125, 182, 182, 1, 124, 125, 183, 184, 1, 127, 124, 185, 186, 1, 126, 124, 187, 187, 1, 125, 124, 188, 188, 1, 125, 127, 189, 189, 1, 124, 126, 190, 190, 1, 127, 125, 191, 191, 1, 126, 124, 192, 193, 1, 127, 127, 194, 196, 1, 126, 126, 210, 210, 0, 0, 112, 256, 257, 1, 125, 127, 258, 259, 1, 124, 127, 260, 261, 1, 125, 126, 262, 263, 1, 124, 126, 264, 264, 3, 127, (-1), 266, 268, 3, 127, (-1), 270, 270, 3, 127, (-1), 272, 272, 0, 0, 127]
def t_X_MOVED_TYPE : List Int32 := [127, 126, 125, 124, 127, 127, 127, 127, 126, 126, 126, 126, 126, 126, 127, 126, 125, 124, 127, 127, 126, 126, 126]
def zst : List (String × String × List Int32) := [("CodeChecker", "INSTRUCTIONS", t_X_INSTRUCTIONS), ("CodeChecker", "MOVED_BYTES", t_X_MOVED_BYTES), ("CodeChecker", "PLAIN", t_X_PLAIN), ("CodeChecker", "MOVED_TYPE", t_X_MOVED_TYPE)]
end
section
def zf_CCThings_makeType_1 (N : Nat)  (u : zU) : Option (Int32 × zU) :=
  if (gi u 0) < 40 then
  some ((((gi u 0) + 1) - 1), (si u 0 ((gi u 0) + 1)))
  else
  some ((-1), u)
def zf_CCC_type_0 (N : Nat)  (u : zU) : Option (Int32 × zU) :=
  zbd (zf_CCThings_makeType_1 N  u) (fun r1 u2 =>
  some (r1, u2))
def zf_CCCode_isOpen_26_b13 (N : Nat)  (s0 : Int32) (u : zU) : Option (Int32 × zU) :=
  zck (zbz s0) (some (s0, u))
def zf_CCCode_isOpen_26 (N : Nat)  (u : zU) : Option (Int32 × zU) :=
  if (gi u 8) = 1 then
  zf_CCCode_isOpen_26_b13 N  1 u
  else
  zf_CCCode_isOpen_26_b13 N  0 u
def zf_CCC_isReferenceType_b17 (N : Nat)  (s0 : Int32) (u : zU) : Option (Int32 × zU) :=
  zck (zbz s0) (some (s0, u))
def zf_CCC_isReferenceType_b12 (N : Nat)   (u : zU) : Option (Int32 × zU) :=
  zf_CCC_isReferenceType_b17 N  1 u
def zf_CCC_isReferenceType (N : Nat) (x0 : Int32) (u : zU) : Option (Int32 × zU) :=
  if x0 = 112 then
  zf_CCC_isReferenceType_b12 N   u
  else
  if x0 = 111 then
    zf_CCC_isReferenceType_b12 N   u
    else
    zf_CCC_isReferenceType_b17 N  0 u
def zf_CCC_isValueType_b36 (N : Nat)  (s0 : Int32) (u : zU) : Option (Int32 × zU) :=
  zck (zbz s0) (some (s0, u))
def zf_CCC_isValueType_b31 (N : Nat)   (u : zU) : Option (Int32 × zU) :=
  zf_CCC_isValueType_b36 N  1 u
def zf_CCC_isValueType (N : Nat) (x0 : Int32) (u : zU) : Option (Int32 × zU) :=
  if x0 = 127 then
  zf_CCC_isValueType_b31 N   u
  else
  if x0 = 126 then
    zf_CCC_isValueType_b31 N   u
    else
    if x0 = 125 then
      zf_CCC_isValueType_b31 N   u
      else
      if x0 = 124 then
        zf_CCC_isValueType_b31 N   u
        else
        zbd (zf_CCC_isReferenceType N x0 u) (fun r5 u6 =>
          if r5 = 0 then
          zf_CCC_isValueType_b36 N  0 u6
          else
          zf_CCC_isValueType_b31 N   u6)
def zf_CCRows_sizeOf_5_b42 (N : Nat)  (s0 : Int32) (u : zU) : Option (Int32 × zU) :=
  some (s0, u)
def zf_CCRows_sizeOf_5_b22 (N : Nat)  (s0 : Int32) (u : zU) : Option (Int32 × zU) :=
  some (s0, u)
def zf_CCRows_sizeOf_5_b21 (N : Nat)   (u : zU) : Option (Int32 × zU) :=
  zf_CCRows_sizeOf_5_b22 N  0 u
def zf_CCRows_sizeOf_5 (N : Nat) (x1 : Int32) (u : zU) : Option (Int32 × zU) :=
  if 0 ≤ x1 then
  if 40 ≤ x1 then
    zf_CCRows_sizeOf_5_b42 N  0 u
    else
    zck (zin x1 40) (zf_CCRows_sizeOf_5_b42 N  (ga u 2 x1) u)
  else
  if (1 : Int32) = 0 then
    zf_CCRows_sizeOf_5_b21 N   u
    else
    if x1 = (-64) then
      zf_CCRows_sizeOf_5_b21 N   u
      else
      zf_CCRows_sizeOf_5_b22 N  1 u
def zf_CCRows_append_5_b45 (N : Nat)   (u : zU) : Option (Int32 × zU) :=
  some ((-1), u)
def zf_CCRows_append_5 (N : Nat) (x1 : Int32) (x2 : Int32) (u : zU) : Option (Int32 × zU) :=
  zbd (zf_CCRows_sizeOf_5 N x1 u) (fun r1 u2 =>
  if x1 < 0 then
  zf_CCRows_append_5_b45 N   u2
  else
  if 40 ≤ x1 then
    zf_CCRows_append_5_b45 N   u2
    else
    if 12 ≤ r1 then
      zf_CCRows_append_5_b45 N   u2
      else
      if ((x1 * 12) + r1) < 0 then
        zf_CCRows_append_5_b45 N   u2
        else
        if ((x1 * 12) + r1) < 480 then
          zck (zin ((x1 * 12) + r1) 480) (zck (zin x1 40) (some ((r1 + 1), (sa (sa u2 3 ((x1 * 12) + r1) x2) 2 x1 (r1 + 1)))))
          else
          zf_CCRows_append_5_b45 N   u2)
def zf_CCRows_sizeOf_2_b42 (N : Nat)  (s0 : Int32) (u : zU) : Option (Int32 × zU) :=
  some (s0, u)
def zf_CCRows_sizeOf_2_b22 (N : Nat)  (s0 : Int32) (u : zU) : Option (Int32 × zU) :=
  some (s0, u)
def zf_CCRows_sizeOf_2_b21 (N : Nat)   (u : zU) : Option (Int32 × zU) :=
  zf_CCRows_sizeOf_2_b22 N  0 u
def zf_CCRows_sizeOf_2 (N : Nat) (x1 : Int32) (u : zU) : Option (Int32 × zU) :=
  if 0 ≤ x1 then
  if 40 ≤ x1 then
    zf_CCRows_sizeOf_2_b42 N  0 u
    else
    zck (zin x1 40) (zf_CCRows_sizeOf_2_b42 N  (ga u 0 x1) u)
  else
  if (0 : Int32) = 0 then
    zf_CCRows_sizeOf_2_b21 N   u
    else
    if x1 = (-64) then
      zf_CCRows_sizeOf_2_b21 N   u
      else
      zf_CCRows_sizeOf_2_b22 N  1 u
def zf_CCRows_append_2_b45 (N : Nat)   (u : zU) : Option (Int32 × zU) :=
  some ((-1), u)
def zf_CCRows_append_2 (N : Nat) (x1 : Int32) (x2 : Int32) (u : zU) : Option (Int32 × zU) :=
  zbd (zf_CCRows_sizeOf_2 N x1 u) (fun r1 u2 =>
  if x1 < 0 then
  zf_CCRows_append_2_b45 N   u2
  else
  if 40 ≤ x1 then
    zf_CCRows_append_2_b45 N   u2
    else
    if 12 ≤ r1 then
      zf_CCRows_append_2_b45 N   u2
      else
      if ((x1 * 12) + r1) < 0 then
        zf_CCRows_append_2_b45 N   u2
        else
        if ((x1 * 12) + r1) < 480 then
          zck (zin ((x1 * 12) + r1) 480) (zck (zin x1 40) (some ((r1 + 1), (sa (sa u2 1 ((x1 * 12) + r1) x2) 0 x1 (r1 + 1)))))
          else
          zf_CCRows_append_2_b45 N   u2)
def zf_CCThings_extendLatestType_1 (N : Nat) (x1 : Int32) (x2 : Int32) (u : zU) : Option (Int32 × zU) :=
  if x1 = 0 then
  zbd (zf_CCRows_append_2 N ((gi u 0) - 1) x2 u) (fun r2 u3 =>
    some (r2, u3))
  else
  zbd (zf_CCRows_append_5 N ((gi u 0) - 1) x2 u) (fun r7 u8 =>
    some (r7, u8))
def zf_CCC_part_0_b17 (N : Nat)   (u : zU) : Option (Int32 × zU) :=
  some ((-1), u)
def zf_CCC_part_0 (N : Nat) (x1 : Int32) (x2 : Int32) (u : zU) : Option (Int32 × zU) :=
  zbd (zf_CCCode_isOpen_26 N  u) (fun r1 u2 =>
  if r1 = 0 then
  zbd (zf_CCC_isValueType N x2 u2) (fun r5 u6 =>
    if r5 = 0 then
    zf_CCC_part_0_b17 N   u6
    else
    zbd (zf_CCThings_extendLatestType_1 N x1 x2 u6) (fun r9 u10 =>
      some (r9, u10)))
  else
  zf_CCC_part_0_b17 N   u2)
def zf_CCShelf_put_23_b31 (N : Nat)   (u : zU) : Option (Int32 × zU) :=
  some ((-1), u)
def zf_CCShelf_put_23 (N : Nat) (x1 : Int32) (x2 : Int32) (u : zU) : Option (Int32 × zU) :=
  if (gi u 6) < 0 then
  zf_CCShelf_put_23_b31 N   u
  else
  if 40 ≤ (gi u 6) then
    zf_CCShelf_put_23_b31 N   u
    else
    if (gi u 6) < 40 then
      zck (zin (gi u 6) 40) (zck (zin (gi u 6) 40) (some ((((gi u 6) + 1) - 1), (si (sa (sa u 14 (gi u 6) x1) 15 (gi u 6) (vp_nar .boolean x2)) 6 ((gi u 6) + 1)))))
      else
      zf_CCShelf_put_23_b31 N   u
def zf_CCShelf_put_20_b31 (N : Nat)   (u : zU) : Option (Int32 × zU) :=
  some ((-1), u)
def zf_CCShelf_put_20 (N : Nat) (x1 : Int32) (x2 : Int32) (u : zU) : Option (Int32 × zU) :=
  if (gi u 5) < 0 then
  zf_CCShelf_put_20_b31 N   u
  else
  if 40 ≤ (gi u 5) then
    zf_CCShelf_put_20_b31 N   u
    else
    if (gi u 5) < 40 then
      zck (zin (gi u 5) 40) (zck (zin (gi u 5) 40) (some ((((gi u 5) + 1) - 1), (si (sa (sa u 12 (gi u 5) x1) 13 (gi u 5) (vp_nar .boolean x2)) 5 ((gi u 5) + 1)))))
      else
      zf_CCShelf_put_20_b31 N   u
def zf_CCShelf_put_17_b31 (N : Nat)   (u : zU) : Option (Int32 × zU) :=
  some ((-1), u)
def zf_CCShelf_put_17 (N : Nat) (x1 : Int32) (x2 : Int32) (u : zU) : Option (Int32 × zU) :=
  if (gi u 4) < 0 then
  zf_CCShelf_put_17_b31 N   u
  else
  if 40 ≤ (gi u 4) then
    zf_CCShelf_put_17_b31 N   u
    else
    if (gi u 4) < 40 then
      zck (zin (gi u 4) 40) (zck (zin (gi u 4) 40) (some ((((gi u 4) + 1) - 1), (si (sa (sa u 10 (gi u 4) x1) 11 (gi u 4) (vp_nar .boolean x2)) 4 ((gi u 4) + 1)))))
      else
      zf_CCShelf_put_17_b31 N   u
def zf_CCShelf_put_14_b31 (N : Nat)   (u : zU) : Option (Int32 × zU) :=
  some ((-1), u)
def zf_CCShelf_put_14 (N : Nat) (x1 : Int32) (x2 : Int32) (u : zU) : Option (Int32 × zU) :=
  if (gi u 3) < 0 then
  zf_CCShelf_put_14_b31 N   u
  else
  if 40 ≤ (gi u 3) then
    zf_CCShelf_put_14_b31 N   u
    else
    if (gi u 3) < 40 then
      zck (zin (gi u 3) 40) (zck (zin (gi u 3) 40) (some ((((gi u 3) + 1) - 1), (si (sa (sa u 8 (gi u 3) x1) 9 (gi u 3) (vp_nar .boolean x2)) 3 ((gi u 3) + 1)))))
      else
      zf_CCShelf_put_14_b31 N   u
def zf_CCShelf_put_11_b31 (N : Nat)   (u : zU) : Option (Int32 × zU) :=
  some ((-1), u)
def zf_CCShelf_put_11 (N : Nat) (x1 : Int32) (x2 : Int32) (u : zU) : Option (Int32 × zU) :=
  if (gi u 2) < 0 then
  zf_CCShelf_put_11_b31 N   u
  else
  if 40 ≤ (gi u 2) then
    zf_CCShelf_put_11_b31 N   u
    else
    if (gi u 2) < 40 then
      zck (zin (gi u 2) 40) (zck (zin (gi u 2) 40) (some ((((gi u 2) + 1) - 1), (si (sa (sa u 6 (gi u 2) x1) 7 (gi u 2) (vp_nar .boolean x2)) 2 ((gi u 2) + 1)))))
      else
      zf_CCShelf_put_11_b31 N   u
def zf_CCThings_hasType_1_b17 (N : Nat)  (s0 : Int32) (u : zU) : Option (Int32 × zU) :=
  zck (zbz s0) (some (s0, u))
def zf_CCThings_hasType_1_b16 (N : Nat)   (u : zU) : Option (Int32 × zU) :=
  zf_CCThings_hasType_1_b17 N  0 u
def zf_CCThings_hasType_1 (N : Nat) (x1 : Int32) (u : zU) : Option (Int32 × zU) :=
  if x1 < 0 then
  zf_CCThings_hasType_1_b16 N   u
  else
  if (gi u 0) ≤ x1 then
    zf_CCThings_hasType_1_b16 N   u
    else
    zf_CCThings_hasType_1_b17 N  1 u
def zf_CCShelf_put_8_b31 (N : Nat)   (u : zU) : Option (Int32 × zU) :=
  some ((-1), u)
def zf_CCShelf_put_8 (N : Nat) (x1 : Int32) (x2 : Int32) (u : zU) : Option (Int32 × zU) :=
  if (gi u 1) < 0 then
  zf_CCShelf_put_8_b31 N   u
  else
  if 40 ≤ (gi u 1) then
    zf_CCShelf_put_8_b31 N   u
    else
    if (gi u 1) < 40 then
      zck (zin (gi u 1) 40) (zck (zin (gi u 1) 40) (some ((((gi u 1) + 1) - 1), (si (sa (sa u 4 (gi u 1) x1) 5 (gi u 1) (vp_nar .boolean x2)) 1 ((gi u 1) + 1)))))
      else
      zf_CCShelf_put_8_b31 N   u
def zf_CCThings_addThing_1_b61 (N : Nat)  (s0 : Int32) (u : zU) : Option (Int32 × zU) :=
  some (s0, u)
def zf_CCThings_addThing_1_b82 (N : Nat)  (s0 : Int32) (u : zU) : Option (Int32 × zU) :=
  some (s0, u)
def zf_CCThings_addThing_1_b131 (N : Nat)  (s0 : Int32) (u : zU) : Option (Int32 × zU) :=
  some (s0, u)
def zf_CCThings_addThing_1_b130 (N : Nat)   (u : zU) : Option (Int32 × zU) :=
  zf_CCThings_addThing_1_b131 N  (-1) u
def zf_CCThings_addThing_1_b124 (N : Nat)  (s0 : Int32) (s1 : Int32) (u : zU) : Option (Int32 × zU) :=
  zbd (zf_CCShelf_put_17 N s1 s0 u) (fun r1 u2 =>
  zf_CCThings_addThing_1_b131 N  r1 u2)
def zf_CCThings_addThing_1_b109 (N : Nat)  (x2 : Int32) (x3 : Int32) (u : zU) : Option (Int32 × zU) :=
  if x3 = 1 then
  zf_CCThings_addThing_1_b124 N  1 x2 u
  else
  zf_CCThings_addThing_1_b124 N  0 x2 u
def zf_CCThings_addThing_1_b152 (N : Nat)  (s0 : Int32) (u : zU) : Option (Int32 × zU) :=
  some (s0, u)
def zf_CCThings_addThing_1 (N : Nat) (x1 : Int32) (x2 : Int32) (x3 : Int32) (u : zU) : Option (Int32 × zU) :=
  if x1 = 0 then zbd (zf_CCThings_hasType_1 N x2 u) (fun r2 u3 =>
    if r2 = 0 then
    zf_CCThings_addThing_1_b61 N  (-1) u3
    else
    zbd (zf_CCShelf_put_8 N x2 0 u3) (fun r6 u7 =>
      zf_CCThings_addThing_1_b61 N  r6 u7))
  else if x1 = 1 then zbd (zf_CCC_isReferenceType N x2 u) (fun r10 u11 =>
    if r10 = 0 then
    zf_CCThings_addThing_1_b82 N  (-1) u11
    else
    zbd (zf_CCShelf_put_11 N x2 0 u11) (fun r14 u15 =>
      zf_CCThings_addThing_1_b82 N  r14 u15))
  else if x1 = 2 then zbd (zf_CCShelf_put_14 N 0 0 u) (fun r18 u19 =>
    some (r18, u19))
  else if x1 = 3 then zbd (zf_CCC_isValueType N x2 u) (fun r24 u25 =>
    if r24 = 0 then
    zf_CCThings_addThing_1_b130 N   u25
    else
    if x3 = 0 then
      zf_CCThings_addThing_1_b109 N  x2 x3 u25
      else
      if x3 = 1 then
        zf_CCThings_addThing_1_b109 N  x2 x3 u25
        else
        zf_CCThings_addThing_1_b130 N   u25)
  else if x1 = 4 then zbd (zf_CCC_isReferenceType N x2 u) (fun r31 u32 =>
    if r31 = 0 then
    zf_CCThings_addThing_1_b152 N  (-1) u32
    else
    zbd (zf_CCShelf_put_20 N x2 0 u32) (fun r35 u36 =>
      zf_CCThings_addThing_1_b152 N  r35 u36))
  else if x1 = 5 then zbd (zf_CCShelf_put_23 N 0 0 u) (fun r39 u40 =>
    some (r39, u40))
  else some ((-1), u)
def zf_CCC_add_0 (N : Nat) (x1 : Int32) (x2 : Int32) (x3 : Int32) (u : zU) : Option (Int32 × zU) :=
  zbd (zf_CCThings_addThing_1 N x1 x2 x3 u) (fun r1 u2 =>
  some (r1, u2))
def zf_CCShelf_has_8_b17 (N : Nat)  (s0 : Int32) (u : zU) : Option (Int32 × zU) :=
  zck (zbz s0) (some (s0, u))
def zf_CCShelf_has_8_b16 (N : Nat)   (u : zU) : Option (Int32 × zU) :=
  zf_CCShelf_has_8_b17 N  0 u
def zf_CCShelf_has_8 (N : Nat) (x1 : Int32) (u : zU) : Option (Int32 × zU) :=
  if x1 < 0 then
  zf_CCShelf_has_8_b16 N   u
  else
  if (gi u 1) ≤ x1 then
    zf_CCShelf_has_8_b16 N   u
    else
    zf_CCShelf_has_8_b17 N  1 u
def zf_CCShelf_mark_8_b17 (N : Nat)   (u : zU) : Option (Int32 × zU) :=
  some (0, u)
def zf_CCShelf_mark_8 (N : Nat) (x1 : Int32) (u : zU) : Option (Int32 × zU) :=
  zbd (zf_CCShelf_has_8 N x1 u) (fun r1 u2 =>
  if r1 = 0 then
  zf_CCShelf_mark_8_b17 N   u2
  else
  if x1 < 40 then
    zck (zin x1 40) (some (1, (sa u2 5 x1 (vp_nar .boolean 1))))
    else
    zf_CCShelf_mark_8_b17 N   u2)
def zf_CCC_declare_0 (N : Nat) (x1 : Int32) (u : zU) : Option (Int32 × zU) :=
  zbd (zf_CCShelf_mark_8 N x1 u) (fun r1 u2 =>
  zck (zbz r1) (some (r1, u2)))
def zf_CCStack_pushBlock_31_b24 (N : Nat)   (u : zU) : Option (Unit × zU) :=
  some ((), (si u 16 15))
def zf_CCStack_pushBlock_31 (N : Nat) (x1 : Int32) (x2 : Int32) (u : zU) : Option (Unit × zU) :=
  if (gi u 16) = 0 then
  if (gi u 15) < 0 then
    zf_CCStack_pushBlock_31_b24 N   u
    else
    if (gi u 15) < 60 then
      zck (zin (gi u 15) 60) (zck (zin (gi u 15) 60) (zck (zin (gi u 15) 60) (zck (zin (gi u 15) 60) (some ((), (si (sa (sa (sa (sa u 19 (gi u 15) x2) 20 (gi u 15) (gi u 14)) 21 (gi u 15) x1) 22 (gi u 15) (vp_nar .boolean 1)) 15 ((gi u 15) + 1)))))))
      else
      zf_CCStack_pushBlock_31_b24 N   u
  else
  some ((), u)
def zf_CCStack_restart_31 (N : Nat) (x1 : Int32) (u : zU) : Option (Unit × zU) :=
  zbd (zf_CCStack_pushBlock_31 N (-1) x1 (si (si (si u 14 0) 15 0) 16 0)) (fun r1 u2 =>
  some ((), u2))
def zf_CCLocals_clear_27 (N : Nat)  (u : zU) : Option (Unit × zU) :=
  some ((), (sj (si u 13 0) 0 0))
def zf_CCCode_open_26 (N : Nat) (x1 : Int32) (x2 : Int32) (u : zU) : Option (Unit × zU) :=
  zbd (zf_CCStack_restart_31 N x1 u) (fun r1 u2 =>
  zbd (zf_CCLocals_clear_27 N  u2) (fun r4 u5 =>
  zck (zbz x2) (some ((), (si (si (si (si (si u5 7 0) 12 0) 10 0) 9 x2) 8 1)))))
def zf_CCRows_partOf_2_b26 (N : Nat)   (u : zU) : Option (Int32 × zU) :=
  some (0, u)
def zf_CCRows_partOf_2 (N : Nat) (x1 : Int32) (x2 : Int32) (u : zU) : Option (Int32 × zU) :=
  if 0 ≤ x1 then
  if 40 ≤ x1 then
    zf_CCRows_partOf_2_b26 N   u
    else
    if x2 < 0 then
      zf_CCRows_partOf_2_b26 N   u
      else
      if x2 < 12 then
        zck (zin ((x1 * 12) + x2) 480) (some ((ga u 1 ((x1 * 12) + x2)), u))
        else
        zf_CCRows_partOf_2_b26 N   u
  else
  some ((x1 + 128), u)
def zf_CCLocals_append_27_b31 (N : Nat)   (u : zU) : Option (Unit × zU) :=
  some ((), u)
def zf_CCLocals_append_27 (N : Nat) (x1 : Int32) (x2 : Int64) (u : zU) : Option (Unit × zU) :=
  if (gi u 13) < 0 then
  zf_CCLocals_append_27_b31 N   u
  else
  if 52 ≤ (gi u 13) then
    zf_CCLocals_append_27_b31 N   u
    else
    if (gi u 13) < 52 then
      zck (zin (gi u 13) 52) (zck (zin (gi u 13) 52) (some ((), (si (sb (sa (sj u 0 ((gj u 0) + x2)) 16 (gi u 13) x1) 0 (gi u 13) ((gj u 0) + x2)) 13 ((gi u 13) + 1)))))
      else
      zf_CCLocals_append_27_b31 N   u
def zf_CCCode_openBody_26_b20 (N : Nat)  : Nat → Int32 → Int32 → Int32 → zU → Option (Unit × zU)
  | 0, _, _, _, _ => none
  | n + 1, x1, x2, x3, u =>
  if x2 ≤ x3 then
  some ((), u)
  else
  zbd (zf_CCRows_partOf_2 N x1 x3 u) (fun r4 u5 =>
    zbd (zf_CCLocals_append_27 N r4 1 u5) (fun r7 u8 =>
    zf_CCCode_openBody_26_b20 N  n x1 x2 (x3 + 1) u8))
def zf_CCCode_openBody_26 (N : Nat) (x1 : Int32) (u : zU) : Option (Unit × zU) :=
  zbd (zf_CCCode_open_26 N x1 0 u) (fun r1 u2 =>
  zbd (zf_CCRows_sizeOf_2 N x1 u2) (fun r4 u5 =>
  zf_CCCode_openBody_26_b20 N  N x1 r4 0 u5))
def zf_CCC_begin_0 (N : Nat) (x1 : Int32) (u : zU) : Option (Int32 × zU) :=
  zbd (zf_CCThings_hasType_1 N x1 u) (fun r1 u2 =>
  if r1 = 0 then
  some (0, u2)
  else
  zbd (zf_CCCode_openBody_26 N x1 u2) (fun r5 u6 =>
    some (1, u6)))
def zf_CCCode_openConstant_26 (N : Nat) (x1 : Int32) (x2 : Int32) (u : zU) : Option (Unit × zU) :=
  zbd (zf_CCCode_open_26 N (x1 - 128) 1 u) (fun r1 u2 =>
  some ((), (si u2 11 x2)))
def zf_CCC_constant_0_b11 (N : Nat)   (u : zU) : Option (Int32 × zU) :=
  some (0, u)
def zf_CCC_constant_0 (N : Nat) (x1 : Int32) (x2 : Int32) (u : zU) : Option (Int32 × zU) :=
  zbd (zf_CCC_isValueType N x1 u) (fun r1 u2 =>
  if r1 = 0 then
  zf_CCC_constant_0_b11 N   u2
  else
  if 0 ≤ x2 then
    zbd (zf_CCCode_openConstant_26 N x1 x2 u2) (fun r6 u7 =>
      some (1, u7))
    else
    zf_CCC_constant_0_b11 N   u2)
def zf_CCC_withoutSign (N : Nat) (x0 : Int32) (u : zU) : Option (Int64 × zU) :=
  some (((Int32.toInt64 x0) &&& 4294967295), u)
def zf_CCCode_addLocals_26_b37 (N : Nat)   (u : zU) : Option (Int32 × zU) :=
  some (0, u)
def zf_CCCode_addLocals_26 (N : Nat) (x1 : Int32) (x2 : Int32) (u : zU) : Option (Int32 × zU) :=
  zbd (zf_CCCode_isOpen_26 N  u) (fun r1 u2 =>
  if r1 = 0 then
  zf_CCCode_addLocals_26_b37 N   u2
  else
  if (gi u2 9) = 0 then
    if (gi u2 10) = 0 then
      zbd (zf_CCC_isValueType N x1 u2) (fun r7 u8 =>
        if r7 = 0 then
        zf_CCCode_addLocals_26_b37 N   u8
        else
        if (gi u8 12) < 40 then
          zbd (zf_CCC_withoutSign N x2 u8) (fun r12 u13 =>
            zbd (zf_CCLocals_append_27 N x1 r12 u13) (fun r15 u16 =>
            some (1, (si u16 12 ((gi u16 12) + 1)))))
          else
          zf_CCCode_addLocals_26_b37 N   u8)
      else
      zf_CCCode_addLocals_26_b37 N   u2
    else
    zf_CCCode_addLocals_26_b37 N   u2)
def zf_CCC_local_0 (N : Nat) (x1 : Int32) (x2 : Int32) (u : zU) : Option (Int32 × zU) :=
  zbd (zf_CCCode_addLocals_26 N x1 x2 u) (fun r1 u2 =>
  zck (zbz r1) (some (r1, u2)))
def zf_CCCode_addLabel_26_b26 (N : Nat)   (u : zU) : Option (Int32 × zU) :=
  some ((-1), u)
def zf_CCCode_addLabel_26 (N : Nat) (x1 : Int32) (u : zU) : Option (Int32 × zU) :=
  zbd (zf_CCCode_isOpen_26 N  u) (fun r1 u2 =>
  if r1 = 0 then
  zf_CCCode_addLabel_26_b26 N   u2
  else
  if (gi u2 7) < 0 then
    zf_CCCode_addLabel_26_b26 N   u2
    else
    if (gi u2 7) < 20 then
      zck (zin (gi u2 7) 20) (some (((gi u2 7) + 1), (si (sa u2 17 (gi u2 7) x1) 7 ((gi u2 7) + 1))))
      else
      zf_CCCode_addLabel_26_b26 N   u2)
def zf_CCC_label_0 (N : Nat) (x1 : Int32) (u : zU) : Option (Int32 × zU) :=
  zbd (zf_CCCode_addLabel_26 N x1 u) (fun r1 u2 =>
  some (r1, u2))
def zf_CCC_isInstruction_b34 (N : Nat) (k2 : Int32 → Int32 → zU → Option (Int32 × zU)) (x0 : Int32) (x1 : Int32) (u : zU) : Option (Int32 × zU) :=
  k2 x0 (x1 + 2) u
def zf_CCC_isInstruction_b2 (N : Nat)  : Nat → Int32 → Int32 → zU → Option (Int32 × zU)
  | 0, _, _, _ => none
  | n + 1, x0, x1, u =>
  if 14 ≤ (x1 + 1) then
  some (0, u)
  else
  zck (zin x1 14) (if x0 < (t_X_INSTRUCTIONS.getD x1.toNatClampNeg 0) then
    zf_CCC_isInstruction_b34 N (zf_CCC_isInstruction_b2 N  n) x0 x1 u
    else
    zck (zin (x1 + 1) 14) (if (t_X_INSTRUCTIONS.getD (x1 + 1).toNatClampNeg 0) < x0 then
      zf_CCC_isInstruction_b34 N (zf_CCC_isInstruction_b2 N  n) x0 x1 u
      else
      some (1, u)))
def zf_CCC_isInstruction (N : Nat) (x0 : Int32) (u : zU) : Option (Int32 × zU) :=
  zf_CCC_isInstruction_b2 N  N x0 0 u
def zf_CCC_isBlockType_b26 (N : Nat)  (s0 : Int32) (u : zU) : Option (Int32 × zU) :=
  zck (zbz s0) (some (s0, u))
def zf_CCC_isBlockType_b21 (N : Nat)   (u : zU) : Option (Int32 × zU) :=
  zf_CCC_isBlockType_b26 N  1 u
def zf_CCC_isBlockType (N : Nat) (x0 : Int32) (u : zU) : Option (Int32 × zU) :=
  if 0 ≤ x0 then
  zf_CCC_isBlockType_b21 N   u
  else
  if x0 = (-64) then
    zf_CCC_isBlockType_b21 N   u
    else
    zbd (zf_CCC_isValueType N (x0 + 128) u) (fun r3 u4 =>
      if r3 = 0 then
      zf_CCC_isBlockType_b26 N  0 u4
      else
      zf_CCC_isBlockType_b21 N   u4)
def zf_CCCode_isMalformed_26_b64 (N : Nat)  (s0 : Int32) (u : zU) : Option (Int32 × zU) :=
  zck (zbz s0) (some (s0, u))
def zf_CCCode_isMalformed_26_b52 (N : Nat)  (x2 : Int32) (u : zU) : Option (Int32 × zU) :=
  zbd (zf_CCC_isBlockType N x2 u) (fun r1 u2 =>
  if r1 = 0 then
  zf_CCCode_isMalformed_26_b64 N  1 u2
  else
  zf_CCCode_isMalformed_26_b64 N  0 u2)
def zf_CCCode_isMalformed_26_b77 (N : Nat)  (s0 : Int32) (u : zU) : Option (Int32 × zU) :=
  zck (zbz s0) (some (s0, u))
def zf_CCCode_isMalformed_26_b90 (N : Nat)  (s0 : Int32) (u : zU) : Option (Int32 × zU) :=
  zck (zbz s0) (some (s0, u))
def zf_CCCode_isMalformed_26_b103 (N : Nat)  (s0 : Int32) (u : zU) : Option (Int32 × zU) :=
  zck (zbz s0) (some (s0, u))
def zf_CCCode_isMalformed_26 (N : Nat) (x1 : Int32) (x2 : Int32) (u : zU) : Option (Int32 × zU) :=
  if x1 = 2 then zf_CCCode_isMalformed_26_b52 N  x2 u
  else if x1 = 3 then zf_CCCode_isMalformed_26_b52 N  x2 u
  else if x1 = 4 then zf_CCCode_isMalformed_26_b52 N  x2 u
  else if x1 = 28 then zbd (zf_CCC_isValueType N x2 u) (fun r5 u6 =>
    if r5 = 0 then
    zf_CCCode_isMalformed_26_b77 N  1 u6
    else
    zf_CCCode_isMalformed_26_b77 N  0 u6)
  else if x1 = 208 then zbd (zf_CCC_isReferenceType N x2 u) (fun r10 u11 =>
    if r10 = 0 then
    zf_CCCode_isMalformed_26_b90 N  1 u11
    else
    zf_CCCode_isMalformed_26_b90 N  0 u11)
  else zbd (zf_CCC_isInstruction N x1 u) (fun r14 u15 =>
  if r14 = 0 then
  zf_CCCode_isMalformed_26_b103 N  1 u15
  else
  zf_CCCode_isMalformed_26_b103 N  0 u15)
def zf_CCShelf_has_17_b17 (N : Nat)  (s0 : Int32) (u : zU) : Option (Int32 × zU) :=
  zck (zbz s0) (some (s0, u))
def zf_CCShelf_has_17_b16 (N : Nat)   (u : zU) : Option (Int32 × zU) :=
  zf_CCShelf_has_17_b17 N  0 u
def zf_CCShelf_has_17 (N : Nat) (x1 : Int32) (u : zU) : Option (Int32 × zU) :=
  if x1 < 0 then
  zf_CCShelf_has_17_b16 N   u
  else
  if (gi u 4) ≤ x1 then
    zf_CCShelf_has_17_b16 N   u
    else
    zf_CCShelf_has_17_b17 N  1 u
def zf_CCShelf_isMarked_17_b31 (N : Nat)  (s0 : Int32) (u : zU) : Option (Int32 × zU) :=
  zck (zbz s0) (some (s0, u))
def zf_CCShelf_isMarked_17_b30 (N : Nat)   (u : zU) : Option (Int32 × zU) :=
  zf_CCShelf_isMarked_17_b31 N  0 u
def zf_CCShelf_isMarked_17 (N : Nat) (x1 : Int32) (u : zU) : Option (Int32 × zU) :=
  zbd (zf_CCShelf_has_17 N x1 u) (fun r1 u2 =>
  if r1 = 0 then
  zf_CCShelf_isMarked_17_b30 N   u2
  else
  if 40 ≤ x1 then
    zf_CCShelf_isMarked_17_b30 N   u2
    else
    zck (zin x1 40) (if (ga u2 11 x1) = 0 then
      zf_CCShelf_isMarked_17_b30 N   u2
      else
      zf_CCShelf_isMarked_17_b31 N  1 u2))
def zf_CCCode_mayStandInConstant_26_b85 (N : Nat)  (s0 : Int32) (u : zU) : Option (Int32 × zU) :=
  zck (zbz s0) (some (s0, u))
def zf_CCCode_mayStandInConstant_26_b80 (N : Nat)   (u : zU) : Option (Int32 × zU) :=
  zf_CCCode_mayStandInConstant_26_b85 N  1 u
def zf_CCCode_mayStandInConstant_26_b66 (N : Nat)  (x1 : Int32) (u : zU) : Option (Int32 × zU) :=
  if x1 = 208 then
  zf_CCCode_mayStandInConstant_26_b80 N   u
  else
  if x1 = 210 then
    zf_CCCode_mayStandInConstant_26_b80 N   u
    else
    zf_CCCode_mayStandInConstant_26_b85 N  0 u
def zf_CCCode_mayStandInConstant_26_b47 (N : Nat)  (s0 : Int32) (u : zU) : Option (Int32 × zU) :=
  zck (zbz s0) (some (s0, u))
def zf_CCCode_mayStandInConstant_26_b46 (N : Nat)   (u : zU) : Option (Int32 × zU) :=
  zf_CCCode_mayStandInConstant_26_b47 N  0 u
def zf_CCCode_mayStandInConstant_26 (N : Nat) (x1 : Int32) (x2 : Int32) (u : zU) : Option (Int32 × zU) :=
  if x1 = 35 then
  zbd (zf_CCShelf_has_17 N x2 u) (fun r5 u6 =>
    if r5 = 0 then
    zf_CCCode_mayStandInConstant_26_b46 N   u6
    else
    if (gi u6 11) ≤ x2 then
      zf_CCCode_mayStandInConstant_26_b46 N   u6
      else
      zbd (zf_CCShelf_isMarked_17 N x2 u6) (fun r10 u11 =>
        if r10 = 0 then
        zf_CCCode_mayStandInConstant_26_b47 N  1 u11
        else
        zf_CCCode_mayStandInConstant_26_b46 N   u11))
  else
  if x1 = 11 then
    zf_CCCode_mayStandInConstant_26_b80 N   u
    else
    if x1 < 65 then
      zf_CCCode_mayStandInConstant_26_b66 N  x1 u
      else
      if x1 ≤ 68 then
        zf_CCCode_mayStandInConstant_26_b80 N   u
        else
        zf_CCCode_mayStandInConstant_26_b66 N  x1 u
def zf_CCShelf_has_11_b17 (N : Nat)  (s0 : Int32) (u : zU) : Option (Int32 × zU) :=
  zck (zbz s0) (some (s0, u))
def zf_CCShelf_has_11_b16 (N : Nat)   (u : zU) : Option (Int32 × zU) :=
  zf_CCShelf_has_11_b17 N  0 u
def zf_CCShelf_has_11 (N : Nat) (x1 : Int32) (u : zU) : Option (Int32 × zU) :=
  if x1 < 0 then
  zf_CCShelf_has_11_b16 N   u
  else
  if (gi u 2) ≤ x1 then
    zf_CCShelf_has_11_b16 N   u
    else
    zf_CCShelf_has_11_b17 N  1 u
def zf_CCShelf_has_20_b17 (N : Nat)  (s0 : Int32) (u : zU) : Option (Int32 × zU) :=
  zck (zbz s0) (some (s0, u))
def zf_CCShelf_has_20_b16 (N : Nat)   (u : zU) : Option (Int32 × zU) :=
  zf_CCShelf_has_20_b17 N  0 u
def zf_CCShelf_has_20 (N : Nat) (x1 : Int32) (u : zU) : Option (Int32 × zU) :=
  if x1 < 0 then
  zf_CCShelf_has_20_b16 N   u
  else
  if (gi u 5) ≤ x1 then
    zf_CCShelf_has_20_b16 N   u
    else
    zf_CCShelf_has_20_b17 N  1 u
def zf_CCShelf_has_23_b17 (N : Nat)  (s0 : Int32) (u : zU) : Option (Int32 × zU) :=
  zck (zbz s0) (some (s0, u))
def zf_CCShelf_has_23_b16 (N : Nat)   (u : zU) : Option (Int32 × zU) :=
  zf_CCShelf_has_23_b17 N  0 u
def zf_CCShelf_has_23 (N : Nat) (x1 : Int32) (u : zU) : Option (Int32 × zU) :=
  if x1 < 0 then
  zf_CCShelf_has_23_b16 N   u
  else
  if (gi u 6) ≤ x1 then
    zf_CCShelf_has_23_b16 N   u
    else
    zf_CCShelf_has_23_b17 N  1 u
def zf_CCLocals_has_27_b17 (N : Nat)  (s0 : Int32) (u : zU) : Option (Int32 × zU) :=
  zck (zbz s0) (some (s0, u))
def zf_CCLocals_has_27 (N : Nat) (x1 : Int32) (u : zU) : Option (Int32 × zU) :=
  zbd (zf_CCC_withoutSign N x1 u) (fun r1 u2 =>
  if 0 ≤ (lg_cmp r1 (gj u2 0)) then
  zf_CCLocals_has_27_b17 N  0 u2
  else
  zf_CCLocals_has_27_b17 N  1 u2)
def zf_CCStack_hasBlock_31_b17 (N : Nat)  (s0 : Int32) (u : zU) : Option (Int32 × zU) :=
  zck (zbz s0) (some (s0, u))
def zf_CCStack_hasBlock_31_b16 (N : Nat)   (u : zU) : Option (Int32 × zU) :=
  zf_CCStack_hasBlock_31_b17 N  0 u
def zf_CCStack_hasBlock_31 (N : Nat) (x1 : Int32) (u : zU) : Option (Int32 × zU) :=
  if x1 < 0 then
  zf_CCStack_hasBlock_31_b16 N   u
  else
  if (gi u 15) ≤ x1 then
    zf_CCStack_hasBlock_31_b16 N   u
    else
    zf_CCStack_hasBlock_31_b17 N  1 u
def zf_CCCode_isLabelMissing_26_b43 (N : Nat)   (u : zU) : Option (Int32 × zU) :=
  some (0, u)
def zf_CCCode_isLabelMissing_26_b2 (N : Nat)  : Nat → Int32 → zU → Option (Int32 × zU)
  | 0, _, _ => none
  | n + 1, x1, u =>
  if (gi u 7) ≤ x1 then
  zf_CCCode_isLabelMissing_26_b43 N   u
  else
  if 20 ≤ x1 then
    zf_CCCode_isLabelMissing_26_b43 N   u
    else
    zck (zin x1 20) (zbd (zf_CCStack_hasBlock_31 N (ga u 17 x1) u) (fun r4 u5 =>
      if r4 = 0 then
      some (1, u5)
      else
      zf_CCCode_isLabelMissing_26_b2 N  n (x1 + 1) u5))
def zf_CCCode_isLabelMissing_26 (N : Nat)  (u : zU) : Option (Int32 × zU) :=
  zf_CCCode_isLabelMissing_26_b2 N  N 0 u
def zf_CCCode_namesWhatIsMissing_26_b224 (N : Nat)  (s0 : Int32) (u : zU) : Option (Int32 × zU) :=
  zck (zbz s0) (some (s0, u))
def zf_CCCode_namesWhatIsMissing_26_b223 (N : Nat)   (u : zU) : Option (Int32 × zU) :=
  zf_CCCode_namesWhatIsMissing_26_b224 N  0 u
def zf_CCCode_namesWhatIsMissing_26_b204 (N : Nat)  (x2 : Int32) (u : zU) : Option (Int32 × zU) :=
  if x2 < 0 then
  zf_CCCode_namesWhatIsMissing_26_b223 N   u
  else
  zbd (zf_CCThings_hasType_1 N x2 u) (fun r2 u3 =>
    if r2 = 0 then
    zf_CCCode_namesWhatIsMissing_26_b224 N  1 u3
    else
    zf_CCCode_namesWhatIsMissing_26_b223 N   u3)
def zf_CCCode_namesWhatIsMissing_26_b241 (N : Nat)  (s0 : Int32) (u : zU) : Option (Int32 × zU) :=
  zck (zbz s0) (some (s0, u))
def zf_CCCode_namesWhatIsMissing_26_b225 (N : Nat)  (x2 : Int32) (u : zU) : Option (Int32 × zU) :=
  zbd (zf_CCStack_hasBlock_31 N x2 u) (fun r1 u2 =>
  if r1 = 0 then
  zf_CCCode_namesWhatIsMissing_26_b241 N  1 u2
  else
  zf_CCCode_namesWhatIsMissing_26_b241 N  0 u2)
def zf_CCCode_namesWhatIsMissing_26_b265 (N : Nat)  (s0 : Int32) (u : zU) : Option (Int32 × zU) :=
  zck (zbz s0) (some (s0, u))
def zf_CCCode_namesWhatIsMissing_26_b260 (N : Nat)   (u : zU) : Option (Int32 × zU) :=
  zf_CCCode_namesWhatIsMissing_26_b265 N  1 u
def zf_CCCode_namesWhatIsMissing_26_b285 (N : Nat)  (s0 : Int32) (u : zU) : Option (Int32 × zU) :=
  zck (zbz s0) (some (s0, u))
def zf_CCCode_namesWhatIsMissing_26_b266 (N : Nat)  (x2 : Int32) (u : zU) : Option (Int32 × zU) :=
  zbd (zf_CCShelf_has_8 N x2 u) (fun r1 u2 =>
  if r1 = 0 then
  zf_CCCode_namesWhatIsMissing_26_b285 N  1 u2
  else
  zf_CCCode_namesWhatIsMissing_26_b285 N  0 u2)
def zf_CCCode_namesWhatIsMissing_26_b316 (N : Nat)  (s0 : Int32) (u : zU) : Option (Int32 × zU) :=
  zck (zbz s0) (some (s0, u))
def zf_CCCode_namesWhatIsMissing_26_b311 (N : Nat)   (u : zU) : Option (Int32 × zU) :=
  zf_CCCode_namesWhatIsMissing_26_b316 N  1 u
def zf_CCCode_namesWhatIsMissing_26_b333 (N : Nat)  (s0 : Int32) (u : zU) : Option (Int32 × zU) :=
  zck (zbz s0) (some (s0, u))
def zf_CCCode_namesWhatIsMissing_26_b317 (N : Nat)  (x2 : Int32) (u : zU) : Option (Int32 × zU) :=
  zbd (zf_CCLocals_has_27 N x2 u) (fun r1 u2 =>
  if r1 = 0 then
  zf_CCCode_namesWhatIsMissing_26_b333 N  1 u2
  else
  zf_CCCode_namesWhatIsMissing_26_b333 N  0 u2)
def zf_CCCode_namesWhatIsMissing_26_b353 (N : Nat)  (s0 : Int32) (u : zU) : Option (Int32 × zU) :=
  zck (zbz s0) (some (s0, u))
def zf_CCCode_namesWhatIsMissing_26_b334 (N : Nat)  (x2 : Int32) (u : zU) : Option (Int32 × zU) :=
  zbd (zf_CCShelf_has_17 N x2 u) (fun r1 u2 =>
  if r1 = 0 then
  zf_CCCode_namesWhatIsMissing_26_b353 N  1 u2
  else
  zf_CCCode_namesWhatIsMissing_26_b353 N  0 u2)
def zf_CCCode_namesWhatIsMissing_26_b373 (N : Nat)  (s0 : Int32) (u : zU) : Option (Int32 × zU) :=
  zck (zbz s0) (some (s0, u))
def zf_CCCode_namesWhatIsMissing_26_b354 (N : Nat)  (x2 : Int32) (u : zU) : Option (Int32 × zU) :=
  zbd (zf_CCShelf_has_11 N x2 u) (fun r1 u2 =>
  if r1 = 0 then
  zf_CCCode_namesWhatIsMissing_26_b373 N  1 u2
  else
  zf_CCCode_namesWhatIsMissing_26_b373 N  0 u2)
def zf_CCCode_namesWhatIsMissing_26_b393 (N : Nat)  (s0 : Int32) (u : zU) : Option (Int32 × zU) :=
  zck (zbz s0) (some (s0, u))
def zf_CCCode_namesWhatIsMissing_26_b374 (N : Nat)  (x2 : Int32) (u : zU) : Option (Int32 × zU) :=
  zbd (zf_CCShelf_has_23 N x2 u) (fun r1 u2 =>
  if r1 = 0 then
  zf_CCCode_namesWhatIsMissing_26_b393 N  1 u2
  else
  zf_CCCode_namesWhatIsMissing_26_b393 N  0 u2)
def zf_CCCode_namesWhatIsMissing_26_b427 (N : Nat)  (s0 : Int32) (u : zU) : Option (Int32 × zU) :=
  zck (zbz s0) (some (s0, u))
def zf_CCCode_namesWhatIsMissing_26_b422 (N : Nat)   (u : zU) : Option (Int32 × zU) :=
  zf_CCCode_namesWhatIsMissing_26_b427 N  1 u
def zf_CCCode_namesWhatIsMissing_26_b447 (N : Nat)  (s0 : Int32) (u : zU) : Option (Int32 × zU) :=
  zck (zbz s0) (some (s0, u))
def zf_CCCode_namesWhatIsMissing_26_b481 (N : Nat)  (s0 : Int32) (u : zU) : Option (Int32 × zU) :=
  zck (zbz s0) (some (s0, u))
def zf_CCCode_namesWhatIsMissing_26_b476 (N : Nat)   (u : zU) : Option (Int32 × zU) :=
  zf_CCCode_namesWhatIsMissing_26_b481 N  1 u
def zf_CCCode_namesWhatIsMissing_26 (N : Nat) (x1 : Int32) (x2 : Int32) (x3 : Int32) (u : zU) : Option (Int32 × zU) :=
  if x1 = 2 then zf_CCCode_namesWhatIsMissing_26_b204 N  x2 u
  else if x1 = 3 then zf_CCCode_namesWhatIsMissing_26_b204 N  x2 u
  else if x1 = 4 then zf_CCCode_namesWhatIsMissing_26_b204 N  x2 u
  else if x1 = 12 then zf_CCCode_namesWhatIsMissing_26_b225 N  x2 u
  else if x1 = 13 then zf_CCCode_namesWhatIsMissing_26_b225 N  x2 u
  else if x1 = 14 then zbd (zf_CCStack_hasBlock_31 N x2 u) (fun r7 u8 =>
    if r7 = 0 then
    zf_CCCode_namesWhatIsMissing_26_b260 N   u8
    else
    zbd (zf_CCCode_isLabelMissing_26 N  u8) (fun r11 u12 =>
      if r11 = 0 then
      zf_CCCode_namesWhatIsMissing_26_b265 N  0 u12
      else
      zf_CCCode_namesWhatIsMissing_26_b260 N   u12))
  else if x1 = 16 then zf_CCCode_namesWhatIsMissing_26_b266 N  x2 u
  else if x1 = 17 then zbd (zf_CCThings_hasType_1 N x2 u) (fun r17 u18 =>
    if r17 = 0 then
    zf_CCCode_namesWhatIsMissing_26_b311 N   u18
    else
    zbd (zf_CCShelf_has_11 N x3 u18) (fun r21 u22 =>
      if r21 = 0 then
      zf_CCCode_namesWhatIsMissing_26_b311 N   u22
      else
      zf_CCCode_namesWhatIsMissing_26_b316 N  0 u22))
  else if x1 = 32 then zf_CCCode_namesWhatIsMissing_26_b317 N  x2 u
  else if x1 = 33 then zf_CCCode_namesWhatIsMissing_26_b317 N  x2 u
  else if x1 = 34 then zf_CCCode_namesWhatIsMissing_26_b317 N  x2 u
  else if x1 = 35 then zf_CCCode_namesWhatIsMissing_26_b334 N  x2 u
  else if x1 = 36 then zf_CCCode_namesWhatIsMissing_26_b334 N  x2 u
  else if x1 = 37 then zf_CCCode_namesWhatIsMissing_26_b354 N  x2 u
  else if x1 = 38 then zf_CCCode_namesWhatIsMissing_26_b354 N  x2 u
  else if x1 = 210 then zf_CCCode_namesWhatIsMissing_26_b266 N  x2 u
  else if x1 = 264 then zf_CCCode_namesWhatIsMissing_26_b374 N  x2 u
  else if x1 = 265 then zf_CCCode_namesWhatIsMissing_26_b374 N  x2 u
  else if x1 = 268 then zbd (zf_CCShelf_has_20 N x2 u) (fun r36 u37 =>
    if r36 = 0 then
    zf_CCCode_namesWhatIsMissing_26_b422 N   u37
    else
    zbd (zf_CCShelf_has_11 N x3 u37) (fun r40 u41 =>
      if r40 = 0 then
      zf_CCCode_namesWhatIsMissing_26_b422 N   u41
      else
      zf_CCCode_namesWhatIsMissing_26_b427 N  0 u41))
  else if x1 = 269 then zbd (zf_CCShelf_has_20 N x2 u) (fun r45 u46 =>
    if r45 = 0 then
    zf_CCCode_namesWhatIsMissing_26_b447 N  1 u46
    else
    zf_CCCode_namesWhatIsMissing_26_b447 N  0 u46)
  else if x1 = 270 then zbd (zf_CCShelf_has_11 N x2 u) (fun r50 u51 =>
    if r50 = 0 then
    zf_CCCode_namesWhatIsMissing_26_b476 N   u51
    else
    zbd (zf_CCShelf_has_11 N x3 u51) (fun r54 u55 =>
      if r54 = 0 then
      zf_CCCode_namesWhatIsMissing_26_b476 N   u55
      else
      zf_CCCode_namesWhatIsMissing_26_b481 N  0 u55))
  else if x1 = 271 then zf_CCCode_namesWhatIsMissing_26_b354 N  x2 u
  else if x1 = 272 then zf_CCCode_namesWhatIsMissing_26_b354 N  x2 u
  else if x1 = 273 then zf_CCCode_namesWhatIsMissing_26_b354 N  x2 u
  else some (0, u)
def zf_CCShelf_has_14_b17 (N : Nat)  (s0 : Int32) (u : zU) : Option (Int32 × zU) :=
  zck (zbz s0) (some (s0, u))
def zf_CCShelf_has_14_b16 (N : Nat)   (u : zU) : Option (Int32 × zU) :=
  zf_CCShelf_has_14_b17 N  0 u
def zf_CCShelf_has_14 (N : Nat) (x1 : Int32) (u : zU) : Option (Int32 × zU) :=
  if x1 < 0 then
  zf_CCShelf_has_14_b16 N   u
  else
  if (gi u 3) ≤ x1 then
    zf_CCShelf_has_14_b16 N   u
    else
    zf_CCShelf_has_14_b17 N  1 u
def zf_CCThings_hasMemory_1 (N : Nat)  (u : zU) : Option (Int32 × zU) :=
  zbd (zf_CCShelf_has_14 N 0 u) (fun r1 u2 =>
  zck (zbz r1) (some (r1, u2)))
def zf_CCCode_accessFault_26_b77 (N : Nat)  (s0 : Int32) (u : zU) : Option (Int32 × zU) :=
  some (s0, u)
def zf_CCCode_accessFault_26_b64 (N : Nat)  (s0 : Int32) (u : zU) : Option (Int32 × zU) :=
  if s0 = 0 then
  zf_CCCode_accessFault_26_b77 N  10 u
  else
  zf_CCCode_accessFault_26_b77 N  0 u
def zf_CCCode_accessFault_26_b63 (N : Nat)   (u : zU) : Option (Int32 × zU) :=
  zf_CCCode_accessFault_26_b64 N  0 u
def zf_CCCode_accessFault_26_b39 (N : Nat)  (x2 : Int32) (s0 : Int32) (u : zU) : Option (Int32 × zU) :=
  if x2 < 0 then
  zf_CCCode_accessFault_26_b63 N   u
  else
  if 31 ≤ x2 then
    zf_CCCode_accessFault_26_b63 N   u
    else
    if s0 < (1 <<< (x2 &&& 31)) then
      zf_CCCode_accessFault_26_b63 N   u
      else
      zf_CCCode_accessFault_26_b64 N  1 u
def zf_CCCode_accessFault_26_b38 (N : Nat)  (x2 : Int32) (u : zU) : Option (Int32 × zU) :=
  zf_CCCode_accessFault_26_b39 N  x2 0 u
def zf_CCCode_accessFault_26 (N : Nat) (x1 : Int32) (x2 : Int32) (u : zU) : Option (Int32 × zU) :=
  zbd (zf_CCThings_hasMemory_1 N  u) (fun r1 u2 =>
  if r1 = 0 then
  some (9, u2)
  else
  if (x1 - 40) < 0 then
    zf_CCCode_accessFault_26_b38 N  x2 u2
    else
    if 23 ≤ (x1 - 40) then
      zf_CCCode_accessFault_26_b38 N  x2 u2
      else
      zck (zin (x1 - 40) 23) (zf_CCCode_accessFault_26_b39 N  x2 (t_X_MOVED_BYTES.getD (x1 - 40).toNatClampNeg 0) u2))
def zf_CCShelf_typeOf_11_b27 (N : Nat)  (s0 : Int32) (u : zU) : Option (Int32 × zU) :=
  some (s0, u)
def zf_CCShelf_typeOf_11_b26 (N : Nat)   (u : zU) : Option (Int32 × zU) :=
  zf_CCShelf_typeOf_11_b27 N  0 u
def zf_CCShelf_typeOf_11 (N : Nat) (x1 : Int32) (u : zU) : Option (Int32 × zU) :=
  zbd (zf_CCShelf_has_11 N x1 u) (fun r1 u2 =>
  if r1 = 0 then
  zf_CCShelf_typeOf_11_b26 N   u2
  else
  if 40 ≤ x1 then
    zf_CCShelf_typeOf_11_b26 N   u2
    else
    zck (zin x1 40) (zf_CCShelf_typeOf_11_b27 N  (ga u2 6 x1) u2))
def zf_CCShelf_typeOf_20_b27 (N : Nat)  (s0 : Int32) (u : zU) : Option (Int32 × zU) :=
  some (s0, u)
def zf_CCShelf_typeOf_20_b26 (N : Nat)   (u : zU) : Option (Int32 × zU) :=
  zf_CCShelf_typeOf_20_b27 N  0 u
def zf_CCShelf_typeOf_20 (N : Nat) (x1 : Int32) (u : zU) : Option (Int32 × zU) :=
  zbd (zf_CCShelf_has_20 N x1 u) (fun r1 u2 =>
  if r1 = 0 then
  zf_CCShelf_typeOf_20_b26 N   u2
  else
  if 40 ≤ x1 then
    zf_CCShelf_typeOf_20_b26 N   u2
    else
    zck (zin x1 40) (zf_CCShelf_typeOf_20_b27 N  (ga u2 12 x1) u2))
def zf_CCShelf_isMarked_8_b31 (N : Nat)  (s0 : Int32) (u : zU) : Option (Int32 × zU) :=
  zck (zbz s0) (some (s0, u))
def zf_CCShelf_isMarked_8_b30 (N : Nat)   (u : zU) : Option (Int32 × zU) :=
  zf_CCShelf_isMarked_8_b31 N  0 u
def zf_CCShelf_isMarked_8 (N : Nat) (x1 : Int32) (u : zU) : Option (Int32 × zU) :=
  zbd (zf_CCShelf_has_8 N x1 u) (fun r1 u2 =>
  if r1 = 0 then
  zf_CCShelf_isMarked_8_b30 N   u2
  else
  if 40 ≤ x1 then
    zf_CCShelf_isMarked_8_b30 N   u2
    else
    zck (zin x1 40) (if (ga u2 5 x1) = 0 then
      zf_CCShelf_isMarked_8_b30 N   u2
      else
      zf_CCShelf_isMarked_8_b31 N  1 u2))
def zf_CCCode_misfit_26_b134 (N : Nat)  (s0 : Int32) (u : zU) : Option (Int32 × zU) :=
  some (s0, u)
def zf_CCCode_misfit_26_b155 (N : Nat)  (s0 : Int32) (u : zU) : Option (Int32 × zU) :=
  some (s0, u)
def zf_CCCode_misfit_26_b172 (N : Nat)  (s0 : Int32) (u : zU) : Option (Int32 × zU) :=
  some (s0, u)
def zf_CCCode_misfit_26_b156 (N : Nat)   (u : zU) : Option (Int32 × zU) :=
  zbd (zf_CCThings_hasMemory_1 N  u) (fun r1 u2 =>
  if r1 = 0 then
  zf_CCCode_misfit_26_b172 N  9 u2
  else
  zf_CCCode_misfit_26_b172 N  0 u2)
def zf_CCCode_misfit_26_b193 (N : Nat)  (s0 : Int32) (u : zU) : Option (Int32 × zU) :=
  some (s0, u)
def zf_CCCode_misfit_26_b225 (N : Nat)  (s0 : Int32) (u : zU) : Option (Int32 × zU) :=
  some (s0, u)
def zf_CCCode_misfit_26_b257 (N : Nat)  (s0 : Int32) (u : zU) : Option (Int32 × zU) :=
  some (s0, u)
def zf_CCCode_misfit_26_b19 (N : Nat)  (x1 : Int32) (x2 : Int32) (x3 : Int32) (u : zU) : Option (Int32 × zU) :=
  if x1 = 17 then zbd (zf_CCShelf_typeOf_11 N x3 u) (fun r2 u3 =>
    if r2 = 112 then
    zf_CCCode_misfit_26_b134 N  0 u3
    else
    zf_CCCode_misfit_26_b134 N  6 u3)
  else if x1 = 36 then zbd (zf_CCShelf_isMarked_17 N x2 u) (fun r7 u8 =>
    if r7 = 0 then
    zf_CCCode_misfit_26_b155 N  8 u8
    else
    zf_CCCode_misfit_26_b155 N  0 u8)
  else if x1 = 63 then zf_CCCode_misfit_26_b156 N   u
  else if x1 = 64 then zf_CCCode_misfit_26_b156 N   u
  else if x1 = 210 then zbd (zf_CCShelf_isMarked_8 N x2 u) (fun r14 u15 =>
    if r14 = 0 then
    zf_CCCode_misfit_26_b193 N  11 u15
    else
    zf_CCCode_misfit_26_b193 N  0 u15)
  else if x1 = 264 then zf_CCCode_misfit_26_b156 N   u
  else if x1 = 266 then zf_CCCode_misfit_26_b156 N   u
  else if x1 = 267 then zf_CCCode_misfit_26_b156 N   u
  else if x1 = 268 then zbd (zf_CCShelf_typeOf_20 N x2 u) (fun r22 u23 =>
    zbd (zf_CCShelf_typeOf_11 N x3 u23) (fun r25 u26 =>
    if r22 = r25 then
    zf_CCCode_misfit_26_b225 N  0 u26
    else
    zf_CCCode_misfit_26_b225 N  6 u26))
  else if x1 = 270 then zbd (zf_CCShelf_typeOf_11 N x2 u) (fun r30 u31 =>
    zbd (zf_CCShelf_typeOf_11 N x3 u31) (fun r33 u34 =>
    if r30 = r33 then
    zf_CCCode_misfit_26_b257 N  0 u34
    else
    zf_CCCode_misfit_26_b257 N  6 u34))
  else some (0, u)
def zf_CCCode_misfit_26 (N : Nat) (x1 : Int32) (x2 : Int32) (x3 : Int32) (u : zU) : Option (Int32 × zU) :=
  if x1 < 40 then
  zf_CCCode_misfit_26_b19 N  x1 x2 x3 u
  else
  if 62 < x1 then
    zf_CCCode_misfit_26_b19 N  x1 x2 x3 u
    else
    zbd (zf_CCCode_accessFault_26 N x1 x2 u) (fun r3 u4 =>
      some (r3, u4))
def zf_CCCode_faultAhead_26_b31 (N : Nat)  (x1 : Int32) (x2 : Int32) (x3 : Int32) (u : zU) : Option (Int32 × zU) :=
  zbd (zf_CCCode_namesWhatIsMissing_26 N x1 x2 x3 u) (fun r1 u2 =>
  if r1 = 0 then
  zbd (zf_CCCode_misfit_26 N x1 x2 x3 u2) (fun r5 u6 =>
    some (r5, u6))
  else
  some (12, u2))
def zf_CCCode_faultAhead_26 (N : Nat) (x1 : Int32) (x2 : Int32) (x3 : Int32) (u : zU) : Option (Int32 × zU) :=
  zbd (zf_CCCode_isMalformed_26 N x1 x2 u) (fun r1 u2 =>
  if r1 = 0 then
  if (gi u2 9) = 0 then
    zf_CCCode_faultAhead_26_b31 N  x1 x2 x3 u2
    else
    zbd (zf_CCCode_mayStandInConstant_26 N x1 x2 u2) (fun r6 u7 =>
      if r6 = 0 then
      some (14, u7)
      else
      zf_CCCode_faultAhead_26_b31 N  x1 x2 x3 u7)
  else
  some (13, u2))
def zf_CCC_plainLine_b34 (N : Nat) (k2 : Int32 → Int32 → zU → Option (Int32 × zU)) (x0 : Int32) (x1 : Int32) (u : zU) : Option (Int32 × zU) :=
  k2 x0 (x1 + 5) u
def zf_CCC_plainLine_b2 (N : Nat)  : Nat → Int32 → Int32 → zU → Option (Int32 × zU)
  | 0, _, _, _ => none
  | n + 1, x0, x1, u =>
  if 235 ≤ (x1 + 4) then
  some ((-1), u)
  else
  zck (zin x1 235) (if x0 < (t_X_PLAIN.getD x1.toNatClampNeg 0) then
    zf_CCC_plainLine_b34 N (zf_CCC_plainLine_b2 N  n) x0 x1 u
    else
    zck (zin (x1 + 1) 235) (if (t_X_PLAIN.getD (x1 + 1).toNatClampNeg 0) < x0 then
      zf_CCC_plainLine_b34 N (zf_CCC_plainLine_b2 N  n) x0 x1 u
      else
      some (x1, u)))
def zf_CCC_plainLine (N : Nat) (x0 : Int32) (u : zU) : Option (Int32 × zU) :=
  zf_CCC_plainLine_b2 N  N x0 0 u
def zf_CCStack_takeAny_31_b31 (N : Nat)   (u : zU) : Option (Int32 × zU) :=
  some (0, u)
def zf_CCStack_takeAny_31_b82 (N : Nat)   (u : zU) : Option (Int32 × zU) :=
  some (0, u)
def zf_CCStack_takeAny_31_b68 (N : Nat)  (x1 : Int32) (u : zU) : Option (Int32 × zU) :=
  zck (zin x1 60) (if (ga u 22 x1) = 0 then
  zf_CCStack_takeAny_31_b82 N   u
  else
  zf_CCStack_takeAny_31_b82 N   (si u 16 1))
def zf_CCStack_takeAny_31 (N : Nat)  (u : zU) : Option (Int32 × zU) :=
  if (gi u 16) = 0 then
  if ((gi u 15) - 1) < 0 then
    zf_CCStack_takeAny_31_b31 N   u
    else
    if ((gi u 15) - 1) < 60 then
      zck (zin ((gi u 15) - 1) 60) (if ((gi u 14) - 1) < (ga u 20 ((gi u 15) - 1)) then
        zf_CCStack_takeAny_31_b68 N  ((gi u 15) - 1) u
        else
        if ((gi u 14) - 1) < 0 then
          zf_CCStack_takeAny_31_b68 N  ((gi u 15) - 1) u
          else
          if 200 ≤ ((gi u 14) - 1) then
            zf_CCStack_takeAny_31_b68 N  ((gi u 15) - 1) u
            else
            zck (zin ((gi u 14) - 1) 200) (some ((ga (si u 14 ((gi u 14) - 1)) 18 ((gi u 14) - 1)), (si u 14 ((gi u 14) - 1)))))
      else
      zf_CCStack_takeAny_31_b31 N   u
  else
  zf_CCStack_takeAny_31_b31 N   u
def zf_CCStack_fail_31_b12 (N : Nat)   (u : zU) : Option (Unit × zU) :=
  some ((), u)
def zf_CCStack_fail_31 (N : Nat) (x1 : Int32) (u : zU) : Option (Unit × zU) :=
  if (gi u 16) = 0 then
  zf_CCStack_fail_31_b12 N   (si u 16 x1)
  else
  zf_CCStack_fail_31_b12 N   u
def zf_CCStack_take_31_b19 (N : Nat)  (x2 : Int32) (u : zU) : Option (Int32 × zU) :=
  some (x2, u)
def zf_CCStack_take_31 (N : Nat) (x1 : Int32) (u : zU) : Option (Int32 × zU) :=
  zbd (zf_CCStack_takeAny_31 N  u) (fun r1 u2 =>
  if r1 = 0 then
  zf_CCStack_take_31_b19 N  r1 u2
  else
  if r1 = x1 then
    zf_CCStack_take_31_b19 N  r1 u2
    else
    zbd (zf_CCStack_fail_31 N 1 u2) (fun r6 u7 =>
      zf_CCStack_take_31_b19 N  r1 u7))
def zf_CCStack_takeTimes_31_b2 (N : Nat)  : Nat → Int32 → Int32 → Int32 → zU → Option (Unit × zU)
  | 0, _, _, _, _ => none
  | n + 1, x1, x2, x3, u =>
  if x2 ≤ x3 then
  some ((), u)
  else
  zbd (zf_CCStack_take_31 N x1 u) (fun r4 u5 =>
    zf_CCStack_takeTimes_31_b2 N  n x1 x2 (x3 + 1) u5)
def zf_CCStack_takeTimes_31 (N : Nat) (x1 : Int32) (x2 : Int32) (u : zU) : Option (Unit × zU) :=
  zf_CCStack_takeTimes_31_b2 N  N x1 x2 0 u
def zf_CCStack_give_31_b27 (N : Nat)   (u : zU) : Option (Unit × zU) :=
  some ((), (si u 16 15))
def zf_CCStack_give_31 (N : Nat) (x1 : Int32) (u : zU) : Option (Unit × zU) :=
  if (gi u 16) = 0 then
  if (gi u 14) < 0 then
    zf_CCStack_give_31_b27 N   u
    else
    if (gi u 14) < 200 then
      zck (zin (gi u 14) 200) (some ((), (si (sa u 18 (gi u 14) x1) 14 ((gi u 14) + 1))))
      else
      zf_CCStack_give_31_b27 N   u
  else
  some ((), u)
def zf_CCCode_carryOutPlain_26_b14 (N : Nat)   (u : zU) : Option (Unit × zU) :=
  some ((), u)
def zf_CCCode_carryOutPlain_26_b61 (N : Nat)   (u : zU) : Option (Unit × zU) :=
  some ((), u)
def zf_CCCode_carryOutPlain_26 (N : Nat) (x1 : Int32) (u : zU) : Option (Unit × zU) :=
  if x1 < 0 then
  zf_CCCode_carryOutPlain_26_b14 N   u
  else
  if (x1 + 4) < 235 then
    zck (zin (x1 + 3) 235) (zck (zin (x1 + 2) 235) (zbd (zf_CCStack_takeTimes_31 N (t_X_PLAIN.getD (x1 + 3).toNatClampNeg 0) (t_X_PLAIN.getD (x1 + 2).toNatClampNeg 0) u) (fun r8 u9 =>
      zck (zin (x1 + 4) 235) (if (t_X_PLAIN.getD (x1 + 4).toNatClampNeg 0) = (-1) then
      zf_CCCode_carryOutPlain_26_b61 N   u9
      else
      zck (zin (x1 + 4) 235) (zbd (zf_CCStack_give_31 N (t_X_PLAIN.getD (x1 + 4).toNatClampNeg 0) u9) (fun r16 u17 =>
        zf_CCCode_carryOutPlain_26_b61 N   u17))))))
    else
    zf_CCCode_carryOutPlain_26_b14 N   u
def zf_CCStack_ofBlock_31_33_b30 (N : Nat)  (s0 : Int32) (u : zU) : Option (Int32 × zU) :=
  some (s0, u)
def zf_CCStack_ofBlock_31_33_b29 (N : Nat)   (u : zU) : Option (Int32 × zU) :=
  zf_CCStack_ofBlock_31_33_b30 N  0 u
def zf_CCStack_ofBlock_31_33 (N : Nat) (x2 : Int32) (u : zU) : Option (Int32 × zU) :=
  if x2 < 0 then
  zf_CCStack_ofBlock_31_33_b29 N   u
  else
  if (((gi u 15) - 1) - x2) < 0 then
    zf_CCStack_ofBlock_31_33_b29 N   u
    else
    if 60 ≤ (((gi u 15) - 1) - x2) then
      zf_CCStack_ofBlock_31_33_b29 N   u
      else
      zck (zin (((gi u 15) - 1) - x2) 60) (zf_CCStack_ofBlock_31_33_b30 N  (ga u 19 (((gi u 15) - 1) - x2)) u)
def zf_CCRows_partOf_5_b26 (N : Nat)   (u : zU) : Option (Int32 × zU) :=
  some (0, u)
def zf_CCRows_partOf_5 (N : Nat) (x1 : Int32) (x2 : Int32) (u : zU) : Option (Int32 × zU) :=
  if 0 ≤ x1 then
  if 40 ≤ x1 then
    zf_CCRows_partOf_5_b26 N   u
    else
    if x2 < 0 then
      zf_CCRows_partOf_5_b26 N   u
      else
      if x2 < 12 then
        zck (zin ((x1 * 12) + x2) 480) (some ((ga u 3 ((x1 * 12) + x2)), u))
        else
        zf_CCRows_partOf_5_b26 N   u
  else
  some ((x1 + 128), u)
def zf_CCStack_takeRow_31_5_b8 (N : Nat)  : Nat → Int32 → Int32 → zU → Option (Unit × zU)
  | 0, _, _, _ => none
  | n + 1, x2, x3, u =>
  if x3 < 0 then
  some ((), u)
  else
  zbd (zf_CCRows_partOf_5 N x2 x3 u) (fun r4 u5 =>
    zbd (zf_CCStack_take_31 N r4 u5) (fun r7 u8 =>
    zf_CCStack_takeRow_31_5_b8 N  n x2 (x3 + (-1)) u8))
def zf_CCStack_takeRow_31_5 (N : Nat) (x2 : Int32) (u : zU) : Option (Unit × zU) :=
  zbd (zf_CCRows_sizeOf_5 N x2 u) (fun r1 u2 =>
  zf_CCStack_takeRow_31_5_b8 N  N x2 (r1 - 1) u2)
def zf_CCStack_ofBlock_31_34_b30 (N : Nat)  (s0 : Int32) (u : zU) : Option (Int32 × zU) :=
  some (s0, u)
def zf_CCStack_ofBlock_31_34_b29 (N : Nat)   (u : zU) : Option (Int32 × zU) :=
  zf_CCStack_ofBlock_31_34_b30 N  0 u
def zf_CCStack_ofBlock_31_34 (N : Nat) (x2 : Int32) (u : zU) : Option (Int32 × zU) :=
  if x2 < 0 then
  zf_CCStack_ofBlock_31_34_b29 N   u
  else
  if (((gi u 15) - 1) - x2) < 0 then
    zf_CCStack_ofBlock_31_34_b29 N   u
    else
    if 60 ≤ (((gi u 15) - 1) - x2) then
      zf_CCStack_ofBlock_31_34_b29 N   u
      else
      zck (zin (((gi u 15) - 1) - x2) 60) (zf_CCStack_ofBlock_31_34_b30 N  (ga u 20 (((gi u 15) - 1) - x2)) u)
def zf_CCStack_height_31 (N : Nat)  (u : zU) : Option (Int32 × zU) :=
  zbd (zf_CCStack_ofBlock_31_34 N 0 u) (fun r1 u2 =>
  some (r1, u2))
def zf_CCStack_expectNoMoreOperands_31_b16 (N : Nat)   (u : zU) : Option (Unit × zU) :=
  some ((), u)
def zf_CCStack_expectNoMoreOperands_31 (N : Nat)  (u : zU) : Option (Unit × zU) :=
  zbd (zf_CCStack_height_31 N  u) (fun r1 u2 =>
  if (gi u 14) ≤ r1 then
  zf_CCStack_expectNoMoreOperands_31_b16 N   u2
  else
  zbd (zf_CCStack_fail_31 N 3 u2) (fun r5 u6 =>
    zf_CCStack_expectNoMoreOperands_31_b16 N   u6))
def zf_CCStack_ofBlock_31_35_b30 (N : Nat)  (s0 : Int32) (u : zU) : Option (Int32 × zU) :=
  some (s0, u)
def zf_CCStack_ofBlock_31_35_b29 (N : Nat)   (u : zU) : Option (Int32 × zU) :=
  zf_CCStack_ofBlock_31_35_b30 N  0 u
def zf_CCStack_ofBlock_31_35 (N : Nat) (x2 : Int32) (u : zU) : Option (Int32 × zU) :=
  if x2 < 0 then
  zf_CCStack_ofBlock_31_35_b29 N   u
  else
  if (((gi u 15) - 1) - x2) < 0 then
    zf_CCStack_ofBlock_31_35_b29 N   u
    else
    if 60 ≤ (((gi u 15) - 1) - x2) then
      zf_CCStack_ofBlock_31_35_b29 N   u
      else
      zck (zin (((gi u 15) - 1) - x2) 60) (zf_CCStack_ofBlock_31_35_b30 N  (ga u 21 (((gi u 15) - 1) - x2)) u)
def zf_CCStack_opener_31 (N : Nat)  (u : zU) : Option (Int32 × zU) :=
  zbd (zf_CCStack_ofBlock_31_35 N 0 u) (fun r1 u2 =>
  some (r1, u2))
def zf_CCThings_hasLikeParametersAndResults_1_b25 (N : Nat)  : Nat → Int32 → Int32 → Int32 → zU → Option (Int32 × zU)
  | 0, _, _, _, _ => none
  | n + 1, x1, x2, x3, u =>
  if x2 ≤ x3 then
  some (1, u)
  else
  zbd (zf_CCRows_partOf_2 N x1 x3 u) (fun r4 u5 =>
    zbd (zf_CCRows_partOf_5 N x1 x3 u5) (fun r7 u8 =>
    if r4 = r7 then
    zf_CCThings_hasLikeParametersAndResults_1_b25 N  n x1 x2 (x3 + 1) u8
    else
    some (0, u8)))
def zf_CCThings_hasLikeParametersAndResults_1 (N : Nat) (x1 : Int32) (u : zU) : Option (Int32 × zU) :=
  zbd (zf_CCRows_sizeOf_2 N x1 u) (fun r1 u2 =>
  zbd (zf_CCRows_sizeOf_5 N x1 u2) (fun r4 u5 =>
  if r1 = r4 then
  zf_CCThings_hasLikeParametersAndResults_1_b25 N  N x1 r1 0 u5
  else
  some (0, u5)))
def zf_CCStack_hasInnermost_31_b21 (N : Nat)  (s0 : Int32) (u : zU) : Option (Int32 × zU) :=
  zck (zbz s0) (some (s0, u))
def zf_CCStack_hasInnermost_31_b20 (N : Nat)   (u : zU) : Option (Int32 × zU) :=
  zf_CCStack_hasInnermost_31_b21 N  0 u
def zf_CCStack_hasInnermost_31 (N : Nat)  (u : zU) : Option (Int32 × zU) :=
  if (gi u 15) ≤ 0 then
  zf_CCStack_hasInnermost_31_b20 N   u
  else
  if 60 < (gi u 15) then
    zf_CCStack_hasInnermost_31_b20 N   u
    else
    zf_CCStack_hasInnermost_31_b21 N  1 u
def zf_CCStack_giveRow_31_5_b9 (N : Nat)  : Nat → Int32 → Int32 → Int32 → zU → Option (Unit × zU)
  | 0, _, _, _, _ => none
  | n + 1, x2, x3, x4, u =>
  if x3 ≤ x4 then
  some ((), u)
  else
  zbd (zf_CCRows_partOf_5 N x2 x4 u) (fun r4 u5 =>
    zbd (zf_CCStack_give_31 N r4 u5) (fun r7 u8 =>
    zf_CCStack_giveRow_31_5_b9 N  n x2 x3 (x4 + 1) u8))
def zf_CCStack_giveRow_31_5 (N : Nat) (x2 : Int32) (u : zU) : Option (Unit × zU) :=
  zbd (zf_CCRows_sizeOf_5 N x2 u) (fun r1 u2 =>
  zf_CCStack_giveRow_31_5_b9 N  N x2 r1 0 u2)
def zf_CCStack_closeBlock_31_b64 (N : Nat)   (u : zU) : Option (Unit × zU) :=
  some ((), u)
def zf_CCStack_closeBlock_31_b94 (N : Nat)   (u : zU) : Option (Unit × zU) :=
  some ((), u)
def zf_CCStack_closeBlock_31_b50 (N : Nat)  (x1 : Int32) (u : zU) : Option (Unit × zU) :=
  if (gi u 16) = 0 then
  zbd (zf_CCStack_hasInnermost_31 N  u) (fun r2 u3 =>
    if r2 = 0 then
    zf_CCStack_closeBlock_31_b64 N   u3
    else
    if ((gi u3 15) - 1) ≤ 0 then
      zf_CCStack_closeBlock_31_b94 N   (si u3 15 ((gi u3 15) - 1))
      else
      zbd (zf_CCStack_giveRow_31_5 N x1 (si u3 15 ((gi u3 15) - 1))) (fun r7 u8 =>
        zf_CCStack_closeBlock_31_b94 N   u8))
  else
  zf_CCStack_closeBlock_31_b64 N   u
def zf_CCStack_closeBlock_31 (N : Nat)  (u : zU) : Option (Unit × zU) :=
  zbd (zf_CCStack_ofBlock_31_33 N 0 u) (fun r1 u2 =>
  zbd (zf_CCStack_takeRow_31_5 N r1 u2) (fun r4 u5 =>
  zbd (zf_CCStack_expectNoMoreOperands_31 N  u5) (fun r7 u8 =>
  zbd (zf_CCStack_opener_31 N  u8) (fun r10 u11 =>
  if r10 = 4 then
  zbd (zf_CCThings_hasLikeParametersAndResults_1 N r1 u11) (fun r14 u15 =>
    if r14 = 0 then
    zbd (zf_CCStack_fail_31 N 4 u15) (fun r18 u19 =>
      zf_CCStack_closeBlock_31_b50 N  r1 u19)
    else
    zf_CCStack_closeBlock_31_b50 N  r1 u15)
  else
  zf_CCStack_closeBlock_31_b50 N  r1 u11))))
def zf_CCStack_giveRow_31_2_b9 (N : Nat)  : Nat → Int32 → Int32 → Int32 → zU → Option (Unit × zU)
  | 0, _, _, _, _ => none
  | n + 1, x2, x3, x4, u =>
  if x3 ≤ x4 then
  some ((), u)
  else
  zbd (zf_CCRows_partOf_2 N x2 x4 u) (fun r4 u5 =>
    zbd (zf_CCStack_give_31 N r4 u5) (fun r7 u8 =>
    zf_CCStack_giveRow_31_2_b9 N  n x2 x3 (x4 + 1) u8))
def zf_CCStack_giveRow_31_2 (N : Nat) (x2 : Int32) (u : zU) : Option (Unit × zU) :=
  zbd (zf_CCRows_sizeOf_2 N x2 u) (fun r1 u2 =>
  zf_CCStack_giveRow_31_2_b9 N  N x2 r1 0 u2)
def zf_CCStack_turnToElse_31_b15 (N : Nat)   (u : zU) : Option (Unit × zU) :=
  zbd (zf_CCStack_fail_31 N 2 u) (fun r1 u2 =>
  some ((), u2))
def zf_CCStack_turnToElse_31 (N : Nat)  (u : zU) : Option (Unit × zU) :=
  zbd (zf_CCStack_hasInnermost_31 N  u) (fun r1 u2 =>
  if r1 = 0 then
  zf_CCStack_turnToElse_31_b15 N   u2
  else
  zbd (zf_CCStack_opener_31 N  u2) (fun r5 u6 =>
    if r5 = 4 then
    zbd (zf_CCStack_ofBlock_31_33 N 0 u6) (fun r9 u10 =>
      zbd (zf_CCStack_takeRow_31_5 N r9 u10) (fun r12 u13 =>
      zbd (zf_CCStack_expectNoMoreOperands_31 N  u13) (fun r15 u16 =>
      zck (zin ((gi u16 15) - 1) 60) (zck (zin ((gi u16 15) - 1) 60) (zbd (zf_CCStack_giveRow_31_2 N r9 (sa (sa u16 21 ((gi u16 15) - 1) 5) 22 ((gi u16 15) - 1) (vp_nar .boolean 1))) (fun r20 u21 =>
      some ((), u21)))))))
    else
    zf_CCStack_turnToElse_31_b15 N   u6))
def zf_CCStack_takeRow_31_2_b8 (N : Nat)  : Nat → Int32 → Int32 → zU → Option (Unit × zU)
  | 0, _, _, _ => none
  | n + 1, x2, x3, u =>
  if x3 < 0 then
  some ((), u)
  else
  zbd (zf_CCRows_partOf_2 N x2 x3 u) (fun r4 u5 =>
    zbd (zf_CCStack_take_31 N r4 u5) (fun r7 u8 =>
    zf_CCStack_takeRow_31_2_b8 N  n x2 (x3 + (-1)) u8))
def zf_CCStack_takeRow_31_2 (N : Nat) (x2 : Int32) (u : zU) : Option (Unit × zU) :=
  zbd (zf_CCRows_sizeOf_2 N x2 u) (fun r1 u2 =>
  zf_CCStack_takeRow_31_2_b8 N  N x2 (r1 - 1) u2)
def zf_CCStack_openBlock_31 (N : Nat) (x1 : Int32) (x2 : Int32) (u : zU) : Option (Unit × zU) :=
  zbd (zf_CCStack_takeRow_31_2 N x2 u) (fun r1 u2 =>
  zbd (zf_CCStack_pushBlock_31 N x1 x2 u2) (fun r4 u5 =>
  zbd (zf_CCStack_giveRow_31_2 N x2 u5) (fun r7 u8 =>
  some ((), u8))))
def zf_CCStack_die_31_b14 (N : Nat)   (u : zU) : Option (Unit × zU) :=
  some ((), u)
def zf_CCStack_die_31 (N : Nat)  (u : zU) : Option (Unit × zU) :=
  if (gi u 16) = 0 then
  zbd (zf_CCStack_hasInnermost_31 N  u) (fun r2 u3 =>
    if r2 = 0 then
    zf_CCStack_die_31_b14 N   u3
    else
    zck (zin ((gi u3 15) - 1) 60) (zck (zin ((gi u3 15) - 1) 60) (some ((), (sa (si u3 14 (ga u3 20 ((gi u3 15) - 1))) 22 ((gi u3 15) - 1) (vp_nar .boolean 0))))))
  else
  zf_CCStack_die_31_b14 N   u
def zf_CCCode_carryOutBlock_26_b128 (N : Nat)   (u : zU) : Option (Unit × zU) :=
  some ((), u)
def zf_CCCode_carryOutBlock_26_b74 (N : Nat)  (x1 : Int32) (x2 : Int32) (u : zU) : Option (Unit × zU) :=
  zbd (zf_CCStack_openBlock_31 N x1 x2 u) (fun r1 u2 =>
  zf_CCCode_carryOutBlock_26_b128 N   u2)
def zf_CCCode_carryOutBlock_26 (N : Nat) (x1 : Int32) (x2 : Int32) (u : zU) : Option (Unit × zU) :=
  if x1 = 0 then zbd (zf_CCStack_die_31 N  u) (fun r2 u3 =>
    zf_CCCode_carryOutBlock_26_b128 N   u3)
  else if x1 = 1 then zf_CCCode_carryOutBlock_26_b128 N   u
  else if x1 = 2 then zf_CCCode_carryOutBlock_26_b74 N  x1 x2 u
  else if x1 = 3 then zf_CCCode_carryOutBlock_26_b74 N  x1 x2 u
  else if x1 = 4 then zbd (zf_CCStack_take_31 N 127 u) (fun r9 u10 =>
    zbd (zf_CCStack_openBlock_31 N x1 x2 u10) (fun r12 u13 =>
    zf_CCCode_carryOutBlock_26_b128 N   u13))
  else if x1 = 5 then zbd (zf_CCStack_turnToElse_31 N  u) (fun r16 u17 =>
    zf_CCCode_carryOutBlock_26_b128 N   u17)
  else if x1 = 6 then zf_CCCode_carryOutBlock_26_b128 N   u
  else if x1 = 7 then zf_CCCode_carryOutBlock_26_b128 N   u
  else if x1 = 8 then zf_CCCode_carryOutBlock_26_b128 N   u
  else if x1 = 9 then zf_CCCode_carryOutBlock_26_b128 N   u
  else if x1 = 10 then zf_CCCode_carryOutBlock_26_b128 N   u
  else if x1 = 11 then zbd (zf_CCStack_closeBlock_31 N  u) (fun r25 u26 =>
    zf_CCCode_carryOutBlock_26_b128 N   u26)
  else zf_CCCode_carryOutBlock_26_b128 N   u
def zf_CCCode_enterFunction_26 (N : Nat) (x1 : Int32) (u : zU) : Option (Unit × zU) :=
  zbd (zf_CCStack_takeRow_31_2 N x1 u) (fun r1 u2 =>
  zbd (zf_CCStack_giveRow_31_5 N x1 u2) (fun r4 u5 =>
  some ((), u5)))
def zf_CCShelf_typeOf_8_b27 (N : Nat)  (s0 : Int32) (u : zU) : Option (Int32 × zU) :=
  some (s0, u)
def zf_CCShelf_typeOf_8_b26 (N : Nat)   (u : zU) : Option (Int32 × zU) :=
  zf_CCShelf_typeOf_8_b27 N  0 u
def zf_CCShelf_typeOf_8 (N : Nat) (x1 : Int32) (u : zU) : Option (Int32 × zU) :=
  zbd (zf_CCShelf_has_8 N x1 u) (fun r1 u2 =>
  if r1 = 0 then
  zf_CCShelf_typeOf_8_b26 N   u2
  else
  if 40 ≤ x1 then
    zf_CCShelf_typeOf_8_b26 N   u2
    else
    zck (zin x1 40) (zf_CCShelf_typeOf_8_b27 N  (ga u2 4 x1) u2))
def zf_CCStack_takeOutermostResults_31 (N : Nat)  (u : zU) : Option (Unit × zU) :=
  zbd (zf_CCStack_ofBlock_31_33 N ((gi u 15) - 1) u) (fun r1 u2 =>
  zbd (zf_CCStack_takeRow_31_5 N r1 u2) (fun r4 u5 =>
  some ((), u5)))
def zf_CCStack_labelRows_31 (N : Nat) (x1 : Int32) (u : zU) : Option (Nat × zU) :=
  zbd (zf_CCStack_ofBlock_31_35 N x1 u) (fun r1 u2 =>
  if r1 = 3 then
  some (2, u2)
  else
  some (5, u2))
def zf_CCStack_labelSize_31 (N : Nat) (x1 : Int32) (u : zU) : Option (Int32 × zU) :=
  zbd (zf_CCStack_labelRows_31 N x1 u) (fun r1 u2 =>
  if r1 = 2 then zbd (zf_CCStack_ofBlock_31_33 N x1 u2) (fun r5 u6 =>
    zbd (zf_CCRows_sizeOf_2 N r5 u6) (fun r8 u9 =>
    some (r8, u9)))
  else if r1 = 5 then zbd (zf_CCStack_ofBlock_31_33 N x1 u2) (fun r14 u15 =>
    zbd (zf_CCRows_sizeOf_5 N r14 u15) (fun r17 u18 =>
    some (r17, u18)))
  else none)
def zf_CCStack_passLabel_31_b41 (N : Nat)   (u : zU) : Option (Unit × zU) :=
  zbd (zf_CCStack_fail_31 N 5 u) (fun r1 u2 =>
  some ((), u2))
def zf_CCStack_passLabel_31_b86 (N : Nat)  : Nat → Int32 → Int32 → zU → Option (Unit × zU)
  | 0, _, _, _ => none
  | n + 1, x5, x6, u =>
  if x5 ≤ x6 then
  some ((), u)
  else
  zck (zin x6 12) (zbd (zf_CCStack_give_31 N (ga u 23 x6) u) (fun r5 u6 =>
    zf_CCStack_passLabel_31_b86 N  n x5 (x6 + 1) u6))
def zf_CCStack_passLabel_31_b83 (N : Nat)  (x5 : Int32) (u : zU) : Option (Unit × zU) :=
  zf_CCStack_passLabel_31_b86 N  N x5 0 u
def zf_CCStack_passLabel_31_b53a (N : Nat)  : Nat → Int32 → Int32 → Int32 → zU → Option (Unit × zU)
  | 0, _, _, _, _ => none
  | n + 1, x4, x5, x6, u =>
  if x6 < 0 then
  zf_CCStack_passLabel_31_b83 N  x5 u
  else
  zbd (zf_CCRows_partOf_2 N x4 x6 u) (fun r2 u3 =>
    zbd (zf_CCStack_take_31 N r2 u3) (fun r5 u6 =>
    zck (zin x6 12) (zf_CCStack_passLabel_31_b53a N  n x4 x5 (x6 + (-1)) (sa u6 23 x6 r5))))
def zf_CCStack_passLabel_31_b53b (N : Nat)  : Nat → Int32 → Int32 → Int32 → zU → Option (Unit × zU)
  | 0, _, _, _, _ => none
  | n + 1, x4, x5, x6, u =>
  if x6 < 0 then
  zf_CCStack_passLabel_31_b83 N  x5 u
  else
  zbd (zf_CCRows_partOf_5 N x4 x6 u) (fun r2 u3 =>
    zbd (zf_CCStack_take_31 N r2 u3) (fun r5 u6 =>
    zck (zin x6 12) (zf_CCStack_passLabel_31_b53b N  n x4 x5 (x6 + (-1)) (sa u6 23 x6 r5))))
def zf_CCStack_passLabel_31 (N : Nat) (x1 : Int32) (x2 : Int32) (u : zU) : Option (Unit × zU) :=
  zbd (zf_CCStack_labelRows_31 N x1 u) (fun r1 u2 =>
  if r1 = 2 then zbd (zf_CCStack_ofBlock_31_33 N x1 u2) (fun r5 u6 =>
    zbd (zf_CCRows_sizeOf_2 N r5 u6) (fun r8 u9 =>
    if r8 = x2 then
    if r8 ≤ 12 then
      zf_CCStack_passLabel_31_b53a N  N r5 r8 (r8 - 1) u9
      else
      zf_CCStack_passLabel_31_b41 N   u9
    else
    zf_CCStack_passLabel_31_b41 N   u9))
  else if r1 = 5 then zbd (zf_CCStack_ofBlock_31_33 N x1 u2) (fun r14 u15 =>
    zbd (zf_CCRows_sizeOf_5 N r14 u15) (fun r17 u18 =>
    if r17 = x2 then
    if r17 ≤ 12 then
      zf_CCStack_passLabel_31_b53b N  N r14 r17 (r17 - 1) u18
      else
      zf_CCStack_passLabel_31_b41 N   u18
    else
    zf_CCStack_passLabel_31_b41 N   u18))
  else none)
end
section
def zf_CCStack_takeLabel_31 (N : Nat) (x1 : Int32) (u : zU) : Option (Unit × zU) :=
  zbd (zf_CCStack_labelRows_31 N x1 u) (fun r1 u2 =>
  if r1 = 2 then zbd (zf_CCStack_ofBlock_31_33 N x1 u2) (fun r5 u6 =>
    zbd (zf_CCStack_takeRow_31_2 N r5 u6) (fun r8 u9 =>
    some ((), u9)))
  else if r1 = 5 then zbd (zf_CCStack_ofBlock_31_33 N x1 u2) (fun r14 u15 =>
    zbd (zf_CCStack_takeRow_31_5 N r14 u15) (fun r17 u18 =>
    some ((), u18)))
  else none)
def zf_CCCode_branchByRow_26_b58 (N : Nat)  (x1 : Int32) (u : zU) : Option (Unit × zU) :=
  zbd (zf_CCStack_takeLabel_31 N x1 u) (fun r1 u2 =>
  zbd (zf_CCStack_die_31 N  u2) (fun r4 u5 =>
  some ((), u5)))
def zf_CCCode_branchByRow_26_b21 (N : Nat)  : Nat → Int32 → Int32 → Int32 → zU → Option (Unit × zU)
  | 0, _, _, _, _ => none
  | n + 1, x1, x2, x3, u =>
  if (gi u 7) ≤ x3 then
  zf_CCCode_branchByRow_26_b58 N  x1 u
  else
  if 20 ≤ x3 then
    zf_CCCode_branchByRow_26_b58 N  x1 u
    else
    zck (zin x3 20) (zbd (zf_CCStack_passLabel_31 N (ga u 17 x3) x2 u) (fun r4 u5 =>
      zf_CCCode_branchByRow_26_b21 N  n x1 x2 (x3 + 1) u5))
def zf_CCCode_branchByRow_26 (N : Nat) (x1 : Int32) (u : zU) : Option (Unit × zU) :=
  zbd (zf_CCStack_take_31 N 127 u) (fun r1 u2 =>
  zbd (zf_CCStack_labelSize_31 N x1 u2) (fun r4 u5 =>
  zf_CCCode_branchByRow_26_b21 N  N x1 r4 0 u5))
def zf_CCStack_giveLabel_31 (N : Nat) (x1 : Int32) (u : zU) : Option (Unit × zU) :=
  zbd (zf_CCStack_labelRows_31 N x1 u) (fun r1 u2 =>
  if r1 = 2 then zbd (zf_CCStack_ofBlock_31_33 N x1 u2) (fun r5 u6 =>
    zbd (zf_CCStack_giveRow_31_2 N r5 u6) (fun r8 u9 =>
    some ((), u9)))
  else if r1 = 5 then zbd (zf_CCStack_ofBlock_31_33 N x1 u2) (fun r14 u15 =>
    zbd (zf_CCStack_giveRow_31_5 N r14 u15) (fun r17 u18 =>
    some ((), u18)))
  else none)
def zf_CCCode_carryOutBranch_26_b148 (N : Nat)   (u : zU) : Option (Unit × zU) :=
  some ((), u)
def zf_CCCode_carryOutBranch_26 (N : Nat) (x1 : Int32) (x2 : Int32) (u : zU) : Option (Unit × zU) :=
  if x1 = 12 then zbd (zf_CCStack_takeLabel_31 N x2 u) (fun r2 u3 =>
    zbd (zf_CCStack_die_31 N  u3) (fun r5 u6 =>
    zf_CCCode_carryOutBranch_26_b148 N   u6))
  else if x1 = 13 then zbd (zf_CCStack_take_31 N 127 u) (fun r9 u10 =>
    zbd (zf_CCStack_takeLabel_31 N x2 u10) (fun r12 u13 =>
    zbd (zf_CCStack_giveLabel_31 N x2 u13) (fun r15 u16 =>
    zf_CCCode_carryOutBranch_26_b148 N   u16)))
  else if x1 = 14 then zbd (zf_CCCode_branchByRow_26 N x2 u) (fun r19 u20 =>
    zf_CCCode_carryOutBranch_26_b148 N   u20)
  else if x1 = 15 then zbd (zf_CCStack_takeOutermostResults_31 N  u) (fun r23 u24 =>
    zbd (zf_CCStack_die_31 N  u24) (fun r26 u27 =>
    zf_CCCode_carryOutBranch_26_b148 N   u27))
  else if x1 = 16 then zbd (zf_CCShelf_typeOf_8 N x2 u) (fun r30 u31 =>
    zbd (zf_CCCode_enterFunction_26 N r30 u31) (fun r33 u34 =>
    zf_CCCode_carryOutBranch_26_b148 N   u34))
  else if x1 = 17 then zbd (zf_CCStack_take_31 N 127 u) (fun r37 u38 =>
    zbd (zf_CCCode_enterFunction_26 N x2 u38) (fun r40 u41 =>
    zf_CCCode_carryOutBranch_26_b148 N   u41))
  else zf_CCCode_carryOutBranch_26_b148 N   u
def zf_CCShelf_typeOf_17_b27 (N : Nat)  (s0 : Int32) (u : zU) : Option (Int32 × zU) :=
  some (s0, u)
def zf_CCShelf_typeOf_17_b26 (N : Nat)   (u : zU) : Option (Int32 × zU) :=
  zf_CCShelf_typeOf_17_b27 N  0 u
def zf_CCShelf_typeOf_17 (N : Nat) (x1 : Int32) (u : zU) : Option (Int32 × zU) :=
  zbd (zf_CCShelf_has_17 N x1 u) (fun r1 u2 =>
  if r1 = 0 then
  zf_CCShelf_typeOf_17_b26 N   u2
  else
  if 40 ≤ x1 then
    zf_CCShelf_typeOf_17_b26 N   u2
    else
    zck (zin x1 40) (zf_CCShelf_typeOf_17_b27 N  (ga u2 10 x1) u2))
def zf_CCLocals_typeOf_27_b63 (N : Nat)   (u : zU) : Option (Int32 × zU) :=
  some (0, u)
def zf_CCLocals_typeOf_27_b8 (N : Nat)  : Nat → Int64 → Int32 → zU → Option (Int32 × zU)
  | 0, _, _, _ => none
  | n + 1, x2, x4, u =>
  if (gi u 13) ≤ x4 then
  zf_CCLocals_typeOf_27_b63 N   u
  else
  if 52 ≤ x4 then
    zf_CCLocals_typeOf_27_b63 N   u
    else
    if 52 ≤ x4 then
      zf_CCLocals_typeOf_27_b63 N   u
      else
      zck (zin x4 52) (if 0 ≤ (lg_cmp x2 (gb u 0 x4)) then
        zf_CCLocals_typeOf_27_b8 N  n x2 (x4 + 1) u
        else
        zck (zin x4 52) (some ((ga u 16 x4), u)))
def zf_CCLocals_typeOf_27 (N : Nat) (x1 : Int32) (u : zU) : Option (Int32 × zU) :=
  zbd (zf_CCC_withoutSign N x1 u) (fun r1 u2 =>
  zf_CCLocals_typeOf_27_b8 N  N r1 0 u2)
def zf_CCStack_choose_31_b65 (N : Nat)  (s0 : Int32) (u : zU) : Option (Unit × zU) :=
  zbd (zf_CCStack_give_31 N s0 u) (fun r1 u2 =>
  some ((), u2))
def zf_CCStack_choose_31_b55 (N : Nat)  (x1 : Int32) (x2 : Int32) (u : zU) : Option (Unit × zU) :=
  if x1 = 0 then
  zf_CCStack_choose_31_b65 N  x2 u
  else
  zf_CCStack_choose_31_b65 N  x1 u
def zf_CCStack_choose_31_b37 (N : Nat)  (x1 : Int32) (x2 : Int32) (u : zU) : Option (Unit × zU) :=
  if x1 = x2 then
  zf_CCStack_choose_31_b55 N  x1 x2 u
  else
  if x1 = 0 then
    zf_CCStack_choose_31_b55 N  x1 x2 u
    else
    if x2 = 0 then
      zf_CCStack_choose_31_b55 N  x1 x2 u
      else
      zbd (zf_CCStack_fail_31 N 1 u) (fun r4 u5 =>
        zf_CCStack_choose_31_b55 N  x1 x2 u5)
def zf_CCStack_choose_31_b31 (N : Nat)  (x1 : Int32) (x2 : Int32) (u : zU) : Option (Unit × zU) :=
  zbd (zf_CCStack_fail_31 N 7 u) (fun r1 u2 =>
  zf_CCStack_choose_31_b37 N  x1 x2 u2)
def zf_CCStack_choose_31 (N : Nat)  (u : zU) : Option (Unit × zU) :=
  zbd (zf_CCStack_take_31 N 127 u) (fun r1 u2 =>
  zbd (zf_CCStack_takeAny_31 N  u2) (fun r4 u5 =>
  zbd (zf_CCStack_takeAny_31 N  u5) (fun r7 u8 =>
  zbd (zf_CCC_isReferenceType N r4 u8) (fun r10 u11 =>
  if r10 = 0 then
  zbd (zf_CCC_isReferenceType N r7 u11) (fun r14 u15 =>
    if r14 = 0 then
    zf_CCStack_choose_31_b37 N  r4 r7 u15
    else
    zf_CCStack_choose_31_b31 N  r4 r7 u15)
  else
  zf_CCStack_choose_31_b31 N  r4 r7 u11))))
def zf_CCCode_carryOutVariable_26_b225 (N : Nat)   (u : zU) : Option (Unit × zU) :=
  some ((), u)
def zf_CCCode_carryOutVariable_26 (N : Nat) (x1 : Int32) (x2 : Int32) (u : zU) : Option (Unit × zU) :=
  if x1 = 26 then zbd (zf_CCStack_takeAny_31 N  u) (fun r2 u3 =>
    zf_CCCode_carryOutVariable_26_b225 N   u3)
  else if x1 = 27 then zbd (zf_CCStack_choose_31 N  u) (fun r6 u7 =>
    zf_CCCode_carryOutVariable_26_b225 N   u7)
  else if x1 = 28 then zbd (zf_CCStack_take_31 N 127 u) (fun r10 u11 =>
    zbd (zf_CCStack_takeTimes_31 N x2 2 u11) (fun r13 u14 =>
    zbd (zf_CCStack_give_31 N x2 u14) (fun r16 u17 =>
    zf_CCCode_carryOutVariable_26_b225 N   u17)))
  else if x1 = 29 then zf_CCCode_carryOutVariable_26_b225 N   u
  else if x1 = 30 then zf_CCCode_carryOutVariable_26_b225 N   u
  else if x1 = 31 then zf_CCCode_carryOutVariable_26_b225 N   u
  else if x1 = 32 then zbd (zf_CCLocals_typeOf_27 N x2 u) (fun r23 u24 =>
    zbd (zf_CCStack_give_31 N r23 u24) (fun r26 u27 =>
    zf_CCCode_carryOutVariable_26_b225 N   u27))
  else if x1 = 33 then zbd (zf_CCLocals_typeOf_27 N x2 u) (fun r30 u31 =>
    zbd (zf_CCStack_take_31 N r30 u31) (fun r33 u34 =>
    zf_CCCode_carryOutVariable_26_b225 N   u34))
  else if x1 = 34 then zbd (zf_CCLocals_typeOf_27 N x2 u) (fun r37 u38 =>
    zbd (zf_CCStack_take_31 N r37 u38) (fun r40 u41 =>
    zbd (zf_CCLocals_typeOf_27 N x2 u41) (fun r43 u44 =>
    zbd (zf_CCStack_give_31 N r43 u44) (fun r46 u47 =>
    zf_CCCode_carryOutVariable_26_b225 N   u47))))
  else if x1 = 35 then zbd (zf_CCShelf_typeOf_17 N x2 u) (fun r50 u51 =>
    zbd (zf_CCStack_give_31 N r50 u51) (fun r53 u54 =>
    zf_CCCode_carryOutVariable_26_b225 N   u54))
  else if x1 = 36 then zbd (zf_CCShelf_typeOf_17 N x2 u) (fun r57 u58 =>
    zbd (zf_CCStack_take_31 N r57 u58) (fun r60 u61 =>
    zf_CCCode_carryOutVariable_26_b225 N   u61))
  else zf_CCCode_carryOutVariable_26_b225 N   u
def zf_CCCode_carryOutAccess_26_b73 (N : Nat)   (u : zU) : Option (Unit × zU) :=
  some ((), u)
def zf_CCCode_carryOutAccess_26_b26 (N : Nat)  (x1 : Int32) (s0 : Int32) (u : zU) : Option (Unit × zU) :=
  if 54 ≤ x1 then
  zbd (zf_CCStack_take_31 N s0 u) (fun r2 u3 =>
    zbd (zf_CCStack_take_31 N 127 u3) (fun r5 u6 =>
    zf_CCCode_carryOutAccess_26_b73 N   u6))
  else
  zbd (zf_CCStack_take_31 N 127 u) (fun r8 u9 =>
    zbd (zf_CCStack_give_31 N s0 u9) (fun r11 u12 =>
    zf_CCCode_carryOutAccess_26_b73 N   u12))
def zf_CCCode_carryOutAccess_26_b25 (N : Nat)  (x1 : Int32) (u : zU) : Option (Unit × zU) :=
  zf_CCCode_carryOutAccess_26_b26 N  x1 0 u
def zf_CCCode_carryOutAccess_26 (N : Nat) (x1 : Int32) (u : zU) : Option (Unit × zU) :=
  if (x1 - 40) < 0 then
  zf_CCCode_carryOutAccess_26_b25 N  x1 u
  else
  if 23 ≤ (x1 - 40) then
    zf_CCCode_carryOutAccess_26_b25 N  x1 u
    else
    zck (zin (x1 - 40) 23) (zf_CCCode_carryOutAccess_26_b26 N  x1 (t_X_MOVED_TYPE.getD (x1 - 40).toNatClampNeg 0) u)
def zf_CCStack_takeReference_31_b22 (N : Nat)   (u : zU) : Option (Unit × zU) :=
  some ((), u)
def zf_CCStack_takeReference_31 (N : Nat)  (u : zU) : Option (Unit × zU) :=
  zbd (zf_CCStack_takeAny_31 N  u) (fun r1 u2 =>
  if r1 = 0 then
  zf_CCStack_takeReference_31_b22 N   u2
  else
  zbd (zf_CCC_isReferenceType N r1 u2) (fun r5 u6 =>
    if r5 = 0 then
    zbd (zf_CCStack_fail_31 N 7 u6) (fun r9 u10 =>
      zf_CCStack_takeReference_31_b22 N   u10)
    else
    zf_CCStack_takeReference_31_b22 N   u6))
def zf_CCCode_carryOutReference_26_b236 (N : Nat)   (u : zU) : Option (Unit × zU) :=
  some ((), u)
def zf_CCCode_carryOutReference_26 (N : Nat) (x1 : Int32) (x2 : Int32) (u : zU) : Option (Unit × zU) :=
  if x1 = 37 then zbd (zf_CCStack_take_31 N 127 u) (fun r2 u3 =>
    zbd (zf_CCShelf_typeOf_11 N x2 u3) (fun r5 u6 =>
    zbd (zf_CCStack_give_31 N r5 u6) (fun r8 u9 =>
    zf_CCCode_carryOutReference_26_b236 N   u9)))
  else if x1 = 38 then zbd (zf_CCShelf_typeOf_11 N x2 u) (fun r12 u13 =>
    zbd (zf_CCStack_take_31 N r12 u13) (fun r15 u16 =>
    zbd (zf_CCStack_take_31 N 127 u16) (fun r18 u19 =>
    zf_CCCode_carryOutReference_26_b236 N   u19)))
  else if x1 = 208 then zbd (zf_CCStack_give_31 N x2 u) (fun r22 u23 =>
    zf_CCCode_carryOutReference_26_b236 N   u23)
  else if x1 = 209 then zbd (zf_CCStack_takeReference_31 N  u) (fun r26 u27 =>
    zbd (zf_CCStack_give_31 N 127 u27) (fun r29 u30 =>
    zf_CCCode_carryOutReference_26_b236 N   u30))
  else if x1 = 271 then zbd (zf_CCStack_take_31 N 127 u) (fun r33 u34 =>
    zbd (zf_CCShelf_typeOf_11 N x2 u34) (fun r36 u37 =>
    zbd (zf_CCStack_take_31 N r36 u37) (fun r39 u40 =>
    zbd (zf_CCStack_give_31 N 127 u40) (fun r42 u43 =>
    zf_CCCode_carryOutReference_26_b236 N   u43))))
  else if x1 = 273 then zbd (zf_CCStack_take_31 N 127 u) (fun r46 u47 =>
    zbd (zf_CCShelf_typeOf_11 N x2 u47) (fun r49 u50 =>
    zbd (zf_CCStack_take_31 N r49 u50) (fun r52 u53 =>
    zbd (zf_CCStack_take_31 N 127 u53) (fun r55 u56 =>
    zf_CCCode_carryOutReference_26_b236 N   u56))))
  else zf_CCCode_carryOutReference_26_b236 N   u
def zf_CCCode_carryOut_26_b88 (N : Nat)   (u : zU) : Option (Int32 × zU) :=
  some ((gi u 16), u)
def zf_CCCode_carryOut_26_b82 (N : Nat)  (x1 : Int32) (x2 : Int32) (u : zU) : Option (Int32 × zU) :=
  zbd (zf_CCCode_carryOutReference_26 N x1 x2 u) (fun r1 u2 =>
  zf_CCCode_carryOut_26_b88 N   u2)
def zf_CCCode_carryOut_26 (N : Nat) (x1 : Int32) (x2 : Int32) (u : zU) : Option (Int32 × zU) :=
  zbd (zf_CCC_plainLine N x1 u) (fun r1 u2 =>
  if r1 < 0 then
  if 11 < x1 then
    if 17 < x1 then
      if 36 < x1 then
        if x1 < 40 then
          zf_CCCode_carryOut_26_b82 N  x1 x2 u2
          else
          if 62 < x1 then
            zf_CCCode_carryOut_26_b82 N  x1 x2 u2
            else
            zbd (zf_CCCode_carryOutAccess_26 N x1 u2) (fun r10 u11 =>
              zf_CCCode_carryOut_26_b88 N   u11)
        else
        zbd (zf_CCCode_carryOutVariable_26 N x1 x2 u2) (fun r13 u14 =>
          zf_CCCode_carryOut_26_b88 N   u14)
      else
      zbd (zf_CCCode_carryOutBranch_26 N x1 x2 u2) (fun r16 u17 =>
        zf_CCCode_carryOut_26_b88 N   u17)
    else
    zbd (zf_CCCode_carryOutBlock_26 N x1 x2 u2) (fun r19 u20 =>
      zf_CCCode_carryOut_26_b88 N   u20)
  else
  zbd (zf_CCCode_carryOutPlain_26 N r1 u2) (fun r22 u23 =>
    zf_CCCode_carryOut_26_b88 N   u23))
def zf_CCCode_finishInstruction_26_b37 (N : Nat)   (u : zU) : Option (Unit × zU) :=
  some ((), u)
def zf_CCCode_finishInstruction_26 (N : Nat) (x1 : Int32) (u : zU) : Option (Unit × zU) :=
  if x1 = 0 then
  if (gi u 15) = 0 then
    zf_CCCode_finishInstruction_26_b37 N   (si (si (si u 10 1) 7 0) 8 2)
    else
    zf_CCCode_finishInstruction_26_b37 N   (si (si u 10 1) 7 0)
  else
  zf_CCCode_finishInstruction_26_b37 N   (si (si (si u 10 1) 7 0) 8 0)
def zf_CCC_step_0_b40 (N : Nat)  (x4 : Int32) (u : zU) : Option (Int32 × zU) :=
  zbd (zf_CCCode_finishInstruction_26 N x4 u) (fun r1 u2 =>
  some (x4, u2))
def zf_CCC_step_0 (N : Nat) (x1 : Int32) (x2 : Int32) (x3 : Int32) (u : zU) : Option (Int32 × zU) :=
  zbd (zf_CCCode_isOpen_26 N  u) (fun r1 u2 =>
  if r1 = 0 then
  some ((-1), u2)
  else
  zbd (zf_CCCode_faultAhead_26 N x1 x2 x3 u2) (fun r5 u6 =>
    if r5 = 0 then
    zbd (zf_CCCode_carryOut_26 N x1 x2 u6) (fun r9 u10 =>
      zf_CCC_step_0_b40 N  r9 u10)
    else
    zf_CCC_step_0_b40 N  r5 u6))
def zf_CCC_state_0 (N : Nat)  (u : zU) : Option (Int32 × zU) :=
  some ((gi u 8), u)
def zf_CCStack_isLive_31_b26 (N : Nat)  (s0 : Int32) (u : zU) : Option (Int32 × zU) :=
  zck (zbz s0) (some (s0, u))
def zf_CCStack_isLive_31_b25 (N : Nat)   (u : zU) : Option (Int32 × zU) :=
  zf_CCStack_isLive_31_b26 N  0 u
def zf_CCStack_isLive_31 (N : Nat)  (u : zU) : Option (Int32 × zU) :=
  zbd (zf_CCStack_hasInnermost_31 N  u) (fun r1 u2 =>
  if r1 = 0 then
  zf_CCStack_isLive_31_b25 N   u2
  else
  zck (zin ((gi u2 15) - 1) 60) (if (ga u2 22 ((gi u2 15) - 1)) = 0 then
    zf_CCStack_isLive_31_b25 N   u2
    else
    zf_CCStack_isLive_31_b26 N  1 u2))
def zf_CCCode_figure_26_b82 (N : Nat)  (s0 : Int64) (u : zU) : Option (Int64 × zU) :=
  some (s0, u)
def zf_CCCode_figure_26 (N : Nat) (x1 : Int32) (u : zU) : Option (Int64 × zU) :=
  if x1 = 0 then some ((Int32.toInt64 (gi u 14)), u)
  else if x1 = 1 then some ((Int32.toInt64 (gi u 15)), u)
  else if x1 = 2 then zbd (zf_CCStack_height_31 N  u) (fun r8 u9 =>
    some ((Int32.toInt64 r8), u9))
  else if x1 = 3 then zbd (zf_CCStack_isLive_31 N  u) (fun r14 u15 =>
    if r14 = 0 then
    zf_CCCode_figure_26_b82 N  0 u15
    else
    zf_CCCode_figure_26_b82 N  1 u15)
  else if x1 = 4 then zbd (zf_CCStack_opener_31 N  u) (fun r19 u20 =>
    some ((Int32.toInt64 r19), u20))
  else if x1 = 5 then some ((gj u 0), u)
  else some ((-1), u)
def zf_CCC_look_0_b24 (N : Nat)  (s0 : Int64) (u : zU) : Option (Int64 × zU) :=
  some (s0, u)
def zf_CCC_look_0 (N : Nat) (x1 : Int32) (u : zU) : Option (Int64 × zU) :=
  zbd (zf_CCCode_isOpen_26 N  u) (fun r1 u2 =>
  if r1 = 0 then
  zf_CCC_look_0_b24 N  (-1) u2
  else
  zbd (zf_CCCode_figure_26 N x1 u2) (fun r5 u6 =>
    zf_CCC_look_0_b24 N  r5 u6))
def zf_CCStack_operandFromEnd_31_b24 (N : Nat)   (u : zU) : Option (Int32 × zU) :=
  some ((-1), u)
def zf_CCStack_operandFromEnd_31 (N : Nat) (x1 : Int32) (u : zU) : Option (Int32 × zU) :=
  if x1 < 0 then
  zf_CCStack_operandFromEnd_31_b24 N   u
  else
  if (gi u 14) ≤ x1 then
    zf_CCStack_operandFromEnd_31_b24 N   u
    else
    if (gi u 14) ≤ 200 then
      zck (zin (((gi u 14) - 1) - x1) 200) (some ((ga u 18 (((gi u 14) - 1) - x1)), u))
      else
      zf_CCStack_operandFromEnd_31_b24 N   u
def zf_CCC_operand_0_b25 (N : Nat)  (s0 : Int32) (u : zU) : Option (Int32 × zU) :=
  some (s0, u)
def zf_CCC_operand_0 (N : Nat) (x1 : Int32) (u : zU) : Option (Int32 × zU) :=
  zbd (zf_CCCode_isOpen_26 N  u) (fun r1 u2 =>
  if r1 = 0 then
  zf_CCC_operand_0_b25 N  (-1) u2
  else
  zbd (zf_CCStack_operandFromEnd_31 N x1 u2) (fun r5 u6 =>
    zf_CCC_operand_0_b25 N  r5 u6))
end
section
def zf_MMC_type_0 (N : Nat)  (u : zU) : Option (Int32 × zU) :=
  if (gi u 0) = 40 then
  some ((-1), u)
  else
  some ((((gi u 0) + 1) - 1), (si u 0 ((gi u 0) + 1)))
def zf_MMC_isReference_b17 (N : Nat)  (s0 : Int32) (u : zU) : Option (Int32 × zU) :=
  zck (zbz s0) (some (s0, u))
def zf_MMC_isReference_b12 (N : Nat)   (u : zU) : Option (Int32 × zU) :=
  zf_MMC_isReference_b17 N  1 u
def zf_MMC_isReference (N : Nat) (x0 : Int32) (u : zU) : Option (Int32 × zU) :=
  if x0 = 112 then
  zf_MMC_isReference_b12 N   u
  else
  if x0 = 111 then
    zf_MMC_isReference_b12 N   u
    else
    zf_MMC_isReference_b17 N  0 u
def zf_MMC_isValue_b24 (N : Nat)  (s0 : Int32) (u : zU) : Option (Int32 × zU) :=
  zck (zbz s0) (some (s0, u))
def zf_MMC_isValue_b19 (N : Nat)   (u : zU) : Option (Int32 × zU) :=
  zf_MMC_isValue_b24 N  1 u
def zf_MMC_isValue_b12 (N : Nat)  (x0 : Int32) (u : zU) : Option (Int32 × zU) :=
  zbd (zf_MMC_isReference N x0 u) (fun r1 u2 =>
  if r1 = 0 then
  zf_MMC_isValue_b24 N  0 u2
  else
  zf_MMC_isValue_b19 N   u2)
def zf_MMC_isValue (N : Nat) (x0 : Int32) (u : zU) : Option (Int32 × zU) :=
  if x0 < 124 then
  zf_MMC_isValue_b12 N  x0 u
  else
  if x0 ≤ 127 then
    zf_MMC_isValue_b19 N   u
    else
    zf_MMC_isValue_b12 N  x0 u
def zf_MMC_part_0_b22 (N : Nat)   (u : zU) : Option (Int32 × zU) :=
  some ((-1), u)
def zf_MMC_part_0_b114 (N : Nat)  (x4 : Int32) (u : zU) : Option (Int32 × zU) :=
  some ((x4 + 1), u)
def zf_MMC_part_0_b50 (N : Nat)  (x1 : Int32) (x2 : Int32) (x3 : Int32) (s0 : Int32) (u : zU) : Option (Int32 × zU) :=
  if s0 = 12 then
  some ((-1), u)
  else
  if x1 = 0 then
    zck (zin ((12 * x3) + s0) 480) (zck (zin x3 40) (zck (zin x3 40) (zf_MMC_part_0_b114 N  s0 (sa (sa u 2 ((12 * x3) + s0) x2) 0 x3 ((ga (sa u 2 ((12 * x3) + s0) x2) 0 x3) + 1)))))
    else
    zck (zin ((12 * x3) + s0) 480) (zck (zin x3 40) (zck (zin x3 40) (zf_MMC_part_0_b114 N  s0 (sa (sa u 3 ((12 * x3) + s0) x2) 1 x3 ((ga (sa u 3 ((12 * x3) + s0) x2) 1 x3) + 1)))))
def zf_MMC_part_0 (N : Nat) (x1 : Int32) (x2 : Int32) (u : zU) : Option (Int32 × zU) :=
  if (gi u 0) = 0 then
  zf_MMC_part_0_b22 N   u
  else
  zbd (zf_MMC_isValue N x2 u) (fun r2 u3 =>
    if r2 = 0 then
    zf_MMC_part_0_b22 N   u3
    else
    if (gi u3 1) = 1 then
      zf_MMC_part_0_b22 N   u3
      else
      if x1 = 0 then
        zck (zin ((gi u3 0) - 1) 40) (zf_MMC_part_0_b50 N  x1 x2 ((gi u3 0) - 1) (ga u3 0 ((gi u3 0) - 1)) u3)
        else
        zck (zin ((gi u3 0) - 1) 40) (zf_MMC_part_0_b50 N  x1 x2 ((gi u3 0) - 1) (ga u3 1 ((gi u3 0) - 1)) u3))
def zf_MMC_add_0_b20 (N : Nat)   (u : zU) : Option (Int32 × zU) :=
  some ((-1), u)
def zf_MMC_add_0_b89 (N : Nat)  (x1 : Int32) (x2 : Int32) (x3 : Int32) (s0 : Int32) (u : zU) : Option (Int32 × zU) :=
  if s0 = 0 then
  some ((-1), u)
  else
  zck (zin x1 6) (zck (zin ((40 * x1) + (ga u 4 x1)) 240) (zck (zin x1 6) (zck (zin ((40 * x1) + (ga (sa u 5 ((40 * x1) + (ga u 4 x1)) x2) 4 x1)) 240) (zck (zin x1 6) (zck (zin x1 6) (zck (zin x1 6) (some (((ga (sa (sa (sa u 5 ((40 * x1) + (ga u 4 x1)) x2) 6 ((40 * x1) + (ga (sa u 5 ((40 * x1) + (ga u 4 x1)) x2) 4 x1)) x3) 4 x1 ((ga (sa (sa u 5 ((40 * x1) + (ga u 4 x1)) x2) 6 ((40 * x1) + (ga (sa u 5 ((40 * x1) + (ga u 4 x1)) x2) 4 x1)) x3) 4 x1) + 1)) 4 x1) - 1), (sa (sa (sa u 5 ((40 * x1) + (ga u 4 x1)) x2) 6 ((40 * x1) + (ga (sa u 5 ((40 * x1) + (ga u 4 x1)) x2) 4 x1)) x3) 4 x1 ((ga (sa (sa u 5 ((40 * x1) + (ga u 4 x1)) x2) 6 ((40 * x1) + (ga (sa u 5 ((40 * x1) + (ga u 4 x1)) x2) 4 x1)) x3) 4 x1) + 1))))))))))
def zf_MMC_add_0_b56 (N : Nat)  (x1 : Int32) (x2 : Int32) (x3 : Int32) (u : zU) : Option (Int32 × zU) :=
  zbd (zf_MMC_isReference N x2 u) (fun r1 u2 =>
  zf_MMC_add_0_b89 N  x1 x2 x3 r1 u2)
def zf_MMC_add_0_b84 (N : Nat)  (x1 : Int32) (x2 : Int32) (x3 : Int32) (u : zU) : Option (Int32 × zU) :=
  zf_MMC_add_0_b89 N  x1 x2 x3 1 u
def zf_MMC_add_0_b88 (N : Nat)  (x1 : Int32) (x2 : Int32) (x3 : Int32) (u : zU) : Option (Int32 × zU) :=
  zf_MMC_add_0_b89 N  x1 x2 x3 0 u
def zf_MMC_add_0_b42 (N : Nat)  (x1 : Int32) (x2 : Int32) (x3 : Int32) (u : zU) : Option (Int32 × zU) :=
  zf_MMC_add_0_b89 N  x1 x2 x3 0 u
def zf_MMC_add_0 (N : Nat) (x1 : Int32) (x2 : Int32) (x3 : Int32) (u : zU) : Option (Int32 × zU) :=
  if x1 < 0 then
  zf_MMC_add_0_b20 N   u
  else
  if 5 < x1 then
    zf_MMC_add_0_b20 N   u
    else
    zck (zin x1 6) (if (ga u 4 x1) = 40 then
      zf_MMC_add_0_b20 N   u
      else
      if x1 = 0 then
        if x2 < 0 then
          zf_MMC_add_0_b42 N  x1 x2 x3 u
          else
          if (gi u 0) ≤ x2 then
            zf_MMC_add_0_b42 N  x1 x2 x3 u
            else
            zf_MMC_add_0_b89 N  x1 x2 x3 1 u
        else
        if x1 = 1 then
          zf_MMC_add_0_b56 N  x1 x2 x3 u
          else
          if x1 = 4 then
            zf_MMC_add_0_b56 N  x1 x2 x3 u
            else
            if x1 = 3 then
              zbd (zf_MMC_isValue N x2 u) (fun r9 u10 =>
                if r9 = 0 then
                zf_MMC_add_0_b88 N  x1 x2 x3 u10
                else
                if x3 = 0 then
                  zf_MMC_add_0_b84 N  x1 x2 x3 u10
                  else
                  if x3 = 1 then
                    zf_MMC_add_0_b84 N  x1 x2 x3 u10
                    else
                    zf_MMC_add_0_b88 N  x1 x2 x3 u10)
              else
              zf_MMC_add_0_b84 N  x1 x2 x3 u)
def zf_MMC_declare_0_b14 (N : Nat)   (u : zU) : Option (Int32 × zU) :=
  some (0, u)
def zf_MMC_declare_0 (N : Nat) (x1 : Int32) (u : zU) : Option (Int32 × zU) :=
  if x1 < 0 then
  zf_MMC_declare_0_b14 N   u
  else
  zck (zin 0 6) (if x1 < (ga u 4 0) then
    zck (zin x1 40) (some (1, (sa u 7 x1 (vp_nar .boolean 1))))
    else
    zf_MMC_declare_0_b14 N   u)
def zf_MMC_beginCode_0 (N : Nat) (x1 : Int32) (u : zU) : Option (Unit × zU) :=
  zck (zbz x1) (zck (zin 0 62) (zck (zin 0 62) (zck (zin 0 62) (some ((), (sa (sa (sa (si (si (si (si (si (si (si (si u 2 x1) 3 0) 1 1) 6 0) 7 0) 8 0) 9 0) 10 1) 11 0 (-1)) 13 0 0) 14 0 (vp_nar .boolean 0)))))))
def zf_MMC_addRow_0 (N : Nat) (x1 : Int32) (x2 : Int64) (u : zU) : Option (Unit × zU) :=
  zck (zin (gi u 6) 60) (zck (zin (gi u 6) 60) (some ((), (si (sb (sa u 8 (gi u 6) x1) 0 (gi u 6) x2) 6 ((gi u 6) + 1)))))
def zf_MMC_begin_0_b12 (N : Nat)   (u : zU) : Option (Int32 × zU) :=
  some (0, u)
def zf_MMC_begin_0_b26 (N : Nat)  : Nat → Int32 → Int32 → zU → Option (Int32 × zU)
  | 0, _, _, _ => none
  | n + 1, x1, x2, u =>
  zck (zin x1 40) (if (ga u 0 x1) ≤ x2 then
  some (1, u)
  else
  zck (zin ((12 * x1) + x2) 480) (zbd (zf_MMC_addRow_0 N (ga u 2 ((12 * x1) + x2)) 1 u) (fun r6 u7 =>
    zf_MMC_begin_0_b26 N  n x1 (x2 + 1) u7)))
def zf_MMC_begin_0 (N : Nat) (x1 : Int32) (u : zU) : Option (Int32 × zU) :=
  if x1 < 0 then
  zf_MMC_begin_0_b12 N   u
  else
  if x1 < (gi u 0) then
    zbd (zf_MMC_beginCode_0 N 1 u) (fun r3 u4 =>
      zf_MMC_begin_0_b26 N  N x1 0 (si u4 4 x1))
    else
    zf_MMC_begin_0_b12 N   u
def zf_MMC_constant_0_b11 (N : Nat)   (u : zU) : Option (Int32 × zU) :=
  some (0, u)
def zf_MMC_constant_0 (N : Nat) (x1 : Int32) (x2 : Int32) (u : zU) : Option (Int32 × zU) :=
  zbd (zf_MMC_isValue N x1 u) (fun r1 u2 =>
  if r1 = 0 then
  zf_MMC_constant_0_b11 N   u2
  else
  if 0 ≤ x2 then
    zbd (zf_MMC_beginCode_0 N 0 u2) (fun r6 u7 =>
      some (1, (sj (si u7 5 x1) 0 (Int32.toInt64 x2))))
    else
    zf_MMC_constant_0_b11 N   u2)
def zf_MMC_local_0_b38 (N : Nat)   (u : zU) : Option (Int32 × zU) :=
  some (0, u)
def zf_MMC_local_0 (N : Nat) (x1 : Int32) (x2 : Int32) (u : zU) : Option (Int32 × zU) :=
  if (gi u 1) = 1 then
  if (gi u 2) = 0 then
    zf_MMC_local_0_b38 N   u
    else
    if (gi u 3) = 0 then
      zbd (zf_MMC_isValue N x1 u) (fun r4 u5 =>
        if r4 = 0 then
        zf_MMC_local_0_b38 N   u5
        else
        if (gi u5 7) = 40 then
          zf_MMC_local_0_b38 N   u5
          else
          zbd (zf_MMC_addRow_0 N x1 ((Int32.toInt64 x2) &&& 4294967295) u5) (fun r9 u10 =>
            some (1, (si u10 7 ((gi u10 7) + 1)))))
      else
      zf_MMC_local_0_b38 N   u
  else
  zf_MMC_local_0_b38 N   u
def zf_MMC_label_0_b17 (N : Nat)   (u : zU) : Option (Int32 × zU) :=
  some ((-1), u)
def zf_MMC_label_0 (N : Nat) (x1 : Int32) (u : zU) : Option (Int32 × zU) :=
  if (gi u 1) = 1 then
  if (gi u 8) = 20 then
    zf_MMC_label_0_b17 N   u
    else
    zck (zin (gi u 8) 20) (some (((gi u 8) + 1), (si (sa u 9 (gi u 8) x1) 8 ((gi u 8) + 1))))
  else
  zf_MMC_label_0_b17 N   u
def zf_MMC_isInstruction_b92 (N : Nat)  (s0 : Int32) (u : zU) : Option (Int32 × zU) :=
  zck (zbz s0) (some (s0, u))
def zf_MMC_isInstruction_b91 (N : Nat)   (u : zU) : Option (Int32 × zU) :=
  zf_MMC_isInstruction_b92 N  0 u
def zf_MMC_isInstruction_b87 (N : Nat)   (u : zU) : Option (Int32 × zU) :=
  zf_MMC_isInstruction_b92 N  1 u
def zf_MMC_isInstruction_b73 (N : Nat)  (x0 : Int32) (u : zU) : Option (Int32 × zU) :=
  if x0 < 256 then
  zf_MMC_isInstruction_b91 N   u
  else
  if 273 < x0 then
    zf_MMC_isInstruction_b91 N   u
    else
    zf_MMC_isInstruction_b87 N   u
def zf_MMC_isInstruction_b59 (N : Nat)  (x0 : Int32) (u : zU) : Option (Int32 × zU) :=
  if x0 < 208 then
  zf_MMC_isInstruction_b73 N  x0 u
  else
  if x0 ≤ 210 then
    zf_MMC_isInstruction_b87 N   u
    else
    zf_MMC_isInstruction_b73 N  x0 u
def zf_MMC_isInstruction_b46 (N : Nat)  (x0 : Int32) (u : zU) : Option (Int32 × zU) :=
  if x0 < 40 then
  zf_MMC_isInstruction_b59 N  x0 u
  else
  if x0 ≤ 196 then
    zf_MMC_isInstruction_b87 N   u
    else
    zf_MMC_isInstruction_b59 N  x0 u
def zf_MMC_isInstruction_b34 (N : Nat)  (x0 : Int32) (u : zU) : Option (Int32 × zU) :=
  if x0 < 32 then
  zf_MMC_isInstruction_b46 N  x0 u
  else
  if x0 ≤ 38 then
    zf_MMC_isInstruction_b87 N   u
    else
    zf_MMC_isInstruction_b46 N  x0 u
def zf_MMC_isInstruction_b22 (N : Nat)  (x0 : Int32) (u : zU) : Option (Int32 × zU) :=
  if x0 < 26 then
  zf_MMC_isInstruction_b34 N  x0 u
  else
  if x0 ≤ 28 then
    zf_MMC_isInstruction_b87 N   u
    else
    zf_MMC_isInstruction_b34 N  x0 u
def zf_MMC_isInstruction_b10 (N : Nat)  (x0 : Int32) (u : zU) : Option (Int32 × zU) :=
  if x0 < 11 then
  zf_MMC_isInstruction_b22 N  x0 u
  else
  if x0 ≤ 17 then
    zf_MMC_isInstruction_b87 N   u
    else
    zf_MMC_isInstruction_b22 N  x0 u
def zf_MMC_isInstruction (N : Nat) (x0 : Int32) (u : zU) : Option (Int32 × zU) :=
  if x0 < 0 then
  zf_MMC_isInstruction_b10 N  x0 u
  else
  if x0 < 6 then
    zf_MMC_isInstruction_b87 N   u
    else
    zf_MMC_isInstruction_b10 N  x0 u
def zf_MMC_isBlockType_b26 (N : Nat)  (s0 : Int32) (u : zU) : Option (Int32 × zU) :=
  zck (zbz s0) (some (s0, u))
def zf_MMC_isBlockType_b21 (N : Nat)   (u : zU) : Option (Int32 × zU) :=
  zf_MMC_isBlockType_b26 N  1 u
def zf_MMC_isBlockType (N : Nat) (x0 : Int32) (u : zU) : Option (Int32 × zU) :=
  if 0 ≤ x0 then
  zf_MMC_isBlockType_b21 N   u
  else
  if x0 = (-64) then
    zf_MMC_isBlockType_b21 N   u
    else
    zbd (zf_MMC_isValue N (x0 + 128) u) (fun r3 u4 =>
      if r3 = 0 then
      zf_MMC_isBlockType_b26 N  0 u4
      else
      zf_MMC_isBlockType_b21 N   u4)
def zf_MMC_isFormed_b56 (N : Nat)  (s0 : Int32) (u : zU) : Option (Int32 × zU) :=
  zck (zbz s0) (some (s0, u))
def zf_MMC_isFormed_b51 (N : Nat)   (u : zU) : Option (Int32 × zU) :=
  zf_MMC_isFormed_b56 N  1 u
def zf_MMC_isFormed_b24 (N : Nat)  (x0 : Int32) (x1 : Int32) (u : zU) : Option (Int32 × zU) :=
  if x0 = 28 then
  zbd (zf_MMC_isValue N x1 u) (fun r7 u8 =>
    zf_MMC_isFormed_b56 N  r7 u8)
  else
  if x0 = 208 then
    zbd (zf_MMC_isReference N x1 u) (fun r3 u4 =>
      if r3 = 0 then
      zf_MMC_isFormed_b56 N  0 u4
      else
      zf_MMC_isFormed_b51 N   u4)
    else
    zf_MMC_isFormed_b51 N   u
def zf_MMC_isFormed (N : Nat) (x0 : Int32) (x1 : Int32) (u : zU) : Option (Int32 × zU) :=
  zbd (zf_MMC_isInstruction N x0 u) (fun r1 u2 =>
  if r1 = 0 then
  some (0, u2)
  else
  if x0 ≤ 1 then
    zf_MMC_isFormed_b24 N  x0 x1 u2
    else
    if 5 ≤ x0 then
      zf_MMC_isFormed_b24 N  x0 x1 u2
      else
      zbd (zf_MMC_isBlockType N x1 u2) (fun r7 u8 =>
        zck (zbz r7) (some (r7, u8))))
def zf_MMC_stop_0_b16 (N : Nat)  (s0 : Int32) (u : zU) : Option (Unit × zU) :=
  some ((), (si u 11 s0))
def zf_MMC_stop_0 (N : Nat) (x1 : Int32) (u : zU) : Option (Unit × zU) :=
  if (gi u 11) = 0 then
  zf_MMC_stop_0_b16 N  x1 u
  else
  zf_MMC_stop_0_b16 N  (gi u 11) u
def zf_MMC_has_0_b22 (N : Nat)  (s0 : Int32) (u : zU) : Option (Int32 × zU) :=
  zck (zbz s0) (some (s0, u))
def zf_MMC_has_0 (N : Nat) (x1 : Int32) (x2 : Int32) (u : zU) : Option (Int32 × zU) :=
  zck (zin x1 6) (if 0 ≤ (lg_cmp ((Int32.toInt64 x2) &&& 4294967295) (Int32.toInt64 (ga u 4 x1))) then
  zf_MMC_has_0_b22 N  0 u
  else
  zf_MMC_has_0_b22 N  1 u)
def zf_MMC_mayBeConstant_0_b84 (N : Nat)  (s0 : Int32) (u : zU) : Option (Int32 × zU) :=
  zck (zbz s0) (some (s0, u))
def zf_MMC_mayBeConstant_0_b79 (N : Nat)   (u : zU) : Option (Int32 × zU) :=
  zf_MMC_mayBeConstant_0_b84 N  1 u
def zf_MMC_mayBeConstant_0_b65 (N : Nat)  (x1 : Int32) (u : zU) : Option (Int32 × zU) :=
  if x1 = 208 then
  zf_MMC_mayBeConstant_0_b79 N   u
  else
  if x1 = 210 then
    zf_MMC_mayBeConstant_0_b79 N   u
    else
    zf_MMC_mayBeConstant_0_b84 N  0 u
def zf_MMC_mayBeConstant_0_b46 (N : Nat)  (s0 : Int32) (u : zU) : Option (Int32 × zU) :=
  zck (zbz s0) (some (s0, u))
def zf_MMC_mayBeConstant_0_b45 (N : Nat)   (u : zU) : Option (Int32 × zU) :=
  zf_MMC_mayBeConstant_0_b46 N  0 u
def zf_MMC_mayBeConstant_0 (N : Nat) (x1 : Int32) (x2 : Int32) (u : zU) : Option (Int32 × zU) :=
  if x1 = 35 then
  zbd (zf_MMC_has_0 N 3 x2 u) (fun r5 u6 =>
    if r5 = 0 then
    zf_MMC_mayBeConstant_0_b45 N   u6
    else
    if 0 ≤ (lg_cmp ((Int32.toInt64 x2) &&& 4294967295) (gj u6 0)) then
      zf_MMC_mayBeConstant_0_b45 N   u6
      else
      zck (zin (120 + x2) 240) (if (ga u6 6 (120 + x2)) = 0 then
        zf_MMC_mayBeConstant_0_b46 N  1 u6
        else
        zf_MMC_mayBeConstant_0_b45 N   u6))
  else
  if x1 = 11 then
    zf_MMC_mayBeConstant_0_b79 N   u
    else
    if x1 < 65 then
      zf_MMC_mayBeConstant_0_b65 N  x1 u
      else
      if x1 ≤ 68 then
        zf_MMC_mayBeConstant_0_b79 N   u
        else
        zf_MMC_mayBeConstant_0_b65 N  x1 u
def zf_MMC_localType_0_b10 (N : Nat)  : Nat → Int64 → Int32 → zU → Option (Int32 × zU)
  | 0, _, _, _ => none
  | n + 1, x2, x4, u =>
  if (gi u 6) ≤ x4 then
  some ((-1), u)
  else
  zck (zin x4 60) (if 0 ≤ (lg_cmp x2 (gb u 0 x4)) then
    zck (zin x4 60) (zf_MMC_localType_0_b10 N  n (x2 - (gb u 0 x4)) (x4 + 1) u)
    else
    zck (zin x4 60) (some ((ga u 8 x4), u)))
def zf_MMC_localType_0 (N : Nat) (x1 : Int32) (u : zU) : Option (Int32 × zU) :=
  zf_MMC_localType_0_b10 N  N ((Int32.toInt64 x1) &&& 4294967295) 0 u
def zf_MMC_isLabel_0_b20 (N : Nat)  (s0 : Int32) (u : zU) : Option (Int32 × zU) :=
  zck (zbz s0) (some (s0, u))
def zf_MMC_isLabel_0 (N : Nat) (x1 : Int32) (u : zU) : Option (Int32 × zU) :=
  if 0 ≤ (lg_cmp ((Int32.toInt64 x1) &&& 4294967295) (Int32.toInt64 (gi u 10))) then
  zf_MMC_isLabel_0_b20 N  0 u
  else
  zf_MMC_isLabel_0_b20 N  1 u
def zf_MMC_isThere_0_b217 (N : Nat)  (s0 : Int32) (u : zU) : Option (Int32 × zU) :=
  zck (zbz s0) (some (s0, u))
def zf_MMC_isThere_0_b204 (N : Nat)  (x2 : Int32) (u : zU) : Option (Int32 × zU) :=
  if (gi u 0) ≤ x2 then
  zf_MMC_isThere_0_b217 N  0 u
  else
  zf_MMC_isThere_0_b217 N  1 u
def zf_MMC_isThere_0_b218 (N : Nat)  (x2 : Int32) (u : zU) : Option (Int32 × zU) :=
  zbd (zf_MMC_isLabel_0 N x2 u) (fun r1 u2 =>
  zck (zbz r1) (some (r1, u2)))
def zf_MMC_isThere_0_b267 (N : Nat) (k234 : Int32 → Int32 → zU → Option (Int32 × zU)) (x5 : Int32) (s0 : Int32) (u : zU) : Option (Int32 × zU) :=
  k234 s0 (x5 + 1) u
def zf_MMC_isThere_0_b266 (N : Nat) (k234 : Int32 → Int32 → zU → Option (Int32 × zU)) (x5 : Int32) (u : zU) : Option (Int32 × zU) :=
  zf_MMC_isThere_0_b267 N k234 x5 0 u
def zf_MMC_isThere_0_b234 (N : Nat)  : Nat → Int32 → Int32 → zU → Option (Int32 × zU)
  | 0, _, _, _ => none
  | n + 1, x4, x5, u =>
  if (gi u 8) ≤ x5 then
  zck (zbz x4) (some (x4, u))
  else
  if x4 = 0 then
    zf_MMC_isThere_0_b266 N (zf_MMC_isThere_0_b234 N  n) x5 u
    else
    zck (zin x5 20) (zbd (zf_MMC_isLabel_0 N (ga u 9 x5) u) (fun r7 u8 =>
      if r7 = 0 then
      zf_MMC_isThere_0_b266 N (zf_MMC_isThere_0_b234 N  n) x5 u8
      else
      zf_MMC_isThere_0_b267 N (zf_MMC_isThere_0_b234 N  n) x5 1 u8))
def zf_MMC_isThere_0_b278 (N : Nat)  (x2 : Int32) (u : zU) : Option (Int32 × zU) :=
  zbd (zf_MMC_has_0 N 0 x2 u) (fun r1 u2 =>
  zck (zbz r1) (some (r1, u2)))
def zf_MMC_isThere_0_b311 (N : Nat)  (s0 : Int32) (u : zU) : Option (Int32 × zU) :=
  zck (zbz s0) (some (s0, u))
def zf_MMC_isThere_0_b310 (N : Nat)   (u : zU) : Option (Int32 × zU) :=
  zf_MMC_isThere_0_b311 N  0 u
def zf_MMC_isThere_0_b326 (N : Nat)  (s0 : Int32) (u : zU) : Option (Int32 × zU) :=
  zck (zbz s0) (some (s0, u))
def zf_MMC_isThere_0_b312 (N : Nat)  (x2 : Int32) (u : zU) : Option (Int32 × zU) :=
  zbd (zf_MMC_localType_0 N x2 u) (fun r1 u2 =>
  if r1 = (-1) then
  zf_MMC_isThere_0_b326 N  0 u2
  else
  zf_MMC_isThere_0_b326 N  1 u2)
def zf_MMC_isThere_0_b327 (N : Nat)  (x2 : Int32) (u : zU) : Option (Int32 × zU) :=
  zbd (zf_MMC_has_0 N 3 x2 u) (fun r1 u2 =>
  zck (zbz r1) (some (r1, u2)))
def zf_MMC_isThere_0_b334 (N : Nat)  (x2 : Int32) (u : zU) : Option (Int32 × zU) :=
  zbd (zf_MMC_has_0 N 1 x2 u) (fun r1 u2 =>
  zck (zbz r1) (some (r1, u2)))
def zf_MMC_isThere_0_b341 (N : Nat)  (x2 : Int32) (u : zU) : Option (Int32 × zU) :=
  zbd (zf_MMC_has_0 N 5 x2 u) (fun r1 u2 =>
  zck (zbz r1) (some (r1, u2)))
def zf_MMC_isThere_0_b371 (N : Nat)  (s0 : Int32) (u : zU) : Option (Int32 × zU) :=
  zck (zbz s0) (some (s0, u))
def zf_MMC_isThere_0_b370 (N : Nat)   (u : zU) : Option (Int32 × zU) :=
  zf_MMC_isThere_0_b371 N  0 u
def zf_MMC_isThere_0_b402 (N : Nat)  (s0 : Int32) (u : zU) : Option (Int32 × zU) :=
  zck (zbz s0) (some (s0, u))
def zf_MMC_isThere_0_b401 (N : Nat)   (u : zU) : Option (Int32 × zU) :=
  zf_MMC_isThere_0_b402 N  0 u
def zf_MMC_isThere_0 (N : Nat) (x1 : Int32) (x2 : Int32) (x3 : Int32) (u : zU) : Option (Int32 × zU) :=
  if x1 = 2 then zf_MMC_isThere_0_b204 N  x2 u
  else if x1 = 3 then zf_MMC_isThere_0_b204 N  x2 u
  else if x1 = 4 then zf_MMC_isThere_0_b204 N  x2 u
  else if x1 = 12 then zf_MMC_isThere_0_b218 N  x2 u
  else if x1 = 13 then zf_MMC_isThere_0_b218 N  x2 u
  else if x1 = 14 then zbd (zf_MMC_isLabel_0 N x2 u) (fun r7 u8 =>
    zf_MMC_isThere_0_b234 N  N r7 0 u8)
  else if x1 = 16 then zf_MMC_isThere_0_b278 N  x2 u
  else if x1 = 17 then if x2 < 0 then
    zf_MMC_isThere_0_b310 N   u
    else
    if (gi u 0) ≤ x2 then
      zf_MMC_isThere_0_b310 N   u
      else
      zbd (zf_MMC_has_0 N 1 x3 u) (fun r14 u15 =>
        if r14 = 0 then
        zf_MMC_isThere_0_b310 N   u15
        else
        zf_MMC_isThere_0_b311 N  1 u15)
  else if x1 = 32 then zf_MMC_isThere_0_b312 N  x2 u
  else if x1 = 33 then zf_MMC_isThere_0_b312 N  x2 u
  else if x1 = 34 then zf_MMC_isThere_0_b312 N  x2 u
  else if x1 = 35 then zf_MMC_isThere_0_b327 N  x2 u
  else if x1 = 36 then zf_MMC_isThere_0_b327 N  x2 u
  else if x1 = 37 then zf_MMC_isThere_0_b334 N  x2 u
  else if x1 = 38 then zf_MMC_isThere_0_b334 N  x2 u
  else if x1 = 210 then zf_MMC_isThere_0_b278 N  x2 u
  else if x1 = 264 then zf_MMC_isThere_0_b341 N  x2 u
  else if x1 = 265 then zf_MMC_isThere_0_b341 N  x2 u
  else if x1 = 268 then zbd (zf_MMC_has_0 N 4 x2 u) (fun r29 u30 =>
    if r29 = 0 then
    zf_MMC_isThere_0_b370 N   u30
    else
    zbd (zf_MMC_has_0 N 1 x3 u30) (fun r33 u34 =>
      if r33 = 0 then
      zf_MMC_isThere_0_b370 N   u34
      else
      zf_MMC_isThere_0_b371 N  1 u34))
  else if x1 = 269 then zbd (zf_MMC_has_0 N 4 x2 u) (fun r38 u39 =>
    zck (zbz r38) (some (r38, u39)))
  else if x1 = 270 then zbd (zf_MMC_has_0 N 1 x2 u) (fun r45 u46 =>
    if r45 = 0 then
    zf_MMC_isThere_0_b401 N   u46
    else
    zbd (zf_MMC_has_0 N 1 x3 u46) (fun r49 u50 =>
      if r49 = 0 then
      zf_MMC_isThere_0_b401 N   u50
      else
      zf_MMC_isThere_0_b402 N  1 u50))
  else if x1 = 271 then zf_MMC_isThere_0_b334 N  x2 u
  else if x1 = 272 then zf_MMC_isThere_0_b334 N  x2 u
  else if x1 = 273 then zf_MMC_isThere_0_b334 N  x2 u
  else some (1, u)
def zf_MMC_attribute_0 (N : Nat) (x1 : Int32) (x2 : Int32) (u : zU) : Option (Int32 × zU) :=
  zck (zin ((40 * x1) + x2) 240) (some ((ga u 5 ((40 * x1) + x2)), u))
def zf_MMC_bytesOf_b24 (N : Nat)   (u : zU) : Option (Int32 × zU) :=
  some (8, u)
def zf_MMC_bytesOf_b69 (N : Nat)   (u : zU) : Option (Int32 × zU) :=
  some (4, u)
def zf_MMC_bytesOf_b112 (N : Nat)  (s0 : Int32) (u : zU) : Option (Int32 × zU) :=
  some (s0, u)
def zf_MMC_bytesOf_b107 (N : Nat)   (u : zU) : Option (Int32 × zU) :=
  zf_MMC_bytesOf_b112 N  2 u
def zf_MMC_bytesOf (N : Nat) (x0 : Int32) (u : zU) : Option (Int32 × zU) :=
  if x0 = 41 then
  zf_MMC_bytesOf_b24 N   u
  else
  if x0 = 43 then
    zf_MMC_bytesOf_b24 N   u
    else
    if x0 = 55 then
      zf_MMC_bytesOf_b24 N   u
      else
      if x0 = 57 then
        zf_MMC_bytesOf_b24 N   u
        else
        if x0 = 40 then
          zf_MMC_bytesOf_b69 N   u
          else
          if x0 = 42 then
            zf_MMC_bytesOf_b69 N   u
            else
            if x0 = 52 then
              zf_MMC_bytesOf_b69 N   u
              else
              if x0 = 53 then
                zf_MMC_bytesOf_b69 N   u
                else
                if x0 = 54 then
                  zf_MMC_bytesOf_b69 N   u
                  else
                  if x0 = 56 then
                    zf_MMC_bytesOf_b69 N   u
                    else
                    if x0 = 62 then
                      zf_MMC_bytesOf_b69 N   u
                      else
                      if x0 = 46 then
                        zf_MMC_bytesOf_b107 N   u
                        else
                        if x0 = 47 then
                          zf_MMC_bytesOf_b107 N   u
                          else
                          if x0 = 50 then
                            zf_MMC_bytesOf_b107 N   u
                            else
                            if x0 = 51 then
                              zf_MMC_bytesOf_b107 N   u
                              else
                              if x0 = 59 then
                                zf_MMC_bytesOf_b107 N   u
                                else
                                if x0 = 61 then
                                  zf_MMC_bytesOf_b107 N   u
                                  else
                                  zf_MMC_bytesOf_b112 N  1 u
def zf_MMC_require_0_b226 (N : Nat)   (u : zU) : Option (Unit × zU) :=
  some ((), u)
def zf_MMC_require_0_b198 (N : Nat)  (x1 : Int32) (x2 : Int32) (x3 : Int32) (u : zU) : Option (Unit × zU) :=
  if x1 = 270 then
  zbd (zf_MMC_attribute_0 N 1 x2 u) (fun r2 u3 =>
    zbd (zf_MMC_attribute_0 N 1 x3 u3) (fun r5 u6 =>
    if r2 = r5 then
    zf_MMC_require_0_b226 N   u6
    else
    zbd (zf_MMC_stop_0 N 6 u6) (fun r9 u10 =>
      zf_MMC_require_0_b226 N   u10)))
  else
  zf_MMC_require_0_b226 N   u
def zf_MMC_require_0_b170 (N : Nat)  (x1 : Int32) (x2 : Int32) (x3 : Int32) (u : zU) : Option (Unit × zU) :=
  if x1 = 268 then
  zbd (zf_MMC_attribute_0 N 4 x2 u) (fun r2 u3 =>
    zbd (zf_MMC_attribute_0 N 1 x3 u3) (fun r5 u6 =>
    if r2 = r5 then
    zf_MMC_require_0_b198 N  x1 x2 x3 u6
    else
    zbd (zf_MMC_stop_0 N 6 u6) (fun r9 u10 =>
      zf_MMC_require_0_b198 N  x1 x2 x3 u10)))
  else
  zf_MMC_require_0_b198 N  x1 x2 x3 u
def zf_MMC_require_0_b148 (N : Nat)  (x1 : Int32) (x2 : Int32) (x3 : Int32) (u : zU) : Option (Unit × zU) :=
  if x1 = 210 then
  zck (zin x2 40) (if (ga u 7 x2) = 0 then
    zbd (zf_MMC_stop_0 N 11 u) (fun r4 u5 =>
      zf_MMC_require_0_b170 N  x1 x2 x3 u5)
    else
    zf_MMC_require_0_b170 N  x1 x2 x3 u)
  else
  zf_MMC_require_0_b170 N  x1 x2 x3 u
def zf_MMC_require_0_b142 (N : Nat)  (x1 : Int32) (x2 : Int32) (x3 : Int32) (u : zU) : Option (Unit × zU) :=
  zbd (zf_MMC_stop_0 N 10 u) (fun r1 u2 =>
  zf_MMC_require_0_b148 N  x1 x2 x3 u2)
def zf_MMC_require_0_b107 (N : Nat)  (x1 : Int32) (x2 : Int32) (x3 : Int32) (u : zU) : Option (Unit × zU) :=
  if x1 < 40 then
  zf_MMC_require_0_b148 N  x1 x2 x3 u
  else
  if 62 < x1 then
    zf_MMC_require_0_b148 N  x1 x2 x3 u
    else
    if 0 < (lg_cmp ((Int32.toInt64 x2) &&& 4294967295) 3) then
      zf_MMC_require_0_b142 N  x1 x2 x3 u
      else
      zbd (zf_MMC_bytesOf N x1 u) (fun r4 u5 =>
        if (1 <<< (x2 &&& 31)) ≤ r4 then
        zf_MMC_require_0_b148 N  x1 x2 x3 u5
        else
        zf_MMC_require_0_b142 N  x1 x2 x3 u5)
def zf_MMC_require_0_b85 (N : Nat)  (x1 : Int32) (x2 : Int32) (x3 : Int32) (s0 : Int32) (u : zU) : Option (Unit × zU) :=
  if s0 = 0 then
  zf_MMC_require_0_b107 N  x1 x2 x3 u
  else
  zck (zin 2 6) (if (ga u 4 2) = 0 then
    zbd (zf_MMC_stop_0 N 9 u) (fun r4 u5 =>
      zf_MMC_require_0_b107 N  x1 x2 x3 u5)
    else
    zf_MMC_require_0_b107 N  x1 x2 x3 u)
def zf_MMC_require_0_b80 (N : Nat)  (x1 : Int32) (x2 : Int32) (x3 : Int32) (u : zU) : Option (Unit × zU) :=
  zf_MMC_require_0_b85 N  x1 x2 x3 1 u
def zf_MMC_require_0_b59 (N : Nat)  (x1 : Int32) (x2 : Int32) (x3 : Int32) (u : zU) : Option (Unit × zU) :=
  if x1 = 264 then
  zf_MMC_require_0_b80 N  x1 x2 x3 u
  else
  if x1 = 266 then
    zf_MMC_require_0_b80 N  x1 x2 x3 u
    else
    if x1 = 267 then
      zf_MMC_require_0_b80 N  x1 x2 x3 u
      else
      zf_MMC_require_0_b85 N  x1 x2 x3 0 u
def zf_MMC_require_0_b47 (N : Nat)  (x1 : Int32) (x2 : Int32) (x3 : Int32) (u : zU) : Option (Unit × zU) :=
  if x1 < 40 then
  zf_MMC_require_0_b59 N  x1 x2 x3 u
  else
  if x1 ≤ 64 then
    zf_MMC_require_0_b80 N  x1 x2 x3 u
    else
    zf_MMC_require_0_b59 N  x1 x2 x3 u
def zf_MMC_require_0_b23 (N : Nat)  (x1 : Int32) (x2 : Int32) (x3 : Int32) (u : zU) : Option (Unit × zU) :=
  if x1 = 36 then
  zck (zin (120 + x2) 240) (if (ga u 6 (120 + x2)) = 0 then
    zbd (zf_MMC_stop_0 N 8 u) (fun r4 u5 =>
      zf_MMC_require_0_b47 N  x1 x2 x3 u5)
    else
    zf_MMC_require_0_b47 N  x1 x2 x3 u)
  else
  zf_MMC_require_0_b47 N  x1 x2 x3 u
def zf_MMC_require_0 (N : Nat) (x1 : Int32) (x2 : Int32) (x3 : Int32) (u : zU) : Option (Unit × zU) :=
  if x1 = 17 then
  zbd (zf_MMC_attribute_0 N 1 x3 u) (fun r2 u3 =>
    if r2 = 112 then
    zf_MMC_require_0_b23 N  x1 x2 x3 u3
    else
    zbd (zf_MMC_stop_0 N 6 u3) (fun r6 u7 =>
      zf_MMC_require_0_b23 N  x1 x2 x3 u7))
  else
  zf_MMC_require_0_b23 N  x1 x2 x3 u
def zf_MMC_examine_0_b68 (N : Nat)   (u : zU) : Option (Unit × zU) :=
  some ((), u)
def zf_MMC_examine_0_b42 (N : Nat)  (x1 : Int32) (x2 : Int32) (x3 : Int32) (u : zU) : Option (Unit × zU) :=
  zbd (zf_MMC_isThere_0 N x1 x2 x3 u) (fun r1 u2 =>
  if r1 = 0 then
  zbd (zf_MMC_stop_0 N 12 u2) (fun r8 u9 =>
    zf_MMC_examine_0_b68 N   u9)
  else
  zbd (zf_MMC_require_0 N x1 x2 x3 u2) (fun r5 u6 =>
    zf_MMC_examine_0_b68 N   u6))
def zf_MMC_examine_0 (N : Nat) (x1 : Int32) (x2 : Int32) (x3 : Int32) (u : zU) : Option (Unit × zU) :=
  zbd (zf_MMC_isFormed N x1 x2 u) (fun r1 u2 =>
  if r1 = 0 then
  zbd (zf_MMC_stop_0 N 13 u2) (fun r13 u14 =>
    zf_MMC_examine_0_b68 N   u14)
  else
  if (gi u2 2) = 0 then
    zbd (zf_MMC_mayBeConstant_0 N x1 x2 u2) (fun r6 u7 =>
      if r6 = 0 then
      zbd (zf_MMC_stop_0 N 14 u7) (fun r10 u11 =>
        zf_MMC_examine_0_b68 N   u11)
      else
      zf_MMC_examine_0_b42 N  x1 x2 x3 u7)
    else
    zf_MMC_examine_0_b42 N  x1 x2 x3 u2)
def zf_MMC_wantNothing_0 (N : Nat)  (u : zU) : Option (Unit × zU) :=
  some ((), (si u 18 0))
def zf_MMC_wantOne_0 (N : Nat) (x1 : Int32) (u : zU) : Option (Unit × zU) :=
  zck (zin (gi u 18) 64) (some ((), (si (sa u 16 (gi u 18) x1) 18 ((gi u 18) + 1))))
def zf_MMC_wantParts_0_b61 (N : Nat) (k23 : Int32 → Int32 → Int32 → Int32 → zU → Option (Unit × zU)) (x1 : Int32) (x2 : Int32) (x3 : Int32) (x4 : Int32) (s0 : Int32) (u : zU) : Option (Unit × zU) :=
  zbd (zf_MMC_wantOne_0 N s0 u) (fun r1 u2 =>
  k23 x1 x2 x3 (x4 + 1) u2)
def zf_MMC_wantParts_0_b23 (N : Nat)  : Nat → Int32 → Int32 → Int32 → Int32 → zU → Option (Unit × zU)
  | 0, _, _, _, _, _ => none
  | n + 1, x1, x2, x3, x4, u =>
  if x3 ≤ x4 then
  some ((), u)
  else
  if x2 = 0 then
    zck (zin ((12 * x1) + x4) 480) (zf_MMC_wantParts_0_b61 N (zf_MMC_wantParts_0_b23 N  n) x1 x2 x3 x4 (ga u 2 ((12 * x1) + x4)) u)
    else
    zck (zin ((12 * x1) + x4) 480) (zf_MMC_wantParts_0_b61 N (zf_MMC_wantParts_0_b23 N  n) x1 x2 x3 x4 (ga u 3 ((12 * x1) + x4)) u)
def zf_MMC_wantParts_0_b19 (N : Nat)  (x1 : Int32) (x2 : Int32) (s0 : Int32) (u : zU) : Option (Unit × zU) :=
  zf_MMC_wantParts_0_b23 N  N x1 x2 s0 0 u
def zf_MMC_wantParts_0 (N : Nat) (x1 : Int32) (x2 : Int32) (u : zU) : Option (Unit × zU) :=
  if x2 = 0 then
  zck (zin x1 40) (zf_MMC_wantParts_0_b19 N  x1 x2 (ga u 0 x1) u)
  else
  zck (zin x1 40) (zf_MMC_wantParts_0_b19 N  x1 x2 (ga u 1 x1) u)
def zf_MMC_take_0_b96 (N : Nat)   (u : zU) : Option (Unit × zU) :=
  some ((), u)
def zf_MMC_take_0_b47 (N : Nat)   (u : zU) : Option (Unit × zU) :=
  some ((), u)
def zf_MMC_take_0 (N : Nat) (x1 : Int32) (u : zU) : Option (Unit × zU) :=
  if (gi u 11) ≤ 0 then
  zck (zin ((gi u 10) - 1) 62) (if (gi u 13) = (ga (si u 12 0) 13 ((gi u 10) - 1)) then
    zck (zin ((gi u 10) - 1) 62) (if (ga (si u 12 0) 14 ((gi u 10) - 1)) = 0 then
      zbd (zf_MMC_stop_0 N 1 (si u 12 0)) (fun r13 u14 =>
        zf_MMC_take_0_b47 N   u14)
      else
      zf_MMC_take_0_b47 N   (si u 12 0))
    else
    zck (zin ((gi u 13) - 1) 600) (if x1 = (-1) then
      zf_MMC_take_0_b96 N   (si (si (si u 12 0) 13 ((gi u 13) - 1)) 12 (ga (si (si u 12 0) 13 ((gi u 13) - 1)) 15 ((gi u 13) - 1)))
      else
      if (ga (si (si u 12 0) 13 ((gi u 13) - 1)) 15 ((gi u 13) - 1)) = 0 then
        zf_MMC_take_0_b96 N   (si (si (si u 12 0) 13 ((gi u 13) - 1)) 12 (ga (si (si u 12 0) 13 ((gi u 13) - 1)) 15 ((gi u 13) - 1)))
        else
        if (ga (si (si u 12 0) 13 ((gi u 13) - 1)) 15 ((gi u 13) - 1)) = x1 then
          zf_MMC_take_0_b96 N   (si (si (si u 12 0) 13 ((gi u 13) - 1)) 12 (ga (si (si u 12 0) 13 ((gi u 13) - 1)) 15 ((gi u 13) - 1)))
          else
          zbd (zf_MMC_stop_0 N 1 (si (si (si u 12 0) 13 ((gi u 13) - 1)) 12 (ga (si (si u 12 0) 13 ((gi u 13) - 1)) 15 ((gi u 13) - 1)))) (fun r8 u9 =>
            zf_MMC_take_0_b96 N   u9)))
  else
  some ((), u)
def zf_MMC_takeWanted_0_b7 (N : Nat)  : Nat → Int32 → zU → Option (Unit × zU)
  | 0, _, _ => none
  | n + 1, x1, u =>
  if x1 < 0 then
  some ((), u)
  else
  zck (zin x1 64) (zbd (zf_MMC_take_0 N (ga u 16 x1) u) (fun r5 u6 =>
    zf_MMC_takeWanted_0_b7 N  n (x1 + (-1)) u6))
def zf_MMC_takeWanted_0 (N : Nat)  (u : zU) : Option (Unit × zU) :=
  zf_MMC_takeWanted_0_b7 N  N ((gi u 18) - 1) u
def zf_MMC_give_0_b16 (N : Nat)  (x1 : Int32) (u : zU) : Option (Unit × zU) :=
  if (gi u 11) ≤ 0 then
  zck (zin (gi u 13) 600) (some ((), (si (sa u 15 (gi u 13) x1) 13 ((gi u 13) + 1))))
  else
  some ((), u)
def zf_MMC_give_0 (N : Nat) (x1 : Int32) (u : zU) : Option (Unit × zU) :=
  if (gi u 13) = 200 then
  zbd (zf_MMC_stop_0 N 15 u) (fun r2 u3 =>
    zf_MMC_give_0_b16 N  x1 u3)
  else
  zf_MMC_give_0_b16 N  x1 u
def zf_MMC_giveWanted_0_b2 (N : Nat)  : Nat → Int32 → zU → Option (Unit × zU)
  | 0, _, _ => none
  | n + 1, x1, u =>
  if (gi u 18) ≤ x1 then
  some ((), u)
  else
  zck (zin x1 64) (zbd (zf_MMC_give_0 N (ga u 16 x1) u) (fun r5 u6 =>
    zf_MMC_giveWanted_0_b2 N  n (x1 + 1) u6))
def zf_MMC_giveWanted_0 (N : Nat)  (u : zU) : Option (Unit × zU) :=
  zf_MMC_giveWanted_0_b2 N  N 0 u
def zf_MMC_call_0 (N : Nat) (x1 : Int32) (u : zU) : Option (Unit × zU) :=
  zbd (zf_MMC_wantParts_0 N x1 0 u) (fun r1 u2 =>
  zbd (zf_MMC_takeWanted_0 N  u2) (fun r4 u5 =>
  zbd (zf_MMC_wantNothing_0 N  u5) (fun r7 u8 =>
  zbd (zf_MMC_wantParts_0 N x1 1 u8) (fun r10 u11 =>
  zbd (zf_MMC_giveWanted_0 N  u11) (fun r13 u14 =>
  some ((), u14))))))
def zf_MMC_countOf_0_b81 (N : Nat)  (s0 : Int32) (u : zU) : Option (Int32 × zU) :=
  some (s0, u)
def zf_MMC_countOf_0_b80 (N : Nat)   (u : zU) : Option (Int32 × zU) :=
  zf_MMC_countOf_0_b81 N  0 u
def zf_MMC_countOf_0_b32 (N : Nat)  (s0 : Int32) (u : zU) : Option (Int32 × zU) :=
  some (s0, u)
def zf_MMC_countOf_0 (N : Nat) (x1 : Int32) (x2 : Int32) (u : zU) : Option (Int32 × zU) :=
  if x1 = 0 then
  if x2 = 0 then
    zf_MMC_countOf_0_b32 N  0 u
    else
    if (gi u 2) = 0 then
      zf_MMC_countOf_0_b32 N  1 u
      else
      zck (zin (gi u 4) 40) (zf_MMC_countOf_0_b32 N  (ga u 1 (gi u 4)) u)
  else
  zck (zin x1 62) (if (ga u 12 x1) < 0 then
    if x2 = 0 then
      zf_MMC_countOf_0_b80 N   u
      else
      if (ga u 12 x1) = (-64) then
        zf_MMC_countOf_0_b80 N   u
        else
        zf_MMC_countOf_0_b81 N  1 u
    else
    if x2 = 0 then
      zck (zin (ga u 12 x1) 40) (zf_MMC_countOf_0_b81 N  (ga u 0 (ga u 12 x1)) u)
      else
      zck (zin (ga u 12 x1) 40) (zf_MMC_countOf_0_b81 N  (ga u 1 (ga u 12 x1)) u))
def zf_MMC_partOf_0_b86 (N : Nat)  (s0 : Int32) (u : zU) : Option (Int32 × zU) :=
  some (s0, u)
def zf_MMC_partOf_0_b32 (N : Nat)  (s0 : Int32) (u : zU) : Option (Int32 × zU) :=
  some (s0, u)
def zf_MMC_partOf_0 (N : Nat) (x1 : Int32) (x2 : Int32) (x3 : Int32) (u : zU) : Option (Int32 × zU) :=
  if x1 = 0 then
  if (gi u 2) = 0 then
    zf_MMC_partOf_0_b32 N  (gi u 5) u
    else
    zck (zin ((12 * (gi u 4)) + x3) 480) (zf_MMC_partOf_0_b32 N  (ga u 3 ((12 * (gi u 4)) + x3)) u)
  else
  zck (zin x1 62) (if (ga u 12 x1) < 0 then
    zf_MMC_partOf_0_b86 N  ((ga u 12 x1) + 128) u
    else
    if x2 = 0 then
      zck (zin ((12 * (ga u 12 x1)) + x3) 480) (zf_MMC_partOf_0_b86 N  (ga u 2 ((12 * (ga u 12 x1)) + x3)) u)
      else
      zck (zin ((12 * (ga u 12 x1)) + x3) 480) (zf_MMC_partOf_0_b86 N  (ga u 3 ((12 * (ga u 12 x1)) + x3)) u))
def zf_MMC_wantBlock_0_b2 (N : Nat)  : Nat → Int32 → Int32 → Int32 → zU → Option (Unit × zU)
  | 0, _, _, _, _ => none
  | n + 1, x1, x2, x3, u =>
  zbd (zf_MMC_countOf_0 N x1 x2 u) (fun r1 u2 =>
  if r1 ≤ x3 then
  some ((), u2)
  else
  zbd (zf_MMC_partOf_0 N x1 x2 x3 u2) (fun r7 u8 =>
    zbd (zf_MMC_wantOne_0 N r7 u8) (fun r10 u11 =>
    zf_MMC_wantBlock_0_b2 N  n x1 x2 (x3 + 1) u11)))
def zf_MMC_wantBlock_0 (N : Nat) (x1 : Int32) (x2 : Int32) (u : zU) : Option (Unit × zU) :=
  zf_MMC_wantBlock_0_b2 N  N x1 x2 0 u
def zf_MMC_die_0 (N : Nat)  (u : zU) : Option (Unit × zU) :=
  if (gi u 11) ≤ 0 then
  zck (zin ((gi u 10) - 1) 62) (some ((), (si (si u 13 (ga u 13 ((gi u 10) - 1))) 14 1)))
  else
  some ((), u)
def zf_MMC_blockOf_0 (N : Nat) (x1 : Int32) (u : zU) : Option (Int32 × zU) :=
  some ((((gi u 10) - 1) - x1), u)
def zf_MMC_labelCount_0_b25 (N : Nat)  (s0 : Int32) (s1 : Int32) (u : zU) : Option (Int32 × zU) :=
  zbd (zf_MMC_countOf_0 N s1 s0 u) (fun r1 u2 =>
  some (r1, u2))
def zf_MMC_labelCount_0 (N : Nat) (x1 : Int32) (u : zU) : Option (Int32 × zU) :=
  zbd (zf_MMC_blockOf_0 N x1 u) (fun r1 u2 =>
  zbd (zf_MMC_blockOf_0 N x1 u2) (fun r4 u5 =>
  zck (zin r4 62) (if (ga u5 11 r4) = 3 then
  zf_MMC_labelCount_0_b25 N  0 r1 u5
  else
  zf_MMC_labelCount_0_b25 N  1 r1 u5)))
def zf_MMC_labelPart_0_b25 (N : Nat)  (x2 : Int32) (s0 : Int32) (s1 : Int32) (u : zU) : Option (Int32 × zU) :=
  zbd (zf_MMC_partOf_0 N s1 s0 x2 u) (fun r1 u2 =>
  some (r1, u2))
def zf_MMC_labelPart_0 (N : Nat) (x1 : Int32) (x2 : Int32) (u : zU) : Option (Int32 × zU) :=
  zbd (zf_MMC_blockOf_0 N x1 u) (fun r1 u2 =>
  zbd (zf_MMC_blockOf_0 N x1 u2) (fun r4 u5 =>
  zck (zin r4 62) (if (ga u5 11 r4) = 3 then
  zf_MMC_labelPart_0_b25 N  x2 0 r1 u5
  else
  zf_MMC_labelPart_0_b25 N  x2 1 r1 u5)))
def zf_MMC_wantLabel_0_b2 (N : Nat)  : Nat → Int32 → Int32 → zU → Option (Unit × zU)
  | 0, _, _, _ => none
  | n + 1, x1, x2, u =>
  zbd (zf_MMC_labelCount_0 N x1 u) (fun r1 u2 =>
  if r1 ≤ x2 then
  some ((), u2)
  else
  zbd (zf_MMC_labelPart_0 N x1 x2 u2) (fun r7 u8 =>
    zbd (zf_MMC_wantOne_0 N r7 u8) (fun r10 u11 =>
    zf_MMC_wantLabel_0_b2 N  n x1 (x2 + 1) u11)))
def zf_MMC_wantLabel_0 (N : Nat) (x1 : Int32) (u : zU) : Option (Unit × zU) :=
  zf_MMC_wantLabel_0_b2 N  N x1 0 u
def zf_MMC_table_0_b106 (N : Nat) (k14 : Int32 → Int32 → Int32 → zU → Option (Unit × zU)) : Nat → Int32 → Int32 → Int32 → Int32 → zU → Option (Unit × zU)
  | 0, _, _, _, _, _ => none
  | n + 1, x1, x2, x3, x4, u =>
  if (gi u 18) ≤ x4 then
  k14 x1 x2 (x3 + 1) u
  else
  zck (zin x4 16) (zbd (zf_MMC_give_0 N (ga u 17 x4) u) (fun r3 u4 =>
    zf_MMC_table_0_b106 N k14 n x1 x2 x3 (x4 + 1) u4))
def zf_MMC_table_0_b103 (N : Nat) (k14 : Int32 → Int32 → Int32 → zU → Option (Unit × zU)) (x1 : Int32) (x2 : Int32) (x3 : Int32) (u : zU) : Option (Unit × zU) :=
  zf_MMC_table_0_b106 N k14 N x1 x2 x3 0 u
def zf_MMC_table_0_b63 (N : Nat) (k14 : Int32 → Int32 → Int32 → zU → Option (Unit × zU)) : Nat → Int32 → Int32 → Int32 → Int32 → zU → Option (Unit × zU)
  | 0, _, _, _, _, _ => none
  | n + 1, x1, x2, x3, x4, u =>
  if x4 < 0 then
  zf_MMC_table_0_b103 N k14 x1 x2 x3 u
  else
  if (gi u 11) = 0 then
    zck (zin x4 64) (zbd (zf_MMC_take_0 N (ga u 16 x4) u) (fun r4 u5 =>
      zck (zin x4 16) (zf_MMC_table_0_b63 N k14 n x1 x2 x3 (x4 + (-1)) (sa u5 17 x4 (gi u5 12)))))
    else
    zf_MMC_table_0_b103 N k14 x1 x2 x3 u
def zf_MMC_table_0_b41 (N : Nat) (k14 : Int32 → Int32 → Int32 → zU → Option (Unit × zU)) (x1 : Int32) (x2 : Int32) (x3 : Int32) (u : zU) : Option (Unit × zU) :=
  zbd (zf_MMC_wantNothing_0 N  u) (fun r1 u2 =>
  zck (zin x3 20) (zbd (zf_MMC_wantLabel_0 N (ga u2 9 x3) u2) (fun r5 u6 =>
  zf_MMC_table_0_b63 N k14 N x1 x2 x3 ((gi u6 18) - 1) u6)))
def zf_MMC_table_0_b14 (N : Nat)  : Nat → Int32 → Int32 → Int32 → zU → Option (Unit × zU)
  | 0, _, _, _, _ => none
  | n + 1, x1, x2, x3, u =>
  if (gi u 8) ≤ x3 then
  zbd (zf_MMC_wantNothing_0 N  u) (fun r2 u3 =>
    zbd (zf_MMC_wantLabel_0 N x1 u3) (fun r5 u6 =>
    zbd (zf_MMC_takeWanted_0 N  u6) (fun r8 u9 =>
    zbd (zf_MMC_die_0 N  u9) (fun r11 u12 =>
    some ((), u12)))))
  else
  zck (zin x3 20) (zbd (zf_MMC_labelCount_0 N (ga u 9 x3) u) (fun r17 u18 =>
    if r17 = x2 then
    zf_MMC_table_0_b41 N (zf_MMC_table_0_b14 N  n) x1 x2 x3 u18
    else
    zbd (zf_MMC_stop_0 N 5 u18) (fun r21 u22 =>
      zf_MMC_table_0_b41 N (zf_MMC_table_0_b14 N  n) x1 x2 x3 u22)))
def zf_MMC_table_0 (N : Nat) (x1 : Int32) (u : zU) : Option (Unit × zU) :=
  zbd (zf_MMC_take_0 N 127 u) (fun r1 u2 =>
  zbd (zf_MMC_labelCount_0 N x1 u2) (fun r4 u5 =>
  zf_MMC_table_0_b14 N  N x1 r4 0 u5))
def zf_MMC_close_0_b45 (N : Nat)   (u : zU) : Option (Unit × zU) :=
  some ((), u)
def zf_MMC_close_0 (N : Nat)  (u : zU) : Option (Unit × zU) :=
  zbd (zf_MMC_wantBlock_0 N ((gi u 10) - 1) 1 u) (fun r1 u2 =>
  zbd (zf_MMC_takeWanted_0 N  u2) (fun r4 u5 =>
  if (gi u5 11) = 0 then
  zck (zin ((gi u5 10) - 1) 62) (if (gi u5 13) ≤ (ga u5 13 ((gi u5 10) - 1)) then
    zf_MMC_close_0_b45 N   u5
    else
    zbd (zf_MMC_stop_0 N 3 u5) (fun r10 u11 =>
      zf_MMC_close_0_b45 N   u11))
  else
  zf_MMC_close_0_b45 N   u5))
def zf_MMC_end_0_b113 (N : Nat)  (s0 : Int32) (u : zU) : Option (Unit × zU) :=
  zck (zbz s0) (some ((), (si u 16 s0)))
def zf_MMC_end_0_b96 (N : Nat)   (u : zU) : Option (Unit × zU) :=
  zbd (zf_MMC_giveWanted_0 N  u) (fun r1 u2 =>
  if (gi u2 11) = 0 then
  zf_MMC_end_0_b113 N  1 u2
  else
  zf_MMC_end_0_b113 N  0 u2)
def zf_MMC_end_0_b77 (N : Nat)  (x1 : Int32) (x2 : Int32) (u : zU) : Option (Unit × zU) :=
  zck (zin x1 62) (if (ga u 11 x1) = 4 then
  if x2 = 0 then
    zbd (zf_MMC_stop_0 N 4 u) (fun r4 u5 =>
      zf_MMC_end_0_b96 N   u5)
    else
    zf_MMC_end_0_b96 N   u
  else
  zf_MMC_end_0_b96 N   u)
def zf_MMC_end_0_b70 (N : Nat) (k34 : Int32 → Int32 → Int32 → zU → Option (Unit × zU)) (x1 : Int32) (x3 : Int32) (s0 : Int32) (u : zU) : Option (Unit × zU) :=
  k34 x1 s0 (x3 + 1) u
def zf_MMC_end_0_b34 (N : Nat)  : Nat → Int32 → Int32 → Int32 → zU → Option (Unit × zU)
  | 0, _, _, _, _ => none
  | n + 1, x1, x2, x3, u =>
  zbd (zf_MMC_countOf_0 N x1 1 u) (fun r1 u2 =>
  if r1 ≤ x3 then
  zf_MMC_end_0_b77 N  x1 x2 u2
  else
  if x2 = 0 then
    zf_MMC_end_0_b77 N  x1 x2 u2
    else
    zbd (zf_MMC_partOf_0 N x1 0 x3 u2) (fun r6 u7 =>
      zbd (zf_MMC_partOf_0 N x1 1 x3 u7) (fun r9 u10 =>
      if r6 = r9 then
      zf_MMC_end_0_b70 N (zf_MMC_end_0_b34 N  n) x1 x3 1 u10
      else
      zf_MMC_end_0_b70 N (zf_MMC_end_0_b34 N  n) x1 x3 0 u10)))
def zf_MMC_end_0_b31 (N : Nat)  (x1 : Int32) (s0 : Int32) (u : zU) : Option (Unit × zU) :=
  zf_MMC_end_0_b34 N  N x1 s0 0 u
def zf_MMC_end_0 (N : Nat)  (u : zU) : Option (Unit × zU) :=
  zbd (zf_MMC_close_0 N  u) (fun r1 u2 =>
  zbd (zf_MMC_countOf_0 N ((gi u2 10) - 1) 0 u2) (fun r4 u5 =>
  zbd (zf_MMC_countOf_0 N ((gi u2 10) - 1) 1 u5) (fun r7 u8 =>
  if r4 = r7 then
  zf_MMC_end_0_b31 N  ((gi u2 10) - 1) 1 u8
  else
  zf_MMC_end_0_b31 N  ((gi u2 10) - 1) 0 u8)))
def zf_MMC_choose_0_b56 (N : Nat)  (s0 : Int32) (u : zU) : Option (Unit × zU) :=
  zck (zbz s0) (some ((), (si u 17 s0)))
def zf_MMC_choose_0_b20 (N : Nat)   (u : zU) : Option (Unit × zU) :=
  zbd (zf_MMC_close_0 N  u) (fun r1 u2 =>
  zbd (zf_MMC_wantNothing_0 N  u2) (fun r4 u5 =>
  zbd (zf_MMC_wantBlock_0 N ((gi u5 10) - 1) 0 u5) (fun r7 u8 =>
  zbd (zf_MMC_giveWanted_0 N  u8) (fun r10 u11 =>
  if (gi u11 11) = 0 then
  zf_MMC_choose_0_b56 N  1 u11
  else
  zf_MMC_choose_0_b56 N  0 u11))))
def zf_MMC_choose_0 (N : Nat)  (u : zU) : Option (Unit × zU) :=
  zck (zin ((gi u 10) - 1) 62) (if (ga u 11 ((gi u 10) - 1)) = 4 then
  zf_MMC_choose_0_b20 N   u
  else
  zbd (zf_MMC_stop_0 N 2 u) (fun r3 u4 =>
    zf_MMC_choose_0_b20 N   u4))
def zf_MMC_open_0_b40 (N : Nat)  (x1 : Int32) (x2 : Int32) (u : zU) : Option (Unit × zU) :=
  if (gi u 11) ≤ 0 then
  zck (zin (gi u 10) 62) (zck (zin (gi u 10) 62) (zck (zin (gi u 10) 62) (zck (zin (gi u 10) 62) (zbd (zf_MMC_giveWanted_0 N  (sa (sa (sa (sa u 11 (gi u 10) x1) 12 (gi u 10) x2) 13 (gi u 10) (gi u 13)) 14 (gi u 10) (vp_nar .boolean 0))) (fun r6 u7 =>
    some ((), (si u7 15 1)))))))
  else
  some ((), u)
def zf_MMC_open_0_b21 (N : Nat)  (x1 : Int32) (x2 : Int32) (u : zU) : Option (Unit × zU) :=
  zbd (zf_MMC_takeWanted_0 N  u) (fun r1 u2 =>
  if (gi u2 10) = 60 then
  zbd (zf_MMC_stop_0 N 15 u2) (fun r5 u6 =>
    zf_MMC_open_0_b40 N  x1 x2 u6)
  else
  zf_MMC_open_0_b40 N  x1 x2 u2)
def zf_MMC_open_0_b11 (N : Nat)  (x1 : Int32) (x2 : Int32) (u : zU) : Option (Unit × zU) :=
  if x2 < 0 then
  zf_MMC_open_0_b21 N  x1 x2 u
  else
  zbd (zf_MMC_wantParts_0 N x2 0 u) (fun r2 u3 =>
    zf_MMC_open_0_b21 N  x1 x2 u3)
def zf_MMC_open_0 (N : Nat) (x1 : Int32) (x2 : Int32) (u : zU) : Option (Unit × zU) :=
  if x1 = 4 then
  zbd (zf_MMC_take_0 N 127 u) (fun r2 u3 =>
    zf_MMC_open_0_b11 N  x1 x2 u3)
  else
  zf_MMC_open_0_b11 N  x1 x2 u
def zf_MMC_control_0_b208 (N : Nat)   (u : zU) : Option (Unit × zU) :=
  some ((), u)
def zf_MMC_control_0_b98 (N : Nat)  (x1 : Int32) (x2 : Int32) (u : zU) : Option (Unit × zU) :=
  zbd (zf_MMC_open_0 N x1 x2 u) (fun r1 u2 =>
  zf_MMC_control_0_b208 N   u2)
def zf_MMC_control_0_b197 (N : Nat)  (x2 : Int32) (u : zU) : Option (Unit × zU) :=
  zbd (zf_MMC_take_0 N 127 u) (fun r1 u2 =>
  zbd (zf_MMC_call_0 N x2 u2) (fun r4 u5 =>
  zf_MMC_control_0_b208 N   u5))
def zf_MMC_control_0 (N : Nat) (x1 : Int32) (x2 : Int32) (x3 : Int32) (u : zU) : Option (Unit × zU) :=
  zbd (zf_MMC_wantNothing_0 N  u) (fun r1 u2 =>
  if x1 = 0 then zbd (zf_MMC_die_0 N  u2) (fun r5 u6 =>
    zf_MMC_control_0_b208 N   u6)
  else if x1 = 1 then zf_MMC_control_0_b208 N   u2
  else if x1 = 2 then zf_MMC_control_0_b98 N  x1 x2 u2
  else if x1 = 3 then zf_MMC_control_0_b98 N  x1 x2 u2
  else if x1 = 4 then zf_MMC_control_0_b98 N  x1 x2 u2
  else if x1 = 5 then zbd (zf_MMC_choose_0 N  u2) (fun r13 u14 =>
    zf_MMC_control_0_b208 N   u14)
  else if x1 = 6 then zf_MMC_control_0_b197 N  x2 u2
  else if x1 = 7 then zf_MMC_control_0_b197 N  x2 u2
  else if x1 = 8 then zf_MMC_control_0_b197 N  x2 u2
  else if x1 = 9 then zf_MMC_control_0_b197 N  x2 u2
  else if x1 = 10 then zf_MMC_control_0_b197 N  x2 u2
  else if x1 = 11 then zbd (zf_MMC_end_0 N  u2) (fun r22 u23 =>
    zf_MMC_control_0_b208 N   u23)
  else if x1 = 12 then zbd (zf_MMC_wantLabel_0 N x2 u2) (fun r26 u27 =>
    zbd (zf_MMC_takeWanted_0 N  u27) (fun r29 u30 =>
    zbd (zf_MMC_die_0 N  u30) (fun r32 u33 =>
    zf_MMC_control_0_b208 N   u33)))
  else if x1 = 13 then zbd (zf_MMC_take_0 N 127 u2) (fun r36 u37 =>
    zbd (zf_MMC_wantLabel_0 N x2 u37) (fun r39 u40 =>
    zbd (zf_MMC_takeWanted_0 N  u40) (fun r42 u43 =>
    zbd (zf_MMC_giveWanted_0 N  u43) (fun r45 u46 =>
    zf_MMC_control_0_b208 N   u46))))
  else if x1 = 14 then zbd (zf_MMC_table_0 N x2 u2) (fun r49 u50 =>
    zf_MMC_control_0_b208 N   u50)
  else if x1 = 15 then zbd (zf_MMC_wantBlock_0 N 0 1 u2) (fun r53 u54 =>
    zbd (zf_MMC_takeWanted_0 N  u54) (fun r56 u57 =>
    zbd (zf_MMC_die_0 N  u57) (fun r59 u60 =>
    zf_MMC_control_0_b208 N   u60)))
  else if x1 = 16 then zbd (zf_MMC_attribute_0 N 0 x2 u2) (fun r63 u64 =>
    zbd (zf_MMC_call_0 N r63 u64) (fun r66 u67 =>
    zf_MMC_control_0_b208 N   u67))
  else zf_MMC_control_0_b197 N  x2 u2)
def zf_MMC_one_0 (N : Nat) (x1 : Int32) (x2 : Int32) (u : zU) : Option (Unit × zU) :=
  zbd (zf_MMC_take_0 N x1 u) (fun r1 u2 =>
  zbd (zf_MMC_give_0 N x2 u2) (fun r4 u5 =>
  some ((), u5)))
def zf_MMC_takeTwo_0 (N : Nat) (x1 : Int32) (x2 : Int32) (u : zU) : Option (Unit × zU) :=
  zbd (zf_MMC_take_0 N x2 u) (fun r1 u2 =>
  zbd (zf_MMC_take_0 N x1 u2) (fun r4 u5 =>
  some ((), u5)))
def zf_MMC_two_0 (N : Nat) (x1 : Int32) (x2 : Int32) (u : zU) : Option (Unit × zU) :=
  zbd (zf_MMC_take_0 N x1 u) (fun r1 u2 =>
  zbd (zf_MMC_take_0 N x1 u2) (fun r4 u5 =>
  zbd (zf_MMC_give_0 N x2 u5) (fun r7 u8 =>
  some ((), u8))))
def zf_MMC_choice_0_b74 (N : Nat)  (s0 : Int32) (u : zU) : Option (Unit × zU) :=
  zbd (zf_MMC_give_0 N s0 u) (fun r1 u2 =>
  some ((), u2))
def zf_MMC_choice_0_b64 (N : Nat)  (x1 : Int32) (x2 : Int32) (u : zU) : Option (Unit × zU) :=
  if x1 = 0 then
  zf_MMC_choice_0_b74 N  x2 u
  else
  zf_MMC_choice_0_b74 N  x1 u
def zf_MMC_choice_0_b46 (N : Nat)  (x1 : Int32) (x2 : Int32) (u : zU) : Option (Unit × zU) :=
  if x1 = 0 then
  zf_MMC_choice_0_b64 N  x1 x2 u
  else
  if x2 = 0 then
    zf_MMC_choice_0_b64 N  x1 x2 u
    else
    if x1 = x2 then
      zf_MMC_choice_0_b64 N  x1 x2 u
      else
      zbd (zf_MMC_stop_0 N 1 u) (fun r4 u5 =>
        zf_MMC_choice_0_b64 N  x1 x2 u5)
def zf_MMC_choice_0_b40 (N : Nat)  (x1 : Int32) (x2 : Int32) (u : zU) : Option (Unit × zU) :=
  zbd (zf_MMC_stop_0 N 7 u) (fun r1 u2 =>
  zf_MMC_choice_0_b46 N  x1 x2 u2)
def zf_MMC_choice_0 (N : Nat)  (u : zU) : Option (Unit × zU) :=
  zbd (zf_MMC_take_0 N 127 u) (fun r1 u2 =>
  zbd (zf_MMC_take_0 N (-1) u2) (fun r4 u5 =>
  zbd (zf_MMC_take_0 N (-1) u5) (fun r7 u8 =>
  zbd (zf_MMC_isReference N (gi u5 12) u8) (fun r10 u11 =>
  if r10 = 0 then
  zbd (zf_MMC_isReference N (gi u8 12) u11) (fun r14 u15 =>
    if r14 = 0 then
    zf_MMC_choice_0_b46 N  (gi u5 12) (gi u8 12) u15
    else
    zf_MMC_choice_0_b40 N  (gi u5 12) (gi u8 12) u15)
  else
  zf_MMC_choice_0_b40 N  (gi u5 12) (gi u8 12) u11))))
def zf_MMC_named_0_b188 (N : Nat)   (u : zU) : Option (Unit × zU) :=
  some ((), u)
def zf_MMC_named_0_b176 (N : Nat)  (x2 : Int32) (u : zU) : Option (Unit × zU) :=
  zbd (zf_MMC_attribute_0 N 1 x2 u) (fun r1 u2 =>
  zbd (zf_MMC_takeTwo_0 N 127 r1 u2) (fun r4 u5 =>
  zf_MMC_named_0_b188 N   u5))
def zf_MMC_named_0 (N : Nat) (x1 : Int32) (x2 : Int32) (u : zU) : Option (Unit × zU) :=
  if x1 = 26 then zbd (zf_MMC_take_0 N (-1) u) (fun r2 u3 =>
    zf_MMC_named_0_b188 N   u3)
  else if x1 = 27 then zbd (zf_MMC_choice_0 N  u) (fun r6 u7 =>
    zf_MMC_named_0_b188 N   u7)
  else if x1 = 28 then zbd (zf_MMC_take_0 N 127 u) (fun r10 u11 =>
    zbd (zf_MMC_two_0 N x2 x2 u11) (fun r13 u14 =>
    zf_MMC_named_0_b188 N   u14))
  else if x1 = 29 then zf_MMC_named_0_b176 N  x2 u
  else if x1 = 30 then zf_MMC_named_0_b176 N  x2 u
  else if x1 = 31 then zf_MMC_named_0_b176 N  x2 u
  else if x1 = 32 then zbd (zf_MMC_localType_0 N x2 u) (fun r20 u21 =>
    zbd (zf_MMC_give_0 N r20 u21) (fun r23 u24 =>
    zf_MMC_named_0_b188 N   u24))
  else if x1 = 33 then zbd (zf_MMC_localType_0 N x2 u) (fun r27 u28 =>
    zbd (zf_MMC_take_0 N r27 u28) (fun r30 u31 =>
    zf_MMC_named_0_b188 N   u31))
  else if x1 = 34 then zbd (zf_MMC_localType_0 N x2 u) (fun r34 u35 =>
    zbd (zf_MMC_localType_0 N x2 u35) (fun r37 u38 =>
    zbd (zf_MMC_one_0 N r34 r37 u38) (fun r40 u41 =>
    zf_MMC_named_0_b188 N   u41)))
  else if x1 = 35 then zbd (zf_MMC_attribute_0 N 3 x2 u) (fun r44 u45 =>
    zbd (zf_MMC_give_0 N r44 u45) (fun r47 u48 =>
    zf_MMC_named_0_b188 N   u48))
  else if x1 = 36 then zbd (zf_MMC_attribute_0 N 3 x2 u) (fun r51 u52 =>
    zbd (zf_MMC_take_0 N r51 u52) (fun r54 u55 =>
    zf_MMC_named_0_b188 N   u55))
  else if x1 = 37 then zbd (zf_MMC_attribute_0 N 1 x2 u) (fun r58 u59 =>
    zbd (zf_MMC_one_0 N 127 r58 u59) (fun r61 u62 =>
    zf_MMC_named_0_b188 N   u62))
  else zf_MMC_named_0_b176 N  x2 u
def zf_MMC_memory_0_b195 (N : Nat)   (u : zU) : Option (Unit × zU) :=
  some ((), u)
def zf_MMC_memory_0_b192 (N : Nat)  (s0 : Int32) (u : zU) : Option (Unit × zU) :=
  zbd (zf_MMC_give_0 N s0 u) (fun r1 u2 =>
  zf_MMC_memory_0_b195 N   u2)
def zf_MMC_memory_0_b118 (N : Nat)  (s0 : Int32) (s1 : Int32) (u : zU) : Option (Unit × zU) :=
  zbd (zf_MMC_takeTwo_0 N s1 s0 u) (fun r1 u2 =>
  zf_MMC_memory_0_b195 N   u2)
def zf_MMC_memory_0_b89 (N : Nat)  (s0 : Int32) (u : zU) : Option (Unit × zU) :=
  zf_MMC_memory_0_b118 N  127 s0 u
def zf_MMC_memory_0_b56 (N : Nat)  (s0 : Int32) (s1 : Int32) (u : zU) : Option (Unit × zU) :=
  zbd (zf_MMC_one_0 N s1 s0 u) (fun r1 u2 =>
  zf_MMC_memory_0_b195 N   u2)
def zf_MMC_memory_0_b27 (N : Nat)  (s0 : Int32) (u : zU) : Option (Unit × zU) :=
  zf_MMC_memory_0_b56 N  127 s0 u
def zf_MMC_memory_0_b32 (N : Nat)  (x1 : Int32) (s0 : Int32) (u : zU) : Option (Unit × zU) :=
  if x1 = 42 then
  zf_MMC_memory_0_b56 N  125 s0 u
  else
  if x1 = 43 then
    zf_MMC_memory_0_b56 N  124 s0 u
    else
    zf_MMC_memory_0_b56 N  126 s0 u
def zf_MMC_memory_0 (N : Nat) (x1 : Int32) (u : zU) : Option (Unit × zU) :=
  if 54 ≤ x1 then
  if 63 ≤ x1 then
    if x1 = 63 then
      zbd (zf_MMC_give_0 N 127 u) (fun r11 u12 =>
        zf_MMC_memory_0_b195 N   u12)
      else
      if x1 = 64 then
        zbd (zf_MMC_one_0 N 127 127 u) (fun r8 u9 =>
          zf_MMC_memory_0_b195 N   u9)
        else
        if x1 = 65 then
          zf_MMC_memory_0_b192 N  127 u
          else
          if x1 = 66 then
            zf_MMC_memory_0_b192 N  126 u
            else
            if x1 = 67 then
              zf_MMC_memory_0_b192 N  125 u
              else
              zf_MMC_memory_0_b192 N  124 u
    else
    if x1 = 54 then
      zf_MMC_memory_0_b89 N  127 u
      else
      if x1 = 58 then
        zf_MMC_memory_0_b89 N  127 u
        else
        if x1 = 59 then
          zf_MMC_memory_0_b89 N  127 u
          else
          if x1 = 56 then
            zf_MMC_memory_0_b118 N  125 127 u
            else
            if x1 = 57 then
              zf_MMC_memory_0_b118 N  124 127 u
              else
              zf_MMC_memory_0_b118 N  126 127 u
  else
  if x1 = 40 then
    zf_MMC_memory_0_b27 N  127 u
    else
    if x1 < 44 then
      zf_MMC_memory_0_b32 N  x1 127 u
      else
      if 47 < x1 then
        zf_MMC_memory_0_b32 N  x1 127 u
        else
        zf_MMC_memory_0_b27 N  127 u
def zf_MMC_takeThree_0 (N : Nat)  (u : zU) : Option (Unit × zU) :=
  zbd (zf_MMC_take_0 N 127 u) (fun r1 u2 =>
  zbd (zf_MMC_take_0 N 127 u2) (fun r4 u5 =>
  zbd (zf_MMC_take_0 N 127 u5) (fun r7 u8 =>
  some ((), u8))))
def zf_MMC_other_0_b188 (N : Nat)   (u : zU) : Option (Unit × zU) :=
  some ((), u)
def zf_MMC_other_0_b112 (N : Nat)   (u : zU) : Option (Unit × zU) :=
  zbd (zf_MMC_give_0 N 127 u) (fun r1 u2 =>
  zf_MMC_other_0_b188 N   u2)
def zf_MMC_other_0_b130 (N : Nat)   (u : zU) : Option (Unit × zU) :=
  zf_MMC_other_0_b188 N   u
def zf_MMC_other_0 (N : Nat) (x1 : Int32) (x2 : Int32) (u : zU) : Option (Unit × zU) :=
  if x1 = 208 then zbd (zf_MMC_give_0 N x2 u) (fun r2 u3 =>
    zf_MMC_other_0_b188 N   u3)
  else if x1 = 209 then zbd (zf_MMC_take_0 N (-1) u) (fun r6 u7 =>
    if (gi u7 12) = 0 then
    zf_MMC_other_0_b112 N   u7
    else
    zbd (zf_MMC_isReference N (gi u7 12) u7) (fun r10 u11 =>
      if r10 = 0 then
      zbd (zf_MMC_stop_0 N 7 u11) (fun r14 u15 =>
        zf_MMC_other_0_b112 N   u15)
      else
      zf_MMC_other_0_b112 N   u11))
  else if x1 = 210 then zbd (zf_MMC_give_0 N 112 u) (fun r18 u19 =>
    zf_MMC_other_0_b188 N   u19)
  else if x1 = 265 then zf_MMC_other_0_b130 N   u
  else if x1 = 269 then zf_MMC_other_0_b130 N   u
  else if x1 = 271 then zbd (zf_MMC_attribute_0 N 1 x2 u) (fun r24 u25 =>
    zbd (zf_MMC_takeTwo_0 N r24 127 u25) (fun r27 u28 =>
    zbd (zf_MMC_give_0 N 127 u28) (fun r30 u31 =>
    zf_MMC_other_0_b188 N   u31)))
  else if x1 = 272 then zbd (zf_MMC_give_0 N 127 u) (fun r34 u35 =>
    zf_MMC_other_0_b188 N   u35)
  else if x1 = 273 then zbd (zf_MMC_take_0 N 127 u) (fun r38 u39 =>
    zbd (zf_MMC_attribute_0 N 1 x2 u39) (fun r41 u42 =>
    zbd (zf_MMC_takeTwo_0 N 127 r41 u42) (fun r44 u45 =>
    zf_MMC_other_0_b188 N   u45)))
  else zbd (zf_MMC_takeThree_0 N  u) (fun r47 u48 =>
  zf_MMC_other_0_b188 N   u48)
def zf_MMC_calculate_0_b19 (N : Nat)   (u : zU) : Option (Unit × zU) :=
  some ((), u)
def zf_MMC_calculate_0 (N : Nat) (x1 : Int32) (x2 : Int32) (u : zU) : Option (Unit × zU) :=
  if x1 = 0 then
  zbd (zf_MMC_two_0 N x2 x2 u) (fun r2 u3 =>
    zf_MMC_calculate_0_b19 N   u3)
  else
  zbd (zf_MMC_one_0 N x2 x2 u) (fun r5 u6 =>
    zf_MMC_calculate_0_b19 N   u6)
def zf_MMC_from_b404 (N : Nat)   (u : zU) : Option (Int32 × zU) :=
  some (126, u)
def zf_MMC_from_b407 (N : Nat)   (u : zU) : Option (Int32 × zU) :=
  some (125, u)
def zf_MMC_from_b410 (N : Nat)   (u : zU) : Option (Int32 × zU) :=
  some (124, u)
def zf_MMC_from_b413 (N : Nat)   (u : zU) : Option (Int32 × zU) :=
  some (127, u)
def zf_MMC_from (N : Nat) (x0 : Int32) (u : zU) : Option (Int32 × zU) :=
  if x0 = 167 then zf_MMC_from_b404 N   u
  else if x0 = 168 then zf_MMC_from_b407 N   u
  else if x0 = 169 then zf_MMC_from_b407 N   u
  else if x0 = 170 then zf_MMC_from_b410 N   u
  else if x0 = 171 then zf_MMC_from_b410 N   u
  else if x0 = 172 then zf_MMC_from_b413 N   u
  else if x0 = 173 then zf_MMC_from_b413 N   u
  else if x0 = 174 then zf_MMC_from_b407 N   u
  else if x0 = 175 then zf_MMC_from_b407 N   u
  else if x0 = 176 then zf_MMC_from_b410 N   u
  else if x0 = 177 then zf_MMC_from_b410 N   u
  else if x0 = 178 then zf_MMC_from_b413 N   u
  else if x0 = 179 then zf_MMC_from_b413 N   u
  else if x0 = 180 then zf_MMC_from_b404 N   u
  else if x0 = 181 then zf_MMC_from_b404 N   u
  else if x0 = 182 then zf_MMC_from_b410 N   u
  else if x0 = 183 then zf_MMC_from_b413 N   u
  else if x0 = 184 then zf_MMC_from_b413 N   u
  else if x0 = 185 then zf_MMC_from_b404 N   u
  else if x0 = 186 then zf_MMC_from_b404 N   u
  else if x0 = 187 then zf_MMC_from_b407 N   u
  else if x0 = 188 then zf_MMC_from_b407 N   u
  else if x0 = 189 then zf_MMC_from_b410 N   u
  else if x0 = 190 then zf_MMC_from_b413 N   u
  else if x0 = 191 then zf_MMC_from_b404 N   u
  else if x0 = 192 then zf_MMC_from_b413 N   u
  else if x0 = 193 then zf_MMC_from_b413 N   u
  else if x0 = 194 then zf_MMC_from_b404 N   u
  else if x0 = 195 then zf_MMC_from_b404 N   u
  else if x0 = 196 then zf_MMC_from_b404 N   u
  else if x0 = 197 then zf_MMC_from_b413 N   u
  else if x0 = 198 then zf_MMC_from_b413 N   u
  else if x0 = 199 then zf_MMC_from_b413 N   u
  else if x0 = 200 then zf_MMC_from_b413 N   u
  else if x0 = 201 then zf_MMC_from_b413 N   u
  else if x0 = 202 then zf_MMC_from_b413 N   u
  else if x0 = 203 then zf_MMC_from_b413 N   u
  else if x0 = 204 then zf_MMC_from_b413 N   u
  else if x0 = 205 then zf_MMC_from_b413 N   u
  else if x0 = 206 then zf_MMC_from_b413 N   u
  else if x0 = 207 then zf_MMC_from_b413 N   u
  else if x0 = 208 then zf_MMC_from_b413 N   u
  else if x0 = 209 then zf_MMC_from_b413 N   u
  else if x0 = 210 then zf_MMC_from_b413 N   u
  else if x0 = 211 then zf_MMC_from_b413 N   u
  else if x0 = 212 then zf_MMC_from_b413 N   u
  else if x0 = 213 then zf_MMC_from_b413 N   u
  else if x0 = 214 then zf_MMC_from_b413 N   u
  else if x0 = 215 then zf_MMC_from_b413 N   u
  else if x0 = 216 then zf_MMC_from_b413 N   u
  else if x0 = 217 then zf_MMC_from_b413 N   u
  else if x0 = 218 then zf_MMC_from_b413 N   u
  else if x0 = 219 then zf_MMC_from_b413 N   u
  else if x0 = 220 then zf_MMC_from_b413 N   u
  else if x0 = 221 then zf_MMC_from_b413 N   u
  else if x0 = 222 then zf_MMC_from_b413 N   u
  else if x0 = 223 then zf_MMC_from_b413 N   u
  else if x0 = 224 then zf_MMC_from_b413 N   u
  else if x0 = 225 then zf_MMC_from_b413 N   u
  else if x0 = 226 then zf_MMC_from_b413 N   u
  else if x0 = 227 then zf_MMC_from_b413 N   u
  else if x0 = 228 then zf_MMC_from_b413 N   u
  else if x0 = 229 then zf_MMC_from_b413 N   u
  else if x0 = 230 then zf_MMC_from_b413 N   u
  else if x0 = 231 then zf_MMC_from_b413 N   u
  else if x0 = 232 then zf_MMC_from_b413 N   u
  else if x0 = 233 then zf_MMC_from_b413 N   u
  else if x0 = 234 then zf_MMC_from_b413 N   u
  else if x0 = 235 then zf_MMC_from_b413 N   u
  else if x0 = 236 then zf_MMC_from_b413 N   u
  else if x0 = 237 then zf_MMC_from_b413 N   u
  else if x0 = 238 then zf_MMC_from_b413 N   u
  else if x0 = 239 then zf_MMC_from_b413 N   u
  else if x0 = 240 then zf_MMC_from_b413 N   u
  else if x0 = 241 then zf_MMC_from_b413 N   u
  else if x0 = 242 then zf_MMC_from_b413 N   u
  else if x0 = 243 then zf_MMC_from_b413 N   u
  else if x0 = 244 then zf_MMC_from_b413 N   u
  else if x0 = 245 then zf_MMC_from_b413 N   u
  else if x0 = 246 then zf_MMC_from_b413 N   u
  else if x0 = 247 then zf_MMC_from_b413 N   u
  else if x0 = 248 then zf_MMC_from_b413 N   u
  else if x0 = 249 then zf_MMC_from_b413 N   u
  else if x0 = 250 then zf_MMC_from_b413 N   u
  else if x0 = 251 then zf_MMC_from_b413 N   u
  else if x0 = 252 then zf_MMC_from_b413 N   u
  else if x0 = 253 then zf_MMC_from_b413 N   u
  else if x0 = 254 then zf_MMC_from_b413 N   u
  else if x0 = 255 then zf_MMC_from_b413 N   u
  else if x0 = 256 then zf_MMC_from_b407 N   u
  else if x0 = 257 then zf_MMC_from_b407 N   u
  else if x0 = 258 then zf_MMC_from_b410 N   u
  else if x0 = 259 then zf_MMC_from_b410 N   u
  else if x0 = 260 then zf_MMC_from_b407 N   u
  else if x0 = 261 then zf_MMC_from_b407 N   u
  else if x0 = 262 then zf_MMC_from_b410 N   u
  else if x0 = 263 then zf_MMC_from_b410 N   u
  else zf_MMC_from_b413 N   u
end
section
def zf_MMC_to_b384 (N : Nat)   (u : zU) : Option (Int32 × zU) :=
  some (126, u)
def zf_MMC_to_b387 (N : Nat)   (u : zU) : Option (Int32 × zU) :=
  some (125, u)
def zf_MMC_to_b390 (N : Nat)   (u : zU) : Option (Int32 × zU) :=
  some (124, u)
def zf_MMC_to_b393 (N : Nat)   (u : zU) : Option (Int32 × zU) :=
  some (127, u)
def zf_MMC_to (N : Nat) (x0 : Int32) (u : zU) : Option (Int32 × zU) :=
  if x0 = 172 then zf_MMC_to_b384 N   u
  else if x0 = 173 then zf_MMC_to_b384 N   u
  else if x0 = 174 then zf_MMC_to_b384 N   u
  else if x0 = 175 then zf_MMC_to_b384 N   u
  else if x0 = 176 then zf_MMC_to_b384 N   u
  else if x0 = 177 then zf_MMC_to_b384 N   u
  else if x0 = 178 then zf_MMC_to_b387 N   u
  else if x0 = 179 then zf_MMC_to_b387 N   u
  else if x0 = 180 then zf_MMC_to_b387 N   u
  else if x0 = 181 then zf_MMC_to_b387 N   u
  else if x0 = 182 then zf_MMC_to_b387 N   u
  else if x0 = 183 then zf_MMC_to_b390 N   u
  else if x0 = 184 then zf_MMC_to_b390 N   u
  else if x0 = 185 then zf_MMC_to_b390 N   u
  else if x0 = 186 then zf_MMC_to_b390 N   u
  else if x0 = 187 then zf_MMC_to_b390 N   u
  else if x0 = 188 then zf_MMC_to_b393 N   u
  else if x0 = 189 then zf_MMC_to_b384 N   u
  else if x0 = 190 then zf_MMC_to_b387 N   u
  else if x0 = 191 then zf_MMC_to_b390 N   u
  else if x0 = 192 then zf_MMC_to_b393 N   u
  else if x0 = 193 then zf_MMC_to_b393 N   u
  else if x0 = 194 then zf_MMC_to_b384 N   u
  else if x0 = 195 then zf_MMC_to_b384 N   u
  else if x0 = 196 then zf_MMC_to_b384 N   u
  else if x0 = 197 then zf_MMC_to_b393 N   u
  else if x0 = 198 then zf_MMC_to_b393 N   u
  else if x0 = 199 then zf_MMC_to_b393 N   u
  else if x0 = 200 then zf_MMC_to_b393 N   u
  else if x0 = 201 then zf_MMC_to_b393 N   u
  else if x0 = 202 then zf_MMC_to_b393 N   u
  else if x0 = 203 then zf_MMC_to_b393 N   u
  else if x0 = 204 then zf_MMC_to_b393 N   u
  else if x0 = 205 then zf_MMC_to_b393 N   u
  else if x0 = 206 then zf_MMC_to_b393 N   u
  else if x0 = 207 then zf_MMC_to_b393 N   u
  else if x0 = 208 then zf_MMC_to_b393 N   u
  else if x0 = 209 then zf_MMC_to_b393 N   u
  else if x0 = 210 then zf_MMC_to_b393 N   u
  else if x0 = 211 then zf_MMC_to_b393 N   u
  else if x0 = 212 then zf_MMC_to_b393 N   u
  else if x0 = 213 then zf_MMC_to_b393 N   u
  else if x0 = 214 then zf_MMC_to_b393 N   u
  else if x0 = 215 then zf_MMC_to_b393 N   u
  else if x0 = 216 then zf_MMC_to_b393 N   u
  else if x0 = 217 then zf_MMC_to_b393 N   u
  else if x0 = 218 then zf_MMC_to_b393 N   u
  else if x0 = 219 then zf_MMC_to_b393 N   u
  else if x0 = 220 then zf_MMC_to_b393 N   u
  else if x0 = 221 then zf_MMC_to_b393 N   u
  else if x0 = 222 then zf_MMC_to_b393 N   u
  else if x0 = 223 then zf_MMC_to_b393 N   u
  else if x0 = 224 then zf_MMC_to_b393 N   u
  else if x0 = 225 then zf_MMC_to_b393 N   u
  else if x0 = 226 then zf_MMC_to_b393 N   u
  else if x0 = 227 then zf_MMC_to_b393 N   u
  else if x0 = 228 then zf_MMC_to_b393 N   u
  else if x0 = 229 then zf_MMC_to_b393 N   u
  else if x0 = 230 then zf_MMC_to_b393 N   u
  else if x0 = 231 then zf_MMC_to_b393 N   u
  else if x0 = 232 then zf_MMC_to_b393 N   u
  else if x0 = 233 then zf_MMC_to_b393 N   u
  else if x0 = 234 then zf_MMC_to_b393 N   u
  else if x0 = 235 then zf_MMC_to_b393 N   u
  else if x0 = 236 then zf_MMC_to_b393 N   u
  else if x0 = 237 then zf_MMC_to_b393 N   u
  else if x0 = 238 then zf_MMC_to_b393 N   u
  else if x0 = 239 then zf_MMC_to_b393 N   u
  else if x0 = 240 then zf_MMC_to_b393 N   u
  else if x0 = 241 then zf_MMC_to_b393 N   u
  else if x0 = 242 then zf_MMC_to_b393 N   u
  else if x0 = 243 then zf_MMC_to_b393 N   u
  else if x0 = 244 then zf_MMC_to_b393 N   u
  else if x0 = 245 then zf_MMC_to_b393 N   u
  else if x0 = 246 then zf_MMC_to_b393 N   u
  else if x0 = 247 then zf_MMC_to_b393 N   u
  else if x0 = 248 then zf_MMC_to_b393 N   u
  else if x0 = 249 then zf_MMC_to_b393 N   u
  else if x0 = 250 then zf_MMC_to_b393 N   u
  else if x0 = 251 then zf_MMC_to_b393 N   u
  else if x0 = 252 then zf_MMC_to_b393 N   u
  else if x0 = 253 then zf_MMC_to_b393 N   u
  else if x0 = 254 then zf_MMC_to_b393 N   u
  else if x0 = 255 then zf_MMC_to_b393 N   u
  else if x0 = 256 then zf_MMC_to_b393 N   u
  else if x0 = 257 then zf_MMC_to_b393 N   u
  else if x0 = 258 then zf_MMC_to_b393 N   u
  else if x0 = 259 then zf_MMC_to_b393 N   u
  else if x0 = 260 then zf_MMC_to_b384 N   u
  else if x0 = 261 then zf_MMC_to_b384 N   u
  else if x0 = 262 then zf_MMC_to_b384 N   u
  else if x0 = 263 then zf_MMC_to_b384 N   u
  else zf_MMC_to_b393 N   u
def zf_MMC_number_0_b223 (N : Nat)   (u : zU) : Option (Unit × zU) :=
  some ((), u)
def zf_MMC_number_0_b203 (N : Nat)  (s0 : Int32) (u : zU) : Option (Unit × zU) :=
  zbd (zf_MMC_calculate_0 N s0 124 u) (fun r1 u2 =>
  zf_MMC_number_0_b223 N   u2)
def zf_MMC_number_0_b175 (N : Nat)  (s0 : Int32) (u : zU) : Option (Unit × zU) :=
  zbd (zf_MMC_calculate_0 N s0 125 u) (fun r1 u2 =>
  zf_MMC_number_0_b223 N   u2)
def zf_MMC_number_0_b147 (N : Nat)  (s0 : Int32) (u : zU) : Option (Unit × zU) :=
  zbd (zf_MMC_calculate_0 N s0 126 u) (fun r1 u2 =>
  zf_MMC_number_0_b223 N   u2)
def zf_MMC_number_0_b120 (N : Nat)  (s0 : Int32) (u : zU) : Option (Unit × zU) :=
  zbd (zf_MMC_calculate_0 N s0 127 u) (fun r1 u2 =>
  zf_MMC_number_0_b223 N   u2)
def zf_MMC_number_0 (N : Nat) (x1 : Int32) (u : zU) : Option (Unit × zU) :=
  if x1 = 69 then
  zbd (zf_MMC_one_0 N 127 127 u) (fun r39 u40 =>
    zf_MMC_number_0_b223 N   u40)
  else
  if 80 ≤ x1 then
    if x1 = 80 then
      zbd (zf_MMC_one_0 N 126 127 u) (fun r33 u34 =>
        zf_MMC_number_0_b223 N   u34)
      else
      if 91 ≤ x1 then
        if 97 ≤ x1 then
          if 103 ≤ x1 then
            if 121 ≤ x1 then
              if 139 ≤ x1 then
                if 153 ≤ x1 then
                  if 167 ≤ x1 then
                    zbd (zf_MMC_from N x1 u) (fun r11 u12 =>
                      zbd (zf_MMC_to N x1 u12) (fun r14 u15 =>
                      zbd (zf_MMC_one_0 N r11 r14 u15) (fun r17 u18 =>
                      zf_MMC_number_0_b223 N   u18)))
                    else
                    if 160 ≤ x1 then
                      zf_MMC_number_0_b203 N  0 u
                      else
                      zf_MMC_number_0_b203 N  1 u
                  else
                  if 146 ≤ x1 then
                    zf_MMC_number_0_b175 N  0 u
                    else
                    zf_MMC_number_0_b175 N  1 u
                else
                if 124 ≤ x1 then
                  zf_MMC_number_0_b147 N  0 u
                  else
                  zf_MMC_number_0_b147 N  1 u
              else
              if 106 ≤ x1 then
                zf_MMC_number_0_b120 N  0 u
                else
                zf_MMC_number_0_b120 N  1 u
            else
            zbd (zf_MMC_two_0 N 124 127 u) (fun r24 u25 =>
              zf_MMC_number_0_b223 N   u25)
          else
          zbd (zf_MMC_two_0 N 125 127 u) (fun r27 u28 =>
            zf_MMC_number_0_b223 N   u28)
        else
        zbd (zf_MMC_two_0 N 126 127 u) (fun r30 u31 =>
          zf_MMC_number_0_b223 N   u31)
    else
    zbd (zf_MMC_two_0 N 127 127 u) (fun r36 u37 =>
      zf_MMC_number_0_b223 N   u37)
def zf_MMC_perform_0_b80 (N : Nat)   (u : zU) : Option (Unit × zU) :=
  some ((), u)
def zf_MMC_perform_0_b66 (N : Nat)  (x1 : Int32) (u : zU) : Option (Unit × zU) :=
  zbd (zf_MMC_number_0 N x1 u) (fun r1 u2 =>
  zf_MMC_perform_0_b80 N   u2)
def zf_MMC_perform_0_b74 (N : Nat)  (x1 : Int32) (x2 : Int32) (u : zU) : Option (Unit × zU) :=
  zbd (zf_MMC_other_0 N x1 x2 u) (fun r1 u2 =>
  zf_MMC_perform_0_b80 N   u2)
def zf_MMC_perform_0 (N : Nat) (x1 : Int32) (x2 : Int32) (x3 : Int32) (u : zU) : Option (Unit × zU) :=
  if 18 ≤ x1 then
  if 39 ≤ x1 then
    if 69 ≤ x1 then
      if x1 < 197 then
        zf_MMC_perform_0_b66 N  x1 u
        else
        if x1 ≤ 255 then
          zf_MMC_perform_0_b74 N  x1 x2 u
          else
          if 264 ≤ x1 then
            zf_MMC_perform_0_b74 N  x1 x2 u
            else
            zf_MMC_perform_0_b66 N  x1 u
      else
      zbd (zf_MMC_memory_0 N x1 u) (fun r7 u8 =>
        zf_MMC_perform_0_b80 N   u8)
    else
    zbd (zf_MMC_named_0 N x1 x2 u) (fun r10 u11 =>
      zf_MMC_perform_0_b80 N   u11)
  else
  zbd (zf_MMC_control_0 N x1 x2 x3 u) (fun r13 u14 =>
    zf_MMC_perform_0_b80 N   u14)
def zf_MMC_step_0_b255 (N : Nat)   (u : zU) : Option (Int32 × zU) :=
  some (0, u)
def zf_MMC_step_0_b243 (N : Nat)   (u : zU) : Option (Int32 × zU) :=
  if (gi u 10) = 0 then
  zf_MMC_step_0_b255 N   (si u 1 2)
  else
  zf_MMC_step_0_b255 N   u
def zf_MMC_step_0_b226 (N : Nat)   (u : zU) : Option (Int32 × zU) :=
  if (gi u 16) = 0 then
  zf_MMC_step_0_b243 N   u
  else
  zf_MMC_step_0_b243 N   (si u 10 ((gi u 10) - 1))
def zf_MMC_step_0_b203 (N : Nat)  (x4 : Int32) (u : zU) : Option (Int32 × zU) :=
  if (gi u 17) = 0 then
  zf_MMC_step_0_b226 N   u
  else
  zck (zin x4 62) (zck (zin x4 62) (zf_MMC_step_0_b226 N   (sa (sa u 11 x4 5) 14 x4 (vp_nar .boolean 0))))
def zf_MMC_step_0_b186 (N : Nat)  (x4 : Int32) (u : zU) : Option (Int32 × zU) :=
  if (gi u 15) = 0 then
  zf_MMC_step_0_b203 N  x4 u
  else
  zf_MMC_step_0_b203 N  x4 (si u 10 ((gi u 10) + 1))
def zf_MMC_step_0_b134 (N : Nat)  : Nat → Int32 → zU → Option (Int32 × zU)
  | 0, _, _ => none
  | n + 1, x4, u =>
  if (gi u 13) ≤ x4 then
  if (gi u 14) = 0 then
    zf_MMC_step_0_b186 N  ((gi u 10) - 1) u
    else
    zck (zin ((gi u 10) - 1) 62) (zf_MMC_step_0_b186 N  ((gi u 10) - 1) (sa u 14 ((gi u 10) - 1) (vp_nar .boolean 1)))
  else
  zck (zin x4 600) (zck (zin x4 260) (zf_MMC_step_0_b134 N  n (x4 + 1) (sa u 10 x4 (ga u 15 x4))))
def zf_MMC_step_0_b96 (N : Nat)   (u : zU) : Option (Int32 × zU) :=
  if (gi u 11) ≤ 0 then
  zf_MMC_step_0_b134 N  N 0 (si (si (si u 3 1) 8 0) 9 (gi u 13))
  else
  some ((gi u 11), (si u 1 0))
def zf_MMC_step_0_b26 (N : Nat)  : Nat → Int32 → Int32 → Int32 → Int32 → zU → Option (Int32 × zU)
  | 0, _, _, _, _, _ => none
  | n + 1, x1, x2, x3, x4, u =>
  if (gi u 9) ≤ x4 then
  zbd (zf_MMC_examine_0 N x1 x2 x3 (si (si (si (si u 14 0) 15 0) 16 0) 17 0)) (fun r2 u3 =>
    if (gi u3 11) = 0 then
    zbd (zf_MMC_perform_0 N x1 x2 x3 u3) (fun r6 u7 =>
      zf_MMC_step_0_b96 N   u7)
    else
    zf_MMC_step_0_b96 N   u3)
  else
  zck (zin x4 260) (zck (zin x4 600) (zf_MMC_step_0_b26 N  n x1 x2 x3 (x4 + 1) (sa u 15 x4 (ga u 10 x4))))
def zf_MMC_step_0 (N : Nat) (x1 : Int32) (x2 : Int32) (x3 : Int32) (u : zU) : Option (Int32 × zU) :=
  if (gi u 1) = 1 then
  zf_MMC_step_0_b26 N  N x1 x2 x3 0 (si (si u 11 0) 13 (gi u 9))
  else
  some ((-1), u)
def zf_MMC_state_0 (N : Nat)  (u : zU) : Option (Int32 × zU) :=
  some ((gi u 1), u)
def zf_MMC_look_0_b17 (N : Nat)   (u : zU) : Option (Int64 × zU) :=
  some ((-1), u)
def zf_MMC_look_0_b136 (N : Nat)  (s0 : Int64) (u : zU) : Option (Int64 × zU) :=
  some (s0, u)
def zf_MMC_look_0_b33 (N : Nat)  : Nat → Int32 → Int32 → Int64 → Int32 → zU → Option (Int64 × zU)
  | 0, _, _, _, _, _ => none
  | n + 1, x1, x2, x3, x5, u =>
  if (gi u 6) ≤ x5 then
  if x1 = 0 then
    zf_MMC_look_0_b136 N  (Int32.toInt64 (gi u 9)) u
    else
    if x1 = 1 then
      zf_MMC_look_0_b136 N  (Int32.toInt64 (gi u 10)) u
      else
      if x1 = 2 then
        zck (zin x2 62) (zf_MMC_look_0_b136 N  (Int32.toInt64 (ga u 13 x2)) u)
        else
        if x1 = 3 then
          zck (zin x2 62) (if (ga u 14 x2) = 0 then
            zf_MMC_look_0_b136 N  1 u
            else
            zf_MMC_look_0_b136 N  0 u)
          else
          if x1 = 4 then
            zck (zin x2 62) (zf_MMC_look_0_b136 N  (Int32.toInt64 (ga u 11 x2)) u)
            else
            zf_MMC_look_0_b136 N  x3 u
  else
  zck (zin x5 60) (zf_MMC_look_0_b33 N  n x1 x2 (x3 + (gb u 0 x5)) (x5 + 1) u)
def zf_MMC_look_0 (N : Nat) (x1 : Int32) (u : zU) : Option (Int64 × zU) :=
  if (gi u 1) = 1 then
  if x1 < 0 then
    zf_MMC_look_0_b17 N   u
    else
    if x1 ≤ 5 then
      zf_MMC_look_0_b33 N  N x1 ((gi u 10) - 1) 0 0 u
      else
      zf_MMC_look_0_b17 N   u
  else
  zf_MMC_look_0_b17 N   u
def zf_MMC_operand_0_b37 (N : Nat)  (s0 : Int32) (u : zU) : Option (Int32 × zU) :=
  some (s0, u)
def zf_MMC_operand_0_b20 (N : Nat)   (u : zU) : Option (Int32 × zU) :=
  zf_MMC_operand_0_b37 N  (-1) u
def zf_MMC_operand_0 (N : Nat) (x1 : Int32) (u : zU) : Option (Int32 × zU) :=
  if (gi u 1) = 1 then
  if x1 < 0 then
    zf_MMC_operand_0_b20 N   u
    else
    if x1 < (gi u 9) then
      zck (zin (((gi u 9) - 1) - x1) 260) (zf_MMC_operand_0_b37 N  (ga u 10 (((gi u 9) - 1) - x1)) u)
      else
      zf_MMC_operand_0_b20 N   u
  else
  zf_MMC_operand_0_b20 N   u
end
section
-- ===== PART A: goes FIRST, ahead of the names: the tables' words, and 'selects' of the private methods out of them =====
/-- a private method of a class that the tables say can be made, by its rows of tables_1 -/
def lw_okq (q : MethodName × Nat) : Prop := (q.1.cls ≠ "java/lang/invoke/MethodHandle" ∧ q.1.cls ≠ "java/lang/invoke/VarHandle") ∧ Cond.instantiable q.1.cls q.2 ∈ tables_1 ∧ Cond.privateMethod q.1 ∈ tables_1 ∧ Cond.instanceMethod q.1 ∈ tables_1
theorem lw_p0 : lw_okq (⟨"CodeChecker$Code", "open", "(IZ)V"⟩, 10) := ⟨⟨by decide +kernel, by decide +kernel⟩, List.mem_of_getElem? (i := 96) (by decide +kernel), List.mem_of_getElem? (i := 276) (by decide +kernel), List.mem_of_getElem? (i := 277) (by decide +kernel)⟩
theorem lw_p1 : lw_okq (⟨"CodeChecker$Stack", "pushBlock", "(II)V"⟩, 10) := ⟨⟨by decide +kernel, by decide +kernel⟩, List.mem_of_getElem? (i := 123) (by decide +kernel), List.mem_of_getElem? (i := 284) (by decide +kernel), List.mem_of_getElem? (i := 285) (by decide +kernel)⟩
theorem lw_p2 : lw_okq (⟨"CodeChecker$Code", "isMalformed", "(II)Z"⟩, 10) := ⟨⟨by decide +kernel, by decide +kernel⟩, List.mem_of_getElem? (i := 96) (by decide +kernel), List.mem_of_getElem? (i := 339) (by decide +kernel), List.mem_of_getElem? (i := 340) (by decide +kernel)⟩
theorem lw_p3 : lw_okq (⟨"CodeChecker$Code", "mayStandInConstant", "(II)Z"⟩, 10) := ⟨⟨by decide +kernel, by decide +kernel⟩, List.mem_of_getElem? (i := 96) (by decide +kernel), List.mem_of_getElem? (i := 352) (by decide +kernel), List.mem_of_getElem? (i := 353) (by decide +kernel)⟩
theorem lw_p4 : lw_okq (⟨"CodeChecker$Code", "namesWhatIsMissing", "(III)Z"⟩, 10) := ⟨⟨by decide +kernel, by decide +kernel⟩, List.mem_of_getElem? (i := 96) (by decide +kernel), List.mem_of_getElem? (i := 361) (by decide +kernel), List.mem_of_getElem? (i := 362) (by decide +kernel)⟩
theorem lw_p5 : lw_okq (⟨"CodeChecker$Code", "isLabelMissing", "()Z"⟩, 10) := ⟨⟨by decide +kernel, by decide +kernel⟩, List.mem_of_getElem? (i := 96) (by decide +kernel), List.mem_of_getElem? (i := 370) (by decide +kernel), List.mem_of_getElem? (i := 371) (by decide +kernel)⟩
theorem lw_p6 : lw_okq (⟨"CodeChecker$Code", "misfit", "(III)I"⟩, 10) := ⟨⟨by decide +kernel, by decide +kernel⟩, List.mem_of_getElem? (i := 96) (by decide +kernel), List.mem_of_getElem? (i := 379) (by decide +kernel), List.mem_of_getElem? (i := 380) (by decide +kernel)⟩
theorem lw_p7 : lw_okq (⟨"CodeChecker$Code", "accessFault", "(II)I"⟩, 10) := ⟨⟨by decide +kernel, by decide +kernel⟩, List.mem_of_getElem? (i := 96) (by decide +kernel), List.mem_of_getElem? (i := 383) (by decide +kernel), List.mem_of_getElem? (i := 384) (by decide +kernel)⟩
theorem lw_p8 : lw_okq (⟨"CodeChecker$Code", "carryOutPlain", "(I)V"⟩, 10) := ⟨⟨by decide +kernel, by decide +kernel⟩, List.mem_of_getElem? (i := 96) (by decide +kernel), List.mem_of_getElem? (i := 407) (by decide +kernel), List.mem_of_getElem? (i := 408) (by decide +kernel)⟩
theorem lw_p9 : lw_okq (⟨"CodeChecker$Stack", "fail", "(I)V"⟩, 10) := ⟨⟨by decide +kernel, by decide +kernel⟩, List.mem_of_getElem? (i := 123) (by decide +kernel), List.mem_of_getElem? (i := 424) (by decide +kernel), List.mem_of_getElem? (i := 425) (by decide +kernel)⟩
theorem lw_p10 : lw_okq (⟨"CodeChecker$Code", "carryOutBlock", "(II)V"⟩, 10) := ⟨⟨by decide +kernel, by decide +kernel⟩, List.mem_of_getElem? (i := 96) (by decide +kernel), List.mem_of_getElem? (i := 432) (by decide +kernel), List.mem_of_getElem? (i := 433) (by decide +kernel)⟩
theorem lw_p11 : lw_okq (⟨"CodeChecker$Stack", "hasInnermost", "()Z"⟩, 10) := ⟨⟨by decide +kernel, by decide +kernel⟩, List.mem_of_getElem? (i := 123) (by decide +kernel), List.mem_of_getElem? (i := 440) (by decide +kernel), List.mem_of_getElem? (i := 441) (by decide +kernel)⟩
theorem lw_p12 : lw_okq (⟨"CodeChecker$Stack", "ofBlock", "([II)I"⟩, 10) := ⟨⟨by decide +kernel, by decide +kernel⟩, List.mem_of_getElem? (i := 123) (by decide +kernel), List.mem_of_getElem? (i := 468) (by decide +kernel), List.mem_of_getElem? (i := 469) (by decide +kernel)⟩
theorem lw_p13 : lw_okq (⟨"CodeChecker$Stack", "expectNoMoreOperands", "()V"⟩, 10) := ⟨⟨by decide +kernel, by decide +kernel⟩, List.mem_of_getElem? (i := 123) (by decide +kernel), List.mem_of_getElem? (i := 472) (by decide +kernel), List.mem_of_getElem? (i := 473) (by decide +kernel)⟩
theorem lw_p14 : lw_okq (⟨"CodeChecker$Code", "carryOutBranch", "(II)V"⟩, 10) := ⟨⟨by decide +kernel, by decide +kernel⟩, List.mem_of_getElem? (i := 96) (by decide +kernel), List.mem_of_getElem? (i := 490) (by decide +kernel), List.mem_of_getElem? (i := 491) (by decide +kernel)⟩
theorem lw_p15 : lw_okq (⟨"CodeChecker$Stack", "labelRows", "(I)LCodeChecker$Rows;"⟩, 10) := ⟨⟨by decide +kernel, by decide +kernel⟩, List.mem_of_getElem? (i := 123) (by decide +kernel), List.mem_of_getElem? (i := 498) (by decide +kernel), List.mem_of_getElem? (i := 499) (by decide +kernel)⟩
def lw_privs_1 : List (MethodName × Nat) := [(⟨"CodeChecker$Code", "open", "(IZ)V"⟩, 10), (⟨"CodeChecker$Stack", "pushBlock", "(II)V"⟩, 10), (⟨"CodeChecker$Code", "isMalformed", "(II)Z"⟩, 10), (⟨"CodeChecker$Code", "mayStandInConstant", "(II)Z"⟩, 10), (⟨"CodeChecker$Code", "namesWhatIsMissing", "(III)Z"⟩, 10), (⟨"CodeChecker$Code", "isLabelMissing", "()Z"⟩, 10), (⟨"CodeChecker$Code", "misfit", "(III)I"⟩, 10), (⟨"CodeChecker$Code", "accessFault", "(II)I"⟩, 10), (⟨"CodeChecker$Code", "carryOutPlain", "(I)V"⟩, 10), (⟨"CodeChecker$Stack", "fail", "(I)V"⟩, 10), (⟨"CodeChecker$Code", "carryOutBlock", "(II)V"⟩, 10), (⟨"CodeChecker$Stack", "hasInnermost", "()Z"⟩, 10), (⟨"CodeChecker$Stack", "ofBlock", "([II)I"⟩, 10), (⟨"CodeChecker$Stack", "expectNoMoreOperands", "()V"⟩, 10), (⟨"CodeChecker$Code", "carryOutBranch", "(II)V"⟩, 10), (⟨"CodeChecker$Stack", "labelRows", "(I)LCodeChecker$Rows;"⟩, 10)]
theorem lw_r1 : ∀ q ∈ lw_privs_1, lw_okq q := List.forall_mem_cons.mpr ⟨lw_p0, List.forall_mem_cons.mpr ⟨lw_p1, List.forall_mem_cons.mpr ⟨lw_p2, List.forall_mem_cons.mpr ⟨lw_p3, List.forall_mem_cons.mpr ⟨lw_p4, List.forall_mem_cons.mpr ⟨lw_p5, List.forall_mem_cons.mpr ⟨lw_p6, List.forall_mem_cons.mpr ⟨lw_p7, List.forall_mem_cons.mpr ⟨lw_p8, List.forall_mem_cons.mpr ⟨lw_p9, List.forall_mem_cons.mpr ⟨lw_p10, List.forall_mem_cons.mpr ⟨lw_p11, List.forall_mem_cons.mpr ⟨lw_p12, List.forall_mem_cons.mpr ⟨lw_p13, List.forall_mem_cons.mpr ⟨lw_p14, List.forall_mem_cons.mpr ⟨lw_p15, fun _ h => absurd h List.not_mem_nil⟩⟩⟩⟩⟩⟩⟩⟩⟩⟩⟩⟩⟩⟩⟩⟩
theorem lw_p16 : lw_okq (⟨"CodeChecker$Code", "branchByRow", "(I)V"⟩, 10) := ⟨⟨by decide +kernel, by decide +kernel⟩, List.mem_of_getElem? (i := 96) (by decide +kernel), List.mem_of_getElem? (i := 506) (by decide +kernel), List.mem_of_getElem? (i := 507) (by decide +kernel)⟩
theorem lw_p17 : lw_okq (⟨"CodeChecker$Code", "enterFunction", "(I)V"⟩, 10) := ⟨⟨by decide +kernel, by decide +kernel⟩, List.mem_of_getElem? (i := 96) (by decide +kernel), List.mem_of_getElem? (i := 522) (by decide +kernel), List.mem_of_getElem? (i := 523) (by decide +kernel)⟩
theorem lw_p18 : lw_okq (⟨"CodeChecker$Code", "carryOutVariable", "(II)V"⟩, 10) := ⟨⟨by decide +kernel, by decide +kernel⟩, List.mem_of_getElem? (i := 96) (by decide +kernel), List.mem_of_getElem? (i := 528) (by decide +kernel), List.mem_of_getElem? (i := 529) (by decide +kernel)⟩
theorem lw_p19 : lw_okq (⟨"CodeChecker$Code", "carryOutAccess", "(I)V"⟩, 10) := ⟨⟨by decide +kernel, by decide +kernel⟩, List.mem_of_getElem? (i := 96) (by decide +kernel), List.mem_of_getElem? (i := 542) (by decide +kernel), List.mem_of_getElem? (i := 543) (by decide +kernel)⟩
theorem lw_p20 : lw_okq (⟨"CodeChecker$Code", "carryOutReference", "(II)V"⟩, 10) := ⟨⟨by decide +kernel, by decide +kernel⟩, List.mem_of_getElem? (i := 96) (by decide +kernel), List.mem_of_getElem? (i := 548) (by decide +kernel), List.mem_of_getElem? (i := 549) (by decide +kernel)⟩
theorem lw_p21 : lw_okq (⟨"CodeCheckerModel", "beginCode", "(Z)V"⟩, 39) := ⟨⟨by decide +kernel, by decide +kernel⟩, List.mem_of_getElem? (i := 588) (by decide +kernel), List.mem_of_getElem? (i := 738) (by decide +kernel), List.mem_of_getElem? (i := 739) (by decide +kernel)⟩
theorem lw_p22 : lw_okq (⟨"CodeCheckerModel", "addRow", "(IJ)V"⟩, 39) := ⟨⟨by decide +kernel, by decide +kernel⟩, List.mem_of_getElem? (i := 588) (by decide +kernel), List.mem_of_getElem? (i := 742) (by decide +kernel), List.mem_of_getElem? (i := 743) (by decide +kernel)⟩
theorem lw_p23 : lw_okq (⟨"CodeCheckerModel", "examine", "(III)V"⟩, 39) := ⟨⟨by decide +kernel, by decide +kernel⟩, List.mem_of_getElem? (i := 588) (by decide +kernel), List.mem_of_getElem? (i := 763) (by decide +kernel), List.mem_of_getElem? (i := 764) (by decide +kernel)⟩
theorem lw_p24 : lw_okq (⟨"CodeCheckerModel", "stop", "(I)V"⟩, 39) := ⟨⟨by decide +kernel, by decide +kernel⟩, List.mem_of_getElem? (i := 588) (by decide +kernel), List.mem_of_getElem? (i := 776) (by decide +kernel), List.mem_of_getElem? (i := 777) (by decide +kernel)⟩
theorem lw_p25 : lw_okq (⟨"CodeCheckerModel", "mayBeConstant", "(II)Z"⟩, 39) := ⟨⟨by decide +kernel, by decide +kernel⟩, List.mem_of_getElem? (i := 588) (by decide +kernel), List.mem_of_getElem? (i := 780) (by decide +kernel), List.mem_of_getElem? (i := 781) (by decide +kernel)⟩
theorem lw_p26 : lw_okq (⟨"CodeCheckerModel", "has", "(II)Z"⟩, 39) := ⟨⟨by decide +kernel, by decide +kernel⟩, List.mem_of_getElem? (i := 588) (by decide +kernel), List.mem_of_getElem? (i := 784) (by decide +kernel), List.mem_of_getElem? (i := 785) (by decide +kernel)⟩
theorem lw_p27 : lw_okq (⟨"CodeCheckerModel", "isThere", "(III)Z"⟩, 39) := ⟨⟨by decide +kernel, by decide +kernel⟩, List.mem_of_getElem? (i := 588) (by decide +kernel), List.mem_of_getElem? (i := 788) (by decide +kernel), List.mem_of_getElem? (i := 789) (by decide +kernel)⟩
theorem lw_p28 : lw_okq (⟨"CodeCheckerModel", "isLabel", "(I)Z"⟩, 39) := ⟨⟨by decide +kernel, by decide +kernel⟩, List.mem_of_getElem? (i := 588) (by decide +kernel), List.mem_of_getElem? (i := 792) (by decide +kernel), List.mem_of_getElem? (i := 793) (by decide +kernel)⟩
theorem lw_p29 : lw_okq (⟨"CodeCheckerModel", "localType", "(I)I"⟩, 39) := ⟨⟨by decide +kernel, by decide +kernel⟩, List.mem_of_getElem? (i := 588) (by decide +kernel), List.mem_of_getElem? (i := 796) (by decide +kernel), List.mem_of_getElem? (i := 797) (by decide +kernel)⟩
theorem lw_p30 : lw_okq (⟨"CodeCheckerModel", "require", "(III)V"⟩, 39) := ⟨⟨by decide +kernel, by decide +kernel⟩, List.mem_of_getElem? (i := 588) (by decide +kernel), List.mem_of_getElem? (i := 800) (by decide +kernel), List.mem_of_getElem? (i := 801) (by decide +kernel)⟩
theorem lw_p31 : lw_okq (⟨"CodeCheckerModel", "attribute", "(II)I"⟩, 39) := ⟨⟨by decide +kernel, by decide +kernel⟩, List.mem_of_getElem? (i := 588) (by decide +kernel), List.mem_of_getElem? (i := 804) (by decide +kernel), List.mem_of_getElem? (i := 805) (by decide +kernel)⟩
def lw_privs_2 : List (MethodName × Nat) := [(⟨"CodeChecker$Code", "branchByRow", "(I)V"⟩, 10), (⟨"CodeChecker$Code", "enterFunction", "(I)V"⟩, 10), (⟨"CodeChecker$Code", "carryOutVariable", "(II)V"⟩, 10), (⟨"CodeChecker$Code", "carryOutAccess", "(I)V"⟩, 10), (⟨"CodeChecker$Code", "carryOutReference", "(II)V"⟩, 10), (⟨"CodeCheckerModel", "beginCode", "(Z)V"⟩, 39), (⟨"CodeCheckerModel", "addRow", "(IJ)V"⟩, 39), (⟨"CodeCheckerModel", "examine", "(III)V"⟩, 39), (⟨"CodeCheckerModel", "stop", "(I)V"⟩, 39), (⟨"CodeCheckerModel", "mayBeConstant", "(II)Z"⟩, 39), (⟨"CodeCheckerModel", "has", "(II)Z"⟩, 39), (⟨"CodeCheckerModel", "isThere", "(III)Z"⟩, 39), (⟨"CodeCheckerModel", "isLabel", "(I)Z"⟩, 39), (⟨"CodeCheckerModel", "localType", "(I)I"⟩, 39), (⟨"CodeCheckerModel", "require", "(III)V"⟩, 39), (⟨"CodeCheckerModel", "attribute", "(II)I"⟩, 39)]
theorem lw_r2 : ∀ q ∈ lw_privs_2, lw_okq q := List.forall_mem_cons.mpr ⟨lw_p16, List.forall_mem_cons.mpr ⟨lw_p17, List.forall_mem_cons.mpr ⟨lw_p18, List.forall_mem_cons.mpr ⟨lw_p19, List.forall_mem_cons.mpr ⟨lw_p20, List.forall_mem_cons.mpr ⟨lw_p21, List.forall_mem_cons.mpr ⟨lw_p22, List.forall_mem_cons.mpr ⟨lw_p23, List.forall_mem_cons.mpr ⟨lw_p24, List.forall_mem_cons.mpr ⟨lw_p25, List.forall_mem_cons.mpr ⟨lw_p26, List.forall_mem_cons.mpr ⟨lw_p27, List.forall_mem_cons.mpr ⟨lw_p28, List.forall_mem_cons.mpr ⟨lw_p29, List.forall_mem_cons.mpr ⟨lw_p30, List.forall_mem_cons.mpr ⟨lw_p31, fun _ h => absurd h List.not_mem_nil⟩⟩⟩⟩⟩⟩⟩⟩⟩⟩⟩⟩⟩⟩⟩⟩
theorem lw_p32 : lw_okq (⟨"CodeCheckerModel", "perform", "(III)V"⟩, 39) := ⟨⟨by decide +kernel, by decide +kernel⟩, List.mem_of_getElem? (i := 588) (by decide +kernel), List.mem_of_getElem? (i := 812) (by decide +kernel), List.mem_of_getElem? (i := 813) (by decide +kernel)⟩
theorem lw_p33 : lw_okq (⟨"CodeCheckerModel", "control", "(III)V"⟩, 39) := ⟨⟨by decide +kernel, by decide +kernel⟩, List.mem_of_getElem? (i := 588) (by decide +kernel), List.mem_of_getElem? (i := 816) (by decide +kernel), List.mem_of_getElem? (i := 817) (by decide +kernel)⟩
theorem lw_p34 : lw_okq (⟨"CodeCheckerModel", "wantNothing", "()V"⟩, 39) := ⟨⟨by decide +kernel, by decide +kernel⟩, List.mem_of_getElem? (i := 588) (by decide +kernel), List.mem_of_getElem? (i := 820) (by decide +kernel), List.mem_of_getElem? (i := 821) (by decide +kernel)⟩
theorem lw_p35 : lw_okq (⟨"CodeCheckerModel", "die", "()V"⟩, 39) := ⟨⟨by decide +kernel, by decide +kernel⟩, List.mem_of_getElem? (i := 588) (by decide +kernel), List.mem_of_getElem? (i := 824) (by decide +kernel), List.mem_of_getElem? (i := 825) (by decide +kernel)⟩
theorem lw_p36 : lw_okq (⟨"CodeCheckerModel", "open", "(II)V"⟩, 39) := ⟨⟨by decide +kernel, by decide +kernel⟩, List.mem_of_getElem? (i := 588) (by decide +kernel), List.mem_of_getElem? (i := 828) (by decide +kernel), List.mem_of_getElem? (i := 829) (by decide +kernel)⟩
theorem lw_p37 : lw_okq (⟨"CodeCheckerModel", "take", "(I)V"⟩, 39) := ⟨⟨by decide +kernel, by decide +kernel⟩, List.mem_of_getElem? (i := 588) (by decide +kernel), List.mem_of_getElem? (i := 832) (by decide +kernel), List.mem_of_getElem? (i := 833) (by decide +kernel)⟩
theorem lw_p38 : lw_okq (⟨"CodeCheckerModel", "wantParts", "(IZ)V"⟩, 39) := ⟨⟨by decide +kernel, by decide +kernel⟩, List.mem_of_getElem? (i := 588) (by decide +kernel), List.mem_of_getElem? (i := 836) (by decide +kernel), List.mem_of_getElem? (i := 837) (by decide +kernel)⟩
theorem lw_p39 : lw_okq (⟨"CodeCheckerModel", "wantOne", "(I)V"⟩, 39) := ⟨⟨by decide +kernel, by decide +kernel⟩, List.mem_of_getElem? (i := 588) (by decide +kernel), List.mem_of_getElem? (i := 840) (by decide +kernel), List.mem_of_getElem? (i := 841) (by decide +kernel)⟩
theorem lw_p40 : lw_okq (⟨"CodeCheckerModel", "takeWanted", "()V"⟩, 39) := ⟨⟨by decide +kernel, by decide +kernel⟩, List.mem_of_getElem? (i := 588) (by decide +kernel), List.mem_of_getElem? (i := 844) (by decide +kernel), List.mem_of_getElem? (i := 845) (by decide +kernel)⟩
theorem lw_p41 : lw_okq (⟨"CodeCheckerModel", "giveWanted", "()V"⟩, 39) := ⟨⟨by decide +kernel, by decide +kernel⟩, List.mem_of_getElem? (i := 588) (by decide +kernel), List.mem_of_getElem? (i := 848) (by decide +kernel), List.mem_of_getElem? (i := 849) (by decide +kernel)⟩
theorem lw_p42 : lw_okq (⟨"CodeCheckerModel", "give", "(I)V"⟩, 39) := ⟨⟨by decide +kernel, by decide +kernel⟩, List.mem_of_getElem? (i := 588) (by decide +kernel), List.mem_of_getElem? (i := 852) (by decide +kernel), List.mem_of_getElem? (i := 853) (by decide +kernel)⟩
theorem lw_p43 : lw_okq (⟨"CodeCheckerModel", "choose", "()V"⟩, 39) := ⟨⟨by decide +kernel, by decide +kernel⟩, List.mem_of_getElem? (i := 588) (by decide +kernel), List.mem_of_getElem? (i := 856) (by decide +kernel), List.mem_of_getElem? (i := 857) (by decide +kernel)⟩
theorem lw_p44 : lw_okq (⟨"CodeCheckerModel", "close", "()V"⟩, 39) := ⟨⟨by decide +kernel, by decide +kernel⟩, List.mem_of_getElem? (i := 588) (by decide +kernel), List.mem_of_getElem? (i := 860) (by decide +kernel), List.mem_of_getElem? (i := 861) (by decide +kernel)⟩
theorem lw_p45 : lw_okq (⟨"CodeCheckerModel", "wantBlock", "(IZ)V"⟩, 39) := ⟨⟨by decide +kernel, by decide +kernel⟩, List.mem_of_getElem? (i := 588) (by decide +kernel), List.mem_of_getElem? (i := 864) (by decide +kernel), List.mem_of_getElem? (i := 865) (by decide +kernel)⟩
theorem lw_p46 : lw_okq (⟨"CodeCheckerModel", "countOf", "(IZ)I"⟩, 39) := ⟨⟨by decide +kernel, by decide +kernel⟩, List.mem_of_getElem? (i := 588) (by decide +kernel), List.mem_of_getElem? (i := 868) (by decide +kernel), List.mem_of_getElem? (i := 869) (by decide +kernel)⟩
theorem lw_p47 : lw_okq (⟨"CodeCheckerModel", "partOf", "(IZI)I"⟩, 39) := ⟨⟨by decide +kernel, by decide +kernel⟩, List.mem_of_getElem? (i := 588) (by decide +kernel), List.mem_of_getElem? (i := 872) (by decide +kernel), List.mem_of_getElem? (i := 873) (by decide +kernel)⟩
def lw_privs_3 : List (MethodName × Nat) := [(⟨"CodeCheckerModel", "perform", "(III)V"⟩, 39), (⟨"CodeCheckerModel", "control", "(III)V"⟩, 39), (⟨"CodeCheckerModel", "wantNothing", "()V"⟩, 39), (⟨"CodeCheckerModel", "die", "()V"⟩, 39), (⟨"CodeCheckerModel", "open", "(II)V"⟩, 39), (⟨"CodeCheckerModel", "take", "(I)V"⟩, 39), (⟨"CodeCheckerModel", "wantParts", "(IZ)V"⟩, 39), (⟨"CodeCheckerModel", "wantOne", "(I)V"⟩, 39), (⟨"CodeCheckerModel", "takeWanted", "()V"⟩, 39), (⟨"CodeCheckerModel", "giveWanted", "()V"⟩, 39), (⟨"CodeCheckerModel", "give", "(I)V"⟩, 39), (⟨"CodeCheckerModel", "choose", "()V"⟩, 39), (⟨"CodeCheckerModel", "close", "()V"⟩, 39), (⟨"CodeCheckerModel", "wantBlock", "(IZ)V"⟩, 39), (⟨"CodeCheckerModel", "countOf", "(IZ)I"⟩, 39), (⟨"CodeCheckerModel", "partOf", "(IZI)I"⟩, 39)]
theorem lw_r3 : ∀ q ∈ lw_privs_3, lw_okq q := List.forall_mem_cons.mpr ⟨lw_p32, List.forall_mem_cons.mpr ⟨lw_p33, List.forall_mem_cons.mpr ⟨lw_p34, List.forall_mem_cons.mpr ⟨lw_p35, List.forall_mem_cons.mpr ⟨lw_p36, List.forall_mem_cons.mpr ⟨lw_p37, List.forall_mem_cons.mpr ⟨lw_p38, List.forall_mem_cons.mpr ⟨lw_p39, List.forall_mem_cons.mpr ⟨lw_p40, List.forall_mem_cons.mpr ⟨lw_p41, List.forall_mem_cons.mpr ⟨lw_p42, List.forall_mem_cons.mpr ⟨lw_p43, List.forall_mem_cons.mpr ⟨lw_p44, List.forall_mem_cons.mpr ⟨lw_p45, List.forall_mem_cons.mpr ⟨lw_p46, List.forall_mem_cons.mpr ⟨lw_p47, fun _ h => absurd h List.not_mem_nil⟩⟩⟩⟩⟩⟩⟩⟩⟩⟩⟩⟩⟩⟩⟩⟩
theorem lw_p48 : lw_okq (⟨"CodeCheckerModel", "end", "()V"⟩, 39) := ⟨⟨by decide +kernel, by decide +kernel⟩, List.mem_of_getElem? (i := 588) (by decide +kernel), List.mem_of_getElem? (i := 876) (by decide +kernel), List.mem_of_getElem? (i := 877) (by decide +kernel)⟩
theorem lw_p49 : lw_okq (⟨"CodeCheckerModel", "wantLabel", "(I)V"⟩, 39) := ⟨⟨by decide +kernel, by decide +kernel⟩, List.mem_of_getElem? (i := 588) (by decide +kernel), List.mem_of_getElem? (i := 880) (by decide +kernel), List.mem_of_getElem? (i := 881) (by decide +kernel)⟩
theorem lw_p50 : lw_okq (⟨"CodeCheckerModel", "labelCount", "(I)I"⟩, 39) := ⟨⟨by decide +kernel, by decide +kernel⟩, List.mem_of_getElem? (i := 588) (by decide +kernel), List.mem_of_getElem? (i := 884) (by decide +kernel), List.mem_of_getElem? (i := 885) (by decide +kernel)⟩
theorem lw_p51 : lw_okq (⟨"CodeCheckerModel", "blockOf", "(I)I"⟩, 39) := ⟨⟨by decide +kernel, by decide +kernel⟩, List.mem_of_getElem? (i := 588) (by decide +kernel), List.mem_of_getElem? (i := 888) (by decide +kernel), List.mem_of_getElem? (i := 889) (by decide +kernel)⟩
theorem lw_p52 : lw_okq (⟨"CodeCheckerModel", "labelPart", "(II)I"⟩, 39) := ⟨⟨by decide +kernel, by decide +kernel⟩, List.mem_of_getElem? (i := 588) (by decide +kernel), List.mem_of_getElem? (i := 892) (by decide +kernel), List.mem_of_getElem? (i := 893) (by decide +kernel)⟩
theorem lw_p53 : lw_okq (⟨"CodeCheckerModel", "table", "(I)V"⟩, 39) := ⟨⟨by decide +kernel, by decide +kernel⟩, List.mem_of_getElem? (i := 588) (by decide +kernel), List.mem_of_getElem? (i := 896) (by decide +kernel), List.mem_of_getElem? (i := 897) (by decide +kernel)⟩
theorem lw_p54 : lw_okq (⟨"CodeCheckerModel", "call", "(I)V"⟩, 39) := ⟨⟨by decide +kernel, by decide +kernel⟩, List.mem_of_getElem? (i := 588) (by decide +kernel), List.mem_of_getElem? (i := 900) (by decide +kernel), List.mem_of_getElem? (i := 901) (by decide +kernel)⟩
theorem lw_p55 : lw_okq (⟨"CodeCheckerModel", "named", "(II)V"⟩, 39) := ⟨⟨by decide +kernel, by decide +kernel⟩, List.mem_of_getElem? (i := 588) (by decide +kernel), List.mem_of_getElem? (i := 904) (by decide +kernel), List.mem_of_getElem? (i := 905) (by decide +kernel)⟩
theorem lw_p56 : lw_okq (⟨"CodeCheckerModel", "choice", "()V"⟩, 39) := ⟨⟨by decide +kernel, by decide +kernel⟩, List.mem_of_getElem? (i := 588) (by decide +kernel), List.mem_of_getElem? (i := 908) (by decide +kernel), List.mem_of_getElem? (i := 909) (by decide +kernel)⟩
theorem lw_p57 : lw_okq (⟨"CodeCheckerModel", "two", "(II)V"⟩, 39) := ⟨⟨by decide +kernel, by decide +kernel⟩, List.mem_of_getElem? (i := 588) (by decide +kernel), List.mem_of_getElem? (i := 912) (by decide +kernel), List.mem_of_getElem? (i := 913) (by decide +kernel)⟩
theorem lw_p58 : lw_okq (⟨"CodeCheckerModel", "one", "(II)V"⟩, 39) := ⟨⟨by decide +kernel, by decide +kernel⟩, List.mem_of_getElem? (i := 588) (by decide +kernel), List.mem_of_getElem? (i := 916) (by decide +kernel), List.mem_of_getElem? (i := 917) (by decide +kernel)⟩
theorem lw_p59 : lw_okq (⟨"CodeCheckerModel", "takeTwo", "(II)V"⟩, 39) := ⟨⟨by decide +kernel, by decide +kernel⟩, List.mem_of_getElem? (i := 588) (by decide +kernel), List.mem_of_getElem? (i := 920) (by decide +kernel), List.mem_of_getElem? (i := 921) (by decide +kernel)⟩
theorem lw_p60 : lw_okq (⟨"CodeCheckerModel", "memory", "(I)V"⟩, 39) := ⟨⟨by decide +kernel, by decide +kernel⟩, List.mem_of_getElem? (i := 588) (by decide +kernel), List.mem_of_getElem? (i := 924) (by decide +kernel), List.mem_of_getElem? (i := 925) (by decide +kernel)⟩
theorem lw_p61 : lw_okq (⟨"CodeCheckerModel", "number", "(I)V"⟩, 39) := ⟨⟨by decide +kernel, by decide +kernel⟩, List.mem_of_getElem? (i := 588) (by decide +kernel), List.mem_of_getElem? (i := 928) (by decide +kernel), List.mem_of_getElem? (i := 929) (by decide +kernel)⟩
theorem lw_p62 : lw_okq (⟨"CodeCheckerModel", "calculate", "(ZI)V"⟩, 39) := ⟨⟨by decide +kernel, by decide +kernel⟩, List.mem_of_getElem? (i := 588) (by decide +kernel), List.mem_of_getElem? (i := 932) (by decide +kernel), List.mem_of_getElem? (i := 933) (by decide +kernel)⟩
theorem lw_p63 : lw_okq (⟨"CodeCheckerModel", "other", "(II)V"⟩, 39) := ⟨⟨by decide +kernel, by decide +kernel⟩, List.mem_of_getElem? (i := 588) (by decide +kernel), List.mem_of_getElem? (i := 942) (by decide +kernel), List.mem_of_getElem? (i := 943) (by decide +kernel)⟩
def lw_privs_4 : List (MethodName × Nat) := [(⟨"CodeCheckerModel", "end", "()V"⟩, 39), (⟨"CodeCheckerModel", "wantLabel", "(I)V"⟩, 39), (⟨"CodeCheckerModel", "labelCount", "(I)I"⟩, 39), (⟨"CodeCheckerModel", "blockOf", "(I)I"⟩, 39), (⟨"CodeCheckerModel", "labelPart", "(II)I"⟩, 39), (⟨"CodeCheckerModel", "table", "(I)V"⟩, 39), (⟨"CodeCheckerModel", "call", "(I)V"⟩, 39), (⟨"CodeCheckerModel", "named", "(II)V"⟩, 39), (⟨"CodeCheckerModel", "choice", "()V"⟩, 39), (⟨"CodeCheckerModel", "two", "(II)V"⟩, 39), (⟨"CodeCheckerModel", "one", "(II)V"⟩, 39), (⟨"CodeCheckerModel", "takeTwo", "(II)V"⟩, 39), (⟨"CodeCheckerModel", "memory", "(I)V"⟩, 39), (⟨"CodeCheckerModel", "number", "(I)V"⟩, 39), (⟨"CodeCheckerModel", "calculate", "(ZI)V"⟩, 39), (⟨"CodeCheckerModel", "other", "(II)V"⟩, 39)]
theorem lw_r4 : ∀ q ∈ lw_privs_4, lw_okq q := List.forall_mem_cons.mpr ⟨lw_p48, List.forall_mem_cons.mpr ⟨lw_p49, List.forall_mem_cons.mpr ⟨lw_p50, List.forall_mem_cons.mpr ⟨lw_p51, List.forall_mem_cons.mpr ⟨lw_p52, List.forall_mem_cons.mpr ⟨lw_p53, List.forall_mem_cons.mpr ⟨lw_p54, List.forall_mem_cons.mpr ⟨lw_p55, List.forall_mem_cons.mpr ⟨lw_p56, List.forall_mem_cons.mpr ⟨lw_p57, List.forall_mem_cons.mpr ⟨lw_p58, List.forall_mem_cons.mpr ⟨lw_p59, List.forall_mem_cons.mpr ⟨lw_p60, List.forall_mem_cons.mpr ⟨lw_p61, List.forall_mem_cons.mpr ⟨lw_p62, List.forall_mem_cons.mpr ⟨lw_p63, fun _ h => absurd h List.not_mem_nil⟩⟩⟩⟩⟩⟩⟩⟩⟩⟩⟩⟩⟩⟩⟩⟩
theorem lw_p64 : lw_okq (⟨"CodeCheckerModel", "takeThree", "()V"⟩, 39) := ⟨⟨by decide +kernel, by decide +kernel⟩, List.mem_of_getElem? (i := 588) (by decide +kernel), List.mem_of_getElem? (i := 946) (by decide +kernel), List.mem_of_getElem? (i := 947) (by decide +kernel)⟩
def lw_privs_5 : List (MethodName × Nat) := [(⟨"CodeCheckerModel", "takeThree", "()V"⟩, 39)]
theorem lw_r5 : ∀ q ∈ lw_privs_5, lw_okq q := List.forall_mem_cons.mpr ⟨lw_p64, fun _ h => absurd h List.not_mem_nil⟩
def lw_privs : List (MethodName × Nat) := lw_privs_1 ++ (lw_privs_2 ++ (lw_privs_3 ++ (lw_privs_4 ++ (lw_privs_5))))
def lw_tbl : List Cond := k2_sels lw_privs ++ tables_1
theorem lw_privs_ok : ∀ q ∈ lw_privs, lw_okq q := by
  show ∀ q ∈ lw_privs_1 ++ (lw_privs_2 ++ (lw_privs_3 ++ (lw_privs_4 ++ (lw_privs_5)))), lw_okq q
  exact List.forall_mem_append.mpr ⟨lw_r1, List.forall_mem_append.mpr ⟨lw_r2, List.forall_mem_append.mpr ⟨lw_r3, List.forall_mem_append.mpr ⟨lw_r4, lw_r5⟩⟩⟩⟩
end
section
/-! THE CLAIM OUT OF ONE WALK OF THE LAW'S BODY. Your part is whole_start (and what it stands on); all else here is the same for every law, but numbers. -/
def R_law : String := "CodeCheckerLaw"
def lw_P (b : Addr) (xs : List Int32) (args : Array Value) (s : State) : Prop := args = #[.ref b] ∧ s.IntsAt b xs ∧ xs.length ≤ 2048 ∧ (Jvm.Cond.and given_1 narrow_1).before args s = true
def lw_Q (_ : Array Value) (s : State) (o : Outcome) (t : State) : Prop := o = .returned (some (.int 1)) ∧ Framed s o t [] 58 5088
def lw_Z (below : List Frame) (a : Array Value) (s : State) : State → Prop := fun t => ∃ o, t.status = .running ∧ Ended t below o ∧ lw_Q a s o t
/-- the law's own end, with 1 on the stack, nothing written that was there before, its room as the claim has it -/
theorem lw_ret {p : Program} {l : Launch} {e : Env} {s : State} {m : MethodId} {below : List Frame} {meth : Method} {c : Code} {b : Nat} (hx : p.tables.exec = Jvm.exec) (hb : c.code = code) (hr : meth.sig.returnType = ret) (hlocks : meth.locks = false) {pc : Nat} {H : Heap} {ls : Array Slot} (hdg : decode code pc = .ok (.ireturn, 1)) : W p l e room_1 s m #[Value.ref b] below meth c H [] 58 5088 (lw_Z below #[Value.ref b] s) (F0 m pc ls [.int 1]) := by
  intro T hT X
  obtain ⟨fs, hret, hrun, hended, hW, hframe⟩ := X.leave (v := some (.int 1)) (hlocks := hlocks) (fun h => by rw [hr] at h; cases h)
  have hmeth' : T.vm.method? m = some meth := X.method'
  refine ⟨T.setFrames fs, ?_, .returned (some (.int 1)), hrun, hended, rfl, ⟨_, rfl⟩, hW, hframe⟩
  jvm_step X.here [X.here.top, hx, hb, hdg, hmeth', hr, ret, narrow_b1]
  (try refine ⟨rfl, ?_⟩); (try refine ⟨rfl, ?_⟩)
  first | (intro acts; rw [hret _ acts rfl rfl rfl]) | rw [hret _ _ rfl rfl rfl]
  exact Steps.refl _
/-- what holds at the law's entry: the machine, the code, the tables' words (any of lw_tbl by 'hts w (by decide +kernel)'), the script of L ints xs at the cell b, what the Statement gives of the start (any of its parts by flat_of_before) -/
def lw_At (p : Program) (s : State) (m : MethodId) (meth : Method) (c : Code) (b L : Nat) (xs : Nat → Int32) : Prop :=
  p.tables.exec = Jvm.exec ∧ c.code = code ∧ meth.sig.returnType = ret ∧ c.maxLocals = 4 ∧ s.vm.findClass R_law = some m.cls ∧ (∀ w ∈ lw_tbl, w.before #[Value.ref b] s = true) ∧ va_X b L xs s s.heap ∧ b < s.heap.size ∧ meth.locks = false ∧ (Jvm.Cond.and given_1 narrow_1).before #[Value.ref b] s = true
end
section
def R_CC : String := "CodeChecker"
def R_CCode : String := "CodeChecker$Code"
def R_CLocals : String := "CodeChecker$Locals"
def R_CRows : String := "CodeChecker$Rows"
def R_CShelf : String := "CodeChecker$Shelf"
def R_CStack : String := "CodeChecker$Stack"
def R_CThings : String := "CodeChecker$Things"
def R_MC : String := "CodeCheckerModel"
def F_CC : u_T := fun k => match k with
  | 0 => ("CodeChecker", "things", "LCodeChecker$Things;", true)
  | _ => ("CodeChecker", "code", "LCodeChecker$Code;", true)
def t_CC : Nat → FieldType := fun k => match k with
  | 0 => .object "CodeChecker$Things"
  | _ => .object "CodeChecker$Code"
theorem hf_CC_0 : F_CC 0 = (R_CC, "things", "LCodeChecker$Things;", true) := by decide +kernel
theorem hf_CC_1 : F_CC 1 = (R_CC, "code", "LCodeChecker$Code;", true) := by decide +kernel
theorem hnm_CC : ∀ a, a < 2 → ∀ b, b < 2 → a ≠ b → (F_CC a).2.1 ≠ (F_CC b).2.1 := by decide +kernel
theorem hty_CC : ∀ k, k < 2 → parseFieldDescriptor (F_CC k).2.2.1 = some (t_CC k) := by decide +kernel
def F_CCode : u_T := fun k => match k with
  | 0 => ("CodeChecker$Code", "things", "LCodeChecker$Things;", true)
  | 1 => ("CodeChecker$Code", "stack", "LCodeChecker$Stack;", true)
  | 2 => ("CodeChecker$Code", "locals", "LCodeChecker$Locals;", true)
  | 3 => ("CodeChecker$Code", "labels", "[I", true)
  | 4 => ("CodeChecker$Code", "labelCount", "I", false)
  | 5 => ("CodeChecker$Code", "progress", "I", false)
  | 6 => ("CodeChecker$Code", "isConstant", "Z", false)
  | 7 => ("CodeChecker$Code", "hasInstruction", "Z", false)
  | 8 => ("CodeChecker$Code", "visibleGlobals", "I", false)
  | _ => ("CodeChecker$Code", "localCalls", "I", false)
def t_CCode : Nat → FieldType := fun k => match k with
  | 0 => .object "CodeChecker$Things"
  | 1 => .object "CodeChecker$Stack"
  | 2 => .object "CodeChecker$Locals"
  | 3 => .array .int
  | 4 => .int
  | 5 => .int
  | 6 => .boolean
  | 7 => .boolean
  | 8 => .int
  | _ => .int
theorem hf_CCode_0 : F_CCode 0 = (R_CCode, "things", "LCodeChecker$Things;", true) := by decide +kernel
theorem hf_CCode_1 : F_CCode 1 = (R_CCode, "stack", "LCodeChecker$Stack;", true) := by decide +kernel
theorem hf_CCode_2 : F_CCode 2 = (R_CCode, "locals", "LCodeChecker$Locals;", true) := by decide +kernel
theorem hf_CCode_3 : F_CCode 3 = (R_CCode, "labels", "[I", true) := by decide +kernel
theorem hf_CCode_4 : F_CCode 4 = (R_CCode, "labelCount", "I", false) := by decide +kernel
theorem hf_CCode_5 : F_CCode 5 = (R_CCode, "progress", "I", false) := by decide +kernel
theorem hf_CCode_6 : F_CCode 6 = (R_CCode, "isConstant", "Z", false) := by decide +kernel
theorem hf_CCode_7 : F_CCode 7 = (R_CCode, "hasInstruction", "Z", false) := by decide +kernel
theorem hf_CCode_8 : F_CCode 8 = (R_CCode, "visibleGlobals", "I", false) := by decide +kernel
theorem hf_CCode_9 : F_CCode 9 = (R_CCode, "localCalls", "I", false) := by decide +kernel
theorem hnm_CCode : ∀ a, a < 10 → ∀ b, b < 10 → a ≠ b → (F_CCode a).2.1 ≠ (F_CCode b).2.1 := by decide +kernel
theorem hty_CCode : ∀ k, k < 10 → parseFieldDescriptor (F_CCode k).2.2.1 = some (t_CCode k) := by decide +kernel
def F_CLocals : u_T := fun k => match k with
  | 0 => ("CodeChecker$Locals", "types", "[I", true)
  | 1 => ("CodeChecker$Locals", "ends", "[J", true)
  | 2 => ("CodeChecker$Locals", "groups", "I", false)
  | _ => ("CodeChecker$Locals", "count", "J", false)
def t_CLocals : Nat → FieldType := fun k => match k with
  | 0 => .array .int
  | 1 => .array .long
  | 2 => .int
  | _ => .long
theorem hf_CLocals_0 : F_CLocals 0 = (R_CLocals, "types", "[I", true) := by decide +kernel
theorem hf_CLocals_1 : F_CLocals 1 = (R_CLocals, "ends", "[J", true) := by decide +kernel
theorem hf_CLocals_2 : F_CLocals 2 = (R_CLocals, "groups", "I", false) := by decide +kernel
theorem hf_CLocals_3 : F_CLocals 3 = (R_CLocals, "count", "J", false) := by decide +kernel
theorem hnm_CLocals : ∀ a, a < 4 → ∀ b, b < 4 → a ≠ b → (F_CLocals a).2.1 ≠ (F_CLocals b).2.1 := by decide +kernel
theorem hty_CLocals : ∀ k, k < 4 → parseFieldDescriptor (F_CLocals k).2.2.1 = some (t_CLocals k) := by decide +kernel
def F_CRows : u_T := fun k => match k with
  | 0 => ("CodeChecker$Rows", "ofResults", "Z", true)
  | 1 => ("CodeChecker$Rows", "sizes", "[I", true)
  | _ => ("CodeChecker$Rows", "parts", "[I", true)
def t_CRows : Nat → FieldType := fun k => match k with
  | 0 => .boolean
  | 1 => .array .int
  | _ => .array .int
theorem hf_CRows_0 : F_CRows 0 = (R_CRows, "ofResults", "Z", true) := by decide +kernel
theorem hf_CRows_1 : F_CRows 1 = (R_CRows, "sizes", "[I", true) := by decide +kernel
theorem hf_CRows_2 : F_CRows 2 = (R_CRows, "parts", "[I", true) := by decide +kernel
theorem hnm_CRows : ∀ a, a < 3 → ∀ b, b < 3 → a ≠ b → (F_CRows a).2.1 ≠ (F_CRows b).2.1 := by decide +kernel
theorem hty_CRows : ∀ k, k < 3 → parseFieldDescriptor (F_CRows k).2.2.1 = some (t_CRows k) := by decide +kernel
def F_CShelf : u_T := fun k => match k with
  | 0 => ("CodeChecker$Shelf", "types", "[I", true)
  | 1 => ("CodeChecker$Shelf", "marks", "[Z", true)
  | _ => ("CodeChecker$Shelf", "count", "I", false)
def t_CShelf : Nat → FieldType := fun k => match k with
  | 0 => .array .int
  | 1 => .array .boolean
  | _ => .int
theorem hf_CShelf_0 : F_CShelf 0 = (R_CShelf, "types", "[I", true) := by decide +kernel
theorem hf_CShelf_1 : F_CShelf 1 = (R_CShelf, "marks", "[Z", true) := by decide +kernel
theorem hf_CShelf_2 : F_CShelf 2 = (R_CShelf, "count", "I", false) := by decide +kernel
theorem hnm_CShelf : ∀ a, a < 3 → ∀ b, b < 3 → a ≠ b → (F_CShelf a).2.1 ≠ (F_CShelf b).2.1 := by decide +kernel
theorem hty_CShelf : ∀ k, k < 3 → parseFieldDescriptor (F_CShelf k).2.2.1 = some (t_CShelf k) := by decide +kernel
def F_CStack : u_T := fun k => match k with
  | 0 => ("CodeChecker$Stack", "things", "LCodeChecker$Things;", true)
  | 1 => ("CodeChecker$Stack", "operands", "[I", true)
  | 2 => ("CodeChecker$Stack", "blockTypes", "[I", true)
  | 3 => ("CodeChecker$Stack", "heights", "[I", true)
  | 4 => ("CodeChecker$Stack", "openers", "[I", true)
  | 5 => ("CodeChecker$Stack", "lives", "[Z", true)
  | 6 => ("CodeChecker$Stack", "taken", "[I", true)
  | 7 => ("CodeChecker$Stack", "operandCount", "I", false)
  | 8 => ("CodeChecker$Stack", "blockCount", "I", false)
  | _ => ("CodeChecker$Stack", "fault", "I", false)
def t_CStack : Nat → FieldType := fun k => match k with
  | 0 => .object "CodeChecker$Things"
  | 1 => .array .int
  | 2 => .array .int
  | 3 => .array .int
  | 4 => .array .int
  | 5 => .array .boolean
  | 6 => .array .int
  | 7 => .int
  | 8 => .int
  | _ => .int
theorem hf_CStack_0 : F_CStack 0 = (R_CStack, "things", "LCodeChecker$Things;", true) := by decide +kernel
theorem hf_CStack_1 : F_CStack 1 = (R_CStack, "operands", "[I", true) := by decide +kernel
theorem hf_CStack_2 : F_CStack 2 = (R_CStack, "blockTypes", "[I", true) := by decide +kernel
theorem hf_CStack_3 : F_CStack 3 = (R_CStack, "heights", "[I", true) := by decide +kernel
theorem hf_CStack_4 : F_CStack 4 = (R_CStack, "openers", "[I", true) := by decide +kernel
theorem hf_CStack_5 : F_CStack 5 = (R_CStack, "lives", "[Z", true) := by decide +kernel
theorem hf_CStack_6 : F_CStack 6 = (R_CStack, "taken", "[I", true) := by decide +kernel
theorem hf_CStack_7 : F_CStack 7 = (R_CStack, "operandCount", "I", false) := by decide +kernel
theorem hf_CStack_8 : F_CStack 8 = (R_CStack, "blockCount", "I", false) := by decide +kernel
theorem hf_CStack_9 : F_CStack 9 = (R_CStack, "fault", "I", false) := by decide +kernel
theorem hnm_CStack : ∀ a, a < 10 → ∀ b, b < 10 → a ≠ b → (F_CStack a).2.1 ≠ (F_CStack b).2.1 := by decide +kernel
theorem hty_CStack : ∀ k, k < 10 → parseFieldDescriptor (F_CStack k).2.2.1 = some (t_CStack k) := by decide +kernel
def F_CThings : u_T := fun k => match k with
  | 0 => ("CodeChecker$Things", "parameters", "LCodeChecker$Rows;", true)
  | 1 => ("CodeChecker$Things", "results", "LCodeChecker$Rows;", true)
  | 2 => ("CodeChecker$Things", "functions", "LCodeChecker$Shelf;", true)
  | 3 => ("CodeChecker$Things", "tables", "LCodeChecker$Shelf;", true)
  | 4 => ("CodeChecker$Things", "memories", "LCodeChecker$Shelf;", true)
  | 5 => ("CodeChecker$Things", "globals", "LCodeChecker$Shelf;", true)
  | 6 => ("CodeChecker$Things", "elements", "LCodeChecker$Shelf;", true)
  | 7 => ("CodeChecker$Things", "data", "LCodeChecker$Shelf;", true)
  | _ => ("CodeChecker$Things", "typeCount", "I", false)
def t_CThings : Nat → FieldType := fun k => match k with
  | 0 => .object "CodeChecker$Rows"
  | 1 => .object "CodeChecker$Rows"
  | 2 => .object "CodeChecker$Shelf"
  | 3 => .object "CodeChecker$Shelf"
  | 4 => .object "CodeChecker$Shelf"
  | 5 => .object "CodeChecker$Shelf"
  | 6 => .object "CodeChecker$Shelf"
  | 7 => .object "CodeChecker$Shelf"
  | _ => .int
theorem hf_CThings_0 : F_CThings 0 = (R_CThings, "parameters", "LCodeChecker$Rows;", true) := by decide +kernel
theorem hf_CThings_1 : F_CThings 1 = (R_CThings, "results", "LCodeChecker$Rows;", true) := by decide +kernel
theorem hf_CThings_2 : F_CThings 2 = (R_CThings, "functions", "LCodeChecker$Shelf;", true) := by decide +kernel
theorem hf_CThings_3 : F_CThings 3 = (R_CThings, "tables", "LCodeChecker$Shelf;", true) := by decide +kernel
theorem hf_CThings_4 : F_CThings 4 = (R_CThings, "memories", "LCodeChecker$Shelf;", true) := by decide +kernel
theorem hf_CThings_5 : F_CThings 5 = (R_CThings, "globals", "LCodeChecker$Shelf;", true) := by decide +kernel
theorem hf_CThings_6 : F_CThings 6 = (R_CThings, "elements", "LCodeChecker$Shelf;", true) := by decide +kernel
theorem hf_CThings_7 : F_CThings 7 = (R_CThings, "data", "LCodeChecker$Shelf;", true) := by decide +kernel
theorem hf_CThings_8 : F_CThings 8 = (R_CThings, "typeCount", "I", false) := by decide +kernel
theorem hnm_CThings : ∀ a, a < 9 → ∀ b, b < 9 → a ≠ b → (F_CThings a).2.1 ≠ (F_CThings b).2.1 := by decide +kernel
theorem hty_CThings : ∀ k, k < 9 → parseFieldDescriptor (F_CThings k).2.2.1 = some (t_CThings k) := by decide +kernel
def F_MC : u_T := fun k => match k with
  | 0 => ("CodeCheckerModel", "types", "I", false)
  | 1 => ("CodeCheckerModel", "parameterCount", "[I", true)
  | 2 => ("CodeCheckerModel", "resultCount", "[I", true)
  | 3 => ("CodeCheckerModel", "parameters", "[I", true)
  | 4 => ("CodeCheckerModel", "results", "[I", true)
  | 5 => ("CodeCheckerModel", "many", "[I", true)
  | 6 => ("CodeCheckerModel", "first", "[I", true)
  | 7 => ("CodeCheckerModel", "second", "[I", true)
  | 8 => ("CodeCheckerModel", "declared", "[Z", true)
  | 9 => ("CodeCheckerModel", "state", "I", false)
  | 10 => ("CodeCheckerModel", "isBody", "Z", false)
  | 11 => ("CodeCheckerModel", "begun", "Z", false)
  | 12 => ("CodeCheckerModel", "bodyType", "I", false)
  | 13 => ("CodeCheckerModel", "constantType", "I", false)
  | 14 => ("CodeCheckerModel", "seen", "J", false)
  | 15 => ("CodeCheckerModel", "rows", "I", false)
  | 16 => ("CodeCheckerModel", "calls", "I", false)
  | 17 => ("CodeCheckerModel", "rowType", "[I", true)
  | 18 => ("CodeCheckerModel", "rowMany", "[J", true)
  | 19 => ("CodeCheckerModel", "labels", "I", false)
  | 20 => ("CodeCheckerModel", "label", "[I", true)
  | 21 => ("CodeCheckerModel", "operands", "I", false)
  | 22 => ("CodeCheckerModel", "blocks", "I", false)
  | 23 => ("CodeCheckerModel", "operand", "[I", true)
  | 24 => ("CodeCheckerModel", "begunBy", "[I", true)
  | 25 => ("CodeCheckerModel", "blockType", "[I", true)
  | 26 => ("CodeCheckerModel", "height", "[I", true)
  | 27 => ("CodeCheckerModel", "dead", "[Z", true)
  | 28 => ("CodeCheckerModel", "fault", "I", false)
  | 29 => ("CodeCheckerModel", "taken", "I", false)
  | 30 => ("CodeCheckerModel", "left", "I", false)
  | 31 => ("CodeCheckerModel", "row", "[I", true)
  | 32 => ("CodeCheckerModel", "dies", "Z", false)
  | 33 => ("CodeCheckerModel", "opens", "Z", false)
  | 34 => ("CodeCheckerModel", "ends", "Z", false)
  | 35 => ("CodeCheckerModel", "isOther", "Z", false)
  | 36 => ("CodeCheckerModel", "want", "[I", true)
  | 37 => ("CodeCheckerModel", "wants", "I", false)
  | _ => ("CodeCheckerModel", "taking", "[I", true)
def t_MC : Nat → FieldType := fun k => match k with
  | 0 => .int
  | 1 => .array .int
  | 2 => .array .int
  | 3 => .array .int
  | 4 => .array .int
  | 5 => .array .int
  | 6 => .array .int
  | 7 => .array .int
  | 8 => .array .boolean
  | 9 => .int
  | 10 => .boolean
  | 11 => .boolean
  | 12 => .int
  | 13 => .int
  | 14 => .long
  | 15 => .int
  | 16 => .int
  | 17 => .array .int
  | 18 => .array .long
  | 19 => .int
  | 20 => .array .int
  | 21 => .int
  | 22 => .int
  | 23 => .array .int
  | 24 => .array .int
  | 25 => .array .int
  | 26 => .array .int
  | 27 => .array .boolean
  | 28 => .int
  | 29 => .int
  | 30 => .int
  | 31 => .array .int
  | 32 => .boolean
  | 33 => .boolean
  | 34 => .boolean
  | 35 => .boolean
  | 36 => .array .int
  | 37 => .int
  | _ => .array .int
theorem hf_MC_0 : F_MC 0 = (R_MC, "types", "I", false) := by decide +kernel
theorem hf_MC_1 : F_MC 1 = (R_MC, "parameterCount", "[I", true) := by decide +kernel
theorem hf_MC_2 : F_MC 2 = (R_MC, "resultCount", "[I", true) := by decide +kernel
theorem hf_MC_3 : F_MC 3 = (R_MC, "parameters", "[I", true) := by decide +kernel
theorem hf_MC_4 : F_MC 4 = (R_MC, "results", "[I", true) := by decide +kernel
theorem hf_MC_5 : F_MC 5 = (R_MC, "many", "[I", true) := by decide +kernel
theorem hf_MC_6 : F_MC 6 = (R_MC, "first", "[I", true) := by decide +kernel
theorem hf_MC_7 : F_MC 7 = (R_MC, "second", "[I", true) := by decide +kernel
theorem hf_MC_8 : F_MC 8 = (R_MC, "declared", "[Z", true) := by decide +kernel
theorem hf_MC_9 : F_MC 9 = (R_MC, "state", "I", false) := by decide +kernel
theorem hf_MC_10 : F_MC 10 = (R_MC, "isBody", "Z", false) := by decide +kernel
theorem hf_MC_11 : F_MC 11 = (R_MC, "begun", "Z", false) := by decide +kernel
theorem hf_MC_12 : F_MC 12 = (R_MC, "bodyType", "I", false) := by decide +kernel
theorem hf_MC_13 : F_MC 13 = (R_MC, "constantType", "I", false) := by decide +kernel
theorem hf_MC_14 : F_MC 14 = (R_MC, "seen", "J", false) := by decide +kernel
theorem hf_MC_15 : F_MC 15 = (R_MC, "rows", "I", false) := by decide +kernel
theorem hf_MC_16 : F_MC 16 = (R_MC, "calls", "I", false) := by decide +kernel
theorem hf_MC_17 : F_MC 17 = (R_MC, "rowType", "[I", true) := by decide +kernel
theorem hf_MC_18 : F_MC 18 = (R_MC, "rowMany", "[J", true) := by decide +kernel
theorem hf_MC_19 : F_MC 19 = (R_MC, "labels", "I", false) := by decide +kernel
theorem hf_MC_20 : F_MC 20 = (R_MC, "label", "[I", true) := by decide +kernel
theorem hf_MC_21 : F_MC 21 = (R_MC, "operands", "I", false) := by decide +kernel
theorem hf_MC_22 : F_MC 22 = (R_MC, "blocks", "I", false) := by decide +kernel
theorem hf_MC_23 : F_MC 23 = (R_MC, "operand", "[I", true) := by decide +kernel
theorem hf_MC_24 : F_MC 24 = (R_MC, "begunBy", "[I", true) := by decide +kernel
theorem hf_MC_25 : F_MC 25 = (R_MC, "blockType", "[I", true) := by decide +kernel
theorem hf_MC_26 : F_MC 26 = (R_MC, "height", "[I", true) := by decide +kernel
theorem hf_MC_27 : F_MC 27 = (R_MC, "dead", "[Z", true) := by decide +kernel
theorem hf_MC_28 : F_MC 28 = (R_MC, "fault", "I", false) := by decide +kernel
theorem hf_MC_29 : F_MC 29 = (R_MC, "taken", "I", false) := by decide +kernel
theorem hf_MC_30 : F_MC 30 = (R_MC, "left", "I", false) := by decide +kernel
theorem hf_MC_31 : F_MC 31 = (R_MC, "row", "[I", true) := by decide +kernel
theorem hf_MC_32 : F_MC 32 = (R_MC, "dies", "Z", false) := by decide +kernel
theorem hf_MC_33 : F_MC 33 = (R_MC, "opens", "Z", false) := by decide +kernel
theorem hf_MC_34 : F_MC 34 = (R_MC, "ends", "Z", false) := by decide +kernel
theorem hf_MC_35 : F_MC 35 = (R_MC, "isOther", "Z", false) := by decide +kernel
theorem hf_MC_36 : F_MC 36 = (R_MC, "want", "[I", true) := by decide +kernel
theorem hf_MC_37 : F_MC 37 = (R_MC, "wants", "I", false) := by decide +kernel
theorem hf_MC_38 : F_MC 38 = (R_MC, "taking", "[I", true) := by decide +kernel
theorem hnm_MC : ∀ a, a < 39 → ∀ b, b < 39 → a ≠ b → (F_MC a).2.1 ≠ (F_MC b).2.1 := by decide +kernel
theorem hty_MC : ∀ k, k < 39 → parseFieldDescriptor (F_MC k).2.2.1 = some (t_MC k) := by decide +kernel
def zcl : List vw_C := [(R_CC, F_CC, 2), (R_CCode, F_CCode, 10), (R_CLocals, F_CLocals, 4), (R_CRows, F_CRows, 3), (R_CShelf, F_CShelf, 3), (R_CStack, F_CStack, 10), (R_CThings, F_CThings, 9), (R_MC, F_MC, 39)]
theorem hcl_CC : zcl[0]? = some (R_CC, F_CC, 2) := rfl
theorem hcl_CCode : zcl[1]? = some (R_CCode, F_CCode, 10) := rfl
theorem hcl_CLocals : zcl[2]? = some (R_CLocals, F_CLocals, 4) := rfl
theorem hcl_CRows : zcl[3]? = some (R_CRows, F_CRows, 3) := rfl
theorem hcl_CShelf : zcl[4]? = some (R_CShelf, F_CShelf, 3) := rfl
theorem hcl_CStack : zcl[5]? = some (R_CStack, F_CStack, 10) := rfl
theorem hcl_CThings : zcl[6]? = some (R_CThings, F_CThings, 9) := rfl
theorem hcl_MC : zcl[7]? = some (R_MC, F_MC, 39) := rfl
abbrev b_CC_init : ByteArray := prog_1_method_1_code
def y_CC_init : MethodName := ⟨R_CC, "<init>", "()V"⟩
abbrev b_CC_type : ByteArray := prog_1_method_2_code
def y_CC_type : MethodName := ⟨R_CC, "type", "()I"⟩
abbrev b_CC_part : ByteArray := prog_1_method_3_code
def y_CC_part : MethodName := ⟨R_CC, "part", "(ZI)I"⟩
abbrev b_CC_add : ByteArray := prog_1_method_4_code
def y_CC_add : MethodName := ⟨R_CC, "add", "(III)I"⟩
abbrev b_CC_declare : ByteArray := prog_1_method_5_code
def y_CC_declare : MethodName := ⟨R_CC, "declare", "(I)Z"⟩
abbrev b_CC_begin : ByteArray := prog_1_method_6_code
def y_CC_begin : MethodName := ⟨R_CC, "begin", "(I)Z"⟩
abbrev b_CC_constant : ByteArray := prog_1_method_7_code
def y_CC_constant : MethodName := ⟨R_CC, "constant", "(II)Z"⟩
abbrev b_CC_local : ByteArray := prog_1_method_8_code
def y_CC_local : MethodName := ⟨R_CC, "local", "(II)Z"⟩
abbrev b_CC_label : ByteArray := prog_1_method_9_code
def y_CC_label : MethodName := ⟨R_CC, "label", "(I)I"⟩
abbrev b_CC_step : ByteArray := prog_1_method_10_code
def y_CC_step : MethodName := ⟨R_CC, "step", "(III)I"⟩
abbrev b_CC_state : ByteArray := prog_1_method_11_code
def y_CC_state : MethodName := ⟨R_CC, "state", "()I"⟩
abbrev b_CC_look : ByteArray := prog_1_method_12_code
def y_CC_look : MethodName := ⟨R_CC, "look", "(I)J"⟩
abbrev b_CC_operand : ByteArray := prog_1_method_13_code
def y_CC_operand : MethodName := ⟨R_CC, "operand", "(I)I"⟩
abbrev b_CC_isValueType : ByteArray := prog_1_method_14_code
def y_CC_isValueType : MethodName := ⟨R_CC, "isValueType", "(I)Z"⟩
abbrev b_CC_isReferenceType : ByteArray := prog_1_method_15_code
def y_CC_isReferenceType : MethodName := ⟨R_CC, "isReferenceType", "(I)Z"⟩
abbrev b_CC_withoutSign : ByteArray := prog_1_method_16_code
def y_CC_withoutSign : MethodName := ⟨R_CC, "withoutSign", "(I)J"⟩
abbrev b_CC_isInstruction : ByteArray := prog_1_method_17_code
def y_CC_isInstruction : MethodName := ⟨R_CC, "isInstruction", "(I)Z"⟩
abbrev b_CC_isBlockType : ByteArray := prog_1_method_18_code
def y_CC_isBlockType : MethodName := ⟨R_CC, "isBlockType", "(I)Z"⟩
abbrev b_CC_plainLine : ByteArray := prog_1_method_19_code
def y_CC_plainLine : MethodName := ⟨R_CC, "plainLine", "(I)I"⟩
abbrev b_CCode_init : ByteArray := prog_2_method_1_code
def y_CCode_init : MethodName := ⟨R_CCode, "<init>", "(LCodeChecker$Things;)V"⟩
abbrev b_CCode_isOpen : ByteArray := prog_2_method_2_code
def y_CCode_isOpen : MethodName := ⟨R_CCode, "isOpen", "()Z"⟩
abbrev b_CCode_open : ByteArray := prog_2_method_3_code
def y_CCode_open : MethodName := ⟨R_CCode, "open", "(IZ)V"⟩
abbrev b_CCode_openBody : ByteArray := prog_2_method_4_code
def y_CCode_openBody : MethodName := ⟨R_CCode, "openBody", "(I)V"⟩
abbrev b_CCode_openConstant : ByteArray := prog_2_method_5_code
def y_CCode_openConstant : MethodName := ⟨R_CCode, "openConstant", "(II)V"⟩
abbrev b_CCode_addLocals : ByteArray := prog_2_method_6_code
def y_CCode_addLocals : MethodName := ⟨R_CCode, "addLocals", "(II)Z"⟩
abbrev b_CCode_addLabel : ByteArray := prog_2_method_7_code
def y_CCode_addLabel : MethodName := ⟨R_CCode, "addLabel", "(I)I"⟩
abbrev b_CCode_finishInstruction : ByteArray := prog_2_method_8_code
def y_CCode_finishInstruction : MethodName := ⟨R_CCode, "finishInstruction", "(I)V"⟩
abbrev b_CCode_figure : ByteArray := prog_2_method_9_code
def y_CCode_figure : MethodName := ⟨R_CCode, "figure", "(I)J"⟩
abbrev b_CCode_faultAhead : ByteArray := prog_2_method_10_code
def y_CCode_faultAhead : MethodName := ⟨R_CCode, "faultAhead", "(III)I"⟩
abbrev b_CCode_isMalformed : ByteArray := prog_2_method_11_code
def y_CCode_isMalformed : MethodName := ⟨R_CCode, "isMalformed", "(II)Z"⟩
abbrev b_CCode_mayStandInConstant : ByteArray := prog_2_method_12_code
def y_CCode_mayStandInConstant : MethodName := ⟨R_CCode, "mayStandInConstant", "(II)Z"⟩
abbrev b_CCode_namesWhatIsMissing : ByteArray := prog_2_method_13_code
def y_CCode_namesWhatIsMissing : MethodName := ⟨R_CCode, "namesWhatIsMissing", "(III)Z"⟩
abbrev b_CCode_isLabelMissing : ByteArray := prog_2_method_14_code
def y_CCode_isLabelMissing : MethodName := ⟨R_CCode, "isLabelMissing", "()Z"⟩
abbrev b_CCode_misfit : ByteArray := prog_2_method_15_code
def y_CCode_misfit : MethodName := ⟨R_CCode, "misfit", "(III)I"⟩
abbrev b_CCode_accessFault : ByteArray := prog_2_method_16_code
def y_CCode_accessFault : MethodName := ⟨R_CCode, "accessFault", "(II)I"⟩
abbrev b_CCode_carryOut : ByteArray := prog_2_method_17_code
def y_CCode_carryOut : MethodName := ⟨R_CCode, "carryOut", "(II)I"⟩
abbrev b_CCode_carryOutPlain : ByteArray := prog_2_method_18_code
def y_CCode_carryOutPlain : MethodName := ⟨R_CCode, "carryOutPlain", "(I)V"⟩
abbrev b_CCode_carryOutBlock : ByteArray := prog_2_method_19_code
def y_CCode_carryOutBlock : MethodName := ⟨R_CCode, "carryOutBlock", "(II)V"⟩
abbrev b_CCode_carryOutBranch : ByteArray := prog_2_method_20_code
def y_CCode_carryOutBranch : MethodName := ⟨R_CCode, "carryOutBranch", "(II)V"⟩
abbrev b_CCode_branchByRow : ByteArray := prog_2_method_21_code
def y_CCode_branchByRow : MethodName := ⟨R_CCode, "branchByRow", "(I)V"⟩
abbrev b_CCode_enterFunction : ByteArray := prog_2_method_22_code
def y_CCode_enterFunction : MethodName := ⟨R_CCode, "enterFunction", "(I)V"⟩
abbrev b_CCode_carryOutVariable : ByteArray := prog_2_method_23_code
def y_CCode_carryOutVariable : MethodName := ⟨R_CCode, "carryOutVariable", "(II)V"⟩
abbrev b_CCode_carryOutAccess : ByteArray := prog_2_method_24_code
def y_CCode_carryOutAccess : MethodName := ⟨R_CCode, "carryOutAccess", "(I)V"⟩
abbrev b_CCode_carryOutReference : ByteArray := prog_2_method_25_code
def y_CCode_carryOutReference : MethodName := ⟨R_CCode, "carryOutReference", "(II)V"⟩
abbrev b_CLocals_init : ByteArray := prog_3_method_1_code
def y_CLocals_init : MethodName := ⟨R_CLocals, "<init>", "()V"⟩
abbrev b_CLocals_clear : ByteArray := prog_3_method_2_code
def y_CLocals_clear : MethodName := ⟨R_CLocals, "clear", "()V"⟩
abbrev b_CLocals_append : ByteArray := prog_3_method_3_code
def y_CLocals_append : MethodName := ⟨R_CLocals, "append", "(IJ)V"⟩
abbrev b_CLocals_has : ByteArray := prog_3_method_4_code
def y_CLocals_has : MethodName := ⟨R_CLocals, "has", "(I)Z"⟩
abbrev b_CLocals_typeOf : ByteArray := prog_3_method_5_code
def y_CLocals_typeOf : MethodName := ⟨R_CLocals, "typeOf", "(I)I"⟩
abbrev b_CRows_init : ByteArray := prog_4_method_1_code
def y_CRows_init : MethodName := ⟨R_CRows, "<init>", "(Z)V"⟩
abbrev b_CRows_append : ByteArray := prog_4_method_2_code
def y_CRows_append : MethodName := ⟨R_CRows, "append", "(II)I"⟩
abbrev b_CRows_sizeOf : ByteArray := prog_4_method_3_code
def y_CRows_sizeOf : MethodName := ⟨R_CRows, "sizeOf", "(I)I"⟩
abbrev b_CRows_partOf : ByteArray := prog_4_method_4_code
def y_CRows_partOf : MethodName := ⟨R_CRows, "partOf", "(II)I"⟩
abbrev b_CShelf_init : ByteArray := prog_5_method_1_code
def y_CShelf_init : MethodName := ⟨R_CShelf, "<init>", "()V"⟩
abbrev b_CShelf_put : ByteArray := prog_5_method_2_code
def y_CShelf_put : MethodName := ⟨R_CShelf, "put", "(IZ)I"⟩
abbrev b_CShelf_has : ByteArray := prog_5_method_3_code
def y_CShelf_has : MethodName := ⟨R_CShelf, "has", "(I)Z"⟩
abbrev b_CShelf_typeOf : ByteArray := prog_5_method_4_code
def y_CShelf_typeOf : MethodName := ⟨R_CShelf, "typeOf", "(I)I"⟩
abbrev b_CShelf_isMarked : ByteArray := prog_5_method_5_code
def y_CShelf_isMarked : MethodName := ⟨R_CShelf, "isMarked", "(I)Z"⟩
abbrev b_CShelf_mark : ByteArray := prog_5_method_6_code
def y_CShelf_mark : MethodName := ⟨R_CShelf, "mark", "(I)Z"⟩
abbrev b_CStack_init : ByteArray := prog_6_method_1_code
def y_CStack_init : MethodName := ⟨R_CStack, "<init>", "(LCodeChecker$Things;)V"⟩
abbrev b_CStack_restart : ByteArray := prog_6_method_2_code
def y_CStack_restart : MethodName := ⟨R_CStack, "restart", "(I)V"⟩
abbrev b_CStack_fail : ByteArray := prog_6_method_3_code
def y_CStack_fail : MethodName := ⟨R_CStack, "fail", "(I)V"⟩
abbrev b_CStack_hasInnermost : ByteArray := prog_6_method_4_code
def y_CStack_hasInnermost : MethodName := ⟨R_CStack, "hasInnermost", "()Z"⟩
abbrev b_CStack_hasBlock : ByteArray := prog_6_method_5_code
def y_CStack_hasBlock : MethodName := ⟨R_CStack, "hasBlock", "(I)Z"⟩
abbrev b_CStack_ofBlock : ByteArray := prog_6_method_6_code
def y_CStack_ofBlock : MethodName := ⟨R_CStack, "ofBlock", "([II)I"⟩
abbrev b_CStack_height : ByteArray := prog_6_method_7_code
def y_CStack_height : MethodName := ⟨R_CStack, "height", "()I"⟩
abbrev b_CStack_opener : ByteArray := prog_6_method_8_code
def y_CStack_opener : MethodName := ⟨R_CStack, "opener", "()I"⟩
abbrev b_CStack_isLive : ByteArray := prog_6_method_9_code
def y_CStack_isLive : MethodName := ⟨R_CStack, "isLive", "()Z"⟩
abbrev b_CStack_operandFromEnd : ByteArray := prog_6_method_10_code
def y_CStack_operandFromEnd : MethodName := ⟨R_CStack, "operandFromEnd", "(I)I"⟩
abbrev b_CStack_takeAny : ByteArray := prog_6_method_11_code
def y_CStack_takeAny : MethodName := ⟨R_CStack, "takeAny", "()I"⟩
abbrev b_CStack_take : ByteArray := prog_6_method_12_code
def y_CStack_take : MethodName := ⟨R_CStack, "take", "(I)I"⟩
abbrev b_CStack_give : ByteArray := prog_6_method_13_code
def y_CStack_give : MethodName := ⟨R_CStack, "give", "(I)V"⟩
abbrev b_CStack_takeTimes : ByteArray := prog_6_method_14_code
def y_CStack_takeTimes : MethodName := ⟨R_CStack, "takeTimes", "(II)V"⟩
abbrev b_CStack_takeRow : ByteArray := prog_6_method_15_code
def y_CStack_takeRow : MethodName := ⟨R_CStack, "takeRow", "(LCodeChecker$Rows;I)V"⟩
abbrev b_CStack_giveRow : ByteArray := prog_6_method_16_code
def y_CStack_giveRow : MethodName := ⟨R_CStack, "giveRow", "(LCodeChecker$Rows;I)V"⟩
abbrev b_CStack_die : ByteArray := prog_6_method_17_code
def y_CStack_die : MethodName := ⟨R_CStack, "die", "()V"⟩
abbrev b_CStack_pushBlock : ByteArray := prog_6_method_18_code
def y_CStack_pushBlock : MethodName := ⟨R_CStack, "pushBlock", "(II)V"⟩
abbrev b_CStack_openBlock : ByteArray := prog_6_method_19_code
def y_CStack_openBlock : MethodName := ⟨R_CStack, "openBlock", "(II)V"⟩
abbrev b_CStack_expectNoMoreOperands : ByteArray := prog_6_method_20_code
def y_CStack_expectNoMoreOperands : MethodName := ⟨R_CStack, "expectNoMoreOperands", "()V"⟩
abbrev b_CStack_turnToElse : ByteArray := prog_6_method_21_code
def y_CStack_turnToElse : MethodName := ⟨R_CStack, "turnToElse", "()V"⟩
abbrev b_CStack_closeBlock : ByteArray := prog_6_method_22_code
def y_CStack_closeBlock : MethodName := ⟨R_CStack, "closeBlock", "()V"⟩
abbrev b_CStack_labelRows : ByteArray := prog_6_method_23_code
def y_CStack_labelRows : MethodName := ⟨R_CStack, "labelRows", "(I)LCodeChecker$Rows;"⟩
abbrev b_CStack_labelSize : ByteArray := prog_6_method_24_code
def y_CStack_labelSize : MethodName := ⟨R_CStack, "labelSize", "(I)I"⟩
abbrev b_CStack_takeLabel : ByteArray := prog_6_method_25_code
def y_CStack_takeLabel : MethodName := ⟨R_CStack, "takeLabel", "(I)V"⟩
abbrev b_CStack_giveLabel : ByteArray := prog_6_method_26_code
def y_CStack_giveLabel : MethodName := ⟨R_CStack, "giveLabel", "(I)V"⟩
abbrev b_CStack_passLabel : ByteArray := prog_6_method_27_code
def y_CStack_passLabel : MethodName := ⟨R_CStack, "passLabel", "(II)V"⟩
abbrev b_CStack_takeOutermostResults : ByteArray := prog_6_method_28_code
def y_CStack_takeOutermostResults : MethodName := ⟨R_CStack, "takeOutermostResults", "()V"⟩
abbrev b_CStack_takeReference : ByteArray := prog_6_method_29_code
def y_CStack_takeReference : MethodName := ⟨R_CStack, "takeReference", "()V"⟩
abbrev b_CStack_choose : ByteArray := prog_6_method_30_code
def y_CStack_choose : MethodName := ⟨R_CStack, "choose", "()V"⟩
abbrev b_CThings_init : ByteArray := prog_7_method_1_code
def y_CThings_init : MethodName := ⟨R_CThings, "<init>", "()V"⟩
abbrev b_CThings_makeType : ByteArray := prog_7_method_2_code
def y_CThings_makeType : MethodName := ⟨R_CThings, "makeType", "()I"⟩
abbrev b_CThings_hasType : ByteArray := prog_7_method_3_code
def y_CThings_hasType : MethodName := ⟨R_CThings, "hasType", "(I)Z"⟩
abbrev b_CThings_extendLatestType : ByteArray := prog_7_method_4_code
def y_CThings_extendLatestType : MethodName := ⟨R_CThings, "extendLatestType", "(ZI)I"⟩
abbrev b_CThings_addThing : ByteArray := prog_7_method_5_code
def y_CThings_addThing : MethodName := ⟨R_CThings, "addThing", "(III)I"⟩
abbrev b_CThings_hasMemory : ByteArray := prog_7_method_6_code
def y_CThings_hasMemory : MethodName := ⟨R_CThings, "hasMemory", "()Z"⟩
abbrev b_CThings_hasLikeParametersAndResults : ByteArray := prog_7_method_7_code
def y_CThings_hasLikeParametersAndResults : MethodName := ⟨R_CThings, "hasLikeParametersAndResults", "(I)Z"⟩
abbrev b_MC_init : ByteArray := prog_9_method_1_code
def y_MC_init : MethodName := ⟨R_MC, "<init>", "()V"⟩
abbrev b_MC_isReference : ByteArray := prog_9_method_2_code
def y_MC_isReference : MethodName := ⟨R_MC, "isReference", "(I)Z"⟩
abbrev b_MC_isValue : ByteArray := prog_9_method_3_code
def y_MC_isValue : MethodName := ⟨R_MC, "isValue", "(I)Z"⟩
abbrev b_MC_type : ByteArray := prog_9_method_4_code
def y_MC_type : MethodName := ⟨R_MC, "type", "()I"⟩
abbrev b_MC_part : ByteArray := prog_9_method_5_code
def y_MC_part : MethodName := ⟨R_MC, "part", "(ZI)I"⟩
abbrev b_MC_add : ByteArray := prog_9_method_6_code
def y_MC_add : MethodName := ⟨R_MC, "add", "(III)I"⟩
abbrev b_MC_declare : ByteArray := prog_9_method_7_code
def y_MC_declare : MethodName := ⟨R_MC, "declare", "(I)Z"⟩
abbrev b_MC_has : ByteArray := prog_9_method_8_code
def y_MC_has : MethodName := ⟨R_MC, "has", "(II)Z"⟩
abbrev b_MC_attribute : ByteArray := prog_9_method_9_code
def y_MC_attribute : MethodName := ⟨R_MC, "attribute", "(II)I"⟩
abbrev b_MC_beginCode : ByteArray := prog_9_method_10_code
def y_MC_beginCode : MethodName := ⟨R_MC, "beginCode", "(Z)V"⟩
abbrev b_MC_begin : ByteArray := prog_9_method_11_code
def y_MC_begin : MethodName := ⟨R_MC, "begin", "(I)Z"⟩
abbrev b_MC_constant : ByteArray := prog_9_method_12_code
def y_MC_constant : MethodName := ⟨R_MC, "constant", "(II)Z"⟩
abbrev b_MC_addRow : ByteArray := prog_9_method_13_code
def y_MC_addRow : MethodName := ⟨R_MC, "addRow", "(IJ)V"⟩
abbrev b_MC_local : ByteArray := prog_9_method_14_code
def y_MC_local : MethodName := ⟨R_MC, "local", "(II)Z"⟩
abbrev b_MC_label : ByteArray := prog_9_method_15_code
def y_MC_label : MethodName := ⟨R_MC, "label", "(I)I"⟩
abbrev b_MC_localType : ByteArray := prog_9_method_16_code
def y_MC_localType : MethodName := ⟨R_MC, "localType", "(I)I"⟩
abbrev b_MC_countOf : ByteArray := prog_9_method_17_code
def y_MC_countOf : MethodName := ⟨R_MC, "countOf", "(IZ)I"⟩
abbrev b_MC_partOf : ByteArray := prog_9_method_18_code
def y_MC_partOf : MethodName := ⟨R_MC, "partOf", "(IZI)I"⟩
abbrev b_MC_isBlockType : ByteArray := prog_9_method_19_code
def y_MC_isBlockType : MethodName := ⟨R_MC, "isBlockType", "(I)Z"⟩
abbrev b_MC_blockOf : ByteArray := prog_9_method_20_code
def y_MC_blockOf : MethodName := ⟨R_MC, "blockOf", "(I)I"⟩
abbrev b_MC_isLabel : ByteArray := prog_9_method_21_code
def y_MC_isLabel : MethodName := ⟨R_MC, "isLabel", "(I)Z"⟩
abbrev b_MC_labelCount : ByteArray := prog_9_method_22_code
def y_MC_labelCount : MethodName := ⟨R_MC, "labelCount", "(I)I"⟩
abbrev b_MC_labelPart : ByteArray := prog_9_method_23_code
def y_MC_labelPart : MethodName := ⟨R_MC, "labelPart", "(II)I"⟩
abbrev b_MC_stop : ByteArray := prog_9_method_24_code
def y_MC_stop : MethodName := ⟨R_MC, "stop", "(I)V"⟩
abbrev b_MC_take : ByteArray := prog_9_method_25_code
def y_MC_take : MethodName := ⟨R_MC, "take", "(I)V"⟩
abbrev b_MC_give : ByteArray := prog_9_method_26_code
def y_MC_give : MethodName := ⟨R_MC, "give", "(I)V"⟩
abbrev b_MC_die : ByteArray := prog_9_method_27_code
def y_MC_die : MethodName := ⟨R_MC, "die", "()V"⟩
abbrev b_MC_takeTwo : ByteArray := prog_9_method_28_code
def y_MC_takeTwo : MethodName := ⟨R_MC, "takeTwo", "(II)V"⟩
abbrev b_MC_takeThree : ByteArray := prog_9_method_29_code
def y_MC_takeThree : MethodName := ⟨R_MC, "takeThree", "()V"⟩
abbrev b_MC_wantNothing : ByteArray := prog_9_method_30_code
def y_MC_wantNothing : MethodName := ⟨R_MC, "wantNothing", "()V"⟩
abbrev b_MC_wantOne : ByteArray := prog_9_method_31_code
def y_MC_wantOne : MethodName := ⟨R_MC, "wantOne", "(I)V"⟩
abbrev b_MC_wantParts : ByteArray := prog_9_method_32_code
def y_MC_wantParts : MethodName := ⟨R_MC, "wantParts", "(IZ)V"⟩
abbrev b_MC_wantBlock : ByteArray := prog_9_method_33_code
def y_MC_wantBlock : MethodName := ⟨R_MC, "wantBlock", "(IZ)V"⟩
abbrev b_MC_wantLabel : ByteArray := prog_9_method_34_code
def y_MC_wantLabel : MethodName := ⟨R_MC, "wantLabel", "(I)V"⟩
abbrev b_MC_takeWanted : ByteArray := prog_9_method_35_code
def y_MC_takeWanted : MethodName := ⟨R_MC, "takeWanted", "()V"⟩
abbrev b_MC_giveWanted : ByteArray := prog_9_method_36_code
def y_MC_giveWanted : MethodName := ⟨R_MC, "giveWanted", "()V"⟩
abbrev b_MC_one : ByteArray := prog_9_method_37_code
def y_MC_one : MethodName := ⟨R_MC, "one", "(II)V"⟩
abbrev b_MC_two : ByteArray := prog_9_method_38_code
def y_MC_two : MethodName := ⟨R_MC, "two", "(II)V"⟩
abbrev b_MC_isInstruction : ByteArray := prog_9_method_39_code
def y_MC_isInstruction : MethodName := ⟨R_MC, "isInstruction", "(I)Z"⟩
abbrev b_MC_isFormed : ByteArray := prog_9_method_40_code
def y_MC_isFormed : MethodName := ⟨R_MC, "isFormed", "(II)Z"⟩
abbrev b_MC_mayBeConstant : ByteArray := prog_9_method_41_code
def y_MC_mayBeConstant : MethodName := ⟨R_MC, "mayBeConstant", "(II)Z"⟩
abbrev b_MC_isThere : ByteArray := prog_9_method_42_code
def y_MC_isThere : MethodName := ⟨R_MC, "isThere", "(III)Z"⟩
abbrev b_MC_bytesOf : ByteArray := prog_9_method_43_code
def y_MC_bytesOf : MethodName := ⟨R_MC, "bytesOf", "(I)I"⟩
abbrev b_MC_require : ByteArray := prog_9_method_44_code
def y_MC_require : MethodName := ⟨R_MC, "require", "(III)V"⟩
abbrev b_MC_control : ByteArray := prog_9_method_45_code
def y_MC_control : MethodName := ⟨R_MC, "control", "(III)V"⟩
abbrev b_MC_call : ByteArray := prog_9_method_46_code
def y_MC_call : MethodName := ⟨R_MC, "call", "(I)V"⟩
abbrev b_MC_open : ByteArray := prog_9_method_47_code
def y_MC_open : MethodName := ⟨R_MC, "open", "(II)V"⟩
abbrev b_MC_close : ByteArray := prog_9_method_48_code
def y_MC_close : MethodName := ⟨R_MC, "close", "()V"⟩
abbrev b_MC_choose : ByteArray := prog_9_method_49_code
def y_MC_choose : MethodName := ⟨R_MC, "choose", "()V"⟩
abbrev b_MC_end : ByteArray := prog_9_method_50_code
def y_MC_end : MethodName := ⟨R_MC, "end", "()V"⟩
abbrev b_MC_table : ByteArray := prog_9_method_51_code
def y_MC_table : MethodName := ⟨R_MC, "table", "(I)V"⟩
abbrev b_MC_choice : ByteArray := prog_9_method_52_code
def y_MC_choice : MethodName := ⟨R_MC, "choice", "()V"⟩
abbrev b_MC_named : ByteArray := prog_9_method_53_code
def y_MC_named : MethodName := ⟨R_MC, "named", "(II)V"⟩
abbrev b_MC_memory : ByteArray := prog_9_method_54_code
def y_MC_memory : MethodName := ⟨R_MC, "memory", "(I)V"⟩
abbrev b_MC_number : ByteArray := prog_9_method_55_code
def y_MC_number : MethodName := ⟨R_MC, "number", "(I)V"⟩
abbrev b_MC_calculate : ByteArray := prog_9_method_56_code
def y_MC_calculate : MethodName := ⟨R_MC, "calculate", "(ZI)V"⟩
abbrev b_MC_from : ByteArray := prog_9_method_57_code
def y_MC_from : MethodName := ⟨R_MC, "from", "(I)I"⟩
abbrev b_MC_to : ByteArray := prog_9_method_58_code
def y_MC_to : MethodName := ⟨R_MC, "to", "(I)I"⟩
abbrev b_MC_other : ByteArray := prog_9_method_59_code
def y_MC_other : MethodName := ⟨R_MC, "other", "(II)V"⟩
abbrev b_MC_perform : ByteArray := prog_9_method_60_code
def y_MC_perform : MethodName := ⟨R_MC, "perform", "(III)V"⟩
abbrev b_MC_examine : ByteArray := prog_9_method_61_code
def y_MC_examine : MethodName := ⟨R_MC, "examine", "(III)V"⟩
abbrev b_MC_step : ByteArray := prog_9_method_62_code
def y_MC_step : MethodName := ⟨R_MC, "step", "(III)I"⟩
abbrev b_MC_state : ByteArray := prog_9_method_63_code
def y_MC_state : MethodName := ⟨R_MC, "state", "()I"⟩
abbrev b_MC_look : ByteArray := prog_9_method_64_code
def y_MC_look : MethodName := ⟨R_MC, "look", "(I)J"⟩
abbrev b_MC_operand : ByteArray := prog_9_method_65_code
def y_MC_operand : MethodName := ⟨R_MC, "operand", "(I)I"⟩
end
section
/-! base: worlds, contracts, rows -/
theorem znar {v : Int32} (h : zbz v) : narrow .boolean (.int v) = .int v := by rcases h with rfl | rfl <;> decide
theorem zfit {v : Int32} (h : zbz v) : fits .boolean (.int v) = true := by rcases h with rfl | rfl <;> decide
/-- the good words of the tables -/
def zT : List Cond := lw_tbl.filter goodWord
def zisN : Cond → Bool
  | .fieldLinkNest .. => true
  | .methodLinkNest .. => true
  | _ => false
def zN : List Cond := lw_tbl.filter zisN
theorem zT_in {w : Cond} (i : Nat) (h : lw_tbl[i]? = some w) (g : goodWord w = true) : w ∈ zT := List.mem_filter.mpr ⟨List.mem_of_getElem? h, g⟩
theorem zN_in {w : Cond} (i : Nat) (h : lw_tbl[i]? = some w) (g : zisN w = true) : w ∈ zN := List.mem_filter.mpr ⟨List.mem_of_getElem? h, g⟩
def zNok (U : State) : Prop := ∀ w ∈ zN, va_Nw w U
theorem zNok_warm {s U : State} (hW : s.WarmedH U.vm) (h : zNok s) : zNok U := by
  intro w hw
  have h1 := h w hw
  have h2 : zisN w = true := (List.mem_filter.mp hw).2
  cases w <;> first | (simp [zisN] at h2; done) | exact va_Nw.warmF hW h1 | exact va_Nw.warmM hW h1
theorem zNok_same {s U : State} (hv : s.vm = U.vm) (h : zNok s) : zNok U := by
  intro w hw
  have h1 := h w hw
  have h2 : zisN w = true := (List.mem_filter.mp hw).2
  cases w <;> first | (simp [zisN] at h2; done) | exact va_Nw.same rfl hv h1
/-- the static tables: class, name, what it holds -/
def zSt (st : List (String × String × List Int32)) (A : Nat → Prop) (U : State) (H : Heap) : Prop := ∀ q ∈ st, ∃ t : Nat, va_Z q.1 q.2.1 "[I" (.ref t) A U H ∧ va_T .int t q.2.2.length (fun j => .int (q.2.2.getD j 0)) A U H
theorem zSt_to {st : List (String × String × List Int32)} {A B : Nat → Prop} {s U : State} {H H1 : Heap} (h : zSt st A s H) (hq : ∀ a : Nat, a < H.size → ¬ A a → H1[a]? = H[a]?) (hvm : s.vm.Alike U.vm) (hAB : ∀ q, B q → A q) : zSt st B U H1 := by
  intro q hx
  obtain ⟨t, h1, h2⟩ := h q hx
  exact ⟨t, ((h1.kept hq).moved hvm).narrow hAB, ((h2.kept hq).moved hvm).narrow hAB⟩
def bx (p : Program) (s : State) (m : MethodId) (args : Array Value) (c : Code) (cc : ByteArray) (nL : Nat) (own : String) (A : Nat → Prop) (D : va_G) (z : zZ) : Prop :=
  p.tables.exec = Jvm.exec ∧ c.code = cc ∧ c.maxLocals = nL ∧ s.vm.findClass own = some m.cls ∧ (∀ w ∈ zT, w.before args s = true) ∧ va_K D zcl (zty z) s ∧ zNok s ∧ zSt zst A s s.heap ∧ ∀ q : Nat, s.heap.size ≤ q → A q
def iw (D : va_G) (A : Nat → Prop) (s : State) (w : va_W) (H : Heap) (locs : List Loc) : Prop := va_P D zcl w H ∧ va_D A w ∧ va_S A s.heap H locs
def zPre (D : va_G) (z : zZ) (w : va_W) (U : State) : Prop := va_P D zcl w U.heap ∧ va_K D zcl (zty z) U ∧ va_D (fun _ => True) w ∧ zNok U ∧ zSt zst (va_A w U.heap.size) U U.heap
theorem zPre_blind {D : va_G} {z : zZ} {w : va_W} {sz : Nat} (av : List Value) : FrameBlind (va_Pc av (fun U => U.heap.size = sz ∧ zPre D z w U)) := by
  intro a U g mk q
  obtain ⟨q0, q1, qP, qK, qD, qN, qS⟩ := q
  exact ⟨q0, q1, qP, va_K.moved (u := U) (U := U.calling g mk a) (Vm.Alike.refl U.vm) qK, qD, zNok_same (s := U) (U := U.calling g mk a) rfl qN, zSt_to (s := U) (U := U.calling g mk a) qS (fun _ _ _ => rfl) (Vm.Alike.refl U.vm) (fun _ h => h)⟩
section ZB
variable {p : Program} {l : Launch} {e : Env} {R : Room} {s : State} {m : MethodId} {args : Array Value} {below : List Frame} {meth : Method} {c : Code} {H : Heap} {locs : List Loc} {cells slots : Nat} {Q : State → Prop}
variable {cc : ByteArray} {nL : Nat} {own : String} {A : Nat → Prop} {D : va_G} {z : zZ} {w w' : va_W} {pc : Nat} {ls : Array Slot} {rest : List Value}
theorem iw_free (B : bx p s m args c cc nL own A D z) (hI : iw D A s w H locs) : ∀ q, va_A w H.size q → A q := by
  obtain ⟨-, -, -, -, -, -, -, -, hA⟩ := B
  obtain ⟨-, hD, hS⟩ := hI
  intro q h
  rcases h with ⟨k, e0, h⟩ | h
  · exact hD.2 k (q, e0) h
  · exact hA q (Nat.le_trans hS.1 h)
theorem zPre_call (B : bx p s m args c cc nL own A D z) (hI : iw D A s w H locs) (av : List Value) : ∀ U : State, U.heap = H → s.WarmedH U.vm → va_Pc av (fun U => U.heap.size = H.size ∧ zPre D z w U) av.toArray U := by
  have hF := iw_free B hI
  obtain ⟨-, -, -, -, -, hK, hN, hZ, hA⟩ := B
  obtain ⟨hP, hD, hS⟩ := hI
  intro U hU hW
  subst hU
  exact ⟨rfl, rfl, hP, va_K.moved hW.alike hK, hD.weaken (fun _ _ _ _ => trivial), zNok_warm hW hN, zSt_to hZ hS.2.1 hW.alike hF⟩
theorem zGood {x y : Cond} (h : y ∈ zT) : ∀ w ∈ (y :: zT), w ∈ (x :: zT) ∧ ((w.onTables && w.keeps) = true ∨ ∃ ty, w = .arrayClass ty) := by
  intro w hw
  have h1 : w ∈ zT := by rcases List.mem_cons.mp hw with rfl | h2; exact h; exact h2
  exact ⟨List.mem_cons_of_mem _ h1, good_of_word (List.mem_filter.mp h1).2⟩
theorem zGoodT {y : Cond} (h : y ∈ zT) : GoodIn zT (y :: zT) := by
  intro w hw
  have h1 : w ∈ zT := by rcases List.mem_cons.mp hw with rfl | h2; exact h; exact h2
  exact ⟨h1, good_of_word (List.mem_filter.mp h1).2⟩
theorem rx_get (B : bx p s m args c cc nL own A D z) (hI : iw D A s w H locs) {C : String} {T : u_T} {N ci index a : Nat} (hcl : zcl[ci]? = some (C, T, N)) (hin : ∀ w ∈ u_ws C T N, w ∈ zT) (q0 : Nat) {fs : List Value} (he : w[q0]? = some (a, .inr (ci, fs))) (k : Nat) (hk : k < N) {c1 n1 d1 : String} {f1 : Bool} (hT : T k = (c1, n1, d1, f1)) (hl : Cond.fieldLink own index c1 n1 d1 ∈ zT) {v : Value} (hv : fs[k]? = some v) (hdg : decode cc pc = .ok (.getfield index, 3))
    (kk : W p l e R s m args below meth c H locs cells slots Q (F0 m (pc + 3) ls (v :: rest))) : W p l e R s m args below meth c H locs cells slots Q (F0 m pc ls (.ref a :: rest)) := by
  obtain ⟨hx, hb, hml, hown, hts, hK, hN, hZ, hA⟩ := B
  exact va_get (D := D) (cl := zcl) hx hb hts hin hown hK hI.1 q0 he hcl k hk (by rw [hT]; exact hts _ hl) (fun _ h => h) hv hdg kk
theorem rx_getN (B : bx p s m args c cc nL own A D z) (hI : iw D A s w H locs) {C host : String} {T : u_T} {N ci index a : Nat} (hcl : zcl[ci]? = some (C, T, N)) (hin : ∀ w ∈ u_ws C T N, w ∈ zT) (q0 : Nat) {fs : List Value} (he : w[q0]? = some (a, .inr (ci, fs))) (k : Nat) (hk : k < N) {c1 n1 d1 : String} {f1 : Bool} (hT : T k = (c1, n1, d1, f1)) (hl : Cond.fieldLinkNest own index c1 n1 d1 host ∈ zN) {v : Value} (hv : fs[k]? = some v) (hdg : decode cc pc = .ok (.getfield index, 3))
    (kk : W p l e R s m args below meth c H locs cells slots Q (F0 m (pc + 3) ls (v :: rest))) : W p l e R s m args below meth c H locs cells slots Q (F0 m pc ls (.ref a :: rest)) := by
  obtain ⟨hx, hb, hml, hown, hts, hK, hN, hZ, hA⟩ := B
  exact va_getN (D := D) (cl := zcl) hx hb hts hin hown hK hI.1 q0 he hcl k hk (by rw [hT]; exact va_Nw.use rfl (hN _ hl)) (fun _ h => h) hv hdg kk
theorem rx_put (B : bx p s m args c cc nL own A D z) (hI : iw D A s w H locs) {C : String} {T : u_T} {N ci index a : Nat} (hcl : zcl[ci]? = some (C, T, N)) (hin : ∀ w ∈ u_ws C T N, w ∈ zT) {ty0 : Nat → FieldType} (hty : ∀ k, k < N → parseFieldDescriptor (T k).2.2.1 = some (ty0 k)) (hnm : ∀ a, a < N → ∀ b, b < N → a ≠ b → (T a).2.1 ≠ (T b).2.1) (q0 : Nat) {fs : List Value} (he : w[q0]? = some (a, .inr (ci, fs))) (k : Nat) (hk : k < N) {c1 n1 d1 : String} {f1 : Bool} (hT : T k = (c1, n1, d1, f1)) (hl : Cond.fieldLink own index c1 n1 d1 ∈ zT) (hfin : f1 = false) {ty : FieldType} {v : Value} (hd : parseFieldDescriptor d1 = some ty) (hn : narrow ty v = v) (hfit : fits ty v = true) (hlen : k < fs.length) (hw : w.set q0 (a, .inr (ci, fs.set k v)) = w') (hdg : decode cc pc = .ok (.putfield index, 3))
    (kk : ∀ (H1 : Heap) (locs1 : List Loc), iw D A s w' H1 locs1 → W p l e R s m args below meth c H1 locs1 cells slots Q (F0 m (pc + 3) ls rest)) : W p l e R s m args below meth c H locs cells slots Q (F0 m pc ls (v :: .ref a :: rest)) := by
  obtain ⟨hx, hb, hml, hown, hts, hK, hN, hZ, hA⟩ := B
  subst hw
  exact va_put (D := D) (cl := zcl) hx hb hts hin ty0 hty hnm hown hK hI.1 hI.2.1 hI.2.2 q0 he hcl k hk (by rw [hT]; exact hts _ hl) (fun _ h => h) (by rw [hT]; exact hfin) (by rw [hT]; exact hd) hn hfit hlen hdg (fun H1 locs1 h1 h2 h3 => kk H1 locs1 ⟨h1, h2, h3⟩)
theorem rx_putN (B : bx p s m args c cc nL own A D z) (hI : iw D A s w H locs) {C host : String} {T : u_T} {N ci index a : Nat} (hcl : zcl[ci]? = some (C, T, N)) (hin : ∀ w ∈ u_ws C T N, w ∈ zT) {ty0 : Nat → FieldType} (hty : ∀ k, k < N → parseFieldDescriptor (T k).2.2.1 = some (ty0 k)) (hnm : ∀ a, a < N → ∀ b, b < N → a ≠ b → (T a).2.1 ≠ (T b).2.1) (q0 : Nat) {fs : List Value} (he : w[q0]? = some (a, .inr (ci, fs))) (k : Nat) (hk : k < N) {c1 n1 d1 : String} {f1 : Bool} (hT : T k = (c1, n1, d1, f1)) (hl : Cond.fieldLinkNest own index c1 n1 d1 host ∈ zN) (hfin : f1 = false) {ty : FieldType} {v : Value} (hd : parseFieldDescriptor d1 = some ty) (hn : narrow ty v = v) (hfit : fits ty v = true) (hlen : k < fs.length) (hw : w.set q0 (a, .inr (ci, fs.set k v)) = w') (hdg : decode cc pc = .ok (.putfield index, 3))
    (kk : ∀ (H1 : Heap) (locs1 : List Loc), iw D A s w' H1 locs1 → W p l e R s m args below meth c H1 locs1 cells slots Q (F0 m (pc + 3) ls rest)) : W p l e R s m args below meth c H locs cells slots Q (F0 m pc ls (v :: .ref a :: rest)) := by
  obtain ⟨hx, hb, hml, hown, hts, hK, hN, hZ, hA⟩ := B
  subst hw
  exact va_putN (D := D) (cl := zcl) hx hb hts hin ty0 hty hnm hown hK hI.1 hI.2.1 hI.2.2 q0 he hcl k hk (by rw [hT]; exact va_Nw.use rfl (hN _ hl)) (fun _ h => h) (by rw [hT]; exact hfin) (by rw [hT]; exact hd) hn hfit hlen hdg (fun H1 locs1 h1 h2 h3 => kk H1 locs1 ⟨h1, h2, h3⟩)
theorem rx_iald (B : bx p s m args c cc nL own A D z) (hI : iw D A s w H locs) (q0 : Nat) {a n : Nat} {f : Nat → Int32} (ha : w[q0]? = some (a, .inl (z.1, n, .inl f))) {i : Int32} (hin : zin i n) (hdg : decode cc pc = .ok (.iaload, 1))
    (kk : W p l e R s m args below meth c H locs cells slots Q (F0 m (pc + 1) ls (.int (f i.toNatClampNeg) :: rest))) : W p l e R s m args below meth c H locs cells slots Q (F0 m pc ls (.int i :: .ref a :: rest)) := by
  obtain ⟨hx, hb, hml, hown, hts, hK, hN, hZ, hA⟩ := B
  exact va_iald (D := D) (cl := zcl) hx hb hK hI.1 q0 0 ha rfl hin hdg kk
theorem rx_zald (B : bx p s m args c cc nL own A D z) (hI : iw D A s w H locs) (q0 : Nat) {a n : Nat} {f : Nat → Int32} (ha : w[q0]? = some (a, .inl (z.2.1, n, .inl f))) {i : Int32} (hin : zin i n) (hdg : decode cc pc = .ok (.baload, 1))
    (kk : W p l e R s m args below meth c H locs cells slots Q (F0 m (pc + 1) ls (.int (f i.toNatClampNeg) :: rest))) : W p l e R s m args below meth c H locs cells slots Q (F0 m pc ls (.int i :: .ref a :: rest)) := by
  obtain ⟨hx, hb, hml, hown, hts, hK, hN, hZ, hA⟩ := B
  exact va_zald (D := D) (cl := zcl) hx hb hK hI.1 q0 1 ha rfl hin hdg kk
theorem rx_lald (B : bx p s m args c cc nL own A D z) (hI : iw D A s w H locs) (q0 : Nat) {a n : Nat} {f : Nat → Int64} (ha : w[q0]? = some (a, .inl (z.2.2, n, .inr (.inl f)))) {i : Int32} (hin : zin i n) (hdg : decode cc pc = .ok (.laload, 1))
    (kk : W p l e R s m args below meth c H locs cells slots Q (F0 m (pc + 1) ls (.long (f i.toNatClampNeg) :: rest))) : W p l e R s m args below meth c H locs cells slots Q (F0 m pc ls (.int i :: .ref a :: rest)) := by
  obtain ⟨hx, hb, hml, hown, hts, hK, hN, hZ, hA⟩ := B
  exact va_lald (D := D) (cl := zcl) hx hb hK hI.1 q0 2 ha rfl hin hdg kk
theorem rx_iast (B : bx p s m args c cc nL own A D z) (hI : iw D A s w H locs) (q0 : Nat) {a n : Nat} {f : Nat → Int32} (ha : w[q0]? = some (a, .inl (z.1, n, .inl f))) {i : Int32} {x : Int32} (hin : zin i n) (hw : w.set q0 (a, .inl (z.1, n, .inl (upd f i.toNatClampNeg x))) = w') (hdg : decode cc pc = .ok (.iastore, 1))
    (kk : ∀ (H1 : Heap) (locs1 : List Loc), iw D A s w' H1 locs1 → W p l e R s m args below meth c H1 locs1 cells slots Q (F0 m (pc + 1) ls rest)) : W p l e R s m args below meth c H locs cells slots Q (F0 m pc ls (.int x :: .int i :: .ref a :: rest)) := by
  obtain ⟨hx, hb, hml, hown, hts, hK, hN, hZ, hA⟩ := B
  subst hw
  exact va_iast (D := D) (cl := zcl) hx hb hK hI.1 hI.2.1 hI.2.2 q0 0 ha rfl hin hdg (fun H1 locs1 h1 h2 h3 => kk H1 locs1 ⟨h1, h2, h3⟩)
theorem rx_zast (B : bx p s m args c cc nL own A D z) (hI : iw D A s w H locs) (q0 : Nat) {a n : Nat} {f : Nat → Int32} (ha : w[q0]? = some (a, .inl (z.2.1, n, .inl f))) {i : Int32} {x : Int32} (hin : zin i n) (hw : w.set q0 (a, .inl (z.2.1, n, .inl (upd f i.toNatClampNeg (vp_nar .boolean x)))) = w') (hdg : decode cc pc = .ok (.bastore, 1))
    (kk : ∀ (H1 : Heap) (locs1 : List Loc), iw D A s w' H1 locs1 → W p l e R s m args below meth c H1 locs1 cells slots Q (F0 m (pc + 1) ls rest)) : W p l e R s m args below meth c H locs cells slots Q (F0 m pc ls (.int x :: .int i :: .ref a :: rest)) := by
  obtain ⟨hx, hb, hml, hown, hts, hK, hN, hZ, hA⟩ := B
  subst hw
  exact va_zast (D := D) (cl := zcl) hx hb hK hI.1 hI.2.1 hI.2.2 q0 1 ha rfl hin hdg (fun H1 locs1 h1 h2 h3 => kk H1 locs1 ⟨h1, h2, h3⟩)
theorem rx_last (B : bx p s m args c cc nL own A D z) (hI : iw D A s w H locs) (q0 : Nat) {a n : Nat} {f : Nat → Int64} (ha : w[q0]? = some (a, .inl (z.2.2, n, .inr (.inl f)))) {i : Int32} {x : Int64} (hin : zin i n) (hw : w.set q0 (a, .inl (z.2.2, n, .inr (.inl (vp_updL f i.toNatClampNeg x)))) = w') (hdg : decode cc pc = .ok (.lastore, 1))
    (kk : ∀ (H1 : Heap) (locs1 : List Loc), iw D A s w' H1 locs1 → W p l e R s m args below meth c H1 locs1 cells slots Q (F0 m (pc + 1) ls rest)) : W p l e R s m args below meth c H locs cells slots Q (F0 m pc ls (.long x :: .int i :: .ref a :: rest)) := by
  obtain ⟨hx, hb, hml, hown, hts, hK, hN, hZ, hA⟩ := B
  subst hw
  exact va_last (D := D) (cl := zcl) hx hb hK hI.1 hI.2.1 hI.2.2 q0 2 ha rfl hin hdg (fun H1 locs1 h1 h2 h3 => kk H1 locs1 ⟨h1, h2, h3⟩)
theorem rx_alen (B : bx p s m args c cc nL own A D z) (hI : iw D A s w H locs) (q0 t0 : Nat) {a : Nat} {cA : ClassId} {x : vp_A} (ha : w[q0]? = some (a, .inl (cA, x))) {ty : FieldType} (ht : (zty z)[t0]? = some (cA, ty)) {v : Int32} (hv : Int32.ofNat x.1 = v) (hdg : decode cc pc = .ok (.arraylength, 1))
    (kk : W p l e R s m args below meth c H locs cells slots Q (F0 m (pc + 1) ls (.int v :: rest))) : W p l e R s m args below meth c H locs cells slots Q (F0 m pc ls (.ref a :: rest)) := by
  obtain ⟨hx, hb, hml, hown, hts, hK, hN, hZ, hA⟩ := B
  exact va_alen (D := D) (cl := zcl) hx hb hK hI.1 q0 t0 ha ht hv hdg kk
theorem rx_gets (B : bx p s m args c cc nL own A D z) (hI : iw D A s w H locs) (j : Nat) {C n : String} {vs : List Int32} (hj : zst[j]? = some (C, n, vs)) {index : Nat} (hl : Cond.fieldLink own index C n "[I" ∈ zT) (hdg : decode cc pc = .ok (.getstatic index, 3))
    (kk : ∀ t : Nat, va_T .int t vs.length (fun j => .int (vs.getD j 0)) A s s.heap → W p l e R s m args below meth c H locs cells slots Q (F0 m (pc + 3) ls (.ref t :: rest))) : W p l e R s m args below meth c H locs cells slots Q (F0 m pc ls rest) := by
  obtain ⟨hx, hb, hml, hown, hts, hK, hN, hZ, hA⟩ := B
  obtain ⟨t, h1, h2⟩ := hZ _ (List.mem_of_getElem? hj)
  exact va_gets hx hb h1 hI.2.2 hown (hts _ hl) (fun _ h => h) hdg (kk t h2)
theorem rx_getsN (B : bx p s m args c cc nL own A D z) (hI : iw D A s w H locs) (j : Nat) {C n : String} {vs : List Int32} (hj : zst[j]? = some (C, n, vs)) {index : Nat} {host : String} (hl : Cond.fieldLinkNest own index C n "[I" host ∈ zN) (hdg : decode cc pc = .ok (.getstatic index, 3))
    (kk : ∀ t : Nat, va_T .int t vs.length (fun j => .int (vs.getD j 0)) A s s.heap → W p l e R s m args below meth c H locs cells slots Q (F0 m (pc + 3) ls (.ref t :: rest))) : W p l e R s m args below meth c H locs cells slots Q (F0 m pc ls rest) := by
  obtain ⟨hx, hb, hml, hown, hts, hK, hN, hZ, hA⟩ := B
  obtain ⟨t, h1, h2⟩ := hZ _ (List.mem_of_getElem? hj)
  exact va_getsN hx hb h1 hI.2.2 hown (va_Nw.use rfl (hN _ hl)) (fun _ h => h) hdg (kk t h2)
theorem rx_ti (B : bx p s m args c cc nL own A D z) (hI : iw D A s w H locs) {t n : Nat} {vs : List Int32} (hT : va_T .int t vs.length (fun j => .int (vs.getD j 0)) A s s.heap) (hn : vs.length = n) {i : Int32} (hin : zin i n) (hdg : decode cc pc = .ok (.iaload, 1))
    (kk : W p l e R s m args below meth c H locs cells slots Q (F0 m (pc + 1) ls (.int (vs.getD i.toNatClampNeg 0) :: rest))) : W p l e R s m args below meth c H locs cells slots Q (F0 m pc ls (.int i :: .ref t :: rest)) := by
  subst hn
  exact va_ti B.1 B.2.1 hT hI.2.2 hin rfl hdg kk
theorem rx_tlen (B : bx p s m args c cc nL own A D z) (hI : iw D A s w H locs) {t : Nat} {vs : List Int32} (hT : va_T .int t vs.length (fun j => .int (vs.getD j 0)) A s s.heap) {v : Int32} (hv : Int32.ofNat vs.length = v) (hdg : decode cc pc = .ok (.arraylength, 1))
    (kk : W p l e R s m args below meth c H locs cells slots Q (F0 m (pc + 1) ls (.int v :: rest))) : W p l e R s m args below meth c H locs cells slots Q (F0 m pc ls (.ref t :: rest)) := va_tlen B.1 B.2.1 hT hI.2.2 hv hdg kk
end ZB
/-- a contract: world before, world behind -/
def zMet (l : Launch) (D : va_G) (z : zZ) (y : MethodName) (cw : Cond) (rm : Room) (av : List Value) (w : va_W) (Qa : (Nat → Prop) → Array Value → State → Outcome → State → Prop) : Prop :=
  ∀ sz : Nat, Met l y (cw :: zT) rm (va_Pc av (fun U => U.heap.size = sz ∧ zPre D z w U)) (Qa (va_A w sz)) 0 0 (va_A w sz)
def zQi (D : va_G) (r : Int32) (w' : va_W) (A : Nat → Prop) : Array Value → State → Outcome → State → Prop := va_Qi (fun r1 (_ : Unit) => r1 = r) (fun _ t => va_P D zcl w' t.heap ∧ va_D A w') A
def zQl (D : va_G) (r : Int64) (w' : va_W) (A : Nat → Prop) : Array Value → State → Outcome → State → Prop := va_Ql (fun r1 (_ : Unit) => r1 = r) (fun _ t => va_P D zcl w' t.heap ∧ va_D A w') A
def zQv (D : va_G) (w' : va_W) (A : Nat → Prop) : Array Value → State → Outcome → State → Prop := va_Qv (fun (_ : Unit) => True) (fun _ t => va_P D zcl w' t.heap ∧ va_D A w') A
def zQr (D : va_G) (r : Nat) (w' : va_W) (A : Nat → Prop) : Array Value → State → Outcome → State → Prop := va_Qr (fun (_ : Unit) => True) (fun _ a t => a = r ∧ va_P D zcl w' t.heap ∧ va_D A w') A
section ZC
variable {p : Program} {l : Launch} {e : Env} {R : Room} {s : State} {m : MethodId} {args : Array Value} {below : List Frame} {meth : Method} {c : Code} {H : Heap} {locs : List Loc} {cells slots : Nat} {Q : State → Prop}
variable {cc bytes : ByteArray} {nL maxL n index : Nat} {ret : Option FieldType} {own C host : String} {A : Nat → Prop} {D : va_G} {z : zZ} {w w' : va_W} {pc : Nat} {ls : Array Slot} {As rest st0 : List Value} {y : MethodName} {rm : Room} {b : Nat}
theorem rx_Vi (B : bx p s m args c cc nL own A D z) (hI : iw D A s w H locs) (hl : ls.size = nL) {r : Int32} (hM : zMet l D z y (.code y bytes maxL ret) rm (.ref b :: As) w (zQi D r w')) (h1 : Cond.methodLink own index y ∈ zT) (h2 : Cond.instanceMethod y ∈ zT) (h3 : Cond.selects C y y ∈ zT) (h4 : Cond.initialized C ∈ zT) (h5 : Cond.code y bytes maxL ret ∈ zT) (hd : y.cls = C ∧ y.cls ≠ "java/lang/invoke/MethodHandle" ∧ y.cls ≠ "java/lang/invoke/VarHandle" ∧ (parseMethodDescriptor y.desc).map (fun d => d.parameters.length) = some n) (q0 : Nat) {ci : Nat} {fs : List Value} {T : u_T} {N : Nat} (he : w[q0]? = some (b, .inr (ci, fs))) (hcl : zcl[ci]? = some (C, T, N)) (hn : As.length = n) (hst : st0 = As.reverse ++ .ref b :: rest) (hrest : (rest.map fun v => v.category).sum ≤ 8) (hdg : decode cc pc = .ok (.invokevirtual index, 3)) (hR : rm.frames + 1 ≤ R.frames ∧ 8 + (maxL + 11) + rm.locals ≤ R.locals) (hrc : rm.cells = 0) (hrs : rm.slots = 0) (hcs : cells ≤ R.cells ∧ slots ≤ R.slots)
    (kk : ∀ (H1 : Heap) (locs1 : List Loc), iw D A s w' H1 locs1 → W p l e R s m args below meth c H1 locs1 cells slots Q (F0 m (pc + 3) ls (.int r :: rest))) : W p l e R s m args below meth c H locs cells slots Q (F0 m pc ls st0) := by
  have hFc := iw_free B hI
  obtain ⟨hx, hb, hml, hown, hts, hK, hN, hZ, hA⟩ := id B
  refine va_calli (va_runV (As := As) (rest := rest) ⟨hx, hb, hml, hown, hts⟩ (hM H.size) (cwV n hts (fun w hw => by
      have h9 : w ∈ zT := by
        rcases List.mem_append.mp hw with hw | hw
        · simp only [List.mem_cons, List.mem_nil_iff, or_false] at hw
          rcases hw with rfl | rfl | rfl | rfl <;> assumption
        · rcases List.mem_cons.mp hw with rfl | hw
          · exact h5
          · exact hw
      exact ⟨h9, good_of_word (List.mem_filter.mp h9).2⟩) rfl hrc hrs hd hR) ⟨zPre_blind _, va_recv hK hI.1 hcl he, zPre_call B hI _⟩ rfl hn hl hst (lv_room hrest) hdg ⟨hcs.1, hcs.2⟩) hI.2.2 (fun q _ h => hFc q h) hFc (fun r1 u t H1 locs1 ht hvm hw hB hz1 hk1 hS1 => ?_)
  subst hw
  obtain ⟨hP1, hD1⟩ := hB
  rw [ht] at hP1
  exact kk H1 locs1 ⟨hP1, hD1.weaken (fun _ q _ h => hFc q.1 h), hS1⟩
theorem rx_Vl (B : bx p s m args c cc nL own A D z) (hI : iw D A s w H locs) (hl : ls.size = nL) {r : Int64} (hM : zMet l D z y (.code y bytes maxL ret) rm (.ref b :: As) w (zQl D r w')) (h1 : Cond.methodLink own index y ∈ zT) (h2 : Cond.instanceMethod y ∈ zT) (h3 : Cond.selects C y y ∈ zT) (h4 : Cond.initialized C ∈ zT) (h5 : Cond.code y bytes maxL ret ∈ zT) (hd : y.cls = C ∧ y.cls ≠ "java/lang/invoke/MethodHandle" ∧ y.cls ≠ "java/lang/invoke/VarHandle" ∧ (parseMethodDescriptor y.desc).map (fun d => d.parameters.length) = some n) (q0 : Nat) {ci : Nat} {fs : List Value} {T : u_T} {N : Nat} (he : w[q0]? = some (b, .inr (ci, fs))) (hcl : zcl[ci]? = some (C, T, N)) (hn : As.length = n) (hst : st0 = As.reverse ++ .ref b :: rest) (hrest : (rest.map fun v => v.category).sum ≤ 8) (hdg : decode cc pc = .ok (.invokevirtual index, 3)) (hR : rm.frames + 1 ≤ R.frames ∧ 8 + (maxL + 11) + rm.locals ≤ R.locals) (hrc : rm.cells = 0) (hrs : rm.slots = 0) (hcs : cells ≤ R.cells ∧ slots ≤ R.slots)
    (kk : ∀ (H1 : Heap) (locs1 : List Loc), iw D A s w' H1 locs1 → W p l e R s m args below meth c H1 locs1 cells slots Q (F0 m (pc + 3) ls (.long r :: rest))) : W p l e R s m args below meth c H locs cells slots Q (F0 m pc ls st0) := by
  have hFc := iw_free B hI
  obtain ⟨hx, hb, hml, hown, hts, hK, hN, hZ, hA⟩ := id B
  refine va_calll (va_runV (As := As) (rest := rest) ⟨hx, hb, hml, hown, hts⟩ (hM H.size) (cwV n hts (fun w hw => by
      have h9 : w ∈ zT := by
        rcases List.mem_append.mp hw with hw | hw
        · simp only [List.mem_cons, List.mem_nil_iff, or_false] at hw
          rcases hw with rfl | rfl | rfl | rfl <;> assumption
        · rcases List.mem_cons.mp hw with rfl | hw
          · exact h5
          · exact hw
      exact ⟨h9, good_of_word (List.mem_filter.mp h9).2⟩) rfl hrc hrs hd hR) ⟨zPre_blind _, va_recv hK hI.1 hcl he, zPre_call B hI _⟩ rfl hn hl hst (lv_room hrest) hdg ⟨hcs.1, hcs.2⟩) hI.2.2 (fun q _ h => hFc q h) hFc (fun r1 u t H1 locs1 ht hvm hw hB hz1 hk1 hS1 => ?_)
  subst hw
  obtain ⟨hP1, hD1⟩ := hB
  rw [ht] at hP1
  exact kk H1 locs1 ⟨hP1, hD1.weaken (fun _ q _ h => hFc q.1 h), hS1⟩
theorem rx_Vv (B : bx p s m args c cc nL own A D z) (hI : iw D A s w H locs) (hl : ls.size = nL)  (hM : zMet l D z y (.code y bytes maxL ret) rm (.ref b :: As) w (zQv D w')) (h1 : Cond.methodLink own index y ∈ zT) (h2 : Cond.instanceMethod y ∈ zT) (h3 : Cond.selects C y y ∈ zT) (h4 : Cond.initialized C ∈ zT) (h5 : Cond.code y bytes maxL ret ∈ zT) (hd : y.cls = C ∧ y.cls ≠ "java/lang/invoke/MethodHandle" ∧ y.cls ≠ "java/lang/invoke/VarHandle" ∧ (parseMethodDescriptor y.desc).map (fun d => d.parameters.length) = some n) (q0 : Nat) {ci : Nat} {fs : List Value} {T : u_T} {N : Nat} (he : w[q0]? = some (b, .inr (ci, fs))) (hcl : zcl[ci]? = some (C, T, N)) (hn : As.length = n) (hst : st0 = As.reverse ++ .ref b :: rest) (hrest : (rest.map fun v => v.category).sum ≤ 8) (hdg : decode cc pc = .ok (.invokevirtual index, 3)) (hR : rm.frames + 1 ≤ R.frames ∧ 8 + (maxL + 11) + rm.locals ≤ R.locals) (hrc : rm.cells = 0) (hrs : rm.slots = 0) (hcs : cells ≤ R.cells ∧ slots ≤ R.slots)
    (kk : ∀ (H1 : Heap) (locs1 : List Loc), iw D A s w' H1 locs1 → W p l e R s m args below meth c H1 locs1 cells slots Q (F0 m (pc + 3) ls (rest))) : W p l e R s m args below meth c H locs cells slots Q (F0 m pc ls st0) := by
  have hFc := iw_free B hI
  obtain ⟨hx, hb, hml, hown, hts, hK, hN, hZ, hA⟩ := id B
  refine va_callv (va_runV (As := As) (rest := rest) ⟨hx, hb, hml, hown, hts⟩ (hM H.size) (cwV n hts (fun w hw => by
      have h9 : w ∈ zT := by
        rcases List.mem_append.mp hw with hw | hw
        · simp only [List.mem_cons, List.mem_nil_iff, or_false] at hw
          rcases hw with rfl | rfl | rfl | rfl <;> assumption
        · rcases List.mem_cons.mp hw with rfl | hw
          · exact h5
          · exact hw
      exact ⟨h9, good_of_word (List.mem_filter.mp h9).2⟩) rfl hrc hrs hd hR) ⟨zPre_blind _, va_recv hK hI.1 hcl he, zPre_call B hI _⟩ rfl hn hl hst (lv_room hrest) hdg ⟨hcs.1, hcs.2⟩) hI.2.2 (fun q _ h => hFc q h) hFc (fun u t H1 locs1 ht hvm hw hB hz1 hk1 hS1 => ?_)
  obtain ⟨hP1, hD1⟩ := hB
  rw [ht] at hP1
  exact kk H1 locs1 ⟨hP1, hD1.weaken (fun _ q _ h => hFc q.1 h), hS1⟩
theorem rx_Vr (B : bx p s m args c cc nL own A D z) (hI : iw D A s w H locs) (hl : ls.size = nL) {r : Nat} (hM : zMet l D z y (.code y bytes maxL ret) rm (.ref b :: As) w (zQr D r w')) (h1 : Cond.methodLink own index y ∈ zT) (h2 : Cond.instanceMethod y ∈ zT) (h3 : Cond.selects C y y ∈ zT) (h4 : Cond.initialized C ∈ zT) (h5 : Cond.code y bytes maxL ret ∈ zT) (hd : y.cls = C ∧ y.cls ≠ "java/lang/invoke/MethodHandle" ∧ y.cls ≠ "java/lang/invoke/VarHandle" ∧ (parseMethodDescriptor y.desc).map (fun d => d.parameters.length) = some n) (q0 : Nat) {ci : Nat} {fs : List Value} {T : u_T} {N : Nat} (he : w[q0]? = some (b, .inr (ci, fs))) (hcl : zcl[ci]? = some (C, T, N)) (hn : As.length = n) (hst : st0 = As.reverse ++ .ref b :: rest) (hrest : (rest.map fun v => v.category).sum ≤ 8) (hdg : decode cc pc = .ok (.invokevirtual index, 3)) (hR : rm.frames + 1 ≤ R.frames ∧ 8 + (maxL + 11) + rm.locals ≤ R.locals) (hrc : rm.cells = 0) (hrs : rm.slots = 0) (hcs : cells ≤ R.cells ∧ slots ≤ R.slots)
    (kk : ∀ (H1 : Heap) (locs1 : List Loc), iw D A s w' H1 locs1 → W p l e R s m args below meth c H1 locs1 cells slots Q (F0 m (pc + 3) ls (.ref r :: rest))) : W p l e R s m args below meth c H locs cells slots Q (F0 m pc ls st0) := by
  have hFc := iw_free B hI
  obtain ⟨hx, hb, hml, hown, hts, hK, hN, hZ, hA⟩ := id B
  refine va_callr (va_runV (As := As) (rest := rest) ⟨hx, hb, hml, hown, hts⟩ (hM H.size) (cwV n hts (fun w hw => by
      have h9 : w ∈ zT := by
        rcases List.mem_append.mp hw with hw | hw
        · simp only [List.mem_cons, List.mem_nil_iff, or_false] at hw
          rcases hw with rfl | rfl | rfl | rfl <;> assumption
        · rcases List.mem_cons.mp hw with rfl | hw
          · exact h5
          · exact hw
      exact ⟨h9, good_of_word (List.mem_filter.mp h9).2⟩) rfl hrc hrs hd hR) ⟨zPre_blind _, va_recv hK hI.1 hcl he, zPre_call B hI _⟩ rfl hn hl hst (lv_room hrest) hdg ⟨hcs.1, hcs.2⟩) hI.2.2 (fun q _ h => hFc q h) hFc (fun u r1 t H1 locs1 ht hvm hw hB hz1 hk1 hS1 => ?_)
  obtain ⟨e9, hP1, hD1⟩ := hB
  subst e9
  rw [ht] at hP1
  exact kk H1 locs1 ⟨hP1, hD1.weaken (fun _ q _ h => hFc q.1 h), hS1⟩
theorem rx_Ni (B : bx p s m args c cc nL own A D z) (hI : iw D A s w H locs) (hl : ls.size = nL) {r : Int32} (hM : zMet l D z y (.code y bytes maxL ret) rm (.ref b :: As) w (zQi D r w')) (h1 : Cond.methodLinkNest own index y host ∈ zN) (h2 : Cond.instanceMethod y ∈ zT) (h3 : Cond.selects C y y ∈ zT) (h4 : Cond.initialized y.cls ∈ zT) (h5 : Cond.code y bytes maxL ret ∈ zT) (hd : y.cls ≠ "java/lang/invoke/MethodHandle" ∧ y.cls ≠ "java/lang/invoke/VarHandle" ∧ (parseMethodDescriptor y.desc).map (fun d => d.parameters.length) = some n) (q0 : Nat) {ci : Nat} {fs : List Value} {T : u_T} {N : Nat} (he : w[q0]? = some (b, .inr (ci, fs))) (hcl : zcl[ci]? = some (C, T, N)) (hn : As.length = n) (hst : st0 = As.reverse ++ .ref b :: rest) (hrest : (rest.map fun v => v.category).sum ≤ 8) (hdg : decode cc pc = .ok (.invokevirtual index, 3)) (hR : rm.frames + 1 ≤ R.frames ∧ 8 + (maxL + 11) + rm.locals ≤ R.locals) (hrc : rm.cells = 0) (hrs : rm.slots = 0) (hcs : cells ≤ R.cells ∧ slots ≤ R.slots)
    (kk : ∀ (H1 : Heap) (locs1 : List Loc), iw D A s w' H1 locs1 → W p l e R s m args below meth c H1 locs1 cells slots Q (F0 m (pc + 3) ls (.int r :: rest))) : W p l e R s m args below meth c H locs cells slots Q (F0 m pc ls st0) := by
  have hFc := iw_free B hI
  obtain ⟨hx, hb, hml, hown, hts, hK, hN, hZ, hA⟩ := id B
  refine va_calli (va_runVN (As := As) (rest := rest) ⟨hx, hb, hml, hown, hts⟩ (hM H.size) ⟨va_cnB n hts (zGoodT h5) rfl hrc hrs (hN _ h1) (hts _ h4) hd hR, hts _ h2, hts _ h3⟩ ⟨zPre_blind _, va_recv hK hI.1 hcl he, zPre_call B hI _⟩ rfl hn hl hst (lv_room hrest) hdg ⟨hcs.1, hcs.2⟩) hI.2.2 (fun q _ h => hFc q h) hFc (fun r1 u t H1 locs1 ht hvm hw hB hz1 hk1 hS1 => ?_)
  subst hw
  obtain ⟨hP1, hD1⟩ := hB
  rw [ht] at hP1
  exact kk H1 locs1 ⟨hP1, hD1.weaken (fun _ q _ h => hFc q.1 h), hS1⟩
theorem rx_Nl (B : bx p s m args c cc nL own A D z) (hI : iw D A s w H locs) (hl : ls.size = nL) {r : Int64} (hM : zMet l D z y (.code y bytes maxL ret) rm (.ref b :: As) w (zQl D r w')) (h1 : Cond.methodLinkNest own index y host ∈ zN) (h2 : Cond.instanceMethod y ∈ zT) (h3 : Cond.selects C y y ∈ zT) (h4 : Cond.initialized y.cls ∈ zT) (h5 : Cond.code y bytes maxL ret ∈ zT) (hd : y.cls ≠ "java/lang/invoke/MethodHandle" ∧ y.cls ≠ "java/lang/invoke/VarHandle" ∧ (parseMethodDescriptor y.desc).map (fun d => d.parameters.length) = some n) (q0 : Nat) {ci : Nat} {fs : List Value} {T : u_T} {N : Nat} (he : w[q0]? = some (b, .inr (ci, fs))) (hcl : zcl[ci]? = some (C, T, N)) (hn : As.length = n) (hst : st0 = As.reverse ++ .ref b :: rest) (hrest : (rest.map fun v => v.category).sum ≤ 8) (hdg : decode cc pc = .ok (.invokevirtual index, 3)) (hR : rm.frames + 1 ≤ R.frames ∧ 8 + (maxL + 11) + rm.locals ≤ R.locals) (hrc : rm.cells = 0) (hrs : rm.slots = 0) (hcs : cells ≤ R.cells ∧ slots ≤ R.slots)
    (kk : ∀ (H1 : Heap) (locs1 : List Loc), iw D A s w' H1 locs1 → W p l e R s m args below meth c H1 locs1 cells slots Q (F0 m (pc + 3) ls (.long r :: rest))) : W p l e R s m args below meth c H locs cells slots Q (F0 m pc ls st0) := by
  have hFc := iw_free B hI
  obtain ⟨hx, hb, hml, hown, hts, hK, hN, hZ, hA⟩ := id B
  refine va_calll (va_runVN (As := As) (rest := rest) ⟨hx, hb, hml, hown, hts⟩ (hM H.size) ⟨va_cnB n hts (zGoodT h5) rfl hrc hrs (hN _ h1) (hts _ h4) hd hR, hts _ h2, hts _ h3⟩ ⟨zPre_blind _, va_recv hK hI.1 hcl he, zPre_call B hI _⟩ rfl hn hl hst (lv_room hrest) hdg ⟨hcs.1, hcs.2⟩) hI.2.2 (fun q _ h => hFc q h) hFc (fun r1 u t H1 locs1 ht hvm hw hB hz1 hk1 hS1 => ?_)
  subst hw
  obtain ⟨hP1, hD1⟩ := hB
  rw [ht] at hP1
  exact kk H1 locs1 ⟨hP1, hD1.weaken (fun _ q _ h => hFc q.1 h), hS1⟩
theorem rx_Nv (B : bx p s m args c cc nL own A D z) (hI : iw D A s w H locs) (hl : ls.size = nL)  (hM : zMet l D z y (.code y bytes maxL ret) rm (.ref b :: As) w (zQv D w')) (h1 : Cond.methodLinkNest own index y host ∈ zN) (h2 : Cond.instanceMethod y ∈ zT) (h3 : Cond.selects C y y ∈ zT) (h4 : Cond.initialized y.cls ∈ zT) (h5 : Cond.code y bytes maxL ret ∈ zT) (hd : y.cls ≠ "java/lang/invoke/MethodHandle" ∧ y.cls ≠ "java/lang/invoke/VarHandle" ∧ (parseMethodDescriptor y.desc).map (fun d => d.parameters.length) = some n) (q0 : Nat) {ci : Nat} {fs : List Value} {T : u_T} {N : Nat} (he : w[q0]? = some (b, .inr (ci, fs))) (hcl : zcl[ci]? = some (C, T, N)) (hn : As.length = n) (hst : st0 = As.reverse ++ .ref b :: rest) (hrest : (rest.map fun v => v.category).sum ≤ 8) (hdg : decode cc pc = .ok (.invokevirtual index, 3)) (hR : rm.frames + 1 ≤ R.frames ∧ 8 + (maxL + 11) + rm.locals ≤ R.locals) (hrc : rm.cells = 0) (hrs : rm.slots = 0) (hcs : cells ≤ R.cells ∧ slots ≤ R.slots)
    (kk : ∀ (H1 : Heap) (locs1 : List Loc), iw D A s w' H1 locs1 → W p l e R s m args below meth c H1 locs1 cells slots Q (F0 m (pc + 3) ls (rest))) : W p l e R s m args below meth c H locs cells slots Q (F0 m pc ls st0) := by
  have hFc := iw_free B hI
  obtain ⟨hx, hb, hml, hown, hts, hK, hN, hZ, hA⟩ := id B
  refine va_callv (va_runVN (As := As) (rest := rest) ⟨hx, hb, hml, hown, hts⟩ (hM H.size) ⟨va_cnB n hts (zGoodT h5) rfl hrc hrs (hN _ h1) (hts _ h4) hd hR, hts _ h2, hts _ h3⟩ ⟨zPre_blind _, va_recv hK hI.1 hcl he, zPre_call B hI _⟩ rfl hn hl hst (lv_room hrest) hdg ⟨hcs.1, hcs.2⟩) hI.2.2 (fun q _ h => hFc q h) hFc (fun u t H1 locs1 ht hvm hw hB hz1 hk1 hS1 => ?_)
  obtain ⟨hP1, hD1⟩ := hB
  rw [ht] at hP1
  exact kk H1 locs1 ⟨hP1, hD1.weaken (fun _ q _ h => hFc q.1 h), hS1⟩
theorem rx_Nr (B : bx p s m args c cc nL own A D z) (hI : iw D A s w H locs) (hl : ls.size = nL) {r : Nat} (hM : zMet l D z y (.code y bytes maxL ret) rm (.ref b :: As) w (zQr D r w')) (h1 : Cond.methodLinkNest own index y host ∈ zN) (h2 : Cond.instanceMethod y ∈ zT) (h3 : Cond.selects C y y ∈ zT) (h4 : Cond.initialized y.cls ∈ zT) (h5 : Cond.code y bytes maxL ret ∈ zT) (hd : y.cls ≠ "java/lang/invoke/MethodHandle" ∧ y.cls ≠ "java/lang/invoke/VarHandle" ∧ (parseMethodDescriptor y.desc).map (fun d => d.parameters.length) = some n) (q0 : Nat) {ci : Nat} {fs : List Value} {T : u_T} {N : Nat} (he : w[q0]? = some (b, .inr (ci, fs))) (hcl : zcl[ci]? = some (C, T, N)) (hn : As.length = n) (hst : st0 = As.reverse ++ .ref b :: rest) (hrest : (rest.map fun v => v.category).sum ≤ 8) (hdg : decode cc pc = .ok (.invokevirtual index, 3)) (hR : rm.frames + 1 ≤ R.frames ∧ 8 + (maxL + 11) + rm.locals ≤ R.locals) (hrc : rm.cells = 0) (hrs : rm.slots = 0) (hcs : cells ≤ R.cells ∧ slots ≤ R.slots)
    (kk : ∀ (H1 : Heap) (locs1 : List Loc), iw D A s w' H1 locs1 → W p l e R s m args below meth c H1 locs1 cells slots Q (F0 m (pc + 3) ls (.ref r :: rest))) : W p l e R s m args below meth c H locs cells slots Q (F0 m pc ls st0) := by
  have hFc := iw_free B hI
  obtain ⟨hx, hb, hml, hown, hts, hK, hN, hZ, hA⟩ := id B
  refine va_callr (va_runVN (As := As) (rest := rest) ⟨hx, hb, hml, hown, hts⟩ (hM H.size) ⟨va_cnB n hts (zGoodT h5) rfl hrc hrs (hN _ h1) (hts _ h4) hd hR, hts _ h2, hts _ h3⟩ ⟨zPre_blind _, va_recv hK hI.1 hcl he, zPre_call B hI _⟩ rfl hn hl hst (lv_room hrest) hdg ⟨hcs.1, hcs.2⟩) hI.2.2 (fun q _ h => hFc q h) hFc (fun u r1 t H1 locs1 ht hvm hw hB hz1 hk1 hS1 => ?_)
  obtain ⟨e9, hP1, hD1⟩ := hB
  subst e9
  rw [ht] at hP1
  exact kk H1 locs1 ⟨hP1, hD1.weaken (fun _ q _ h => hFc q.1 h), hS1⟩
theorem rx_Si (B : bx p s m args c cc nL own A D z) (hI : iw D A s w H locs) (hl : ls.size = nL) {r : Int32} (hM : zMet l D z y (.code y bytes maxL ret) rm As w (zQi D r w')) (h1 : Cond.methodLink own index y ∈ zT) (h2 : Cond.static y ∈ zT) (h4 : Cond.initialized y.cls ∈ zT) (h5 : Cond.code y bytes maxL ret ∈ zT) (hd : y.cls ≠ "java/lang/invoke/MethodHandle" ∧ y.cls ≠ "java/lang/invoke/VarHandle" ∧ (parseMethodDescriptor y.desc).map (fun d => d.parameters.length) = some n) (hn : As.length = n) (hst : st0 = As.reverse ++ rest) (hrest : (rest.map fun v => v.category).sum ≤ 8) (hdg : decode cc pc = .ok (.invokestatic index, 3)) (hR : rm.frames + 1 ≤ R.frames ∧ 8 + (maxL + 11) + rm.locals ≤ R.locals) (hrc : rm.cells = 0) (hrs : rm.slots = 0) (hcs : cells ≤ R.cells ∧ slots ≤ R.slots)
    (kk : ∀ (H1 : Heap) (locs1 : List Loc), iw D A s w' H1 locs1 → W p l e R s m args below meth c H1 locs1 cells slots Q (F0 m (pc + 3) ls (.int r :: rest))) : W p l e R s m args below meth c H locs cells slots Q (F0 m pc ls st0) := by
  have hFc := iw_free B hI
  obtain ⟨hx, hb, hml, hown, hts, hK, hN, hZ, hA⟩ := id B
  refine va_calli (va_runS (As := As) (rest := rest) ⟨hx, hb, hml, hown, hts⟩ (hM H.size) ⟨callB_of n hts (zGoodT h5) rfl hrc hrs (hts _ h4) (hts _ h1) hd hR, hts _ h2⟩ ⟨zPre_blind _, zPre_call B hI _⟩ rfl hn hl hst (lv_room hrest) hdg ⟨hcs.1, hcs.2⟩) hI.2.2 (fun q _ h => hFc q h) hFc (fun r1 u t H1 locs1 ht hvm hw hB hz1 hk1 hS1 => ?_)
  subst hw
  obtain ⟨hP1, hD1⟩ := hB
  rw [ht] at hP1
  exact kk H1 locs1 ⟨hP1, hD1.weaken (fun _ q _ h => hFc q.1 h), hS1⟩
theorem rx_Sl (B : bx p s m args c cc nL own A D z) (hI : iw D A s w H locs) (hl : ls.size = nL) {r : Int64} (hM : zMet l D z y (.code y bytes maxL ret) rm As w (zQl D r w')) (h1 : Cond.methodLink own index y ∈ zT) (h2 : Cond.static y ∈ zT) (h4 : Cond.initialized y.cls ∈ zT) (h5 : Cond.code y bytes maxL ret ∈ zT) (hd : y.cls ≠ "java/lang/invoke/MethodHandle" ∧ y.cls ≠ "java/lang/invoke/VarHandle" ∧ (parseMethodDescriptor y.desc).map (fun d => d.parameters.length) = some n) (hn : As.length = n) (hst : st0 = As.reverse ++ rest) (hrest : (rest.map fun v => v.category).sum ≤ 8) (hdg : decode cc pc = .ok (.invokestatic index, 3)) (hR : rm.frames + 1 ≤ R.frames ∧ 8 + (maxL + 11) + rm.locals ≤ R.locals) (hrc : rm.cells = 0) (hrs : rm.slots = 0) (hcs : cells ≤ R.cells ∧ slots ≤ R.slots)
    (kk : ∀ (H1 : Heap) (locs1 : List Loc), iw D A s w' H1 locs1 → W p l e R s m args below meth c H1 locs1 cells slots Q (F0 m (pc + 3) ls (.long r :: rest))) : W p l e R s m args below meth c H locs cells slots Q (F0 m pc ls st0) := by
  have hFc := iw_free B hI
  obtain ⟨hx, hb, hml, hown, hts, hK, hN, hZ, hA⟩ := id B
  refine va_calll (va_runS (As := As) (rest := rest) ⟨hx, hb, hml, hown, hts⟩ (hM H.size) ⟨callB_of n hts (zGoodT h5) rfl hrc hrs (hts _ h4) (hts _ h1) hd hR, hts _ h2⟩ ⟨zPre_blind _, zPre_call B hI _⟩ rfl hn hl hst (lv_room hrest) hdg ⟨hcs.1, hcs.2⟩) hI.2.2 (fun q _ h => hFc q h) hFc (fun r1 u t H1 locs1 ht hvm hw hB hz1 hk1 hS1 => ?_)
  subst hw
  obtain ⟨hP1, hD1⟩ := hB
  rw [ht] at hP1
  exact kk H1 locs1 ⟨hP1, hD1.weaken (fun _ q _ h => hFc q.1 h), hS1⟩
theorem rx_Sv (B : bx p s m args c cc nL own A D z) (hI : iw D A s w H locs) (hl : ls.size = nL)  (hM : zMet l D z y (.code y bytes maxL ret) rm As w (zQv D w')) (h1 : Cond.methodLink own index y ∈ zT) (h2 : Cond.static y ∈ zT) (h4 : Cond.initialized y.cls ∈ zT) (h5 : Cond.code y bytes maxL ret ∈ zT) (hd : y.cls ≠ "java/lang/invoke/MethodHandle" ∧ y.cls ≠ "java/lang/invoke/VarHandle" ∧ (parseMethodDescriptor y.desc).map (fun d => d.parameters.length) = some n) (hn : As.length = n) (hst : st0 = As.reverse ++ rest) (hrest : (rest.map fun v => v.category).sum ≤ 8) (hdg : decode cc pc = .ok (.invokestatic index, 3)) (hR : rm.frames + 1 ≤ R.frames ∧ 8 + (maxL + 11) + rm.locals ≤ R.locals) (hrc : rm.cells = 0) (hrs : rm.slots = 0) (hcs : cells ≤ R.cells ∧ slots ≤ R.slots)
    (kk : ∀ (H1 : Heap) (locs1 : List Loc), iw D A s w' H1 locs1 → W p l e R s m args below meth c H1 locs1 cells slots Q (F0 m (pc + 3) ls (rest))) : W p l e R s m args below meth c H locs cells slots Q (F0 m pc ls st0) := by
  have hFc := iw_free B hI
  obtain ⟨hx, hb, hml, hown, hts, hK, hN, hZ, hA⟩ := id B
  refine va_callv (va_runS (As := As) (rest := rest) ⟨hx, hb, hml, hown, hts⟩ (hM H.size) ⟨callB_of n hts (zGoodT h5) rfl hrc hrs (hts _ h4) (hts _ h1) hd hR, hts _ h2⟩ ⟨zPre_blind _, zPre_call B hI _⟩ rfl hn hl hst (lv_room hrest) hdg ⟨hcs.1, hcs.2⟩) hI.2.2 (fun q _ h => hFc q h) hFc (fun u t H1 locs1 ht hvm hw hB hz1 hk1 hS1 => ?_)
  obtain ⟨hP1, hD1⟩ := hB
  rw [ht] at hP1
  exact kk H1 locs1 ⟨hP1, hD1.weaken (fun _ q _ h => hFc q.1 h), hS1⟩
theorem rx_Sr (B : bx p s m args c cc nL own A D z) (hI : iw D A s w H locs) (hl : ls.size = nL) {r : Nat} (hM : zMet l D z y (.code y bytes maxL ret) rm As w (zQr D r w')) (h1 : Cond.methodLink own index y ∈ zT) (h2 : Cond.static y ∈ zT) (h4 : Cond.initialized y.cls ∈ zT) (h5 : Cond.code y bytes maxL ret ∈ zT) (hd : y.cls ≠ "java/lang/invoke/MethodHandle" ∧ y.cls ≠ "java/lang/invoke/VarHandle" ∧ (parseMethodDescriptor y.desc).map (fun d => d.parameters.length) = some n) (hn : As.length = n) (hst : st0 = As.reverse ++ rest) (hrest : (rest.map fun v => v.category).sum ≤ 8) (hdg : decode cc pc = .ok (.invokestatic index, 3)) (hR : rm.frames + 1 ≤ R.frames ∧ 8 + (maxL + 11) + rm.locals ≤ R.locals) (hrc : rm.cells = 0) (hrs : rm.slots = 0) (hcs : cells ≤ R.cells ∧ slots ≤ R.slots)
    (kk : ∀ (H1 : Heap) (locs1 : List Loc), iw D A s w' H1 locs1 → W p l e R s m args below meth c H1 locs1 cells slots Q (F0 m (pc + 3) ls (.ref r :: rest))) : W p l e R s m args below meth c H locs cells slots Q (F0 m pc ls st0) := by
  have hFc := iw_free B hI
  obtain ⟨hx, hb, hml, hown, hts, hK, hN, hZ, hA⟩ := id B
  refine va_callr (va_runS (As := As) (rest := rest) ⟨hx, hb, hml, hown, hts⟩ (hM H.size) ⟨callB_of n hts (zGoodT h5) rfl hrc hrs (hts _ h4) (hts _ h1) hd hR, hts _ h2⟩ ⟨zPre_blind _, zPre_call B hI _⟩ rfl hn hl hst (lv_room hrest) hdg ⟨hcs.1, hcs.2⟩) hI.2.2 (fun q _ h => hFc q h) hFc (fun u r1 t H1 locs1 ht hvm hw hB hz1 hk1 hS1 => ?_)
  obtain ⟨e9, hP1, hD1⟩ := hB
  subst e9
  rw [ht] at hP1
  exact kk H1 locs1 ⟨hP1, hD1.weaken (fun _ q _ h => hFc q.1 h), hS1⟩
theorem rx_Mi (B : bx p s m args c cc nL own A D z) (hI : iw D A s w H locs) (hl : ls.size = nL) {r : Int32} (hM : zMet l D z y (.code y bytes maxL ret) rm As w (zQi D r w')) (h1 : Cond.methodLinkNest own index y host ∈ zN) (h2 : Cond.static y ∈ zT) (h4 : Cond.initialized y.cls ∈ zT) (h5 : Cond.code y bytes maxL ret ∈ zT) (hd : y.cls ≠ "java/lang/invoke/MethodHandle" ∧ y.cls ≠ "java/lang/invoke/VarHandle" ∧ (parseMethodDescriptor y.desc).map (fun d => d.parameters.length) = some n) (hn : As.length = n) (hst : st0 = As.reverse ++ rest) (hrest : (rest.map fun v => v.category).sum ≤ 8) (hdg : decode cc pc = .ok (.invokestatic index, 3)) (hR : rm.frames + 1 ≤ R.frames ∧ 8 + (maxL + 11) + rm.locals ≤ R.locals) (hrc : rm.cells = 0) (hrs : rm.slots = 0) (hcs : cells ≤ R.cells ∧ slots ≤ R.slots)
    (kk : ∀ (H1 : Heap) (locs1 : List Loc), iw D A s w' H1 locs1 → W p l e R s m args below meth c H1 locs1 cells slots Q (F0 m (pc + 3) ls (.int r :: rest))) : W p l e R s m args below meth c H locs cells slots Q (F0 m pc ls st0) := by
  have hFc := iw_free B hI
  obtain ⟨hx, hb, hml, hown, hts, hK, hN, hZ, hA⟩ := id B
  refine va_calli (va_runSN (As := As) (rest := rest) ⟨hx, hb, hml, hown, hts⟩ (hM H.size) ⟨va_cnB n hts (zGoodT h5) rfl hrc hrs (hN _ h1) (hts _ h4) hd hR, hts _ h2, trivial⟩ ⟨zPre_blind _, zPre_call B hI _⟩ rfl hn hl hst (lv_room hrest) hdg ⟨hcs.1, hcs.2⟩) hI.2.2 (fun q _ h => hFc q h) hFc (fun r1 u t H1 locs1 ht hvm hw hB hz1 hk1 hS1 => ?_)
  subst hw
  obtain ⟨hP1, hD1⟩ := hB
  rw [ht] at hP1
  exact kk H1 locs1 ⟨hP1, hD1.weaken (fun _ q _ h => hFc q.1 h), hS1⟩
theorem rx_Ml (B : bx p s m args c cc nL own A D z) (hI : iw D A s w H locs) (hl : ls.size = nL) {r : Int64} (hM : zMet l D z y (.code y bytes maxL ret) rm As w (zQl D r w')) (h1 : Cond.methodLinkNest own index y host ∈ zN) (h2 : Cond.static y ∈ zT) (h4 : Cond.initialized y.cls ∈ zT) (h5 : Cond.code y bytes maxL ret ∈ zT) (hd : y.cls ≠ "java/lang/invoke/MethodHandle" ∧ y.cls ≠ "java/lang/invoke/VarHandle" ∧ (parseMethodDescriptor y.desc).map (fun d => d.parameters.length) = some n) (hn : As.length = n) (hst : st0 = As.reverse ++ rest) (hrest : (rest.map fun v => v.category).sum ≤ 8) (hdg : decode cc pc = .ok (.invokestatic index, 3)) (hR : rm.frames + 1 ≤ R.frames ∧ 8 + (maxL + 11) + rm.locals ≤ R.locals) (hrc : rm.cells = 0) (hrs : rm.slots = 0) (hcs : cells ≤ R.cells ∧ slots ≤ R.slots)
    (kk : ∀ (H1 : Heap) (locs1 : List Loc), iw D A s w' H1 locs1 → W p l e R s m args below meth c H1 locs1 cells slots Q (F0 m (pc + 3) ls (.long r :: rest))) : W p l e R s m args below meth c H locs cells slots Q (F0 m pc ls st0) := by
  have hFc := iw_free B hI
  obtain ⟨hx, hb, hml, hown, hts, hK, hN, hZ, hA⟩ := id B
  refine va_calll (va_runSN (As := As) (rest := rest) ⟨hx, hb, hml, hown, hts⟩ (hM H.size) ⟨va_cnB n hts (zGoodT h5) rfl hrc hrs (hN _ h1) (hts _ h4) hd hR, hts _ h2, trivial⟩ ⟨zPre_blind _, zPre_call B hI _⟩ rfl hn hl hst (lv_room hrest) hdg ⟨hcs.1, hcs.2⟩) hI.2.2 (fun q _ h => hFc q h) hFc (fun r1 u t H1 locs1 ht hvm hw hB hz1 hk1 hS1 => ?_)
  subst hw
  obtain ⟨hP1, hD1⟩ := hB
  rw [ht] at hP1
  exact kk H1 locs1 ⟨hP1, hD1.weaken (fun _ q _ h => hFc q.1 h), hS1⟩
theorem rx_Mv (B : bx p s m args c cc nL own A D z) (hI : iw D A s w H locs) (hl : ls.size = nL)  (hM : zMet l D z y (.code y bytes maxL ret) rm As w (zQv D w')) (h1 : Cond.methodLinkNest own index y host ∈ zN) (h2 : Cond.static y ∈ zT) (h4 : Cond.initialized y.cls ∈ zT) (h5 : Cond.code y bytes maxL ret ∈ zT) (hd : y.cls ≠ "java/lang/invoke/MethodHandle" ∧ y.cls ≠ "java/lang/invoke/VarHandle" ∧ (parseMethodDescriptor y.desc).map (fun d => d.parameters.length) = some n) (hn : As.length = n) (hst : st0 = As.reverse ++ rest) (hrest : (rest.map fun v => v.category).sum ≤ 8) (hdg : decode cc pc = .ok (.invokestatic index, 3)) (hR : rm.frames + 1 ≤ R.frames ∧ 8 + (maxL + 11) + rm.locals ≤ R.locals) (hrc : rm.cells = 0) (hrs : rm.slots = 0) (hcs : cells ≤ R.cells ∧ slots ≤ R.slots)
    (kk : ∀ (H1 : Heap) (locs1 : List Loc), iw D A s w' H1 locs1 → W p l e R s m args below meth c H1 locs1 cells slots Q (F0 m (pc + 3) ls (rest))) : W p l e R s m args below meth c H locs cells slots Q (F0 m pc ls st0) := by
  have hFc := iw_free B hI
  obtain ⟨hx, hb, hml, hown, hts, hK, hN, hZ, hA⟩ := id B
  refine va_callv (va_runSN (As := As) (rest := rest) ⟨hx, hb, hml, hown, hts⟩ (hM H.size) ⟨va_cnB n hts (zGoodT h5) rfl hrc hrs (hN _ h1) (hts _ h4) hd hR, hts _ h2, trivial⟩ ⟨zPre_blind _, zPre_call B hI _⟩ rfl hn hl hst (lv_room hrest) hdg ⟨hcs.1, hcs.2⟩) hI.2.2 (fun q _ h => hFc q h) hFc (fun u t H1 locs1 ht hvm hw hB hz1 hk1 hS1 => ?_)
  obtain ⟨hP1, hD1⟩ := hB
  rw [ht] at hP1
  exact kk H1 locs1 ⟨hP1, hD1.weaken (fun _ q _ h => hFc q.1 h), hS1⟩
theorem rx_Mr (B : bx p s m args c cc nL own A D z) (hI : iw D A s w H locs) (hl : ls.size = nL) {r : Nat} (hM : zMet l D z y (.code y bytes maxL ret) rm As w (zQr D r w')) (h1 : Cond.methodLinkNest own index y host ∈ zN) (h2 : Cond.static y ∈ zT) (h4 : Cond.initialized y.cls ∈ zT) (h5 : Cond.code y bytes maxL ret ∈ zT) (hd : y.cls ≠ "java/lang/invoke/MethodHandle" ∧ y.cls ≠ "java/lang/invoke/VarHandle" ∧ (parseMethodDescriptor y.desc).map (fun d => d.parameters.length) = some n) (hn : As.length = n) (hst : st0 = As.reverse ++ rest) (hrest : (rest.map fun v => v.category).sum ≤ 8) (hdg : decode cc pc = .ok (.invokestatic index, 3)) (hR : rm.frames + 1 ≤ R.frames ∧ 8 + (maxL + 11) + rm.locals ≤ R.locals) (hrc : rm.cells = 0) (hrs : rm.slots = 0) (hcs : cells ≤ R.cells ∧ slots ≤ R.slots)
    (kk : ∀ (H1 : Heap) (locs1 : List Loc), iw D A s w' H1 locs1 → W p l e R s m args below meth c H1 locs1 cells slots Q (F0 m (pc + 3) ls (.ref r :: rest))) : W p l e R s m args below meth c H locs cells slots Q (F0 m pc ls st0) := by
  have hFc := iw_free B hI
  obtain ⟨hx, hb, hml, hown, hts, hK, hN, hZ, hA⟩ := id B
  refine va_callr (va_runSN (As := As) (rest := rest) ⟨hx, hb, hml, hown, hts⟩ (hM H.size) ⟨va_cnB n hts (zGoodT h5) rfl hrc hrs (hN _ h1) (hts _ h4) hd hR, hts _ h2, trivial⟩ ⟨zPre_blind _, zPre_call B hI _⟩ rfl hn hl hst (lv_room hrest) hdg ⟨hcs.1, hcs.2⟩) hI.2.2 (fun q _ h => hFc q h) hFc (fun u r1 t H1 locs1 ht hvm hw hB hz1 hk1 hS1 => ?_)
  obtain ⟨e9, hP1, hD1⟩ := hB
  subst e9
  rw [ht] at hP1
  exact kk H1 locs1 ⟨hP1, hD1.weaken (fun _ q _ h => hFc q.1 h), hS1⟩
end ZC
theorem zM_i {l : Launch} {D : va_G} {z : zZ} {y : MethodName} {cc : ByteArray} {maxL : Nat} {ret : Option FieldType} {rm : Room} {own : String} (av : List Value) (w : va_W) (r : Int32) (w' : va_W) (hy : plainName y.cls = true) (ho : y.cls = own) (hsz : (lg_sl av).length ≤ maxL)
    (body : ∀ (p : Program) (e : Env) (s : State) (m : MethodId) (args : Array Value) (below : List Frame) (meth : Method) (c : Code) (A : Nat → Prop) (ls : Array Slot), bx p s m args c cc maxL own A D z → meth.sig.returnType = ret → meth.locks = false → iw D A s w s.heap [] → lv_has ls maxL (lv_args 0 av) → W p l e rm s m args below meth c s.heap [] 0 0 (MQ below (zQi D r w' A) args s 0 0 A) (F0 m 0 ls [])) : zMet l D z y (.code y cc maxL ret) rm av w (zQi D r w') := by
  intro sz
  refine Met.ofW (cc := cc) (maxL := maxL) (ret := ret) hy rfl ?_
  intro p e s m args below meth c s₁ B hml hv
  obtain ⟨rfl, hsz0, hP, hK, hD0, hN, hZ⟩ := hv
  subst ho
  subst hsz0
  have hl := lv_entry av (n := maxL) hsz
  rw [lg_entry_eq]
  exact body p e s m _ below meth c _ _ ⟨B.exec, B.bytes, hml, findClass_of_methodNamed B.named, fun w hw => atoms_spec (ws := _ :: zT) B.pre w (List.mem_cons_of_mem _ hw), hK, hN, hZ, fun q h => Or.inr h⟩ B.returns B.notSynchronized ⟨hP, hD0.self, va_S.rf⟩ hl
theorem zM_l {l : Launch} {D : va_G} {z : zZ} {y : MethodName} {cc : ByteArray} {maxL : Nat} {ret : Option FieldType} {rm : Room} {own : String} (av : List Value) (w : va_W) (r : Int64) (w' : va_W) (hy : plainName y.cls = true) (ho : y.cls = own) (hsz : (lg_sl av).length ≤ maxL)
    (body : ∀ (p : Program) (e : Env) (s : State) (m : MethodId) (args : Array Value) (below : List Frame) (meth : Method) (c : Code) (A : Nat → Prop) (ls : Array Slot), bx p s m args c cc maxL own A D z → meth.sig.returnType = ret → meth.locks = false → iw D A s w s.heap [] → lv_has ls maxL (lv_args 0 av) → W p l e rm s m args below meth c s.heap [] 0 0 (MQ below (zQl D r w' A) args s 0 0 A) (F0 m 0 ls [])) : zMet l D z y (.code y cc maxL ret) rm av w (zQl D r w') := by
  intro sz
  refine Met.ofW (cc := cc) (maxL := maxL) (ret := ret) hy rfl ?_
  intro p e s m args below meth c s₁ B hml hv
  obtain ⟨rfl, hsz0, hP, hK, hD0, hN, hZ⟩ := hv
  subst ho
  subst hsz0
  have hl := lv_entry av (n := maxL) hsz
  rw [lg_entry_eq]
  exact body p e s m _ below meth c _ _ ⟨B.exec, B.bytes, hml, findClass_of_methodNamed B.named, fun w hw => atoms_spec (ws := _ :: zT) B.pre w (List.mem_cons_of_mem _ hw), hK, hN, hZ, fun q h => Or.inr h⟩ B.returns B.notSynchronized ⟨hP, hD0.self, va_S.rf⟩ hl
theorem zM_v {l : Launch} {D : va_G} {z : zZ} {y : MethodName} {cc : ByteArray} {maxL : Nat} {ret : Option FieldType} {rm : Room} {own : String} (av : List Value) (w : va_W) (w' : va_W) (hy : plainName y.cls = true) (ho : y.cls = own) (hsz : (lg_sl av).length ≤ maxL)
    (body : ∀ (p : Program) (e : Env) (s : State) (m : MethodId) (args : Array Value) (below : List Frame) (meth : Method) (c : Code) (A : Nat → Prop) (ls : Array Slot), bx p s m args c cc maxL own A D z → meth.sig.returnType = ret → meth.locks = false → iw D A s w s.heap [] → lv_has ls maxL (lv_args 0 av) → W p l e rm s m args below meth c s.heap [] 0 0 (MQ below (zQv D w' A) args s 0 0 A) (F0 m 0 ls [])) : zMet l D z y (.code y cc maxL ret) rm av w (zQv D w') := by
  intro sz
  refine Met.ofW (cc := cc) (maxL := maxL) (ret := ret) hy rfl ?_
  intro p e s m args below meth c s₁ B hml hv
  obtain ⟨rfl, hsz0, hP, hK, hD0, hN, hZ⟩ := hv
  subst ho
  subst hsz0
  have hl := lv_entry av (n := maxL) hsz
  rw [lg_entry_eq]
  exact body p e s m _ below meth c _ _ ⟨B.exec, B.bytes, hml, findClass_of_methodNamed B.named, fun w hw => atoms_spec (ws := _ :: zT) B.pre w (List.mem_cons_of_mem _ hw), hK, hN, hZ, fun q h => Or.inr h⟩ B.returns B.notSynchronized ⟨hP, hD0.self, va_S.rf⟩ hl
theorem zM_r {l : Launch} {D : va_G} {z : zZ} {y : MethodName} {cc : ByteArray} {maxL : Nat} {ret : Option FieldType} {rm : Room} {own : String} (av : List Value) (w : va_W) (r : Nat) (w' : va_W) (hy : plainName y.cls = true) (ho : y.cls = own) (hsz : (lg_sl av).length ≤ maxL)
    (body : ∀ (p : Program) (e : Env) (s : State) (m : MethodId) (args : Array Value) (below : List Frame) (meth : Method) (c : Code) (A : Nat → Prop) (ls : Array Slot), bx p s m args c cc maxL own A D z → meth.sig.returnType = ret → meth.locks = false → iw D A s w s.heap [] → lv_has ls maxL (lv_args 0 av) → W p l e rm s m args below meth c s.heap [] 0 0 (MQ below (zQr D r w' A) args s 0 0 A) (F0 m 0 ls [])) : zMet l D z y (.code y cc maxL ret) rm av w (zQr D r w') := by
  intro sz
  refine Met.ofW (cc := cc) (maxL := maxL) (ret := ret) hy rfl ?_
  intro p e s m args below meth c s₁ B hml hv
  obtain ⟨rfl, hsz0, hP, hK, hD0, hN, hZ⟩ := hv
  subst ho
  subst hsz0
  have hl := lv_entry av (n := maxL) hsz
  rw [lg_entry_eq]
  exact body p e s m _ below meth c _ _ ⟨B.exec, B.bytes, hml, findClass_of_methodNamed B.named, fun w hw => atoms_spec (ws := _ :: zT) B.pre w (List.mem_cons_of_mem _ hw), hK, hN, hZ, fun q h => Or.inr h⟩ B.returns B.notSynchronized ⟨hP, hD0.self, va_S.rf⟩ hl
section ZR
variable {p : Program} {l : Launch} {e : Env} {R : Room} {s : State} {m : MethodId} {args : Array Value} {below : List Frame} {meth : Method} {c : Code} {H : Heap} {locs : List Loc}
variable {cc : ByteArray} {nL : Nat} {own : String} {A : Nat → Prop} {D : va_G} {z : zZ} {w : va_W} {pc : Nat} {ls : Array Slot}
theorem zr_i (B : bx p s m args c cc nL own A D z) (hI : iw D A s w H locs) (hr : meth.sig.returnType = some .int) (hlk : meth.locks = false) {v r : Int32} (e1 : v = r) (hdg : decode cc pc = .ok (.ireturn, 1)) : W p l e R s m args below meth c H locs 0 0 (MQ below (zQi D r w A) args s 0 0 A) (F0 m pc ls [.int v]) := by
  subst e1
  exact W.iret (v := v) B.1 B.2.1 hr (fun t ht hW => ⟨⟨v, (), rfl, rfl, by rw [ht]; exact hI.1, hI.2.1⟩, hI.2.2.F ht⟩) hI.2.2.2.2 hdg hlk
theorem zr_z (B : bx p s m args c cc nL own A D z) (hI : iw D A s w H locs) (hr : meth.sig.returnType = some .boolean) (hlk : meth.locks = false) {v r : Int32} (hz : zbz v) (e1 : v = r) (hdg : decode cc pc = .ok (.ireturn, 1)) : W p l e R s m args below meth c H locs 0 0 (MQ below (zQi D r w A) args s 0 0 A) (F0 m pc ls [.int v]) := by
  subst e1
  exact W.zret (v := v) B.1 B.2.1 hr (znar hz) (fun t ht hW => ⟨⟨v, (), rfl, rfl, by rw [ht]; exact hI.1, hI.2.1⟩, hI.2.2.F ht⟩) hI.2.2.2.2 hdg hlk
theorem zr_l (B : bx p s m args c cc nL own A D z) (hI : iw D A s w H locs) (hr : meth.sig.returnType = some .long) (hlk : meth.locks = false) {v r : Int64} (e1 : v = r) (hdg : decode cc pc = .ok (.lreturn, 1)) : W p l e R s m args below meth c H locs 0 0 (MQ below (zQl D r w A) args s 0 0 A) (F0 m pc ls [.long v]) := by
  subst e1
  exact W.lret (v := v) B.1 B.2.1 hr (fun t ht hW => ⟨⟨v, (), rfl, rfl, by rw [ht]; exact hI.1, hI.2.1⟩, hI.2.2.F ht⟩) hI.2.2.2.2 hdg hlk
theorem zr_v (B : bx p s m args c cc nL own A D z) (hI : iw D A s w H locs) (hr : meth.sig.returnType = none) (hlk : meth.locks = false) (hdg : decode cc pc = .ok (.return_, 1)) : W p l e R s m args below meth c H locs 0 0 (MQ below (zQv D w A) args s 0 0 A) (F0 m pc ls []) :=
  W.vret B.1 B.2.1 hr (fun t ht hW => ⟨⟨(), rfl, trivial, by rw [ht]; exact hI.1, hI.2.1⟩, hI.2.2.F ht⟩) hI.2.2.2.2 hdg hlk
theorem zr_r (B : bx p s m args c cc nL own A D z) (hI : iw D A s w H locs) {C : String} (hr : meth.sig.returnType = some (.object C)) (hlk : meth.locks = false) {v r : Nat} (e1 : v = r) (hdg : decode cc pc = .ok (.areturn, 1)) : W p l e R s m args below meth c H locs 0 0 (MQ below (zQr D r w A) args s 0 0 A) (F0 m pc ls [.ref v]) := by
  subst e1
  exact W.aret (v := .ref v) B.1 B.2.1 hr (Or.inl ⟨C, rfl⟩) (Or.inr ⟨v, rfl⟩) (fun t ht hW => ⟨⟨(), v, rfl, trivial, rfl, by rw [ht]; exact hI.1, hI.2.1⟩, hI.2.2.F ht⟩) hI.2.2.2.2 hdg hlk
end ZR
end
section
/-! base2: rows for constructors -/
def zu0 : zU := (fun _ => 0, fun _ => 0, fun _ _ => 0, fun _ _ => 0)
def zMetK (l : Launch) (D : va_G) (z : zZ) (y : MethodName) (cw : Cond) (rm : Room) (av : List Value) (w : va_W) (mc ms : Nat) (post : (Nat → Nat) → Prop) (sub : (Nat → Nat) → va_W) : Prop :=
  ∀ sz : Nat, Met l y (cw :: zT) rm (va_Pc av (fun U => U.heap.size = sz ∧ zPre D z w U)) (va_Qv post (fun ad t => va_P D zcl (sub ad) t.heap ∧ va_D (va_A w sz) (sub ad)) (va_A w sz)) mc ms (va_A w sz)
section ZK
variable {p : Program} {l : Launch} {e : Env} {R : Room} {s : State} {m : MethodId} {args : Array Value} {below : List Frame} {meth : Method} {c : Code} {H : Heap} {locs : List Loc} {cells slots : Nat} {Q : State → Prop}
variable {cc bytes : ByteArray} {nL maxL n index : Nat} {own C host : String} {A : Nat → Prop} {D : va_G} {z : zZ} {w w' : va_W} {pc : Nat} {ls : Array Slot} {As rest st0 : List Value} {y : MethodName} {rm : Room} {b mc ms : Nat}
theorem rx_new (B : bx p s m args c cc nL own A D z) (hI : iw D A s w H locs) {T : u_T} {N ci : Nat} (hcl : zcl[ci]? = some (C, T, N)) (hin : ∀ w ∈ u_ws C T N, w ∈ zT) {ty0 : Nat → FieldType} (hty : ∀ k, k < N → parseFieldDescriptor (T k).2.2.1 = some (ty0 k)) (h1 : Cond.classLink own index C ∈ zT) (h2 : Cond.instantiable C N ∈ zT) (h3 : Cond.initialized C ∈ zT) {fs : List Value} (hfs : ∀ j, j < N → defaultValue (ty0 j) = vp_V fs j) (hc : cells + 1 ≤ R.cells) (hs : slots + N ≤ R.slots) (hdg : decode cc pc = .ok (.new index, 3))
    (kk : ∀ (q : Nat) (H1 : Heap), iw D A s (w ++ [(q, .inr (ci, fs))]) H1 locs → W p l e R s m args below meth c H1 locs (cells + 1) (slots + N) Q (F0 m (pc + 3) ls (.ref q :: rest))) : W p l e R s m args below meth c H locs cells slots Q (F0 m pc ls rest) := by
  obtain ⟨hx, hb, hml, hown, hts, hK, hN, hZ, hA⟩ := B
  exact va_new (D := D) (cl := zcl) hx hb hts hin ty0 hty hown (hts _ h1) (hts _ h2) (hts _ h3) hK hI.1 hI.2.1 hI.2.2 hA hcl hfs hc hs hdg (fun q H1 a1 a2 a3 => kk q H1 ⟨a1, a2, a3⟩)
theorem rx_newc (B : bx p s m args c cc nL own A D z) (hI : iw D A s w H locs) {T : u_T} {N ci : Nat} (hcl : zcl[ci]? = some (C, T, N)) (hin : ∀ w ∈ u_ws C T N, w ∈ zT) {ty0 : Nat → FieldType} (hty : ∀ k, k < N → parseFieldDescriptor (T k).2.2.1 = some (ty0 k)) (h1 : Cond.classLink own index C ∈ zT) (h2 : Cond.instantiable C N ∈ zT) (h3 : Cond.initialized C ∈ zT) {fs : List Value} (hfs : (List.range N).all (fun j => decide (defaultValue (ty0 j) = vp_V fs j)) = true) (hc : cells + 1 ≤ R.cells) (hs : slots + N ≤ R.slots) (hdg : decode cc pc = .ok (.new index, 3))
    (kk : ∀ (q : Nat) (H1 : Heap), iw D A s (w ++ [(q, .inr (ci, fs))]) H1 locs → W p l e R s m args below meth c H1 locs (cells + 1) (slots + N) Q (F0 m (pc + 3) ls (.ref q :: rest))) : W p l e R s m args below meth c H locs cells slots Q (F0 m pc ls rest) :=
  rx_new B hI hcl hin hty h1 h2 h3 (fun j hj => by simpa using List.all_eq_true.mp hfs j (List.mem_range.mpr hj)) hc hs hdg kk
theorem rx_objInit (B : bx p s m args c cc nL own A D z) (hl : ls.size = nL) (h1 : Cond.methodLink own index Lib.objectInit ∈ zT) (h2 : Cond.instanceMethod Lib.objectInit ∈ zT) (h3 : Cond.code Lib.objectInit ⟨#[0xb1]⟩ 1 none ∈ zT) (hdg : decode cc pc = .ok (.invokespecial index, 3)) (hframes : 1 ≤ R.frames) (hlocals : (rest.map fun v => v.category).sum + 12 ≤ R.locals)
    (kk : W p l e R s m args below meth c H locs cells slots Q (F0 m (pc + 3) ls rest)) : W p l e R s m args below meth c H locs cells slots Q (F0 m pc ls (.ref b :: rest)) := by
  obtain ⟨hx, hb, hml, hown, hts, hK, hN, hZ, hA⟩ := B
  exact W.objInit hx hb hown (hts _ h1) (hts _ h2) (hts _ h3) rfl (by rw [hml]; exact hl) rfl hdg hframes (by have h9 : (F0 m pc ls (.ref b :: rest)).monitorRoom = 0 := rfl; rw [h9]; omega) kk
theorem rx_putF (B : bx p s m args c cc nL own A D z) (hI : iw D A s w H locs) {T : u_T} {N ci a : Nat} (hcl : zcl[ci]? = some (C, T, N)) (hin : ∀ w ∈ u_ws C T N, w ∈ zT) {ty0 : Nat → FieldType} (hty : ∀ k, k < N → parseFieldDescriptor (T k).2.2.1 = some (ty0 k)) (hnm : ∀ a, a < N → ∀ b, b < N → a ≠ b → (T a).2.1 ≠ (T b).2.1) (q0 : Nat) {fs : List Value} (he : w[q0]? = some (a, .inr (ci, fs))) (k : Nat) (hk : k < N) {c1 n1 d1 : String} {f1 : Bool} (hT : T k = (c1, n1, d1, f1)) (hl : Cond.fieldLink own index c1 n1 d1 ∈ zT) (hfin : f1 = true) (hin2 : meth.name = "<init>") (hdecl : c1 = own) {ty : FieldType} {v : Value} (hd : parseFieldDescriptor d1 = some ty) (hn : narrow ty v = v) (hfit : fits ty v = true) (hlen : k < fs.length) (hw : w.set q0 (a, .inr (ci, fs.set k v)) = w') (hdg : decode cc pc = .ok (.putfield index, 3))
    (kk : ∀ (H1 : Heap) (locs1 : List Loc), iw D A s w' H1 locs1 → W p l e R s m args below meth c H1 locs1 cells slots Q (F0 m (pc + 3) ls rest)) : W p l e R s m args below meth c H locs cells slots Q (F0 m pc ls (v :: .ref a :: rest)) := by
  obtain ⟨hx, hb, hml, hown, hts, hK, hN, hZ, hA⟩ := B
  subst hw
  exact va_putF (D := D) (cl := zcl) hx hb hts hin ty0 hty hnm hown hK hI.1 hI.2.1 hI.2.2 q0 he hcl k hk (by rw [hT]; exact hts _ hl) (fun _ h => h) (by rw [hT]; exact hfin) hin2 (by rw [hT]; exact hdecl) (by rw [hT]; exact hd) hn hfit hlen hdg (fun H1 locs1 h1 h2 h3 => kk H1 locs1 ⟨h1, h2, h3⟩)
theorem rx_newai (B : bx p s m args c cc nL own A D z) (hI : iw D A s w H locs) (h1 : Cond.arrayClass .int ∈ zT) {k : Int32} (N' : Nat) (hn : ¬ k < 0) (hN : k.toNatClampNeg = N') (hbytes : N' * componentBytes .int ≤ 536870912) (hc : cells + 1 ≤ R.cells) (hs : slots + N' ≤ R.slots) (hdg : decode cc pc = .ok (.newarray .int, 2))
    (kk : ∀ (q : Nat) (H1 : Heap), iw D A s (w ++ [(q, .inl (z.1, N', .inl (fun _ => 0)))]) H1 locs → W p l e R s m args below meth c H1 locs (cells + 1) (slots + N') Q (F0 m (pc + 2) ls (.ref q :: rest))) : W p l e R s m args below meth c H locs cells slots Q (F0 m pc ls (.int k :: rest)) := by
  obtain ⟨hx, hb, hml, hown, hts, hK, hN0, hZ, hA⟩ := B
  refine va_newa (D := D) (cl := zcl) hx hb (atype := .int) (ty := .int) (hts _ h1) rfl hK hI.1 hI.2.1 hI.2.2 hA (a0 := (N', .inl (fun _ => 0))) (fun _ => rfl) hn hN hbytes hc hs hdg (fun q cA H1 hK1 a1 a2 a3 => ?_)
  have e1 := (hK.2 0 (z.1, .int) rfl).2
  have e2 := (hK1.2 3 (cA, .int) rfl).2
  have e3 : z.1 = cA := Option.some.inj (e1.symm.trans e2)
  subst e3
  exact kk q H1 ⟨a1, a2, a3⟩
theorem rx_newaz (B : bx p s m args c cc nL own A D z) (hI : iw D A s w H locs) (h1 : Cond.arrayClass .boolean ∈ zT) {k : Int32} (N' : Nat) (hn : ¬ k < 0) (hN : k.toNatClampNeg = N') (hbytes : N' * componentBytes .boolean ≤ 536870912) (hc : cells + 1 ≤ R.cells) (hs : slots + N' ≤ R.slots) (hdg : decode cc pc = .ok (.newarray .boolean, 2))
    (kk : ∀ (q : Nat) (H1 : Heap), iw D A s (w ++ [(q, .inl (z.2.1, N', .inl (fun _ => 0)))]) H1 locs → W p l e R s m args below meth c H1 locs (cells + 1) (slots + N') Q (F0 m (pc + 2) ls (.ref q :: rest))) : W p l e R s m args below meth c H locs cells slots Q (F0 m pc ls (.int k :: rest)) := by
  obtain ⟨hx, hb, hml, hown, hts, hK, hN0, hZ, hA⟩ := B
  refine va_newa (D := D) (cl := zcl) hx hb (atype := .boolean) (ty := .boolean) (hts _ h1) rfl hK hI.1 hI.2.1 hI.2.2 hA (a0 := (N', .inl (fun _ => 0))) (fun _ => rfl) hn hN hbytes hc hs hdg (fun q cA H1 hK1 a1 a2 a3 => ?_)
  have e1 := (hK.2 1 (z.2.1, .boolean) rfl).2
  have e2 := (hK1.2 3 (cA, .boolean) rfl).2
  have e3 : z.2.1 = cA := Option.some.inj (e1.symm.trans e2)
  subst e3
  exact kk q H1 ⟨a1, a2, a3⟩
theorem rx_newal (B : bx p s m args c cc nL own A D z) (hI : iw D A s w H locs) (h1 : Cond.arrayClass .long ∈ zT) {k : Int32} (N' : Nat) (hn : ¬ k < 0) (hN : k.toNatClampNeg = N') (hbytes : N' * componentBytes .long ≤ 536870912) (hc : cells + 1 ≤ R.cells) (hs : slots + N' ≤ R.slots) (hdg : decode cc pc = .ok (.newarray .long, 2))
    (kk : ∀ (q : Nat) (H1 : Heap), iw D A s (w ++ [(q, .inl (z.2.2, N', .inr (.inl (fun _ => 0))))]) H1 locs → W p l e R s m args below meth c H1 locs (cells + 1) (slots + N') Q (F0 m (pc + 2) ls (.ref q :: rest))) : W p l e R s m args below meth c H locs cells slots Q (F0 m pc ls (.int k :: rest)) := by
  obtain ⟨hx, hb, hml, hown, hts, hK, hN0, hZ, hA⟩ := B
  refine va_newa (D := D) (cl := zcl) hx hb (atype := .long) (ty := .long) (hts _ h1) rfl hK hI.1 hI.2.1 hI.2.2 hA (a0 := (N', .inr (.inl (fun _ => 0)))) (fun _ => rfl) hn hN hbytes hc hs hdg (fun q cA H1 hK1 a1 a2 a3 => ?_)
  have e1 := (hK.2 2 (z.2.2, .long) rfl).2
  have e2 := (hK1.2 3 (cA, .long) rfl).2
  have e3 : z.2.2 = cA := Option.some.inj (e1.symm.trans e2)
  subst e3
  exact kk q H1 ⟨a1, a2, a3⟩
theorem rx_ctorI (B : bx p s m args c cc nL own A D z) (hI : iw D A s w H locs) (hl : ls.size = nL) {e0 : va_E} {post : (Nat → Nat) → Prop} {sub : (Nat → Nat) → va_W} (hM : zMetK l D z y (.code y bytes maxL none) rm (.ref b :: As) [(b, e0)] mc ms post sub) (h1 : Cond.methodLink own index y ∈ zT) (h2 : Cond.instanceMethod y ∈ zT) (h4 : Cond.initialized y.cls ∈ zT) (h5 : Cond.code y bytes maxL none ∈ zT) (hy1 : y.name = "<init>") (hd : y.cls ≠ "java/lang/invoke/MethodHandle" ∧ y.cls ≠ "java/lang/invoke/VarHandle" ∧ (parseMethodDescriptor y.desc).map (fun d => d.parameters.length) = some n) (q0 : Nat) (hq : w[q0]? = some (b, e0)) (isR : List Nat) (wr : va_W) (hR0 : isR.map (fun i => w[i]?) = wr.map some) (hnd : va_nd isR = true) (hdis : ∀ i ∈ isR, i ∉ [q0]) (hn : As.length = n) (hst : st0 = As.reverse ++ .ref b :: rest) (hrest : (rest.map fun v => v.category).sum ≤ 8) (hdg : decode cc pc = .ok (.invokespecial index, 3)) (hR : rm.frames + 1 ≤ R.frames ∧ 8 + (maxL + 11) + rm.locals ≤ R.locals) (hrc : rm.cells = mc) (hrs : rm.slots = ms) (hcs : cells + mc ≤ R.cells ∧ slots + ms ≤ R.slots)
    (kk : ∀ (ad : Nat → Nat) (H1 : Heap) (locs1 : List Loc), post ad → iw D A s (wr ++ sub ad) H1 locs1 → W p l e R s m args below meth c H1 locs1 (cells + mc) (slots + ms) Q (F0 m (pc + 3) ls rest)) : W p l e R s m args below meth c H locs cells slots Q (F0 m pc ls st0) := by
  have hI2 : iw D A s [(b, e0)] H locs := ⟨hI.1.sub [q0] (by simp [hq]), hI.2.1.sub [q0] (by simp [va_nd]) (by simp [hq]), hI.2.2⟩
  have hFc := iw_free B hI2
  obtain ⟨hx, hb, hml, hown, hts, hK, hN, hZ, hA⟩ := id B
  refine va_callv (va_runI (As := As) (rest := rest) ⟨hx, hb, hml, hown, hts⟩ (hM H.size) ⟨callB_of n hts (zGoodT h5) rfl hrc hrs (hts _ h4) (hts _ h1) hd hR, hy1, hts _ h2⟩ ⟨zPre_blind _, zPre_call B hI2 _⟩ rfl hn hl hst (lv_room hrest) hdg hcs) hI.2.2 (fun q _ h => hFc q h) hFc (fun ad t H1 locs1 ht hvm hw hB hz1 hk1 hS1 => ?_)
  obtain ⟨hP1, hD1⟩ := hB
  rw [ht] at hP1
  obtain ⟨j1, j2⟩ := va_join (wc := [(b, e0)]) hI.1 hI.2.1 [q0] isR (by simp [hq]) hR0 hnd hdis hk1 hFc hP1 hD1
  exact kk ad H1 locs1 hw ⟨j1, j2, hS1⟩
theorem rx_ctorJ (B : bx p s m args c cc nL own A D z) (hI : iw D A s w H locs) (hl : ls.size = nL) {e0 : va_E} {post : (Nat → Nat) → Prop} {sub : (Nat → Nat) → va_W} (hM : zMetK l D z y (.code y bytes maxL none) rm (.ref b :: As) [(b, e0)] mc ms post sub) (h1 : Cond.methodLinkNest own index y host ∈ zN) (h2 : Cond.instanceMethod y ∈ zT) (h4 : Cond.initialized y.cls ∈ zT) (h5 : Cond.code y bytes maxL none ∈ zT) (hy1 : y.name = "<init>") (hd : y.cls ≠ "java/lang/invoke/MethodHandle" ∧ y.cls ≠ "java/lang/invoke/VarHandle" ∧ (parseMethodDescriptor y.desc).map (fun d => d.parameters.length) = some n) (q0 : Nat) (hq : w[q0]? = some (b, e0)) (isR : List Nat) (wr : va_W) (hR0 : isR.map (fun i => w[i]?) = wr.map some) (hnd : va_nd isR = true) (hdis : ∀ i ∈ isR, i ∉ [q0]) (hn : As.length = n) (hst : st0 = As.reverse ++ .ref b :: rest) (hrest : (rest.map fun v => v.category).sum ≤ 8) (hdg : decode cc pc = .ok (.invokespecial index, 3)) (hR : rm.frames + 1 ≤ R.frames ∧ 8 + (maxL + 11) + rm.locals ≤ R.locals) (hrc : rm.cells = mc) (hrs : rm.slots = ms) (hcs : cells + mc ≤ R.cells ∧ slots + ms ≤ R.slots)
    (kk : ∀ (ad : Nat → Nat) (H1 : Heap) (locs1 : List Loc), post ad → iw D A s (wr ++ sub ad) H1 locs1 → W p l e R s m args below meth c H1 locs1 (cells + mc) (slots + ms) Q (F0 m (pc + 3) ls rest)) : W p l e R s m args below meth c H locs cells slots Q (F0 m pc ls st0) := by
  have hI2 : iw D A s [(b, e0)] H locs := ⟨hI.1.sub [q0] (by simp [hq]), hI.2.1.sub [q0] (by simp [va_nd]) (by simp [hq]), hI.2.2⟩
  have hFc := iw_free B hI2
  obtain ⟨hx, hb, hml, hown, hts, hK, hN, hZ, hA⟩ := id B
  refine va_callv (va_runIN (As := As) (rest := rest) ⟨hx, hb, hml, hown, hts⟩ (hM H.size) ⟨va_cnB n hts (zGoodT h5) rfl hrc hrs (hN _ h1) (hts _ h4) hd hR, hy1, hts _ h2⟩ ⟨zPre_blind _, zPre_call B hI2 _⟩ rfl hn hl hst (lv_room hrest) hdg hcs) hI.2.2 (fun q _ h => hFc q h) hFc (fun ad t H1 locs1 ht hvm hw hB hz1 hk1 hS1 => ?_)
  obtain ⟨hP1, hD1⟩ := hB
  rw [ht] at hP1
  obtain ⟨j1, j2⟩ := va_join (wc := [(b, e0)]) hI.1 hI.2.1 [q0] isR (by simp [hq]) hR0 hnd hdis hk1 hFc hP1 hD1
  exact kk ad H1 locs1 hw ⟨j1, j2, hS1⟩
end ZK
theorem zM_k {l : Launch} {D : va_G} {z : zZ} {y : MethodName} {cc : ByteArray} {maxL : Nat} {rm : Room} {own : String} {mc ms : Nat} (av : List Value) (w : va_W) (post : (Nat → Nat) → Prop) (sub : (Nat → Nat) → va_W) (hy : plainName y.cls = true) (ho : y.cls = own) (hn : y.name = "<init>") (hsz : (lg_sl av).length ≤ maxL)
    (body : ∀ (p : Program) (e : Env) (s : State) (m : MethodId) (args : Array Value) (below : List Frame) (meth : Method) (c : Code) (A : Nat → Prop) (ls : Array Slot), bx p s m args c cc maxL own A D z → meth.sig.returnType = none → meth.locks = false → meth.name = "<init>" → iw D A s w s.heap [] → lv_has ls maxL (lv_args 0 av) → W p l e rm s m args below meth c s.heap [] 0 0 (MQ below (va_Qv post (fun ad t => va_P D zcl (sub ad) t.heap ∧ va_D A (sub ad)) A) args s mc ms A) (F0 m 0 ls [])) : zMetK l D z y (.code y cc maxL none) rm av w mc ms post sub := by
  intro sz
  refine Met.ofW (cc := cc) (maxL := maxL) (ret := none) hy rfl ?_
  intro p e s m args below meth c s₁ B hml hv
  obtain ⟨rfl, hsz0, hP, hK, hD0, hN, hZ⟩ := hv
  subst ho
  subst hsz0
  have hl := lv_entry av (n := maxL) hsz
  rw [lg_entry_eq]
  have hin : meth.name = "<init>" := by rw [(name_of_methodNamed B.named B.method).1]; exact hn
  exact body p e s m _ below meth c _ _ ⟨B.exec, B.bytes, hml, findClass_of_methodNamed B.named, fun w hw => atoms_spec (ws := _ :: zT) B.pre w (List.mem_cons_of_mem _ hw), hK, hN, hZ, fun q h => Or.inr h⟩ B.returns B.notSynchronized hin ⟨hP, hD0.self, va_S.rf⟩ hl
theorem zr_k {p : Program} {l : Launch} {e : Env} {R : Room} {s : State} {m : MethodId} {args : Array Value} {below : List Frame} {meth : Method} {c : Code} {H : Heap} {locs : List Loc} {cc : ByteArray} {nL : Nat} {own : String} {A : Nat → Prop} {D : va_G} {z : zZ} {w : va_W} {pc : Nat} {ls : Array Slot} {cells slots : Nat} {post : (Nat → Nat) → Prop} {sub : (Nat → Nat) → va_W} (B : bx p s m args c cc nL own A D z) (hI : iw D A s w H locs) (hr : meth.sig.returnType = none) (hlk : meth.locks = false) (ad : Nat → Nat) (hp : post ad) (is : List Nat) (h1 : is.filterMap (fun i => w[i]?) = sub ad) (h2 : va_nd is = true) (h3 : is.map (fun i => w[i]?) = (sub ad).map some) (hdg : decode cc pc = .ok (.return_, 1)) : W p l e R s m args below meth c H locs cells slots (MQ below (va_Qv post (fun ad t => va_P D zcl (sub ad) t.heap ∧ va_D A (sub ad)) A) args s cells slots A) (F0 m pc ls []) :=
  W.vret B.1 B.2.1 hr (fun t ht hW => ⟨⟨ad, rfl, hp, by rw [ht]; exact hI.1.sub is h1, hI.2.1.sub is h2 h3⟩, hI.2.2.F ht⟩) hI.2.2.2.2 hdg hlk
end
