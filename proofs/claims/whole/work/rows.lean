section
/-! base: a state of numbers, a world of cells, contracts that keep to one world -/
abbrev zU : Type := (Nat → Int32) × (Nat → Int64) × (Nat → Nat → Int32) × (Nat → Nat → Int64)
abbrev zZ : Type := ClassId × ClassId × ClassId
abbrev zty (z : zZ) : List (ClassId × FieldType) := [(z.1, .int), (z.2.1, .boolean), (z.2.2, .long)]
abbrev gi (u : zU) (k : Nat) : Int32 := u.1 k
abbrev gj (u : zU) (k : Nat) : Int64 := u.2.1 k
abbrev ga (u : zU) (k : Nat) (i : Int32) : Int32 := u.2.2.1 k i.toNatClampNeg
abbrev gb (u : zU) (k : Nat) (i : Int32) : Int64 := u.2.2.2 k i.toNatClampNeg
def si (u : zU) (k : Nat) (v : Int32) : zU := (va_up u.1 k v, u.2)
def sj (u : zU) (k : Nat) (v : Int64) : zU := (u.1, va_up u.2.1 k v, u.2.2)
def sa (u : zU) (k : Nat) (i v : Int32) : zU := (u.1, u.2.1, va_up u.2.2.1 k (upd (u.2.2.1 k) i.toNatClampNeg v), u.2.2.2)
def sb (u : zU) (k : Nat) (i : Int32) (v : Int64) : zU := (u.1, u.2.1, u.2.2.1, va_up u.2.2.2 k (vp_updL (u.2.2.2 k) i.toNatClampNeg v))
abbrev zin (i : Int32) (n : Nat) : Prop := ¬ (i < 0 ∨ n ≤ i.toNatClampNeg)
abbrev zbz (v : Int32) : Prop := v = 0 ∨ v = 1
def zck {α : Type} (c : Prop) [Decidable c] (x : Option α) : Option α := if c then x else none
def zbd {α β : Type} (x : Option (α × zU)) (k : α → zU → Option β) : Option β := match x with
  | none => none
  | some q => k q.1 q.2
theorem zck_some {α : Type} {c : Prop} [Decidable c] {x : Option α} {r : α} (h : zck c x = some r) : c ∧ x = some r := by
  unfold zck at h
  by_cases hc : c
  · rw [if_pos hc] at h; exact ⟨hc, h⟩
  · rw [if_neg hc] at h; cases h
theorem zck_pos {α : Type} {c : Prop} [Decidable c] {x : Option α} (h : c) : zck c x = x := if_pos h
theorem zbd_some {α β : Type} {x : Option (α × zU)} {k : α → zU → Option β} {z : β} (h : zbd x k = some z) : ∃ r u, x = some (r, u) ∧ k r u = some z := by
  unfold zbd at h
  cases x with
  | none => cases h
  | some q => exact ⟨q.1, q.2, rfl, h⟩
theorem zbd_eq {α β : Type} {x : Option (α × zU)} {k : α → zU → Option β} {r : α} {u : zU} (h : x = some (r, u)) : zbd x k = k r u := by rw [h]; rfl
theorem zrt {α : Type} {v r : α} {u t : zU} (h : some (v, u) = some (r, t)) : v = r ∧ u = t := by cases h; exact ⟨rfl, rfl⟩

def t_X_INSTRUCTIONS : List Int32 := [0, 5, 11, 17, 26, 28, 32, 38, 40, 196, 208, 210, 256, 273]
def t_X_MOVED_BYTES : List Int32 := [4, 8, 4, 8, 1, 1, 2, 2, 1, 1, 2, 2, 4, 4, 4, 8, 4, 8, 1, 2, 1, 2, 4]
def t_X_PLAIN : List Int32 := [63, 63, 0, 0, 127, 64, 64, 1, 127, 127, 65, 65, 0, 0, 127, 66, 66, 0, 0, 126, 67, 67, 0, 0, 125, 68, 68, 0, 0, 124, 69, 69, 1, 127, 127, 70, 79, 2, 127, 127, 80, 80, 1, 126, 127, 81, 90, 2, 126, 127, 91, 96, 2, 125, 127, 97, 102, 2, 124, 127, 103, 105, 1, 127, 127, 106, 120, 2, 127, 127, 121, 123, 1, 126, 126, 124, 138, 2, 126, 126, 139, 145, 1, 125, 125, 146, 152, 2, 125, 125, 153, 159, 1, 124, 124, 160, 166, 2, 124, 124, 167, 167, 1, 126, 127, 168, 169, 1, 125, 127, 170, 171, 1, 124, 127, 172, 173, 1, 127, 126, 174, 175, 1, 125, 126, 176, 177, 1, 124, 126, 178, 179, 1, 127, 125, 180, 181, 1, 126, 125, 182, 182, 1, 124, 125, 183, 184, 1, 127, 124, 185, 186, 1, 126, 124, 187, 187, 1, 125, 124, 188, 188, 1, 125, 127, 189, 189, 1, 124, 126, 190, 190, 1, 127, 125, 191, 191, 1, 126, 124, 192, 193, 1, 127, 127, 194, 196, 1, 126, 126, 210, 210, 0, 0, 112, 256, 257, 1, 125, 127, 258, 259, 1, 124, 127, 260, 261, 1, 125, 126, 262, 263, 1, 124, 126, 264, 264, 3, 127, (-1), 266, 268, 3, 127, (-1), 270, 270, 3, 127, (-1), 272, 272, 0, 0, 127]
def t_X_MOVED_TYPE : List Int32 := [127, 126, 125, 124, 127, 127, 127, 127, 126, 126, 126, 126, 126, 126, 127, 126, 125, 124, 127, 127, 126, 126, 126]
def zst : List (String × String × List Int32) := [("CodeChecker", "INSTRUCTIONS", t_X_INSTRUCTIONS), ("CodeChecker", "MOVED_BYTES", t_X_MOVED_BYTES), ("CodeChecker", "PLAIN", t_X_PLAIN), ("CodeChecker", "MOVED_TYPE", t_X_MOVED_TYPE)]
end
section
-- ===== PART A: goes FIRST, ahead of the names: the tables' words, and 'selects' of the private methods out of them =====
/-- a private method of a class that the tables say can be made, by its rows of tables_1 -/
def lw_okq (q : MethodName × Nat) : Prop := (q.1.cls ≠ "java/lang/invoke/MethodHandle" ∧ q.1.cls ≠ "java/lang/invoke/VarHandle") ∧ Cond.instantiable q.1.cls q.2 ∈ tables_1 ∧ Cond.privateMethod q.1 ∈ tables_1 ∧ Cond.instanceMethod q.1 ∈ tables_1
theorem lw_p0 : lw_okq (⟨"CodeChecker$Code", "open", "(IZ)V"⟩, 10) := ⟨⟨by decide +kernel, by decide +kernel⟩, List.mem_of_getElem? (i := 96) (by decide +kernel), List.mem_of_getElem? (i := 276) (by decide +kernel), List.mem_of_getElem? (i := 277) (by decide +kernel)⟩
theorem lw_p1 : lw_okq (⟨"CodeChecker$Stack", "pushBlock", "(II)V"⟩, 10) := ⟨⟨by decide +kernel, by decide +kernel⟩, List.mem_of_getElem? (i := 123) (by decide +kernel), List.mem_of_getElem? (i := 284) (by decide +kernel), List.mem_of_getElem? (i := 285) (by decide +kernel)⟩
theorem lw_p2 : lw_okq (⟨"CodeChecker$Code", "isMalformed", "(II)Z"⟩, 10) := ⟨⟨by decide +kernel, by decide +kernel⟩, List.mem_of_getElem? (i := 96) (by decide +kernel), List.mem_of_getElem? (i := 339) (by decide +kernel), List.mem_of_getElem? (i := 340) (by decide +kernel)⟩
theorem lw_p3 : lw_okq (⟨"CodeChecker$Code", "mayStandInConstant", "(II)Z"⟩, 10) := ⟨⟨by decide +kernel, by decide +kernel⟩, List.mem_of_getElem? (i := 96) (by decide +kernel), List.mem_of_getElem? (i := 352) (by decide +kernel), List.mem_of_getElem? (i := 353) (by decide +kernel)⟩
theorem lw_p4 : lw_okq (⟨"CodeChecker$Code", "namesWhatIsMissing", "(III)Z"⟩, 10) := ⟨⟨by decide +kernel, by decide +kernel⟩, List.mem_of_getElem? (i := 96) (by decide +kernel), List.mem_of_getElem? (i := 361) (by decide +kernel), List.mem_of_getElem? (i := 362) (by decide +kernel)⟩
theorem lw_p5 : lw_okq (⟨"CodeChecker$Code", "isLabelMissing", "()Z"⟩, 10) := ⟨⟨by decide +kernel, by decide +kernel⟩, List.mem_of_getElem? (i := 96) (by decide +kernel), List.mem_of_getElem? (i := 370) (by decide +kernel), List.mem_of_getElem? (i := 371) (by decide +kernel)⟩
theorem lw_p6 : lw_okq (⟨"CodeChecker$Code", "misfit", "(III)I"⟩, 10) := ⟨⟨by decide +kernel, by decide +kernel⟩, List.mem_of_getElem? (i := 96) (by decide +kernel), List.mem_of_getElem? (i := 379) (by decide +kernel), List.mem_of_getElem? (i := 380) (by decide +kernel)⟩
theorem lw_p7 : lw_okq (⟨"CodeChecker$Code", "accessFault", "(II)I"⟩, 10) := ⟨⟨by decide +kernel, by decide +kernel⟩, List.mem_of_getElem? (i := 96) (by decide +kernel), List.mem_of_getElem? (i := 383) (by decide +kernel), List.mem_of_getElem? (i := 384) (by decide +kernel)⟩
theorem lw_p8 : lw_okq (⟨"CodeChecker$Code", "carryOutPlain", "(I)V"⟩, 10) := ⟨⟨by decide +kernel, by decide +kernel⟩, List.mem_of_getElem? (i := 96) (by decide +kernel), List.mem_of_getElem? (i := 407) (by decide +kernel), List.mem_of_getElem? (i := 408) (by decide +kernel)⟩
theorem lw_p9 : lw_okq (⟨"CodeChecker$Stack", "fail", "(I)V"⟩, 10) := ⟨⟨by decide +kernel, by decide +kernel⟩, List.mem_of_getElem? (i := 123) (by decide +kernel), List.mem_of_getElem? (i := 424) (by decide +kernel), List.mem_of_getElem? (i := 425) (by decide +kernel)⟩
theorem lw_p10 : lw_okq (⟨"CodeChecker$Code", "carryOutBlock", "(II)V"⟩, 10) := ⟨⟨by decide +kernel, by decide +kernel⟩, List.mem_of_getElem? (i := 96) (by decide +kernel), List.mem_of_getElem? (i := 432) (by decide +kernel), List.mem_of_getElem? (i := 433) (by decide +kernel)⟩
theorem lw_p11 : lw_okq (⟨"CodeChecker$Stack", "hasInnermost", "()Z"⟩, 10) := ⟨⟨by decide +kernel, by decide +kernel⟩, List.mem_of_getElem? (i := 123) (by decide +kernel), List.mem_of_getElem? (i := 440) (by decide +kernel), List.mem_of_getElem? (i := 441) (by decide +kernel)⟩
theorem lw_p12 : lw_okq (⟨"CodeChecker$Stack", "ofBlock", "([II)I"⟩, 10) := ⟨⟨by decide +kernel, by decide +kernel⟩, List.mem_of_getElem? (i := 123) (by decide +kernel), List.mem_of_getElem? (i := 468) (by decide +kernel), List.mem_of_getElem? (i := 469) (by decide +kernel)⟩
theorem lw_p13 : lw_okq (⟨"CodeChecker$Stack", "expectNoMoreOperands", "()V"⟩, 10) := ⟨⟨by decide +kernel, by decide +kernel⟩, List.mem_of_getElem? (i := 123) (by decide +kernel), List.mem_of_getElem? (i := 472) (by decide +kernel), List.mem_of_getElem? (i := 473) (by decide +kernel)⟩
theorem lw_p14 : lw_okq (⟨"CodeChecker$Code", "carryOutBranch", "(II)V"⟩, 10) := ⟨⟨by decide +kernel, by decide +kernel⟩, List.mem_of_getElem? (i := 96) (by decide +kernel), List.mem_of_getElem? (i := 490) (by decide +kernel), List.mem_of_getElem? (i := 491) (by decide +kernel)⟩
theorem lw_p15 : lw_okq (⟨"CodeChecker$Stack", "labelRows", "(I)LCodeChecker$Rows;"⟩, 10) := ⟨⟨by decide +kernel, by decide +kernel⟩, List.mem_of_getElem? (i := 123) (by decide +kernel), List.mem_of_getElem? (i := 498) (by decide +kernel), List.mem_of_getElem? (i := 499) (by decide +kernel)⟩
def lw_privs_1 : List (MethodName × Nat) := [(⟨"CodeChecker$Code", "open", "(IZ)V"⟩, 10), (⟨"CodeChecker$Stack", "pushBlock", "(II)V"⟩, 10), (⟨"CodeChecker$Code", "isMalformed", "(II)Z"⟩, 10), (⟨"CodeChecker$Code", "mayStandInConstant", "(II)Z"⟩, 10), (⟨"CodeChecker$Code", "namesWhatIsMissing", "(III)Z"⟩, 10), (⟨"CodeChecker$Code", "isLabelMissing", "()Z"⟩, 10), (⟨"CodeChecker$Code", "misfit", "(III)I"⟩, 10), (⟨"CodeChecker$Code", "accessFault", "(II)I"⟩, 10), (⟨"CodeChecker$Code", "carryOutPlain", "(I)V"⟩, 10), (⟨"CodeChecker$Stack", "fail", "(I)V"⟩, 10), (⟨"CodeChecker$Code", "carryOutBlock", "(II)V"⟩, 10), (⟨"CodeChecker$Stack", "hasInnermost", "()Z"⟩, 10), (⟨"CodeChecker$Stack", "ofBlock", "([II)I"⟩, 10), (⟨"CodeChecker$Stack", "expectNoMoreOperands", "()V"⟩, 10), (⟨"CodeChecker$Code", "carryOutBranch", "(II)V"⟩, 10), (⟨"CodeChecker$Stack", "labelRows", "(I)LCodeChecker$Rows;"⟩, 10)]
theorem lw_r1 : ∀ q ∈ lw_privs_1, lw_okq q := List.forall_mem_cons.mpr ⟨lw_p0, List.forall_mem_cons.mpr ⟨lw_p1, List.forall_mem_cons.mpr ⟨lw_p2, List.forall_mem_cons.mpr ⟨lw_p3, List.forall_mem_cons.mpr ⟨lw_p4, List.forall_mem_cons.mpr ⟨lw_p5, List.forall_mem_cons.mpr ⟨lw_p6, List.forall_mem_cons.mpr ⟨lw_p7, List.forall_mem_cons.mpr ⟨lw_p8, List.forall_mem_cons.mpr ⟨lw_p9, List.forall_mem_cons.mpr ⟨lw_p10, List.forall_mem_cons.mpr ⟨lw_p11, List.forall_mem_cons.mpr ⟨lw_p12, List.forall_mem_cons.mpr ⟨lw_p13, List.forall_mem_cons.mpr ⟨lw_p14, List.forall_mem_cons.mpr ⟨lw_p15, fun _ h => absurd h List.not_mem_nil⟩⟩⟩⟩⟩⟩⟩⟩⟩⟩⟩⟩⟩⟩⟩⟩
theorem lw_p16 : lw_okq (⟨"CodeChecker$Code", "branchByRow", "(I)V"⟩, 10) := ⟨⟨by decide +kernel, by decide +kernel⟩, List.mem_of_getElem? (i := 96) (by decide +kernel), List.mem_of_getElem? (i := 506) (by decide +kernel), List.mem_of_getElem? (i := 507) (by decide +kernel)⟩
theorem lw_p17 : lw_okq (⟨"CodeChecker$Code", "enterFunction", "(I)V"⟩, 10) := ⟨⟨by decide +kernel, by decide +kernel⟩, List.mem_of_getElem? (i := 96) (by decide +kernel), List.mem_of_getElem? (i := 522) (by decide +kernel), List.mem_of_getElem? (i := 523) (by decide +kernel)⟩
theorem lw_p18 : lw_okq (⟨"CodeChecker$Code", "carryOutVariable", "(II)V"⟩, 10) := ⟨⟨by decide +kernel, by decide +kernel⟩, List.mem_of_getElem? (i := 96) (by decide +kernel), List.mem_of_getElem? (i := 528) (by decide +kernel), List.mem_of_getElem? (i := 529) (by decide +kernel)⟩
theorem lw_p19 : lw_okq (⟨"CodeChecker$Code", "carryOutAccess", "(I)V"⟩, 10) := ⟨⟨by decide +kernel, by decide +kernel⟩, List.mem_of_getElem? (i := 96) (by decide +kernel), List.mem_of_getElem? (i := 542) (by decide +kernel), List.mem_of_getElem? (i := 543) (by decide +kernel)⟩
theorem lw_p20 : lw_okq (⟨"CodeChecker$Code", "carryOutReference", "(II)V"⟩, 10) := ⟨⟨by decide +kernel, by decide +kernel⟩, List.mem_of_getElem? (i := 96) (by decide +kernel), List.mem_of_getElem? (i := 548) (by decide +kernel), List.mem_of_getElem? (i := 549) (by decide +kernel)⟩
theorem lw_p21 : lw_okq (⟨"CodeCheckerModel", "beginCode", "(Z)V"⟩, 39) := ⟨⟨by decide +kernel, by decide +kernel⟩, List.mem_of_getElem? (i := 588) (by decide +kernel), List.mem_of_getElem? (i := 738) (by decide +kernel), List.mem_of_getElem? (i := 739) (by decide +kernel)⟩
theorem lw_p22 : lw_okq (⟨"CodeCheckerModel", "addRow", "(IJ)V"⟩, 39) := ⟨⟨by decide +kernel, by decide +kernel⟩, List.mem_of_getElem? (i := 588) (by decide +kernel), List.mem_of_getElem? (i := 742) (by decide +kernel), List.mem_of_getElem? (i := 743) (by decide +kernel)⟩
theorem lw_p23 : lw_okq (⟨"CodeCheckerModel", "examine", "(III)V"⟩, 39) := ⟨⟨by decide +kernel, by decide +kernel⟩, List.mem_of_getElem? (i := 588) (by decide +kernel), List.mem_of_getElem? (i := 763) (by decide +kernel), List.mem_of_getElem? (i := 764) (by decide +kernel)⟩
theorem lw_p24 : lw_okq (⟨"CodeCheckerModel", "stop", "(I)V"⟩, 39) := ⟨⟨by decide +kernel, by decide +kernel⟩, List.mem_of_getElem? (i := 588) (by decide +kernel), List.mem_of_getElem? (i := 776) (by decide +kernel), List.mem_of_getElem? (i := 777) (by decide +kernel)⟩
theorem lw_p25 : lw_okq (⟨"CodeCheckerModel", "mayBeConstant", "(II)Z"⟩, 39) := ⟨⟨by decide +kernel, by decide +kernel⟩, List.mem_of_getElem? (i := 588) (by decide +kernel), List.mem_of_getElem? (i := 780) (by decide +kernel), List.mem_of_getElem? (i := 781) (by decide +kernel)⟩
theorem lw_p26 : lw_okq (⟨"CodeCheckerModel", "has", "(II)Z"⟩, 39) := ⟨⟨by decide +kernel, by decide +kernel⟩, List.mem_of_getElem? (i := 588) (by decide +kernel), List.mem_of_getElem? (i := 784) (by decide +kernel), List.mem_of_getElem? (i := 785) (by decide +kernel)⟩
theorem lw_p27 : lw_okq (⟨"CodeCheckerModel", "isThere", "(III)Z"⟩, 39) := ⟨⟨by decide +kernel, by decide +kernel⟩, List.mem_of_getElem? (i := 588) (by decide +kernel), List.mem_of_getElem? (i := 788) (by decide +kernel), List.mem_of_getElem? (i := 789) (by decide +kernel)⟩
theorem lw_p28 : lw_okq (⟨"CodeCheckerModel", "isLabel", "(I)Z"⟩, 39) := ⟨⟨by decide +kernel, by decide +kernel⟩, List.mem_of_getElem? (i := 588) (by decide +kernel), List.mem_of_getElem? (i := 792) (by decide +kernel), List.mem_of_getElem? (i := 793) (by decide +kernel)⟩
theorem lw_p29 : lw_okq (⟨"CodeCheckerModel", "localType", "(I)I"⟩, 39) := ⟨⟨by decide +kernel, by decide +kernel⟩, List.mem_of_getElem? (i := 588) (by decide +kernel), List.mem_of_getElem? (i := 796) (by decide +kernel), List.mem_of_getElem? (i := 797) (by decide +kernel)⟩
theorem lw_p30 : lw_okq (⟨"CodeCheckerModel", "require", "(III)V"⟩, 39) := ⟨⟨by decide +kernel, by decide +kernel⟩, List.mem_of_getElem? (i := 588) (by decide +kernel), List.mem_of_getElem? (i := 800) (by decide +kernel), List.mem_of_getElem? (i := 801) (by decide +kernel)⟩
theorem lw_p31 : lw_okq (⟨"CodeCheckerModel", "attribute", "(II)I"⟩, 39) := ⟨⟨by decide +kernel, by decide +kernel⟩, List.mem_of_getElem? (i := 588) (by decide +kernel), List.mem_of_getElem? (i := 804) (by decide +kernel), List.mem_of_getElem? (i := 805) (by decide +kernel)⟩
def lw_privs_2 : List (MethodName × Nat) := [(⟨"CodeChecker$Code", "branchByRow", "(I)V"⟩, 10), (⟨"CodeChecker$Code", "enterFunction", "(I)V"⟩, 10), (⟨"CodeChecker$Code", "carryOutVariable", "(II)V"⟩, 10), (⟨"CodeChecker$Code", "carryOutAccess", "(I)V"⟩, 10), (⟨"CodeChecker$Code", "carryOutReference", "(II)V"⟩, 10), (⟨"CodeCheckerModel", "beginCode", "(Z)V"⟩, 39), (⟨"CodeCheckerModel", "addRow", "(IJ)V"⟩, 39), (⟨"CodeCheckerModel", "examine", "(III)V"⟩, 39), (⟨"CodeCheckerModel", "stop", "(I)V"⟩, 39), (⟨"CodeCheckerModel", "mayBeConstant", "(II)Z"⟩, 39), (⟨"CodeCheckerModel", "has", "(II)Z"⟩, 39), (⟨"CodeCheckerModel", "isThere", "(III)Z"⟩, 39), (⟨"CodeCheckerModel", "isLabel", "(I)Z"⟩, 39), (⟨"CodeCheckerModel", "localType", "(I)I"⟩, 39), (⟨"CodeCheckerModel", "require", "(III)V"⟩, 39), (⟨"CodeCheckerModel", "attribute", "(II)I"⟩, 39)]
theorem lw_r2 : ∀ q ∈ lw_privs_2, lw_okq q := List.forall_mem_cons.mpr ⟨lw_p16, List.forall_mem_cons.mpr ⟨lw_p17, List.forall_mem_cons.mpr ⟨lw_p18, List.forall_mem_cons.mpr ⟨lw_p19, List.forall_mem_cons.mpr ⟨lw_p20, List.forall_mem_cons.mpr ⟨lw_p21, List.forall_mem_cons.mpr ⟨lw_p22, List.forall_mem_cons.mpr ⟨lw_p23, List.forall_mem_cons.mpr ⟨lw_p24, List.forall_mem_cons.mpr ⟨lw_p25, List.forall_mem_cons.mpr ⟨lw_p26, List.forall_mem_cons.mpr ⟨lw_p27, List.forall_mem_cons.mpr ⟨lw_p28, List.forall_mem_cons.mpr ⟨lw_p29, List.forall_mem_cons.mpr ⟨lw_p30, List.forall_mem_cons.mpr ⟨lw_p31, fun _ h => absurd h List.not_mem_nil⟩⟩⟩⟩⟩⟩⟩⟩⟩⟩⟩⟩⟩⟩⟩⟩
theorem lw_p32 : lw_okq (⟨"CodeCheckerModel", "perform", "(III)V"⟩, 39) := ⟨⟨by decide +kernel, by decide +kernel⟩, List.mem_of_getElem? (i := 588) (by decide +kernel), List.mem_of_getElem? (i := 812) (by decide +kernel), List.mem_of_getElem? (i := 813) (by decide +kernel)⟩
theorem lw_p33 : lw_okq (⟨"CodeCheckerModel", "control", "(III)V"⟩, 39) := ⟨⟨by decide +kernel, by decide +kernel⟩, List.mem_of_getElem? (i := 588) (by decide +kernel), List.mem_of_getElem? (i := 816) (by decide +kernel), List.mem_of_getElem? (i := 817) (by decide +kernel)⟩
theorem lw_p34 : lw_okq (⟨"CodeCheckerModel", "wantNothing", "()V"⟩, 39) := ⟨⟨by decide +kernel, by decide +kernel⟩, List.mem_of_getElem? (i := 588) (by decide +kernel), List.mem_of_getElem? (i := 820) (by decide +kernel), List.mem_of_getElem? (i := 821) (by decide +kernel)⟩
theorem lw_p35 : lw_okq (⟨"CodeCheckerModel", "die", "()V"⟩, 39) := ⟨⟨by decide +kernel, by decide +kernel⟩, List.mem_of_getElem? (i := 588) (by decide +kernel), List.mem_of_getElem? (i := 824) (by decide +kernel), List.mem_of_getElem? (i := 825) (by decide +kernel)⟩
theorem lw_p36 : lw_okq (⟨"CodeCheckerModel", "open", "(II)V"⟩, 39) := ⟨⟨by decide +kernel, by decide +kernel⟩, List.mem_of_getElem? (i := 588) (by decide +kernel), List.mem_of_getElem? (i := 828) (by decide +kernel), List.mem_of_getElem? (i := 829) (by decide +kernel)⟩
theorem lw_p37 : lw_okq (⟨"CodeCheckerModel", "take", "(I)V"⟩, 39) := ⟨⟨by decide +kernel, by decide +kernel⟩, List.mem_of_getElem? (i := 588) (by decide +kernel), List.mem_of_getElem? (i := 832) (by decide +kernel), List.mem_of_getElem? (i := 833) (by decide +kernel)⟩
theorem lw_p38 : lw_okq (⟨"CodeCheckerModel", "wantParts", "(IZ)V"⟩, 39) := ⟨⟨by decide +kernel, by decide +kernel⟩, List.mem_of_getElem? (i := 588) (by decide +kernel), List.mem_of_getElem? (i := 836) (by decide +kernel), List.mem_of_getElem? (i := 837) (by decide +kernel)⟩
theorem lw_p39 : lw_okq (⟨"CodeCheckerModel", "wantOne", "(I)V"⟩, 39) := ⟨⟨by decide +kernel, by decide +kernel⟩, List.mem_of_getElem? (i := 588) (by decide +kernel), List.mem_of_getElem? (i := 840) (by decide +kernel), List.mem_of_getElem? (i := 841) (by decide +kernel)⟩
theorem lw_p40 : lw_okq (⟨"CodeCheckerModel", "takeWanted", "()V"⟩, 39) := ⟨⟨by decide +kernel, by decide +kernel⟩, List.mem_of_getElem? (i := 588) (by decide +kernel), List.mem_of_getElem? (i := 844) (by decide +kernel), List.mem_of_getElem? (i := 845) (by decide +kernel)⟩
theorem lw_p41 : lw_okq (⟨"CodeCheckerModel", "giveWanted", "()V"⟩, 39) := ⟨⟨by decide +kernel, by decide +kernel⟩, List.mem_of_getElem? (i := 588) (by decide +kernel), List.mem_of_getElem? (i := 848) (by decide +kernel), List.mem_of_getElem? (i := 849) (by decide +kernel)⟩
theorem lw_p42 : lw_okq (⟨"CodeCheckerModel", "give", "(I)V"⟩, 39) := ⟨⟨by decide +kernel, by decide +kernel⟩, List.mem_of_getElem? (i := 588) (by decide +kernel), List.mem_of_getElem? (i := 852) (by decide +kernel), List.mem_of_getElem? (i := 853) (by decide +kernel)⟩
theorem lw_p43 : lw_okq (⟨"CodeCheckerModel", "choose", "()V"⟩, 39) := ⟨⟨by decide +kernel, by decide +kernel⟩, List.mem_of_getElem? (i := 588) (by decide +kernel), List.mem_of_getElem? (i := 856) (by decide +kernel), List.mem_of_getElem? (i := 857) (by decide +kernel)⟩
theorem lw_p44 : lw_okq (⟨"CodeCheckerModel", "close", "()V"⟩, 39) := ⟨⟨by decide +kernel, by decide +kernel⟩, List.mem_of_getElem? (i := 588) (by decide +kernel), List.mem_of_getElem? (i := 860) (by decide +kernel), List.mem_of_getElem? (i := 861) (by decide +kernel)⟩
theorem lw_p45 : lw_okq (⟨"CodeCheckerModel", "wantBlock", "(IZ)V"⟩, 39) := ⟨⟨by decide +kernel, by decide +kernel⟩, List.mem_of_getElem? (i := 588) (by decide +kernel), List.mem_of_getElem? (i := 864) (by decide +kernel), List.mem_of_getElem? (i := 865) (by decide +kernel)⟩
theorem lw_p46 : lw_okq (⟨"CodeCheckerModel", "countOf", "(IZ)I"⟩, 39) := ⟨⟨by decide +kernel, by decide +kernel⟩, List.mem_of_getElem? (i := 588) (by decide +kernel), List.mem_of_getElem? (i := 868) (by decide +kernel), List.mem_of_getElem? (i := 869) (by decide +kernel)⟩
theorem lw_p47 : lw_okq (⟨"CodeCheckerModel", "partOf", "(IZI)I"⟩, 39) := ⟨⟨by decide +kernel, by decide +kernel⟩, List.mem_of_getElem? (i := 588) (by decide +kernel), List.mem_of_getElem? (i := 872) (by decide +kernel), List.mem_of_getElem? (i := 873) (by decide +kernel)⟩
def lw_privs_3 : List (MethodName × Nat) := [(⟨"CodeCheckerModel", "perform", "(III)V"⟩, 39), (⟨"CodeCheckerModel", "control", "(III)V"⟩, 39), (⟨"CodeCheckerModel", "wantNothing", "()V"⟩, 39), (⟨"CodeCheckerModel", "die", "()V"⟩, 39), (⟨"CodeCheckerModel", "open", "(II)V"⟩, 39), (⟨"CodeCheckerModel", "take", "(I)V"⟩, 39), (⟨"CodeCheckerModel", "wantParts", "(IZ)V"⟩, 39), (⟨"CodeCheckerModel", "wantOne", "(I)V"⟩, 39), (⟨"CodeCheckerModel", "takeWanted", "()V"⟩, 39), (⟨"CodeCheckerModel", "giveWanted", "()V"⟩, 39), (⟨"CodeCheckerModel", "give", "(I)V"⟩, 39), (⟨"CodeCheckerModel", "choose", "()V"⟩, 39), (⟨"CodeCheckerModel", "close", "()V"⟩, 39), (⟨"CodeCheckerModel", "wantBlock", "(IZ)V"⟩, 39), (⟨"CodeCheckerModel", "countOf", "(IZ)I"⟩, 39), (⟨"CodeCheckerModel", "partOf", "(IZI)I"⟩, 39)]
theorem lw_r3 : ∀ q ∈ lw_privs_3, lw_okq q := List.forall_mem_cons.mpr ⟨lw_p32, List.forall_mem_cons.mpr ⟨lw_p33, List.forall_mem_cons.mpr ⟨lw_p34, List.forall_mem_cons.mpr ⟨lw_p35, List.forall_mem_cons.mpr ⟨lw_p36, List.forall_mem_cons.mpr ⟨lw_p37, List.forall_mem_cons.mpr ⟨lw_p38, List.forall_mem_cons.mpr ⟨lw_p39, List.forall_mem_cons.mpr ⟨lw_p40, List.forall_mem_cons.mpr ⟨lw_p41, List.forall_mem_cons.mpr ⟨lw_p42, List.forall_mem_cons.mpr ⟨lw_p43, List.forall_mem_cons.mpr ⟨lw_p44, List.forall_mem_cons.mpr ⟨lw_p45, List.forall_mem_cons.mpr ⟨lw_p46, List.forall_mem_cons.mpr ⟨lw_p47, fun _ h => absurd h List.not_mem_nil⟩⟩⟩⟩⟩⟩⟩⟩⟩⟩⟩⟩⟩⟩⟩⟩
theorem lw_p48 : lw_okq (⟨"CodeCheckerModel", "end", "()V"⟩, 39) := ⟨⟨by decide +kernel, by decide +kernel⟩, List.mem_of_getElem? (i := 588) (by decide +kernel), List.mem_of_getElem? (i := 876) (by decide +kernel), List.mem_of_getElem? (i := 877) (by decide +kernel)⟩
theorem lw_p49 : lw_okq (⟨"CodeCheckerModel", "wantLabel", "(I)V"⟩, 39) := ⟨⟨by decide +kernel, by decide +kernel⟩, List.mem_of_getElem? (i := 588) (by decide +kernel), List.mem_of_getElem? (i := 880) (by decide +kernel), List.mem_of_getElem? (i := 881) (by decide +kernel)⟩
theorem lw_p50 : lw_okq (⟨"CodeCheckerModel", "labelCount", "(I)I"⟩, 39) := ⟨⟨by decide +kernel, by decide +kernel⟩, List.mem_of_getElem? (i := 588) (by decide +kernel), List.mem_of_getElem? (i := 884) (by decide +kernel), List.mem_of_getElem? (i := 885) (by decide +kernel)⟩
theorem lw_p51 : lw_okq (⟨"CodeCheckerModel", "blockOf", "(I)I"⟩, 39) := ⟨⟨by decide +kernel, by decide +kernel⟩, List.mem_of_getElem? (i := 588) (by decide +kernel), List.mem_of_getElem? (i := 888) (by decide +kernel), List.mem_of_getElem? (i := 889) (by decide +kernel)⟩
theorem lw_p52 : lw_okq (⟨"CodeCheckerModel", "labelPart", "(II)I"⟩, 39) := ⟨⟨by decide +kernel, by decide +kernel⟩, List.mem_of_getElem? (i := 588) (by decide +kernel), List.mem_of_getElem? (i := 892) (by decide +kernel), List.mem_of_getElem? (i := 893) (by decide +kernel)⟩
theorem lw_p53 : lw_okq (⟨"CodeCheckerModel", "table", "(I)V"⟩, 39) := ⟨⟨by decide +kernel, by decide +kernel⟩, List.mem_of_getElem? (i := 588) (by decide +kernel), List.mem_of_getElem? (i := 896) (by decide +kernel), List.mem_of_getElem? (i := 897) (by decide +kernel)⟩
theorem lw_p54 : lw_okq (⟨"CodeCheckerModel", "call", "(I)V"⟩, 39) := ⟨⟨by decide +kernel, by decide +kernel⟩, List.mem_of_getElem? (i := 588) (by decide +kernel), List.mem_of_getElem? (i := 900) (by decide +kernel), List.mem_of_getElem? (i := 901) (by decide +kernel)⟩
theorem lw_p55 : lw_okq (⟨"CodeCheckerModel", "named", "(II)V"⟩, 39) := ⟨⟨by decide +kernel, by decide +kernel⟩, List.mem_of_getElem? (i := 588) (by decide +kernel), List.mem_of_getElem? (i := 904) (by decide +kernel), List.mem_of_getElem? (i := 905) (by decide +kernel)⟩
theorem lw_p56 : lw_okq (⟨"CodeCheckerModel", "choice", "()V"⟩, 39) := ⟨⟨by decide +kernel, by decide +kernel⟩, List.mem_of_getElem? (i := 588) (by decide +kernel), List.mem_of_getElem? (i := 908) (by decide +kernel), List.mem_of_getElem? (i := 909) (by decide +kernel)⟩
theorem lw_p57 : lw_okq (⟨"CodeCheckerModel", "two", "(II)V"⟩, 39) := ⟨⟨by decide +kernel, by decide +kernel⟩, List.mem_of_getElem? (i := 588) (by decide +kernel), List.mem_of_getElem? (i := 912) (by decide +kernel), List.mem_of_getElem? (i := 913) (by decide +kernel)⟩
theorem lw_p58 : lw_okq (⟨"CodeCheckerModel", "one", "(II)V"⟩, 39) := ⟨⟨by decide +kernel, by decide +kernel⟩, List.mem_of_getElem? (i := 588) (by decide +kernel), List.mem_of_getElem? (i := 916) (by decide +kernel), List.mem_of_getElem? (i := 917) (by decide +kernel)⟩
theorem lw_p59 : lw_okq (⟨"CodeCheckerModel", "takeTwo", "(II)V"⟩, 39) := ⟨⟨by decide +kernel, by decide +kernel⟩, List.mem_of_getElem? (i := 588) (by decide +kernel), List.mem_of_getElem? (i := 920) (by decide +kernel), List.mem_of_getElem? (i := 921) (by decide +kernel)⟩
theorem lw_p60 : lw_okq (⟨"CodeCheckerModel", "memory", "(I)V"⟩, 39) := ⟨⟨by decide +kernel, by decide +kernel⟩, List.mem_of_getElem? (i := 588) (by decide +kernel), List.mem_of_getElem? (i := 924) (by decide +kernel), List.mem_of_getElem? (i := 925) (by decide +kernel)⟩
theorem lw_p61 : lw_okq (⟨"CodeCheckerModel", "number", "(I)V"⟩, 39) := ⟨⟨by decide +kernel, by decide +kernel⟩, List.mem_of_getElem? (i := 588) (by decide +kernel), List.mem_of_getElem? (i := 928) (by decide +kernel), List.mem_of_getElem? (i := 929) (by decide +kernel)⟩
theorem lw_p62 : lw_okq (⟨"CodeCheckerModel", "calculate", "(ZI)V"⟩, 39) := ⟨⟨by decide +kernel, by decide +kernel⟩, List.mem_of_getElem? (i := 588) (by decide +kernel), List.mem_of_getElem? (i := 932) (by decide +kernel), List.mem_of_getElem? (i := 933) (by decide +kernel)⟩
theorem lw_p63 : lw_okq (⟨"CodeCheckerModel", "other", "(II)V"⟩, 39) := ⟨⟨by decide +kernel, by decide +kernel⟩, List.mem_of_getElem? (i := 588) (by decide +kernel), List.mem_of_getElem? (i := 942) (by decide +kernel), List.mem_of_getElem? (i := 943) (by decide +kernel)⟩
def lw_privs_4 : List (MethodName × Nat) := [(⟨"CodeCheckerModel", "end", "()V"⟩, 39), (⟨"CodeCheckerModel", "wantLabel", "(I)V"⟩, 39), (⟨"CodeCheckerModel", "labelCount", "(I)I"⟩, 39), (⟨"CodeCheckerModel", "blockOf", "(I)I"⟩, 39), (⟨"CodeCheckerModel", "labelPart", "(II)I"⟩, 39), (⟨"CodeCheckerModel", "table", "(I)V"⟩, 39), (⟨"CodeCheckerModel", "call", "(I)V"⟩, 39), (⟨"CodeCheckerModel", "named", "(II)V"⟩, 39), (⟨"CodeCheckerModel", "choice", "()V"⟩, 39), (⟨"CodeCheckerModel", "two", "(II)V"⟩, 39), (⟨"CodeCheckerModel", "one", "(II)V"⟩, 39), (⟨"CodeCheckerModel", "takeTwo", "(II)V"⟩, 39), (⟨"CodeCheckerModel", "memory", "(I)V"⟩, 39), (⟨"CodeCheckerModel", "number", "(I)V"⟩, 39), (⟨"CodeCheckerModel", "calculate", "(ZI)V"⟩, 39), (⟨"CodeCheckerModel", "other", "(II)V"⟩, 39)]
theorem lw_r4 : ∀ q ∈ lw_privs_4, lw_okq q := List.forall_mem_cons.mpr ⟨lw_p48, List.forall_mem_cons.mpr ⟨lw_p49, List.forall_mem_cons.mpr ⟨lw_p50, List.forall_mem_cons.mpr ⟨lw_p51, List.forall_mem_cons.mpr ⟨lw_p52, List.forall_mem_cons.mpr ⟨lw_p53, List.forall_mem_cons.mpr ⟨lw_p54, List.forall_mem_cons.mpr ⟨lw_p55, List.forall_mem_cons.mpr ⟨lw_p56, List.forall_mem_cons.mpr ⟨lw_p57, List.forall_mem_cons.mpr ⟨lw_p58, List.forall_mem_cons.mpr ⟨lw_p59, List.forall_mem_cons.mpr ⟨lw_p60, List.forall_mem_cons.mpr ⟨lw_p61, List.forall_mem_cons.mpr ⟨lw_p62, List.forall_mem_cons.mpr ⟨lw_p63, fun _ h => absurd h List.not_mem_nil⟩⟩⟩⟩⟩⟩⟩⟩⟩⟩⟩⟩⟩⟩⟩⟩
theorem lw_p64 : lw_okq (⟨"CodeCheckerModel", "takeThree", "()V"⟩, 39) := ⟨⟨by decide +kernel, by decide +kernel⟩, List.mem_of_getElem? (i := 588) (by decide +kernel), List.mem_of_getElem? (i := 946) (by decide +kernel), List.mem_of_getElem? (i := 947) (by decide +kernel)⟩
def lw_privs_5 : List (MethodName × Nat) := [(⟨"CodeCheckerModel", "takeThree", "()V"⟩, 39)]
theorem lw_r5 : ∀ q ∈ lw_privs_5, lw_okq q := List.forall_mem_cons.mpr ⟨lw_p64, fun _ h => absurd h List.not_mem_nil⟩
def lw_privs : List (MethodName × Nat) := lw_privs_1 ++ (lw_privs_2 ++ (lw_privs_3 ++ (lw_privs_4 ++ (lw_privs_5))))
def lw_tbl : List Cond := k2_sels lw_privs ++ tables_1
theorem lw_privs_ok : ∀ q ∈ lw_privs, lw_okq q := by
  show ∀ q ∈ lw_privs_1 ++ (lw_privs_2 ++ (lw_privs_3 ++ (lw_privs_4 ++ (lw_privs_5)))), lw_okq q
  exact List.forall_mem_append.mpr ⟨lw_r1, List.forall_mem_append.mpr ⟨lw_r2, List.forall_mem_append.mpr ⟨lw_r3, List.forall_mem_append.mpr ⟨lw_r4, lw_r5⟩⟩⟩⟩
end
section
def R_CC : String := "CodeChecker"
def R_CCode : String := "CodeChecker$Code"
def R_CLocals : String := "CodeChecker$Locals"
def R_CRows : String := "CodeChecker$Rows"
def R_CShelf : String := "CodeChecker$Shelf"
def R_CStack : String := "CodeChecker$Stack"
def R_CThings : String := "CodeChecker$Things"
def R_MC : String := "CodeCheckerModel"
def F_CC : u_T := fun k => match k with
  | 0 => ("CodeChecker", "things", "LCodeChecker$Things;", true)
  | _ => ("CodeChecker", "code", "LCodeChecker$Code;", true)
def t_CC : Nat → FieldType := fun k => match k with
  | 0 => .object "CodeChecker$Things"
  | _ => .object "CodeChecker$Code"
theorem hnm_CC : ∀ a, a < 2 → ∀ b, b < 2 → a ≠ b → (F_CC a).2.1 ≠ (F_CC b).2.1 := by decide +kernel
theorem hty_CC : ∀ k, k < 2 → parseFieldDescriptor (F_CC k).2.2.1 = some (t_CC k) := by decide +kernel
def F_CCode : u_T := fun k => match k with
  | 0 => ("CodeChecker$Code", "things", "LCodeChecker$Things;", true)
  | 1 => ("CodeChecker$Code", "stack", "LCodeChecker$Stack;", true)
  | 2 => ("CodeChecker$Code", "locals", "LCodeChecker$Locals;", true)
  | 3 => ("CodeChecker$Code", "labels", "[I", true)
  | 4 => ("CodeChecker$Code", "labelCount", "I", false)
  | 5 => ("CodeChecker$Code", "progress", "I", false)
  | 6 => ("CodeChecker$Code", "isConstant", "Z", false)
  | 7 => ("CodeChecker$Code", "hasInstruction", "Z", false)
  | 8 => ("CodeChecker$Code", "visibleGlobals", "I", false)
  | _ => ("CodeChecker$Code", "localCalls", "I", false)
def t_CCode : Nat → FieldType := fun k => match k with
  | 0 => .object "CodeChecker$Things"
  | 1 => .object "CodeChecker$Stack"
  | 2 => .object "CodeChecker$Locals"
  | 3 => .array .int
  | 4 => .int
  | 5 => .int
  | 6 => .boolean
  | 7 => .boolean
  | 8 => .int
  | _ => .int
theorem hnm_CCode : ∀ a, a < 10 → ∀ b, b < 10 → a ≠ b → (F_CCode a).2.1 ≠ (F_CCode b).2.1 := by decide +kernel
theorem hty_CCode : ∀ k, k < 10 → parseFieldDescriptor (F_CCode k).2.2.1 = some (t_CCode k) := by decide +kernel
def F_CLocals : u_T := fun k => match k with
  | 0 => ("CodeChecker$Locals", "types", "[I", true)
  | 1 => ("CodeChecker$Locals", "ends", "[J", true)
  | 2 => ("CodeChecker$Locals", "groups", "I", false)
  | _ => ("CodeChecker$Locals", "count", "J", false)
def t_CLocals : Nat → FieldType := fun k => match k with
  | 0 => .array .int
  | 1 => .array .long
  | 2 => .int
  | _ => .long
theorem hnm_CLocals : ∀ a, a < 4 → ∀ b, b < 4 → a ≠ b → (F_CLocals a).2.1 ≠ (F_CLocals b).2.1 := by decide +kernel
theorem hty_CLocals : ∀ k, k < 4 → parseFieldDescriptor (F_CLocals k).2.2.1 = some (t_CLocals k) := by decide +kernel
def F_CRows : u_T := fun k => match k with
  | 0 => ("CodeChecker$Rows", "ofResults", "Z", true)
  | 1 => ("CodeChecker$Rows", "sizes", "[I", true)
  | _ => ("CodeChecker$Rows", "parts", "[I", true)
def t_CRows : Nat → FieldType := fun k => match k with
  | 0 => .boolean
  | 1 => .array .int
  | _ => .array .int
theorem hnm_CRows : ∀ a, a < 3 → ∀ b, b < 3 → a ≠ b → (F_CRows a).2.1 ≠ (F_CRows b).2.1 := by decide +kernel
theorem hty_CRows : ∀ k, k < 3 → parseFieldDescriptor (F_CRows k).2.2.1 = some (t_CRows k) := by decide +kernel
def F_CShelf : u_T := fun k => match k with
  | 0 => ("CodeChecker$Shelf", "types", "[I", true)
  | 1 => ("CodeChecker$Shelf", "marks", "[Z", true)
  | _ => ("CodeChecker$Shelf", "count", "I", false)
def t_CShelf : Nat → FieldType := fun k => match k with
  | 0 => .array .int
  | 1 => .array .boolean
  | _ => .int
theorem hnm_CShelf : ∀ a, a < 3 → ∀ b, b < 3 → a ≠ b → (F_CShelf a).2.1 ≠ (F_CShelf b).2.1 := by decide +kernel
theorem hty_CShelf : ∀ k, k < 3 → parseFieldDescriptor (F_CShelf k).2.2.1 = some (t_CShelf k) := by decide +kernel
def F_CStack : u_T := fun k => match k with
  | 0 => ("CodeChecker$Stack", "things", "LCodeChecker$Things;", true)
  | 1 => ("CodeChecker$Stack", "operands", "[I", true)
  | 2 => ("CodeChecker$Stack", "blockTypes", "[I", true)
  | 3 => ("CodeChecker$Stack", "heights", "[I", true)
  | 4 => ("CodeChecker$Stack", "openers", "[I", true)
  | 5 => ("CodeChecker$Stack", "lives", "[Z", true)
  | 6 => ("CodeChecker$Stack", "taken", "[I", true)
  | 7 => ("CodeChecker$Stack", "operandCount", "I", false)
  | 8 => ("CodeChecker$Stack", "blockCount", "I", false)
  | _ => ("CodeChecker$Stack", "fault", "I", false)
def t_CStack : Nat → FieldType := fun k => match k with
  | 0 => .object "CodeChecker$Things"
  | 1 => .array .int
  | 2 => .array .int
  | 3 => .array .int
  | 4 => .array .int
  | 5 => .array .boolean
  | 6 => .array .int
  | 7 => .int
  | 8 => .int
  | _ => .int
theorem hnm_CStack : ∀ a, a < 10 → ∀ b, b < 10 → a ≠ b → (F_CStack a).2.1 ≠ (F_CStack b).2.1 := by decide +kernel
theorem hty_CStack : ∀ k, k < 10 → parseFieldDescriptor (F_CStack k).2.2.1 = some (t_CStack k) := by decide +kernel
def F_CThings : u_T := fun k => match k with
  | 0 => ("CodeChecker$Things", "parameters", "LCodeChecker$Rows;", true)
  | 1 => ("CodeChecker$Things", "results", "LCodeChecker$Rows;", true)
  | 2 => ("CodeChecker$Things", "functions", "LCodeChecker$Shelf;", true)
  | 3 => ("CodeChecker$Things", "tables", "LCodeChecker$Shelf;", true)
  | 4 => ("CodeChecker$Things", "memories", "LCodeChecker$Shelf;", true)
  | 5 => ("CodeChecker$Things", "globals", "LCodeChecker$Shelf;", true)
  | 6 => ("CodeChecker$Things", "elements", "LCodeChecker$Shelf;", true)
  | 7 => ("CodeChecker$Things", "data", "LCodeChecker$Shelf;", true)
  | _ => ("CodeChecker$Things", "typeCount", "I", false)
def t_CThings : Nat → FieldType := fun k => match k with
  | 0 => .object "CodeChecker$Rows"
  | 1 => .object "CodeChecker$Rows"
  | 2 => .object "CodeChecker$Shelf"
  | 3 => .object "CodeChecker$Shelf"
  | 4 => .object "CodeChecker$Shelf"
  | 5 => .object "CodeChecker$Shelf"
  | 6 => .object "CodeChecker$Shelf"
  | 7 => .object "CodeChecker$Shelf"
  | _ => .int
theorem hnm_CThings : ∀ a, a < 9 → ∀ b, b < 9 → a ≠ b → (F_CThings a).2.1 ≠ (F_CThings b).2.1 := by decide +kernel
theorem hty_CThings : ∀ k, k < 9 → parseFieldDescriptor (F_CThings k).2.2.1 = some (t_CThings k) := by decide +kernel
def F_MC : u_T := fun k => match k with
  | 0 => ("CodeCheckerModel", "types", "I", false)
  | 1 => ("CodeCheckerModel", "parameterCount", "[I", true)
  | 2 => ("CodeCheckerModel", "resultCount", "[I", true)
  | 3 => ("CodeCheckerModel", "parameters", "[I", true)
  | 4 => ("CodeCheckerModel", "results", "[I", true)
  | 5 => ("CodeCheckerModel", "many", "[I", true)
  | 6 => ("CodeCheckerModel", "first", "[I", true)
  | 7 => ("CodeCheckerModel", "second", "[I", true)
  | 8 => ("CodeCheckerModel", "declared", "[Z", true)
  | 9 => ("CodeCheckerModel", "state", "I", false)
  | 10 => ("CodeCheckerModel", "isBody", "Z", false)
  | 11 => ("CodeCheckerModel", "begun", "Z", false)
  | 12 => ("CodeCheckerModel", "bodyType", "I", false)
  | 13 => ("CodeCheckerModel", "constantType", "I", false)
  | 14 => ("CodeCheckerModel", "seen", "J", false)
  | 15 => ("CodeCheckerModel", "rows", "I", false)
  | 16 => ("CodeCheckerModel", "calls", "I", false)
  | 17 => ("CodeCheckerModel", "rowType", "[I", true)
  | 18 => ("CodeCheckerModel", "rowMany", "[J", true)
  | 19 => ("CodeCheckerModel", "labels", "I", false)
  | 20 => ("CodeCheckerModel", "label", "[I", true)
  | 21 => ("CodeCheckerModel", "operands", "I", false)
  | 22 => ("CodeCheckerModel", "blocks", "I", false)
  | 23 => ("CodeCheckerModel", "operand", "[I", true)
  | 24 => ("CodeCheckerModel", "begunBy", "[I", true)
  | 25 => ("CodeCheckerModel", "blockType", "[I", true)
  | 26 => ("CodeCheckerModel", "height", "[I", true)
  | 27 => ("CodeCheckerModel", "dead", "[Z", true)
  | 28 => ("CodeCheckerModel", "fault", "I", false)
  | 29 => ("CodeCheckerModel", "taken", "I", false)
  | 30 => ("CodeCheckerModel", "left", "I", false)
  | 31 => ("CodeCheckerModel", "row", "[I", true)
  | 32 => ("CodeCheckerModel", "dies", "Z", false)
  | 33 => ("CodeCheckerModel", "opens", "Z", false)
  | 34 => ("CodeCheckerModel", "ends", "Z", false)
  | 35 => ("CodeCheckerModel", "isOther", "Z", false)
  | 36 => ("CodeCheckerModel", "want", "[I", true)
  | 37 => ("CodeCheckerModel", "wants", "I", false)
  | _ => ("CodeCheckerModel", "taking", "[I", true)
def t_MC : Nat → FieldType := fun k => match k with
  | 0 => .int
  | 1 => .array .int
  | 2 => .array .int
  | 3 => .array .int
  | 4 => .array .int
  | 5 => .array .int
  | 6 => .array .int
  | 7 => .array .int
  | 8 => .array .boolean
  | 9 => .int
  | 10 => .boolean
  | 11 => .boolean
  | 12 => .int
  | 13 => .int
  | 14 => .long
  | 15 => .int
  | 16 => .int
  | 17 => .array .int
  | 18 => .array .long
  | 19 => .int
  | 20 => .array .int
  | 21 => .int
  | 22 => .int
  | 23 => .array .int
  | 24 => .array .int
  | 25 => .array .int
  | 26 => .array .int
  | 27 => .array .boolean
  | 28 => .int
  | 29 => .int
  | 30 => .int
  | 31 => .array .int
  | 32 => .boolean
  | 33 => .boolean
  | 34 => .boolean
  | 35 => .boolean
  | 36 => .array .int
  | 37 => .int
  | _ => .array .int
theorem hnm_MC : ∀ a, a < 39 → ∀ b, b < 39 → a ≠ b → (F_MC a).2.1 ≠ (F_MC b).2.1 := by decide +kernel
theorem hty_MC : ∀ k, k < 39 → parseFieldDescriptor (F_MC k).2.2.1 = some (t_MC k) := by decide +kernel
def zcl : List vw_C := [(R_CC, F_CC, 2), (R_CCode, F_CCode, 10), (R_CLocals, F_CLocals, 4), (R_CRows, F_CRows, 3), (R_CShelf, F_CShelf, 3), (R_CStack, F_CStack, 10), (R_CThings, F_CThings, 9), (R_MC, F_MC, 39)]
theorem hcl_CC : zcl[0]? = some (R_CC, F_CC, 2) := rfl
theorem hcl_CCode : zcl[1]? = some (R_CCode, F_CCode, 10) := rfl
theorem hcl_CLocals : zcl[2]? = some (R_CLocals, F_CLocals, 4) := rfl
theorem hcl_CRows : zcl[3]? = some (R_CRows, F_CRows, 3) := rfl
theorem hcl_CShelf : zcl[4]? = some (R_CShelf, F_CShelf, 3) := rfl
theorem hcl_CStack : zcl[5]? = some (R_CStack, F_CStack, 10) := rfl
theorem hcl_CThings : zcl[6]? = some (R_CThings, F_CThings, 9) := rfl
theorem hcl_MC : zcl[7]? = some (R_MC, F_MC, 39) := rfl
abbrev b_CC_init : ByteArray := prog_1_method_1_code
def y_CC_init : MethodName := ⟨R_CC, "<init>", "()V"⟩
abbrev b_CC_type : ByteArray := prog_1_method_2_code
def y_CC_type : MethodName := ⟨R_CC, "type", "()I"⟩
abbrev b_CC_part : ByteArray := prog_1_method_3_code
def y_CC_part : MethodName := ⟨R_CC, "part", "(ZI)I"⟩
abbrev b_CC_add : ByteArray := prog_1_method_4_code
def y_CC_add : MethodName := ⟨R_CC, "add", "(III)I"⟩
abbrev b_CC_declare : ByteArray := prog_1_method_5_code
def y_CC_declare : MethodName := ⟨R_CC, "declare", "(I)Z"⟩
abbrev b_CC_begin : ByteArray := prog_1_method_6_code
def y_CC_begin : MethodName := ⟨R_CC, "begin", "(I)Z"⟩
abbrev b_CC_constant : ByteArray := prog_1_method_7_code
def y_CC_constant : MethodName := ⟨R_CC, "constant", "(II)Z"⟩
abbrev b_CC_local : ByteArray := prog_1_method_8_code
def y_CC_local : MethodName := ⟨R_CC, "local", "(II)Z"⟩
abbrev b_CC_label : ByteArray := prog_1_method_9_code
def y_CC_label : MethodName := ⟨R_CC, "label", "(I)I"⟩
abbrev b_CC_step : ByteArray := prog_1_method_10_code
def y_CC_step : MethodName := ⟨R_CC, "step", "(III)I"⟩
abbrev b_CC_state : ByteArray := prog_1_method_11_code
def y_CC_state : MethodName := ⟨R_CC, "state", "()I"⟩
abbrev b_CC_look : ByteArray := prog_1_method_12_code
def y_CC_look : MethodName := ⟨R_CC, "look", "(I)J"⟩
abbrev b_CC_operand : ByteArray := prog_1_method_13_code
def y_CC_operand : MethodName := ⟨R_CC, "operand", "(I)I"⟩
abbrev b_CC_isValueType : ByteArray := prog_1_method_14_code
def y_CC_isValueType : MethodName := ⟨R_CC, "isValueType", "(I)Z"⟩
abbrev b_CC_isReferenceType : ByteArray := prog_1_method_15_code
def y_CC_isReferenceType : MethodName := ⟨R_CC, "isReferenceType", "(I)Z"⟩
abbrev b_CC_withoutSign : ByteArray := prog_1_method_16_code
def y_CC_withoutSign : MethodName := ⟨R_CC, "withoutSign", "(I)J"⟩
abbrev b_CC_isInstruction : ByteArray := prog_1_method_17_code
def y_CC_isInstruction : MethodName := ⟨R_CC, "isInstruction", "(I)Z"⟩
abbrev b_CC_isBlockType : ByteArray := prog_1_method_18_code
def y_CC_isBlockType : MethodName := ⟨R_CC, "isBlockType", "(I)Z"⟩
abbrev b_CC_plainLine : ByteArray := prog_1_method_19_code
def y_CC_plainLine : MethodName := ⟨R_CC, "plainLine", "(I)I"⟩
abbrev b_CCode_init : ByteArray := prog_2_method_1_code
def y_CCode_init : MethodName := ⟨R_CCode, "<init>", "(LCodeChecker$Things;)V"⟩
abbrev b_CCode_isOpen : ByteArray := prog_2_method_2_code
def y_CCode_isOpen : MethodName := ⟨R_CCode, "isOpen", "()Z"⟩
abbrev b_CCode_open : ByteArray := prog_2_method_3_code
def y_CCode_open : MethodName := ⟨R_CCode, "open", "(IZ)V"⟩
abbrev b_CCode_openBody : ByteArray := prog_2_method_4_code
def y_CCode_openBody : MethodName := ⟨R_CCode, "openBody", "(I)V"⟩
abbrev b_CCode_openConstant : ByteArray := prog_2_method_5_code
def y_CCode_openConstant : MethodName := ⟨R_CCode, "openConstant", "(II)V"⟩
abbrev b_CCode_addLocals : ByteArray := prog_2_method_6_code
def y_CCode_addLocals : MethodName := ⟨R_CCode, "addLocals", "(II)Z"⟩
abbrev b_CCode_addLabel : ByteArray := prog_2_method_7_code
def y_CCode_addLabel : MethodName := ⟨R_CCode, "addLabel", "(I)I"⟩
abbrev b_CCode_finishInstruction : ByteArray := prog_2_method_8_code
def y_CCode_finishInstruction : MethodName := ⟨R_CCode, "finishInstruction", "(I)V"⟩
abbrev b_CCode_figure : ByteArray := prog_2_method_9_code
def y_CCode_figure : MethodName := ⟨R_CCode, "figure", "(I)J"⟩
abbrev b_CCode_faultAhead : ByteArray := prog_2_method_10_code
def y_CCode_faultAhead : MethodName := ⟨R_CCode, "faultAhead", "(III)I"⟩
abbrev b_CCode_isMalformed : ByteArray := prog_2_method_11_code
def y_CCode_isMalformed : MethodName := ⟨R_CCode, "isMalformed", "(II)Z"⟩
abbrev b_CCode_mayStandInConstant : ByteArray := prog_2_method_12_code
def y_CCode_mayStandInConstant : MethodName := ⟨R_CCode, "mayStandInConstant", "(II)Z"⟩
abbrev b_CCode_namesWhatIsMissing : ByteArray := prog_2_method_13_code
def y_CCode_namesWhatIsMissing : MethodName := ⟨R_CCode, "namesWhatIsMissing", "(III)Z"⟩
abbrev b_CCode_isLabelMissing : ByteArray := prog_2_method_14_code
def y_CCode_isLabelMissing : MethodName := ⟨R_CCode, "isLabelMissing", "()Z"⟩
abbrev b_CCode_misfit : ByteArray := prog_2_method_15_code
def y_CCode_misfit : MethodName := ⟨R_CCode, "misfit", "(III)I"⟩
abbrev b_CCode_accessFault : ByteArray := prog_2_method_16_code
def y_CCode_accessFault : MethodName := ⟨R_CCode, "accessFault", "(II)I"⟩
abbrev b_CCode_carryOut : ByteArray := prog_2_method_17_code
def y_CCode_carryOut : MethodName := ⟨R_CCode, "carryOut", "(II)I"⟩
abbrev b_CCode_carryOutPlain : ByteArray := prog_2_method_18_code
def y_CCode_carryOutPlain : MethodName := ⟨R_CCode, "carryOutPlain", "(I)V"⟩
abbrev b_CCode_carryOutBlock : ByteArray := prog_2_method_19_code
def y_CCode_carryOutBlock : MethodName := ⟨R_CCode, "carryOutBlock", "(II)V"⟩
abbrev b_CCode_carryOutBranch : ByteArray := prog_2_method_20_code
def y_CCode_carryOutBranch : MethodName := ⟨R_CCode, "carryOutBranch", "(II)V"⟩
abbrev b_CCode_branchByRow : ByteArray := prog_2_method_21_code
def y_CCode_branchByRow : MethodName := ⟨R_CCode, "branchByRow", "(I)V"⟩
abbrev b_CCode_enterFunction : ByteArray := prog_2_method_22_code
def y_CCode_enterFunction : MethodName := ⟨R_CCode, "enterFunction", "(I)V"⟩
abbrev b_CCode_carryOutVariable : ByteArray := prog_2_method_23_code
def y_CCode_carryOutVariable : MethodName := ⟨R_CCode, "carryOutVariable", "(II)V"⟩
abbrev b_CCode_carryOutAccess : ByteArray := prog_2_method_24_code
def y_CCode_carryOutAccess : MethodName := ⟨R_CCode, "carryOutAccess", "(I)V"⟩
abbrev b_CCode_carryOutReference : ByteArray := prog_2_method_25_code
def y_CCode_carryOutReference : MethodName := ⟨R_CCode, "carryOutReference", "(II)V"⟩
abbrev b_CLocals_init : ByteArray := prog_3_method_1_code
def y_CLocals_init : MethodName := ⟨R_CLocals, "<init>", "()V"⟩
abbrev b_CLocals_clear : ByteArray := prog_3_method_2_code
def y_CLocals_clear : MethodName := ⟨R_CLocals, "clear", "()V"⟩
abbrev b_CLocals_append : ByteArray := prog_3_method_3_code
def y_CLocals_append : MethodName := ⟨R_CLocals, "append", "(IJ)V"⟩
abbrev b_CLocals_has : ByteArray := prog_3_method_4_code
def y_CLocals_has : MethodName := ⟨R_CLocals, "has", "(I)Z"⟩
abbrev b_CLocals_typeOf : ByteArray := prog_3_method_5_code
def y_CLocals_typeOf : MethodName := ⟨R_CLocals, "typeOf", "(I)I"⟩
abbrev b_CRows_init : ByteArray := prog_4_method_1_code
def y_CRows_init : MethodName := ⟨R_CRows, "<init>", "(Z)V"⟩
abbrev b_CRows_append : ByteArray := prog_4_method_2_code
def y_CRows_append : MethodName := ⟨R_CRows, "append", "(II)I"⟩
abbrev b_CRows_sizeOf : ByteArray := prog_4_method_3_code
def y_CRows_sizeOf : MethodName := ⟨R_CRows, "sizeOf", "(I)I"⟩
abbrev b_CRows_partOf : ByteArray := prog_4_method_4_code
def y_CRows_partOf : MethodName := ⟨R_CRows, "partOf", "(II)I"⟩
abbrev b_CShelf_init : ByteArray := prog_5_method_1_code
def y_CShelf_init : MethodName := ⟨R_CShelf, "<init>", "()V"⟩
abbrev b_CShelf_put : ByteArray := prog_5_method_2_code
def y_CShelf_put : MethodName := ⟨R_CShelf, "put", "(IZ)I"⟩
abbrev b_CShelf_has : ByteArray := prog_5_method_3_code
def y_CShelf_has : MethodName := ⟨R_CShelf, "has", "(I)Z"⟩
abbrev b_CShelf_typeOf : ByteArray := prog_5_method_4_code
def y_CShelf_typeOf : MethodName := ⟨R_CShelf, "typeOf", "(I)I"⟩
abbrev b_CShelf_isMarked : ByteArray := prog_5_method_5_code
def y_CShelf_isMarked : MethodName := ⟨R_CShelf, "isMarked", "(I)Z"⟩
abbrev b_CShelf_mark : ByteArray := prog_5_method_6_code
def y_CShelf_mark : MethodName := ⟨R_CShelf, "mark", "(I)Z"⟩
abbrev b_CStack_init : ByteArray := prog_6_method_1_code
def y_CStack_init : MethodName := ⟨R_CStack, "<init>", "(LCodeChecker$Things;)V"⟩
abbrev b_CStack_restart : ByteArray := prog_6_method_2_code
def y_CStack_restart : MethodName := ⟨R_CStack, "restart", "(I)V"⟩
abbrev b_CStack_fail : ByteArray := prog_6_method_3_code
def y_CStack_fail : MethodName := ⟨R_CStack, "fail", "(I)V"⟩
abbrev b_CStack_hasInnermost : ByteArray := prog_6_method_4_code
def y_CStack_hasInnermost : MethodName := ⟨R_CStack, "hasInnermost", "()Z"⟩
abbrev b_CStack_hasBlock : ByteArray := prog_6_method_5_code
def y_CStack_hasBlock : MethodName := ⟨R_CStack, "hasBlock", "(I)Z"⟩
abbrev b_CStack_ofBlock : ByteArray := prog_6_method_6_code
def y_CStack_ofBlock : MethodName := ⟨R_CStack, "ofBlock", "([II)I"⟩
abbrev b_CStack_height : ByteArray := prog_6_method_7_code
def y_CStack_height : MethodName := ⟨R_CStack, "height", "()I"⟩
abbrev b_CStack_opener : ByteArray := prog_6_method_8_code
def y_CStack_opener : MethodName := ⟨R_CStack, "opener", "()I"⟩
abbrev b_CStack_isLive : ByteArray := prog_6_method_9_code
def y_CStack_isLive : MethodName := ⟨R_CStack, "isLive", "()Z"⟩
abbrev b_CStack_operandFromEnd : ByteArray := prog_6_method_10_code
def y_CStack_operandFromEnd : MethodName := ⟨R_CStack, "operandFromEnd", "(I)I"⟩
abbrev b_CStack_takeAny : ByteArray := prog_6_method_11_code
def y_CStack_takeAny : MethodName := ⟨R_CStack, "takeAny", "()I"⟩
abbrev b_CStack_take : ByteArray := prog_6_method_12_code
def y_CStack_take : MethodName := ⟨R_CStack, "take", "(I)I"⟩
abbrev b_CStack_give : ByteArray := prog_6_method_13_code
def y_CStack_give : MethodName := ⟨R_CStack, "give", "(I)V"⟩
abbrev b_CStack_takeTimes : ByteArray := prog_6_method_14_code
def y_CStack_takeTimes : MethodName := ⟨R_CStack, "takeTimes", "(II)V"⟩
abbrev b_CStack_takeRow : ByteArray := prog_6_method_15_code
def y_CStack_takeRow : MethodName := ⟨R_CStack, "takeRow", "(LCodeChecker$Rows;I)V"⟩
abbrev b_CStack_giveRow : ByteArray := prog_6_method_16_code
def y_CStack_giveRow : MethodName := ⟨R_CStack, "giveRow", "(LCodeChecker$Rows;I)V"⟩
abbrev b_CStack_die : ByteArray := prog_6_method_17_code
def y_CStack_die : MethodName := ⟨R_CStack, "die", "()V"⟩
abbrev b_CStack_pushBlock : ByteArray := prog_6_method_18_code
def y_CStack_pushBlock : MethodName := ⟨R_CStack, "pushBlock", "(II)V"⟩
abbrev b_CStack_openBlock : ByteArray := prog_6_method_19_code
def y_CStack_openBlock : MethodName := ⟨R_CStack, "openBlock", "(II)V"⟩
abbrev b_CStack_expectNoMoreOperands : ByteArray := prog_6_method_20_code
def y_CStack_expectNoMoreOperands : MethodName := ⟨R_CStack, "expectNoMoreOperands", "()V"⟩
abbrev b_CStack_turnToElse : ByteArray := prog_6_method_21_code
def y_CStack_turnToElse : MethodName := ⟨R_CStack, "turnToElse", "()V"⟩
abbrev b_CStack_closeBlock : ByteArray := prog_6_method_22_code
def y_CStack_closeBlock : MethodName := ⟨R_CStack, "closeBlock", "()V"⟩
abbrev b_CStack_labelRows : ByteArray := prog_6_method_23_code
def y_CStack_labelRows : MethodName := ⟨R_CStack, "labelRows", "(I)LCodeChecker$Rows;"⟩
abbrev b_CStack_labelSize : ByteArray := prog_6_method_24_code
def y_CStack_labelSize : MethodName := ⟨R_CStack, "labelSize", "(I)I"⟩
abbrev b_CStack_takeLabel : ByteArray := prog_6_method_25_code
def y_CStack_takeLabel : MethodName := ⟨R_CStack, "takeLabel", "(I)V"⟩
abbrev b_CStack_giveLabel : ByteArray := prog_6_method_26_code
def y_CStack_giveLabel : MethodName := ⟨R_CStack, "giveLabel", "(I)V"⟩
abbrev b_CStack_passLabel : ByteArray := prog_6_method_27_code
def y_CStack_passLabel : MethodName := ⟨R_CStack, "passLabel", "(II)V"⟩
abbrev b_CStack_takeOutermostResults : ByteArray := prog_6_method_28_code
def y_CStack_takeOutermostResults : MethodName := ⟨R_CStack, "takeOutermostResults", "()V"⟩
abbrev b_CStack_takeReference : ByteArray := prog_6_method_29_code
def y_CStack_takeReference : MethodName := ⟨R_CStack, "takeReference", "()V"⟩
abbrev b_CStack_choose : ByteArray := prog_6_method_30_code
def y_CStack_choose : MethodName := ⟨R_CStack, "choose", "()V"⟩
abbrev b_CThings_init : ByteArray := prog_7_method_1_code
def y_CThings_init : MethodName := ⟨R_CThings, "<init>", "()V"⟩
abbrev b_CThings_makeType : ByteArray := prog_7_method_2_code
def y_CThings_makeType : MethodName := ⟨R_CThings, "makeType", "()I"⟩
abbrev b_CThings_hasType : ByteArray := prog_7_method_3_code
def y_CThings_hasType : MethodName := ⟨R_CThings, "hasType", "(I)Z"⟩
abbrev b_CThings_extendLatestType : ByteArray := prog_7_method_4_code
def y_CThings_extendLatestType : MethodName := ⟨R_CThings, "extendLatestType", "(ZI)I"⟩
abbrev b_CThings_addThing : ByteArray := prog_7_method_5_code
def y_CThings_addThing : MethodName := ⟨R_CThings, "addThing", "(III)I"⟩
abbrev b_CThings_hasMemory : ByteArray := prog_7_method_6_code
def y_CThings_hasMemory : MethodName := ⟨R_CThings, "hasMemory", "()Z"⟩
abbrev b_CThings_hasLikeParametersAndResults : ByteArray := prog_7_method_7_code
def y_CThings_hasLikeParametersAndResults : MethodName := ⟨R_CThings, "hasLikeParametersAndResults", "(I)Z"⟩
abbrev b_MC_init : ByteArray := prog_9_method_1_code
def y_MC_init : MethodName := ⟨R_MC, "<init>", "()V"⟩
abbrev b_MC_isReference : ByteArray := prog_9_method_2_code
def y_MC_isReference : MethodName := ⟨R_MC, "isReference", "(I)Z"⟩
abbrev b_MC_isValue : ByteArray := prog_9_method_3_code
def y_MC_isValue : MethodName := ⟨R_MC, "isValue", "(I)Z"⟩
abbrev b_MC_type : ByteArray := prog_9_method_4_code
def y_MC_type : MethodName := ⟨R_MC, "type", "()I"⟩
abbrev b_MC_part : ByteArray := prog_9_method_5_code
def y_MC_part : MethodName := ⟨R_MC, "part", "(ZI)I"⟩
abbrev b_MC_add : ByteArray := prog_9_method_6_code
def y_MC_add : MethodName := ⟨R_MC, "add", "(III)I"⟩
abbrev b_MC_declare : ByteArray := prog_9_method_7_code
def y_MC_declare : MethodName := ⟨R_MC, "declare", "(I)Z"⟩
abbrev b_MC_has : ByteArray := prog_9_method_8_code
def y_MC_has : MethodName := ⟨R_MC, "has", "(II)Z"⟩
abbrev b_MC_attribute : ByteArray := prog_9_method_9_code
def y_MC_attribute : MethodName := ⟨R_MC, "attribute", "(II)I"⟩
abbrev b_MC_beginCode : ByteArray := prog_9_method_10_code
def y_MC_beginCode : MethodName := ⟨R_MC, "beginCode", "(Z)V"⟩
abbrev b_MC_begin : ByteArray := prog_9_method_11_code
def y_MC_begin : MethodName := ⟨R_MC, "begin", "(I)Z"⟩
abbrev b_MC_constant : ByteArray := prog_9_method_12_code
def y_MC_constant : MethodName := ⟨R_MC, "constant", "(II)Z"⟩
abbrev b_MC_addRow : ByteArray := prog_9_method_13_code
def y_MC_addRow : MethodName := ⟨R_MC, "addRow", "(IJ)V"⟩
abbrev b_MC_local : ByteArray := prog_9_method_14_code
def y_MC_local : MethodName := ⟨R_MC, "local", "(II)Z"⟩
abbrev b_MC_label : ByteArray := prog_9_method_15_code
def y_MC_label : MethodName := ⟨R_MC, "label", "(I)I"⟩
abbrev b_MC_localType : ByteArray := prog_9_method_16_code
def y_MC_localType : MethodName := ⟨R_MC, "localType", "(I)I"⟩
abbrev b_MC_countOf : ByteArray := prog_9_method_17_code
def y_MC_countOf : MethodName := ⟨R_MC, "countOf", "(IZ)I"⟩
abbrev b_MC_partOf : ByteArray := prog_9_method_18_code
def y_MC_partOf : MethodName := ⟨R_MC, "partOf", "(IZI)I"⟩
abbrev b_MC_isBlockType : ByteArray := prog_9_method_19_code
def y_MC_isBlockType : MethodName := ⟨R_MC, "isBlockType", "(I)Z"⟩
abbrev b_MC_blockOf : ByteArray := prog_9_method_20_code
def y_MC_blockOf : MethodName := ⟨R_MC, "blockOf", "(I)I"⟩
abbrev b_MC_isLabel : ByteArray := prog_9_method_21_code
def y_MC_isLabel : MethodName := ⟨R_MC, "isLabel", "(I)Z"⟩
abbrev b_MC_labelCount : ByteArray := prog_9_method_22_code
def y_MC_labelCount : MethodName := ⟨R_MC, "labelCount", "(I)I"⟩
abbrev b_MC_labelPart : ByteArray := prog_9_method_23_code
def y_MC_labelPart : MethodName := ⟨R_MC, "labelPart", "(II)I"⟩
abbrev b_MC_stop : ByteArray := prog_9_method_24_code
def y_MC_stop : MethodName := ⟨R_MC, "stop", "(I)V"⟩
abbrev b_MC_take : ByteArray := prog_9_method_25_code
def y_MC_take : MethodName := ⟨R_MC, "take", "(I)V"⟩
abbrev b_MC_give : ByteArray := prog_9_method_26_code
def y_MC_give : MethodName := ⟨R_MC, "give", "(I)V"⟩
abbrev b_MC_die : ByteArray := prog_9_method_27_code
def y_MC_die : MethodName := ⟨R_MC, "die", "()V"⟩
abbrev b_MC_takeTwo : ByteArray := prog_9_method_28_code
def y_MC_takeTwo : MethodName := ⟨R_MC, "takeTwo", "(II)V"⟩
abbrev b_MC_takeThree : ByteArray := prog_9_method_29_code
def y_MC_takeThree : MethodName := ⟨R_MC, "takeThree", "()V"⟩
abbrev b_MC_wantNothing : ByteArray := prog_9_method_30_code
def y_MC_wantNothing : MethodName := ⟨R_MC, "wantNothing", "()V"⟩
abbrev b_MC_wantOne : ByteArray := prog_9_method_31_code
def y_MC_wantOne : MethodName := ⟨R_MC, "wantOne", "(I)V"⟩
abbrev b_MC_wantParts : ByteArray := prog_9_method_32_code
def y_MC_wantParts : MethodName := ⟨R_MC, "wantParts", "(IZ)V"⟩
abbrev b_MC_wantBlock : ByteArray := prog_9_method_33_code
def y_MC_wantBlock : MethodName := ⟨R_MC, "wantBlock", "(IZ)V"⟩
abbrev b_MC_wantLabel : ByteArray := prog_9_method_34_code
def y_MC_wantLabel : MethodName := ⟨R_MC, "wantLabel", "(I)V"⟩
abbrev b_MC_takeWanted : ByteArray := prog_9_method_35_code
def y_MC_takeWanted : MethodName := ⟨R_MC, "takeWanted", "()V"⟩
abbrev b_MC_giveWanted : ByteArray := prog_9_method_36_code
def y_MC_giveWanted : MethodName := ⟨R_MC, "giveWanted", "()V"⟩
abbrev b_MC_one : ByteArray := prog_9_method_37_code
def y_MC_one : MethodName := ⟨R_MC, "one", "(II)V"⟩
abbrev b_MC_two : ByteArray := prog_9_method_38_code
def y_MC_two : MethodName := ⟨R_MC, "two", "(II)V"⟩
abbrev b_MC_isInstruction : ByteArray := prog_9_method_39_code
def y_MC_isInstruction : MethodName := ⟨R_MC, "isInstruction", "(I)Z"⟩
abbrev b_MC_isFormed : ByteArray := prog_9_method_40_code
def y_MC_isFormed : MethodName := ⟨R_MC, "isFormed", "(II)Z"⟩
abbrev b_MC_mayBeConstant : ByteArray := prog_9_method_41_code
def y_MC_mayBeConstant : MethodName := ⟨R_MC, "mayBeConstant", "(II)Z"⟩
abbrev b_MC_isThere : ByteArray := prog_9_method_42_code
def y_MC_isThere : MethodName := ⟨R_MC, "isThere", "(III)Z"⟩
abbrev b_MC_bytesOf : ByteArray := prog_9_method_43_code
def y_MC_bytesOf : MethodName := ⟨R_MC, "bytesOf", "(I)I"⟩
abbrev b_MC_require : ByteArray := prog_9_method_44_code
def y_MC_require : MethodName := ⟨R_MC, "require", "(III)V"⟩
abbrev b_MC_control : ByteArray := prog_9_method_45_code
def y_MC_control : MethodName := ⟨R_MC, "control", "(III)V"⟩
abbrev b_MC_call : ByteArray := prog_9_method_46_code
def y_MC_call : MethodName := ⟨R_MC, "call", "(I)V"⟩
abbrev b_MC_open : ByteArray := prog_9_method_47_code
def y_MC_open : MethodName := ⟨R_MC, "open", "(II)V"⟩
abbrev b_MC_close : ByteArray := prog_9_method_48_code
def y_MC_close : MethodName := ⟨R_MC, "close", "()V"⟩
abbrev b_MC_choose : ByteArray := prog_9_method_49_code
def y_MC_choose : MethodName := ⟨R_MC, "choose", "()V"⟩
abbrev b_MC_end : ByteArray := prog_9_method_50_code
def y_MC_end : MethodName := ⟨R_MC, "end", "()V"⟩
abbrev b_MC_table : ByteArray := prog_9_method_51_code
def y_MC_table : MethodName := ⟨R_MC, "table", "(I)V"⟩
abbrev b_MC_choice : ByteArray := prog_9_method_52_code
def y_MC_choice : MethodName := ⟨R_MC, "choice", "()V"⟩
abbrev b_MC_named : ByteArray := prog_9_method_53_code
def y_MC_named : MethodName := ⟨R_MC, "named", "(II)V"⟩
abbrev b_MC_memory : ByteArray := prog_9_method_54_code
def y_MC_memory : MethodName := ⟨R_MC, "memory", "(I)V"⟩
abbrev b_MC_number : ByteArray := prog_9_method_55_code
def y_MC_number : MethodName := ⟨R_MC, "number", "(I)V"⟩
abbrev b_MC_calculate : ByteArray := prog_9_method_56_code
def y_MC_calculate : MethodName := ⟨R_MC, "calculate", "(ZI)V"⟩
abbrev b_MC_from : ByteArray := prog_9_method_57_code
def y_MC_from : MethodName := ⟨R_MC, "from", "(I)I"⟩
abbrev b_MC_to : ByteArray := prog_9_method_58_code
def y_MC_to : MethodName := ⟨R_MC, "to", "(I)I"⟩
abbrev b_MC_other : ByteArray := prog_9_method_59_code
def y_MC_other : MethodName := ⟨R_MC, "other", "(II)V"⟩
abbrev b_MC_perform : ByteArray := prog_9_method_60_code
def y_MC_perform : MethodName := ⟨R_MC, "perform", "(III)V"⟩
abbrev b_MC_examine : ByteArray := prog_9_method_61_code
def y_MC_examine : MethodName := ⟨R_MC, "examine", "(III)V"⟩
abbrev b_MC_step : ByteArray := prog_9_method_62_code
def y_MC_step : MethodName := ⟨R_MC, "step", "(III)I"⟩
abbrev b_MC_state : ByteArray := prog_9_method_63_code
def y_MC_state : MethodName := ⟨R_MC, "state", "()I"⟩
abbrev b_MC_look : ByteArray := prog_9_method_64_code
def y_MC_look : MethodName := ⟨R_MC, "look", "(I)J"⟩
abbrev b_MC_operand : ByteArray := prog_9_method_65_code
def y_MC_operand : MethodName := ⟨R_MC, "operand", "(I)I"⟩
end
section
/-! base: worlds, contracts, rows -/
theorem znar {v : Int32} (h : zbz v) : narrow .boolean (.int v) = .int v := by rcases h with rfl | rfl <;> decide
theorem zfit {v : Int32} (h : zbz v) : fits .boolean (.int v) = true := by rcases h with rfl | rfl <;> decide
/-- the good words of the tables -/
def zT : List Cond := lw_tbl.filter goodWord
def zisN : Cond → Bool
  | .fieldLinkNest .. => true
  | .methodLinkNest .. => true
  | _ => false
def zN : List Cond := lw_tbl.filter zisN
theorem zT_in {w : Cond} (i : Nat) (h : lw_tbl[i]? = some w) (g : goodWord w = true) : w ∈ zT := List.mem_filter.mpr ⟨List.mem_of_getElem? h, g⟩
theorem zN_in {w : Cond} (i : Nat) (h : lw_tbl[i]? = some w) (g : zisN w = true) : w ∈ zN := List.mem_filter.mpr ⟨List.mem_of_getElem? h, g⟩
def zNok (U : State) : Prop := ∀ w ∈ zN, va_Nw w U
theorem zNok_warm {s U : State} (hW : s.WarmedH U.vm) (h : zNok s) : zNok U := by
  intro w hw
  have h1 := h w hw
  have h2 : zisN w = true := (List.mem_filter.mp hw).2
  cases w <;> first | (simp [zisN] at h2; done) | exact va_Nw.warmF hW h1 | exact va_Nw.warmM hW h1
theorem zNok_same {s U : State} (hv : s.vm = U.vm) (h : zNok s) : zNok U := by
  intro w hw
  have h1 := h w hw
  have h2 : zisN w = true := (List.mem_filter.mp hw).2
  cases w <;> first | (simp [zisN] at h2; done) | exact va_Nw.same rfl hv h1
/-- the static tables: class, name, what it holds -/
def zSt (st : List (String × String × List Int32)) (A : Nat → Prop) (U : State) (H : Heap) : Prop := ∀ q ∈ st, ∃ t : Nat, va_Z q.1 q.2.1 "[I" (.ref t) A U H ∧ va_T .int t q.2.2.length (fun j => .int (q.2.2.getD j 0)) A U H
theorem zSt_to {st : List (String × String × List Int32)} {A B : Nat → Prop} {s U : State} {H H1 : Heap} (h : zSt st A s H) (hq : ∀ a : Nat, a < H.size → ¬ A a → H1[a]? = H[a]?) (hvm : s.vm.Alike U.vm) (hAB : ∀ q, B q → A q) : zSt st B U H1 := by
  intro q hx
  obtain ⟨t, h1, h2⟩ := h q hx
  exact ⟨t, ((h1.kept hq).moved hvm).narrow hAB, ((h2.kept hq).moved hvm).narrow hAB⟩
def bx (p : Program) (s : State) (m : MethodId) (args : Array Value) (c : Code) (cc : ByteArray) (nL : Nat) (own : String) (A : Nat → Prop) (D : va_G) (z : zZ) : Prop :=
  p.tables.exec = Jvm.exec ∧ c.code = cc ∧ c.maxLocals = nL ∧ s.vm.findClass own = some m.cls ∧ (∀ w ∈ zT, w.before args s = true) ∧ va_K D zcl (zty z) s ∧ zNok s ∧ zSt zst A s s.heap ∧ ∀ q : Nat, s.heap.size ≤ q → A q
def iw (D : va_G) (A : Nat → Prop) (s : State) (w : va_W) (H : Heap) (locs : List Loc) : Prop := va_P D zcl w H ∧ va_D A w ∧ va_S A s.heap H locs
def zPre (D : va_G) (z : zZ) (w : va_W) (U : State) : Prop := va_P D zcl w U.heap ∧ va_K D zcl (zty z) U ∧ va_D (fun _ => True) w ∧ zNok U ∧ zSt zst (va_A w U.heap.size) U U.heap
theorem zPre_blind {D : va_G} {z : zZ} {w : va_W} {sz : Nat} (av : List Value) : FrameBlind (va_Pc av (fun U => U.heap.size = sz ∧ zPre D z w U)) := by
  intro a U g mk q
  obtain ⟨q0, q1, qP, qK, qD, qN, qS⟩ := q
  exact ⟨q0, q1, qP, va_K.moved (u := U) (U := U.calling g mk a) (Vm.Alike.refl U.vm) qK, qD, zNok_same (s := U) (U := U.calling g mk a) rfl qN, zSt_to (s := U) (U := U.calling g mk a) qS (fun _ _ _ => rfl) (Vm.Alike.refl U.vm) (fun _ h => h)⟩
section ZB
variable {p : Program} {l : Launch} {e : Env} {R : Room} {s : State} {m : MethodId} {args : Array Value} {below : List Frame} {meth : Method} {c : Code} {H : Heap} {locs : List Loc} {cells slots : Nat} {Q : State → Prop}
variable {cc : ByteArray} {nL : Nat} {own : String} {A : Nat → Prop} {D : va_G} {z : zZ} {w w' : va_W} {pc : Nat} {ls : Array Slot} {rest : List Value}
theorem iw_free (B : bx p s m args c cc nL own A D z) (hI : iw D A s w H locs) : ∀ q, va_A w H.size q → A q := by
  obtain ⟨-, -, -, -, -, -, -, -, hA⟩ := B
  obtain ⟨-, hD, hS⟩ := hI
  intro q h
  rcases h with ⟨k, e0, h⟩ | h
  · exact hD.2 k (q, e0) h
  · exact hA q (Nat.le_trans hS.1 h)
theorem zPre_call (B : bx p s m args c cc nL own A D z) (hI : iw D A s w H locs) (av : List Value) : ∀ U : State, U.heap = H → s.WarmedH U.vm → va_Pc av (fun U => U.heap.size = H.size ∧ zPre D z w U) av.toArray U := by
  have hF := iw_free B hI
  obtain ⟨-, -, -, -, -, hK, hN, hZ, hA⟩ := B
  obtain ⟨hP, hD, hS⟩ := hI
  intro U hU hW
  subst hU
  exact ⟨rfl, rfl, hP, va_K.moved hW.alike hK, hD.weaken (fun _ _ _ _ => trivial), zNok_warm hW hN, zSt_to hZ hS.2.1 hW.alike hF⟩
theorem zGood {x y : Cond} (h : y ∈ zT) : ∀ w ∈ (y :: zT), w ∈ (x :: zT) ∧ ((w.onTables && w.keeps) = true ∨ ∃ ty, w = .arrayClass ty) := by
  intro w hw
  have h1 : w ∈ zT := by rcases List.mem_cons.mp hw with rfl | h2; exact h; exact h2
  exact ⟨List.mem_cons_of_mem _ h1, good_of_word (List.mem_filter.mp h1).2⟩
theorem zGoodT {y : Cond} (h : y ∈ zT) : GoodIn zT (y :: zT) := by
  intro w hw
  have h1 : w ∈ zT := by rcases List.mem_cons.mp hw with rfl | h2; exact h; exact h2
  exact ⟨h1, good_of_word (List.mem_filter.mp h1).2⟩
theorem rx_get (B : bx p s m args c cc nL own A D z) (hI : iw D A s w H locs) {C : String} {T : u_T} {N ci index a : Nat} (hcl : zcl[ci]? = some (C, T, N)) (hin : ∀ w ∈ u_ws C T N, w ∈ zT) (q0 : Nat) {fs : List Value} (he : w[q0]? = some (a, .inr (ci, fs))) (k : Nat) (hk : k < N) (hl : Cond.fieldLink own index (T k).1 (T k).2.1 (T k).2.2.1 ∈ zT) {v : Value} (hv : fs[k]? = some v) (hdg : decode cc pc = .ok (.getfield index, 3))
    (kk : W p l e R s m args below meth c H locs cells slots Q (F0 m (pc + 3) ls (v :: rest))) : W p l e R s m args below meth c H locs cells slots Q (F0 m pc ls (.ref a :: rest)) := by
  obtain ⟨hx, hb, hml, hown, hts, hK, hN, hZ, hA⟩ := B
  exact va_get (D := D) (cl := zcl) hx hb hts hin hown hK hI.1 q0 he hcl k hk (hts _ hl) (fun _ h => h) hv hdg kk
theorem rx_getN (B : bx p s m args c cc nL own A D z) (hI : iw D A s w H locs) {C host : String} {T : u_T} {N ci index a : Nat} (hcl : zcl[ci]? = some (C, T, N)) (hin : ∀ w ∈ u_ws C T N, w ∈ zT) (q0 : Nat) {fs : List Value} (he : w[q0]? = some (a, .inr (ci, fs))) (k : Nat) (hk : k < N) (hl : Cond.fieldLinkNest own index (T k).1 (T k).2.1 (T k).2.2.1 host ∈ zN) {v : Value} (hv : fs[k]? = some v) (hdg : decode cc pc = .ok (.getfield index, 3))
    (kk : W p l e R s m args below meth c H locs cells slots Q (F0 m (pc + 3) ls (v :: rest))) : W p l e R s m args below meth c H locs cells slots Q (F0 m pc ls (.ref a :: rest)) := by
  obtain ⟨hx, hb, hml, hown, hts, hK, hN, hZ, hA⟩ := B
  exact va_getN (D := D) (cl := zcl) hx hb hts hin hown hK hI.1 q0 he hcl k hk (va_Nw.use rfl (hN _ hl)) (fun _ h => h) hv hdg kk
theorem rx_put (B : bx p s m args c cc nL own A D z) (hI : iw D A s w H locs) {C : String} {T : u_T} {N ci index a : Nat} (hcl : zcl[ci]? = some (C, T, N)) (hin : ∀ w ∈ u_ws C T N, w ∈ zT) {ty0 : Nat → FieldType} (hty : ∀ k, k < N → parseFieldDescriptor (T k).2.2.1 = some (ty0 k)) (hnm : ∀ a, a < N → ∀ b, b < N → a ≠ b → (T a).2.1 ≠ (T b).2.1) (q0 : Nat) {fs : List Value} (he : w[q0]? = some (a, .inr (ci, fs))) (k : Nat) (hk : k < N) (hl : Cond.fieldLink own index (T k).1 (T k).2.1 (T k).2.2.1 ∈ zT) (hfin : (T k).2.2.2 = false) {ty : FieldType} {v : Value} (hd : parseFieldDescriptor (T k).2.2.1 = some ty) (hn : narrow ty v = v) (hfit : fits ty v = true) (hlen : k < fs.length) (hw : w.set q0 (a, .inr (ci, fs.set k v)) = w') (hdg : decode cc pc = .ok (.putfield index, 3))
    (kk : ∀ (H1 : Heap) (locs1 : List Loc), iw D A s w' H1 locs1 → W p l e R s m args below meth c H1 locs1 cells slots Q (F0 m (pc + 3) ls rest)) : W p l e R s m args below meth c H locs cells slots Q (F0 m pc ls (v :: .ref a :: rest)) := by
  obtain ⟨hx, hb, hml, hown, hts, hK, hN, hZ, hA⟩ := B
  subst hw
  exact va_put (D := D) (cl := zcl) hx hb hts hin ty0 hty hnm hown hK hI.1 hI.2.1 hI.2.2 q0 he hcl k hk (hts _ hl) (fun _ h => h) hfin hd hn hfit hlen hdg (fun H1 locs1 h1 h2 h3 => kk H1 locs1 ⟨h1, h2, h3⟩)
theorem rx_putN (B : bx p s m args c cc nL own A D z) (hI : iw D A s w H locs) {C host : String} {T : u_T} {N ci index a : Nat} (hcl : zcl[ci]? = some (C, T, N)) (hin : ∀ w ∈ u_ws C T N, w ∈ zT) {ty0 : Nat → FieldType} (hty : ∀ k, k < N → parseFieldDescriptor (T k).2.2.1 = some (ty0 k)) (hnm : ∀ a, a < N → ∀ b, b < N → a ≠ b → (T a).2.1 ≠ (T b).2.1) (q0 : Nat) {fs : List Value} (he : w[q0]? = some (a, .inr (ci, fs))) (k : Nat) (hk : k < N) (hl : Cond.fieldLinkNest own index (T k).1 (T k).2.1 (T k).2.2.1 host ∈ zN) (hfin : (T k).2.2.2 = false) {ty : FieldType} {v : Value} (hd : parseFieldDescriptor (T k).2.2.1 = some ty) (hn : narrow ty v = v) (hfit : fits ty v = true) (hlen : k < fs.length) (hw : w.set q0 (a, .inr (ci, fs.set k v)) = w') (hdg : decode cc pc = .ok (.putfield index, 3))
    (kk : ∀ (H1 : Heap) (locs1 : List Loc), iw D A s w' H1 locs1 → W p l e R s m args below meth c H1 locs1 cells slots Q (F0 m (pc + 3) ls rest)) : W p l e R s m args below meth c H locs cells slots Q (F0 m pc ls (v :: .ref a :: rest)) := by
  obtain ⟨hx, hb, hml, hown, hts, hK, hN, hZ, hA⟩ := B
  subst hw
  exact va_putN (D := D) (cl := zcl) hx hb hts hin ty0 hty hnm hown hK hI.1 hI.2.1 hI.2.2 q0 he hcl k hk (va_Nw.use rfl (hN _ hl)) (fun _ h => h) hfin hd hn hfit hlen hdg (fun H1 locs1 h1 h2 h3 => kk H1 locs1 ⟨h1, h2, h3⟩)
theorem rx_iald (B : bx p s m args c cc nL own A D z) (hI : iw D A s w H locs) (q0 : Nat) {a n : Nat} {f : Nat → Int32} (ha : w[q0]? = some (a, .inl (z.1, n, .inl f))) {i : Int32} (hin : zin i n) (hdg : decode cc pc = .ok (.iaload, 1))
    (kk : W p l e R s m args below meth c H locs cells slots Q (F0 m (pc + 1) ls (.int (f i.toNatClampNeg) :: rest))) : W p l e R s m args below meth c H locs cells slots Q (F0 m pc ls (.int i :: .ref a :: rest)) := by
  obtain ⟨hx, hb, hml, hown, hts, hK, hN, hZ, hA⟩ := B
  exact va_iald (D := D) (cl := zcl) hx hb hK hI.1 q0 0 ha rfl hin hdg kk
theorem rx_zald (B : bx p s m args c cc nL own A D z) (hI : iw D A s w H locs) (q0 : Nat) {a n : Nat} {f : Nat → Int32} (ha : w[q0]? = some (a, .inl (z.2.1, n, .inl f))) {i : Int32} (hin : zin i n) (hdg : decode cc pc = .ok (.baload, 1))
    (kk : W p l e R s m args below meth c H locs cells slots Q (F0 m (pc + 1) ls (.int (f i.toNatClampNeg) :: rest))) : W p l e R s m args below meth c H locs cells slots Q (F0 m pc ls (.int i :: .ref a :: rest)) := by
  obtain ⟨hx, hb, hml, hown, hts, hK, hN, hZ, hA⟩ := B
  exact va_zald (D := D) (cl := zcl) hx hb hK hI.1 q0 1 ha rfl hin hdg kk
theorem rx_lald (B : bx p s m args c cc nL own A D z) (hI : iw D A s w H locs) (q0 : Nat) {a n : Nat} {f : Nat → Int64} (ha : w[q0]? = some (a, .inl (z.2.2, n, .inr (.inl f)))) {i : Int32} (hin : zin i n) (hdg : decode cc pc = .ok (.laload, 1))
    (kk : W p l e R s m args below meth c H locs cells slots Q (F0 m (pc + 1) ls (.long (f i.toNatClampNeg) :: rest))) : W p l e R s m args below meth c H locs cells slots Q (F0 m pc ls (.int i :: .ref a :: rest)) := by
  obtain ⟨hx, hb, hml, hown, hts, hK, hN, hZ, hA⟩ := B
  exact va_lald (D := D) (cl := zcl) hx hb hK hI.1 q0 2 ha rfl hin hdg kk
theorem rx_iast (B : bx p s m args c cc nL own A D z) (hI : iw D A s w H locs) (q0 : Nat) {a n : Nat} {f : Nat → Int32} (ha : w[q0]? = some (a, .inl (z.1, n, .inl f))) {i : Int32} {x : Int32} (hin : zin i n) (hw : w.set q0 (a, .inl (z.1, n, .inl (upd f i.toNatClampNeg x))) = w') (hdg : decode cc pc = .ok (.iastore, 1))
    (kk : ∀ (H1 : Heap) (locs1 : List Loc), iw D A s w' H1 locs1 → W p l e R s m args below meth c H1 locs1 cells slots Q (F0 m (pc + 1) ls rest)) : W p l e R s m args below meth c H locs cells slots Q (F0 m pc ls (.int x :: .int i :: .ref a :: rest)) := by
  obtain ⟨hx, hb, hml, hown, hts, hK, hN, hZ, hA⟩ := B
  subst hw
  exact va_iast (D := D) (cl := zcl) hx hb hK hI.1 hI.2.1 hI.2.2 q0 0 ha rfl hin hdg (fun H1 locs1 h1 h2 h3 => kk H1 locs1 ⟨h1, h2, h3⟩)
theorem rx_zast (B : bx p s m args c cc nL own A D z) (hI : iw D A s w H locs) (q0 : Nat) {a n : Nat} {f : Nat → Int32} (ha : w[q0]? = some (a, .inl (z.2.1, n, .inl f))) {i : Int32} {x : Int32} (hin : zin i n) (hw : w.set q0 (a, .inl (z.2.1, n, .inl (upd f i.toNatClampNeg (vp_nar .boolean x)))) = w') (hdg : decode cc pc = .ok (.bastore, 1))
    (kk : ∀ (H1 : Heap) (locs1 : List Loc), iw D A s w' H1 locs1 → W p l e R s m args below meth c H1 locs1 cells slots Q (F0 m (pc + 1) ls rest)) : W p l e R s m args below meth c H locs cells slots Q (F0 m pc ls (.int x :: .int i :: .ref a :: rest)) := by
  obtain ⟨hx, hb, hml, hown, hts, hK, hN, hZ, hA⟩ := B
  subst hw
  exact va_zast (D := D) (cl := zcl) hx hb hK hI.1 hI.2.1 hI.2.2 q0 1 ha rfl hin hdg (fun H1 locs1 h1 h2 h3 => kk H1 locs1 ⟨h1, h2, h3⟩)
theorem rx_last (B : bx p s m args c cc nL own A D z) (hI : iw D A s w H locs) (q0 : Nat) {a n : Nat} {f : Nat → Int64} (ha : w[q0]? = some (a, .inl (z.2.2, n, .inr (.inl f)))) {i : Int32} {x : Int64} (hin : zin i n) (hw : w.set q0 (a, .inl (z.2.2, n, .inr (.inl (vp_updL f i.toNatClampNeg x)))) = w') (hdg : decode cc pc = .ok (.lastore, 1))
    (kk : ∀ (H1 : Heap) (locs1 : List Loc), iw D A s w' H1 locs1 → W p l e R s m args below meth c H1 locs1 cells slots Q (F0 m (pc + 1) ls rest)) : W p l e R s m args below meth c H locs cells slots Q (F0 m pc ls (.long x :: .int i :: .ref a :: rest)) := by
  obtain ⟨hx, hb, hml, hown, hts, hK, hN, hZ, hA⟩ := B
  subst hw
  exact va_last (D := D) (cl := zcl) hx hb hK hI.1 hI.2.1 hI.2.2 q0 2 ha rfl hin hdg (fun H1 locs1 h1 h2 h3 => kk H1 locs1 ⟨h1, h2, h3⟩)
theorem rx_alen (B : bx p s m args c cc nL own A D z) (hI : iw D A s w H locs) (q0 t0 : Nat) {a : Nat} {cA : ClassId} {x : vp_A} (ha : w[q0]? = some (a, .inl (cA, x))) {ty : FieldType} (ht : (zty z)[t0]? = some (cA, ty)) {v : Int32} (hv : Int32.ofNat x.1 = v) (hdg : decode cc pc = .ok (.arraylength, 1))
    (kk : W p l e R s m args below meth c H locs cells slots Q (F0 m (pc + 1) ls (.int v :: rest))) : W p l e R s m args below meth c H locs cells slots Q (F0 m pc ls (.ref a :: rest)) := by
  obtain ⟨hx, hb, hml, hown, hts, hK, hN, hZ, hA⟩ := B
  exact va_alen (D := D) (cl := zcl) hx hb hK hI.1 q0 t0 ha ht hv hdg kk
theorem rx_gets (B : bx p s m args c cc nL own A D z) (hI : iw D A s w H locs) (j : Nat) {C n : String} {vs : List Int32} (hj : zst[j]? = some (C, n, vs)) {index : Nat} (hl : Cond.fieldLink own index C n "[I" ∈ zT) (hdg : decode cc pc = .ok (.getstatic index, 3))
    (kk : ∀ t : Nat, va_T .int t vs.length (fun j => .int (vs.getD j 0)) A s s.heap → W p l e R s m args below meth c H locs cells slots Q (F0 m (pc + 3) ls (.ref t :: rest))) : W p l e R s m args below meth c H locs cells slots Q (F0 m pc ls rest) := by
  obtain ⟨hx, hb, hml, hown, hts, hK, hN, hZ, hA⟩ := B
  obtain ⟨t, h1, h2⟩ := hZ _ (List.mem_of_getElem? hj)
  exact va_gets hx hb h1 hI.2.2 hown (hts _ hl) (fun _ h => h) hdg (kk t h2)
theorem rx_getsN (B : bx p s m args c cc nL own A D z) (hI : iw D A s w H locs) (j : Nat) {C n : String} {vs : List Int32} (hj : zst[j]? = some (C, n, vs)) {index : Nat} {host : String} (hl : Cond.fieldLinkNest own index C n "[I" host ∈ zN) (hdg : decode cc pc = .ok (.getstatic index, 3))
    (kk : ∀ t : Nat, va_T .int t vs.length (fun j => .int (vs.getD j 0)) A s s.heap → W p l e R s m args below meth c H locs cells slots Q (F0 m (pc + 3) ls (.ref t :: rest))) : W p l e R s m args below meth c H locs cells slots Q (F0 m pc ls rest) := by
  obtain ⟨hx, hb, hml, hown, hts, hK, hN, hZ, hA⟩ := B
  obtain ⟨t, h1, h2⟩ := hZ _ (List.mem_of_getElem? hj)
  exact va_getsN hx hb h1 hI.2.2 hown (va_Nw.use rfl (hN _ hl)) (fun _ h => h) hdg (kk t h2)
theorem rx_ti (B : bx p s m args c cc nL own A D z) (hI : iw D A s w H locs) {t n : Nat} {vs : List Int32} (hT : va_T .int t vs.length (fun j => .int (vs.getD j 0)) A s s.heap) (hn : vs.length = n) {i : Int32} (hin : zin i n) (hdg : decode cc pc = .ok (.iaload, 1))
    (kk : W p l e R s m args below meth c H locs cells slots Q (F0 m (pc + 1) ls (.int (vs.getD i.toNatClampNeg 0) :: rest))) : W p l e R s m args below meth c H locs cells slots Q (F0 m pc ls (.int i :: .ref t :: rest)) := by
  subst hn
  exact va_ti B.1 B.2.1 hT hI.2.2 hin rfl hdg kk
theorem rx_tlen (B : bx p s m args c cc nL own A D z) (hI : iw D A s w H locs) {t : Nat} {vs : List Int32} (hT : va_T .int t vs.length (fun j => .int (vs.getD j 0)) A s s.heap) {v : Int32} (hv : Int32.ofNat vs.length = v) (hdg : decode cc pc = .ok (.arraylength, 1))
    (kk : W p l e R s m args below meth c H locs cells slots Q (F0 m (pc + 1) ls (.int v :: rest))) : W p l e R s m args below meth c H locs cells slots Q (F0 m pc ls (.ref t :: rest)) := va_tlen B.1 B.2.1 hT hI.2.2 hv hdg kk
end ZB
/-- a contract: world before, world behind -/
def zMet (l : Launch) (D : va_G) (z : zZ) (y : MethodName) (cw : Cond) (rm : Room) (av : List Value) (w : va_W) (Qa : (Nat → Prop) → Array Value → State → Outcome → State → Prop) : Prop :=
  ∀ sz : Nat, Met l y (cw :: zT) rm (va_Pc av (fun U => U.heap.size = sz ∧ zPre D z w U)) (Qa (va_A w sz)) 0 0 (va_A w sz)
def zQi (D : va_G) (r : Int32) (w' : va_W) (A : Nat → Prop) : Array Value → State → Outcome → State → Prop := va_Qi (fun r1 (_ : Unit) => r1 = r) (fun _ t => va_P D zcl w' t.heap ∧ va_D A w') A
def zQl (D : va_G) (r : Int64) (w' : va_W) (A : Nat → Prop) : Array Value → State → Outcome → State → Prop := va_Ql (fun r1 (_ : Unit) => r1 = r) (fun _ t => va_P D zcl w' t.heap ∧ va_D A w') A
def zQv (D : va_G) (w' : va_W) (A : Nat → Prop) : Array Value → State → Outcome → State → Prop := va_Qv (fun (_ : Unit) => True) (fun _ t => va_P D zcl w' t.heap ∧ va_D A w') A
def zQr (D : va_G) (r : Nat) (w' : va_W) (A : Nat → Prop) : Array Value → State → Outcome → State → Prop := va_Qr (fun (_ : Unit) => True) (fun _ a t => a = r ∧ va_P D zcl w' t.heap ∧ va_D A w') A
section ZC
variable {p : Program} {l : Launch} {e : Env} {R : Room} {s : State} {m : MethodId} {args : Array Value} {below : List Frame} {meth : Method} {c : Code} {H : Heap} {locs : List Loc} {cells slots : Nat} {Q : State → Prop}
variable {cc bytes : ByteArray} {nL maxL n index : Nat} {ret : Option FieldType} {own C host : String} {A : Nat → Prop} {D : va_G} {z : zZ} {w w' : va_W} {pc : Nat} {ls : Array Slot} {As rest st0 : List Value} {y : MethodName} {rm : Room} {b : Nat}
theorem rx_Vi (B : bx p s m args c cc nL own A D z) (hI : iw D A s w H locs) (hl : ls.size = nL) {r : Int32} (hM : zMet l D z y (.code y bytes maxL ret) rm (.ref b :: As) w (zQi D r w')) (h1 : Cond.methodLink own index y ∈ zT) (h2 : Cond.instanceMethod y ∈ zT) (h3 : Cond.selects C y y ∈ zT) (h4 : Cond.initialized C ∈ zT) (h5 : Cond.code y bytes maxL ret ∈ zT) (hd : y.cls = C ∧ y.cls ≠ "java/lang/invoke/MethodHandle" ∧ y.cls ≠ "java/lang/invoke/VarHandle" ∧ (parseMethodDescriptor y.desc).map (fun d => d.parameters.length) = some n) (q0 : Nat) {ci : Nat} {fs : List Value} {T : u_T} {N : Nat} (he : w[q0]? = some (b, .inr (ci, fs))) (hcl : zcl[ci]? = some (C, T, N)) (hn : As.length = n) (hst : st0 = As.reverse ++ .ref b :: rest) (hrest : (rest.map fun v => v.category).sum ≤ 8) (hdg : decode cc pc = .ok (.invokevirtual index, 3)) (hR : rm.frames + 1 ≤ R.frames ∧ 8 + (maxL + 11) + rm.locals ≤ R.locals) (hrc : rm.cells = 0) (hrs : rm.slots = 0) (hcs : cells ≤ R.cells ∧ slots ≤ R.slots)
    (kk : ∀ (H1 : Heap) (locs1 : List Loc), iw D A s w' H1 locs1 → W p l e R s m args below meth c H1 locs1 cells slots Q (F0 m (pc + 3) ls (.int r :: rest))) : W p l e R s m args below meth c H locs cells slots Q (F0 m pc ls st0) := by
  have hFc := iw_free B hI
  obtain ⟨hx, hb, hml, hown, hts, hK, hN, hZ, hA⟩ := id B
  refine va_calli (va_runV (As := As) (rest := rest) ⟨hx, hb, hml, hown, hts⟩ (hM H.size) (cwV n hts (fun w hw => by
      have h9 : w ∈ zT := by
        rcases List.mem_append.mp hw with hw | hw
        · simp only [List.mem_cons, List.mem_nil_iff, or_false] at hw
          rcases hw with rfl | rfl | rfl | rfl <;> assumption
        · rcases List.mem_cons.mp hw with rfl | hw
          · exact h5
          · exact hw
      exact ⟨h9, good_of_word (List.mem_filter.mp h9).2⟩) rfl hrc hrs hd hR) ⟨zPre_blind _, va_recv hK hI.1 hcl he, zPre_call B hI _⟩ rfl hn hl hst (lv_room hrest) hdg ⟨hcs.1, hcs.2⟩) hI.2.2 (fun q _ h => hFc q h) hFc (fun r1 u t H1 locs1 ht hvm hw hB hz1 hk1 hS1 => ?_)
  subst hw
  obtain ⟨hP1, hD1⟩ := hB
  rw [ht] at hP1
  exact kk H1 locs1 ⟨hP1, hD1.weaken (fun _ q _ h => hFc q.1 h), hS1⟩
theorem rx_Vl (B : bx p s m args c cc nL own A D z) (hI : iw D A s w H locs) (hl : ls.size = nL) {r : Int64} (hM : zMet l D z y (.code y bytes maxL ret) rm (.ref b :: As) w (zQl D r w')) (h1 : Cond.methodLink own index y ∈ zT) (h2 : Cond.instanceMethod y ∈ zT) (h3 : Cond.selects C y y ∈ zT) (h4 : Cond.initialized C ∈ zT) (h5 : Cond.code y bytes maxL ret ∈ zT) (hd : y.cls = C ∧ y.cls ≠ "java/lang/invoke/MethodHandle" ∧ y.cls ≠ "java/lang/invoke/VarHandle" ∧ (parseMethodDescriptor y.desc).map (fun d => d.parameters.length) = some n) (q0 : Nat) {ci : Nat} {fs : List Value} {T : u_T} {N : Nat} (he : w[q0]? = some (b, .inr (ci, fs))) (hcl : zcl[ci]? = some (C, T, N)) (hn : As.length = n) (hst : st0 = As.reverse ++ .ref b :: rest) (hrest : (rest.map fun v => v.category).sum ≤ 8) (hdg : decode cc pc = .ok (.invokevirtual index, 3)) (hR : rm.frames + 1 ≤ R.frames ∧ 8 + (maxL + 11) + rm.locals ≤ R.locals) (hrc : rm.cells = 0) (hrs : rm.slots = 0) (hcs : cells ≤ R.cells ∧ slots ≤ R.slots)
    (kk : ∀ (H1 : Heap) (locs1 : List Loc), iw D A s w' H1 locs1 → W p l e R s m args below meth c H1 locs1 cells slots Q (F0 m (pc + 3) ls (.long r :: rest))) : W p l e R s m args below meth c H locs cells slots Q (F0 m pc ls st0) := by
  have hFc := iw_free B hI
  obtain ⟨hx, hb, hml, hown, hts, hK, hN, hZ, hA⟩ := id B
  refine va_calll (va_runV (As := As) (rest := rest) ⟨hx, hb, hml, hown, hts⟩ (hM H.size) (cwV n hts (fun w hw => by
      have h9 : w ∈ zT := by
        rcases List.mem_append.mp hw with hw | hw
        · simp only [List.mem_cons, List.mem_nil_iff, or_false] at hw
          rcases hw with rfl | rfl | rfl | rfl <;> assumption
        · rcases List.mem_cons.mp hw with rfl | hw
          · exact h5
          · exact hw
      exact ⟨h9, good_of_word (List.mem_filter.mp h9).2⟩) rfl hrc hrs hd hR) ⟨zPre_blind _, va_recv hK hI.1 hcl he, zPre_call B hI _⟩ rfl hn hl hst (lv_room hrest) hdg ⟨hcs.1, hcs.2⟩) hI.2.2 (fun q _ h => hFc q h) hFc (fun r1 u t H1 locs1 ht hvm hw hB hz1 hk1 hS1 => ?_)
  subst hw
  obtain ⟨hP1, hD1⟩ := hB
  rw [ht] at hP1
  exact kk H1 locs1 ⟨hP1, hD1.weaken (fun _ q _ h => hFc q.1 h), hS1⟩
theorem rx_Vv (B : bx p s m args c cc nL own A D z) (hI : iw D A s w H locs) (hl : ls.size = nL)  (hM : zMet l D z y (.code y bytes maxL ret) rm (.ref b :: As) w (zQv D w')) (h1 : Cond.methodLink own index y ∈ zT) (h2 : Cond.instanceMethod y ∈ zT) (h3 : Cond.selects C y y ∈ zT) (h4 : Cond.initialized C ∈ zT) (h5 : Cond.code y bytes maxL ret ∈ zT) (hd : y.cls = C ∧ y.cls ≠ "java/lang/invoke/MethodHandle" ∧ y.cls ≠ "java/lang/invoke/VarHandle" ∧ (parseMethodDescriptor y.desc).map (fun d => d.parameters.length) = some n) (q0 : Nat) {ci : Nat} {fs : List Value} {T : u_T} {N : Nat} (he : w[q0]? = some (b, .inr (ci, fs))) (hcl : zcl[ci]? = some (C, T, N)) (hn : As.length = n) (hst : st0 = As.reverse ++ .ref b :: rest) (hrest : (rest.map fun v => v.category).sum ≤ 8) (hdg : decode cc pc = .ok (.invokevirtual index, 3)) (hR : rm.frames + 1 ≤ R.frames ∧ 8 + (maxL + 11) + rm.locals ≤ R.locals) (hrc : rm.cells = 0) (hrs : rm.slots = 0) (hcs : cells ≤ R.cells ∧ slots ≤ R.slots)
    (kk : ∀ (H1 : Heap) (locs1 : List Loc), iw D A s w' H1 locs1 → W p l e R s m args below meth c H1 locs1 cells slots Q (F0 m (pc + 3) ls (rest))) : W p l e R s m args below meth c H locs cells slots Q (F0 m pc ls st0) := by
  have hFc := iw_free B hI
  obtain ⟨hx, hb, hml, hown, hts, hK, hN, hZ, hA⟩ := id B
  refine va_callv (va_runV (As := As) (rest := rest) ⟨hx, hb, hml, hown, hts⟩ (hM H.size) (cwV n hts (fun w hw => by
      have h9 : w ∈ zT := by
        rcases List.mem_append.mp hw with hw | hw
        · simp only [List.mem_cons, List.mem_nil_iff, or_false] at hw
          rcases hw with rfl | rfl | rfl | rfl <;> assumption
        · rcases List.mem_cons.mp hw with rfl | hw
          · exact h5
          · exact hw
      exact ⟨h9, good_of_word (List.mem_filter.mp h9).2⟩) rfl hrc hrs hd hR) ⟨zPre_blind _, va_recv hK hI.1 hcl he, zPre_call B hI _⟩ rfl hn hl hst (lv_room hrest) hdg ⟨hcs.1, hcs.2⟩) hI.2.2 (fun q _ h => hFc q h) hFc (fun u t H1 locs1 ht hvm hw hB hz1 hk1 hS1 => ?_)
  obtain ⟨hP1, hD1⟩ := hB
  rw [ht] at hP1
  exact kk H1 locs1 ⟨hP1, hD1.weaken (fun _ q _ h => hFc q.1 h), hS1⟩
theorem rx_Vr (B : bx p s m args c cc nL own A D z) (hI : iw D A s w H locs) (hl : ls.size = nL) {r : Nat} (hM : zMet l D z y (.code y bytes maxL ret) rm (.ref b :: As) w (zQr D r w')) (h1 : Cond.methodLink own index y ∈ zT) (h2 : Cond.instanceMethod y ∈ zT) (h3 : Cond.selects C y y ∈ zT) (h4 : Cond.initialized C ∈ zT) (h5 : Cond.code y bytes maxL ret ∈ zT) (hd : y.cls = C ∧ y.cls ≠ "java/lang/invoke/MethodHandle" ∧ y.cls ≠ "java/lang/invoke/VarHandle" ∧ (parseMethodDescriptor y.desc).map (fun d => d.parameters.length) = some n) (q0 : Nat) {ci : Nat} {fs : List Value} {T : u_T} {N : Nat} (he : w[q0]? = some (b, .inr (ci, fs))) (hcl : zcl[ci]? = some (C, T, N)) (hn : As.length = n) (hst : st0 = As.reverse ++ .ref b :: rest) (hrest : (rest.map fun v => v.category).sum ≤ 8) (hdg : decode cc pc = .ok (.invokevirtual index, 3)) (hR : rm.frames + 1 ≤ R.frames ∧ 8 + (maxL + 11) + rm.locals ≤ R.locals) (hrc : rm.cells = 0) (hrs : rm.slots = 0) (hcs : cells ≤ R.cells ∧ slots ≤ R.slots)
    (kk : ∀ (H1 : Heap) (locs1 : List Loc), iw D A s w' H1 locs1 → W p l e R s m args below meth c H1 locs1 cells slots Q (F0 m (pc + 3) ls (.ref r :: rest))) : W p l e R s m args below meth c H locs cells slots Q (F0 m pc ls st0) := by
  have hFc := iw_free B hI
  obtain ⟨hx, hb, hml, hown, hts, hK, hN, hZ, hA⟩ := id B
  refine va_callr (va_runV (As := As) (rest := rest) ⟨hx, hb, hml, hown, hts⟩ (hM H.size) (cwV n hts (fun w hw => by
      have h9 : w ∈ zT := by
        rcases List.mem_append.mp hw with hw | hw
        · simp only [List.mem_cons, List.mem_nil_iff, or_false] at hw
          rcases hw with rfl | rfl | rfl | rfl <;> assumption
        · rcases List.mem_cons.mp hw with rfl | hw
          · exact h5
          · exact hw
      exact ⟨h9, good_of_word (List.mem_filter.mp h9).2⟩) rfl hrc hrs hd hR) ⟨zPre_blind _, va_recv hK hI.1 hcl he, zPre_call B hI _⟩ rfl hn hl hst (lv_room hrest) hdg ⟨hcs.1, hcs.2⟩) hI.2.2 (fun q _ h => hFc q h) hFc (fun u r1 t H1 locs1 ht hvm hw hB hz1 hk1 hS1 => ?_)
  obtain ⟨e9, hP1, hD1⟩ := hB
  subst e9
  rw [ht] at hP1
  exact kk H1 locs1 ⟨hP1, hD1.weaken (fun _ q _ h => hFc q.1 h), hS1⟩
theorem rx_Ni (B : bx p s m args c cc nL own A D z) (hI : iw D A s w H locs) (hl : ls.size = nL) {r : Int32} (hM : zMet l D z y (.code y bytes maxL ret) rm (.ref b :: As) w (zQi D r w')) (h1 : Cond.methodLinkNest own index y host ∈ zN) (h2 : Cond.instanceMethod y ∈ zT) (h3 : Cond.selects C y y ∈ zT) (h4 : Cond.initialized y.cls ∈ zT) (h5 : Cond.code y bytes maxL ret ∈ zT) (hd : y.cls ≠ "java/lang/invoke/MethodHandle" ∧ y.cls ≠ "java/lang/invoke/VarHandle" ∧ (parseMethodDescriptor y.desc).map (fun d => d.parameters.length) = some n) (q0 : Nat) {ci : Nat} {fs : List Value} {T : u_T} {N : Nat} (he : w[q0]? = some (b, .inr (ci, fs))) (hcl : zcl[ci]? = some (C, T, N)) (hn : As.length = n) (hst : st0 = As.reverse ++ .ref b :: rest) (hrest : (rest.map fun v => v.category).sum ≤ 8) (hdg : decode cc pc = .ok (.invokevirtual index, 3)) (hR : rm.frames + 1 ≤ R.frames ∧ 8 + (maxL + 11) + rm.locals ≤ R.locals) (hrc : rm.cells = 0) (hrs : rm.slots = 0) (hcs : cells ≤ R.cells ∧ slots ≤ R.slots)
    (kk : ∀ (H1 : Heap) (locs1 : List Loc), iw D A s w' H1 locs1 → W p l e R s m args below meth c H1 locs1 cells slots Q (F0 m (pc + 3) ls (.int r :: rest))) : W p l e R s m args below meth c H locs cells slots Q (F0 m pc ls st0) := by
  have hFc := iw_free B hI
  obtain ⟨hx, hb, hml, hown, hts, hK, hN, hZ, hA⟩ := id B
  refine va_calli (va_runVN (As := As) (rest := rest) ⟨hx, hb, hml, hown, hts⟩ (hM H.size) ⟨va_cnB n hts (zGoodT h5) rfl hrc hrs (hN _ h1) (hts _ h4) hd hR, hts _ h2, hts _ h3⟩ ⟨zPre_blind _, va_recv hK hI.1 hcl he, zPre_call B hI _⟩ rfl hn hl hst (lv_room hrest) hdg ⟨hcs.1, hcs.2⟩) hI.2.2 (fun q _ h => hFc q h) hFc (fun r1 u t H1 locs1 ht hvm hw hB hz1 hk1 hS1 => ?_)
  subst hw
  obtain ⟨hP1, hD1⟩ := hB
  rw [ht] at hP1
  exact kk H1 locs1 ⟨hP1, hD1.weaken (fun _ q _ h => hFc q.1 h), hS1⟩
theorem rx_Nl (B : bx p s m args c cc nL own A D z) (hI : iw D A s w H locs) (hl : ls.size = nL) {r : Int64} (hM : zMet l D z y (.code y bytes maxL ret) rm (.ref b :: As) w (zQl D r w')) (h1 : Cond.methodLinkNest own index y host ∈ zN) (h2 : Cond.instanceMethod y ∈ zT) (h3 : Cond.selects C y y ∈ zT) (h4 : Cond.initialized y.cls ∈ zT) (h5 : Cond.code y bytes maxL ret ∈ zT) (hd : y.cls ≠ "java/lang/invoke/MethodHandle" ∧ y.cls ≠ "java/lang/invoke/VarHandle" ∧ (parseMethodDescriptor y.desc).map (fun d => d.parameters.length) = some n) (q0 : Nat) {ci : Nat} {fs : List Value} {T : u_T} {N : Nat} (he : w[q0]? = some (b, .inr (ci, fs))) (hcl : zcl[ci]? = some (C, T, N)) (hn : As.length = n) (hst : st0 = As.reverse ++ .ref b :: rest) (hrest : (rest.map fun v => v.category).sum ≤ 8) (hdg : decode cc pc = .ok (.invokevirtual index, 3)) (hR : rm.frames + 1 ≤ R.frames ∧ 8 + (maxL + 11) + rm.locals ≤ R.locals) (hrc : rm.cells = 0) (hrs : rm.slots = 0) (hcs : cells ≤ R.cells ∧ slots ≤ R.slots)
    (kk : ∀ (H1 : Heap) (locs1 : List Loc), iw D A s w' H1 locs1 → W p l e R s m args below meth c H1 locs1 cells slots Q (F0 m (pc + 3) ls (.long r :: rest))) : W p l e R s m args below meth c H locs cells slots Q (F0 m pc ls st0) := by
  have hFc := iw_free B hI
  obtain ⟨hx, hb, hml, hown, hts, hK, hN, hZ, hA⟩ := id B
  refine va_calll (va_runVN (As := As) (rest := rest) ⟨hx, hb, hml, hown, hts⟩ (hM H.size) ⟨va_cnB n hts (zGoodT h5) rfl hrc hrs (hN _ h1) (hts _ h4) hd hR, hts _ h2, hts _ h3⟩ ⟨zPre_blind _, va_recv hK hI.1 hcl he, zPre_call B hI _⟩ rfl hn hl hst (lv_room hrest) hdg ⟨hcs.1, hcs.2⟩) hI.2.2 (fun q _ h => hFc q h) hFc (fun r1 u t H1 locs1 ht hvm hw hB hz1 hk1 hS1 => ?_)
  subst hw
  obtain ⟨hP1, hD1⟩ := hB
  rw [ht] at hP1
  exact kk H1 locs1 ⟨hP1, hD1.weaken (fun _ q _ h => hFc q.1 h), hS1⟩
theorem rx_Nv (B : bx p s m args c cc nL own A D z) (hI : iw D A s w H locs) (hl : ls.size = nL)  (hM : zMet l D z y (.code y bytes maxL ret) rm (.ref b :: As) w (zQv D w')) (h1 : Cond.methodLinkNest own index y host ∈ zN) (h2 : Cond.instanceMethod y ∈ zT) (h3 : Cond.selects C y y ∈ zT) (h4 : Cond.initialized y.cls ∈ zT) (h5 : Cond.code y bytes maxL ret ∈ zT) (hd : y.cls ≠ "java/lang/invoke/MethodHandle" ∧ y.cls ≠ "java/lang/invoke/VarHandle" ∧ (parseMethodDescriptor y.desc).map (fun d => d.parameters.length) = some n) (q0 : Nat) {ci : Nat} {fs : List Value} {T : u_T} {N : Nat} (he : w[q0]? = some (b, .inr (ci, fs))) (hcl : zcl[ci]? = some (C, T, N)) (hn : As.length = n) (hst : st0 = As.reverse ++ .ref b :: rest) (hrest : (rest.map fun v => v.category).sum ≤ 8) (hdg : decode cc pc = .ok (.invokevirtual index, 3)) (hR : rm.frames + 1 ≤ R.frames ∧ 8 + (maxL + 11) + rm.locals ≤ R.locals) (hrc : rm.cells = 0) (hrs : rm.slots = 0) (hcs : cells ≤ R.cells ∧ slots ≤ R.slots)
    (kk : ∀ (H1 : Heap) (locs1 : List Loc), iw D A s w' H1 locs1 → W p l e R s m args below meth c H1 locs1 cells slots Q (F0 m (pc + 3) ls (rest))) : W p l e R s m args below meth c H locs cells slots Q (F0 m pc ls st0) := by
  have hFc := iw_free B hI
  obtain ⟨hx, hb, hml, hown, hts, hK, hN, hZ, hA⟩ := id B
  refine va_callv (va_runVN (As := As) (rest := rest) ⟨hx, hb, hml, hown, hts⟩ (hM H.size) ⟨va_cnB n hts (zGoodT h5) rfl hrc hrs (hN _ h1) (hts _ h4) hd hR, hts _ h2, hts _ h3⟩ ⟨zPre_blind _, va_recv hK hI.1 hcl he, zPre_call B hI _⟩ rfl hn hl hst (lv_room hrest) hdg ⟨hcs.1, hcs.2⟩) hI.2.2 (fun q _ h => hFc q h) hFc (fun u t H1 locs1 ht hvm hw hB hz1 hk1 hS1 => ?_)
  obtain ⟨hP1, hD1⟩ := hB
  rw [ht] at hP1
  exact kk H1 locs1 ⟨hP1, hD1.weaken (fun _ q _ h => hFc q.1 h), hS1⟩
theorem rx_Nr (B : bx p s m args c cc nL own A D z) (hI : iw D A s w H locs) (hl : ls.size = nL) {r : Nat} (hM : zMet l D z y (.code y bytes maxL ret) rm (.ref b :: As) w (zQr D r w')) (h1 : Cond.methodLinkNest own index y host ∈ zN) (h2 : Cond.instanceMethod y ∈ zT) (h3 : Cond.selects C y y ∈ zT) (h4 : Cond.initialized y.cls ∈ zT) (h5 : Cond.code y bytes maxL ret ∈ zT) (hd : y.cls ≠ "java/lang/invoke/MethodHandle" ∧ y.cls ≠ "java/lang/invoke/VarHandle" ∧ (parseMethodDescriptor y.desc).map (fun d => d.parameters.length) = some n) (q0 : Nat) {ci : Nat} {fs : List Value} {T : u_T} {N : Nat} (he : w[q0]? = some (b, .inr (ci, fs))) (hcl : zcl[ci]? = some (C, T, N)) (hn : As.length = n) (hst : st0 = As.reverse ++ .ref b :: rest) (hrest : (rest.map fun v => v.category).sum ≤ 8) (hdg : decode cc pc = .ok (.invokevirtual index, 3)) (hR : rm.frames + 1 ≤ R.frames ∧ 8 + (maxL + 11) + rm.locals ≤ R.locals) (hrc : rm.cells = 0) (hrs : rm.slots = 0) (hcs : cells ≤ R.cells ∧ slots ≤ R.slots)
    (kk : ∀ (H1 : Heap) (locs1 : List Loc), iw D A s w' H1 locs1 → W p l e R s m args below meth c H1 locs1 cells slots Q (F0 m (pc + 3) ls (.ref r :: rest))) : W p l e R s m args below meth c H locs cells slots Q (F0 m pc ls st0) := by
  have hFc := iw_free B hI
  obtain ⟨hx, hb, hml, hown, hts, hK, hN, hZ, hA⟩ := id B
  refine va_callr (va_runVN (As := As) (rest := rest) ⟨hx, hb, hml, hown, hts⟩ (hM H.size) ⟨va_cnB n hts (zGoodT h5) rfl hrc hrs (hN _ h1) (hts _ h4) hd hR, hts _ h2, hts _ h3⟩ ⟨zPre_blind _, va_recv hK hI.1 hcl he, zPre_call B hI _⟩ rfl hn hl hst (lv_room hrest) hdg ⟨hcs.1, hcs.2⟩) hI.2.2 (fun q _ h => hFc q h) hFc (fun u r1 t H1 locs1 ht hvm hw hB hz1 hk1 hS1 => ?_)
  obtain ⟨e9, hP1, hD1⟩ := hB
  subst e9
  rw [ht] at hP1
  exact kk H1 locs1 ⟨hP1, hD1.weaken (fun _ q _ h => hFc q.1 h), hS1⟩
theorem rx_Si (B : bx p s m args c cc nL own A D z) (hI : iw D A s w H locs) (hl : ls.size = nL) {r : Int32} (hM : zMet l D z y (.code y bytes maxL ret) rm As w (zQi D r w')) (h1 : Cond.methodLink own index y ∈ zT) (h2 : Cond.static y ∈ zT) (h4 : Cond.initialized y.cls ∈ zT) (h5 : Cond.code y bytes maxL ret ∈ zT) (hd : y.cls ≠ "java/lang/invoke/MethodHandle" ∧ y.cls ≠ "java/lang/invoke/VarHandle" ∧ (parseMethodDescriptor y.desc).map (fun d => d.parameters.length) = some n) (hn : As.length = n) (hst : st0 = As.reverse ++ rest) (hrest : (rest.map fun v => v.category).sum ≤ 8) (hdg : decode cc pc = .ok (.invokestatic index, 3)) (hR : rm.frames + 1 ≤ R.frames ∧ 8 + (maxL + 11) + rm.locals ≤ R.locals) (hrc : rm.cells = 0) (hrs : rm.slots = 0) (hcs : cells ≤ R.cells ∧ slots ≤ R.slots)
    (kk : ∀ (H1 : Heap) (locs1 : List Loc), iw D A s w' H1 locs1 → W p l e R s m args below meth c H1 locs1 cells slots Q (F0 m (pc + 3) ls (.int r :: rest))) : W p l e R s m args below meth c H locs cells slots Q (F0 m pc ls st0) := by
  have hFc := iw_free B hI
  obtain ⟨hx, hb, hml, hown, hts, hK, hN, hZ, hA⟩ := id B
  refine va_calli (va_runS (As := As) (rest := rest) ⟨hx, hb, hml, hown, hts⟩ (hM H.size) ⟨callB_of n hts (zGoodT h5) rfl hrc hrs (hts _ h4) (hts _ h1) hd hR, hts _ h2⟩ ⟨zPre_blind _, zPre_call B hI _⟩ rfl hn hl hst (lv_room hrest) hdg ⟨hcs.1, hcs.2⟩) hI.2.2 (fun q _ h => hFc q h) hFc (fun r1 u t H1 locs1 ht hvm hw hB hz1 hk1 hS1 => ?_)
  subst hw
  obtain ⟨hP1, hD1⟩ := hB
  rw [ht] at hP1
  exact kk H1 locs1 ⟨hP1, hD1.weaken (fun _ q _ h => hFc q.1 h), hS1⟩
theorem rx_Sl (B : bx p s m args c cc nL own A D z) (hI : iw D A s w H locs) (hl : ls.size = nL) {r : Int64} (hM : zMet l D z y (.code y bytes maxL ret) rm As w (zQl D r w')) (h1 : Cond.methodLink own index y ∈ zT) (h2 : Cond.static y ∈ zT) (h4 : Cond.initialized y.cls ∈ zT) (h5 : Cond.code y bytes maxL ret ∈ zT) (hd : y.cls ≠ "java/lang/invoke/MethodHandle" ∧ y.cls ≠ "java/lang/invoke/VarHandle" ∧ (parseMethodDescriptor y.desc).map (fun d => d.parameters.length) = some n) (hn : As.length = n) (hst : st0 = As.reverse ++ rest) (hrest : (rest.map fun v => v.category).sum ≤ 8) (hdg : decode cc pc = .ok (.invokestatic index, 3)) (hR : rm.frames + 1 ≤ R.frames ∧ 8 + (maxL + 11) + rm.locals ≤ R.locals) (hrc : rm.cells = 0) (hrs : rm.slots = 0) (hcs : cells ≤ R.cells ∧ slots ≤ R.slots)
    (kk : ∀ (H1 : Heap) (locs1 : List Loc), iw D A s w' H1 locs1 → W p l e R s m args below meth c H1 locs1 cells slots Q (F0 m (pc + 3) ls (.long r :: rest))) : W p l e R s m args below meth c H locs cells slots Q (F0 m pc ls st0) := by
  have hFc := iw_free B hI
  obtain ⟨hx, hb, hml, hown, hts, hK, hN, hZ, hA⟩ := id B
  refine va_calll (va_runS (As := As) (rest := rest) ⟨hx, hb, hml, hown, hts⟩ (hM H.size) ⟨callB_of n hts (zGoodT h5) rfl hrc hrs (hts _ h4) (hts _ h1) hd hR, hts _ h2⟩ ⟨zPre_blind _, zPre_call B hI _⟩ rfl hn hl hst (lv_room hrest) hdg ⟨hcs.1, hcs.2⟩) hI.2.2 (fun q _ h => hFc q h) hFc (fun r1 u t H1 locs1 ht hvm hw hB hz1 hk1 hS1 => ?_)
  subst hw
  obtain ⟨hP1, hD1⟩ := hB
  rw [ht] at hP1
  exact kk H1 locs1 ⟨hP1, hD1.weaken (fun _ q _ h => hFc q.1 h), hS1⟩
theorem rx_Sv (B : bx p s m args c cc nL own A D z) (hI : iw D A s w H locs) (hl : ls.size = nL)  (hM : zMet l D z y (.code y bytes maxL ret) rm As w (zQv D w')) (h1 : Cond.methodLink own index y ∈ zT) (h2 : Cond.static y ∈ zT) (h4 : Cond.initialized y.cls ∈ zT) (h5 : Cond.code y bytes maxL ret ∈ zT) (hd : y.cls ≠ "java/lang/invoke/MethodHandle" ∧ y.cls ≠ "java/lang/invoke/VarHandle" ∧ (parseMethodDescriptor y.desc).map (fun d => d.parameters.length) = some n) (hn : As.length = n) (hst : st0 = As.reverse ++ rest) (hrest : (rest.map fun v => v.category).sum ≤ 8) (hdg : decode cc pc = .ok (.invokestatic index, 3)) (hR : rm.frames + 1 ≤ R.frames ∧ 8 + (maxL + 11) + rm.locals ≤ R.locals) (hrc : rm.cells = 0) (hrs : rm.slots = 0) (hcs : cells ≤ R.cells ∧ slots ≤ R.slots)
    (kk : ∀ (H1 : Heap) (locs1 : List Loc), iw D A s w' H1 locs1 → W p l e R s m args below meth c H1 locs1 cells slots Q (F0 m (pc + 3) ls (rest))) : W p l e R s m args below meth c H locs cells slots Q (F0 m pc ls st0) := by
  have hFc := iw_free B hI
  obtain ⟨hx, hb, hml, hown, hts, hK, hN, hZ, hA⟩ := id B
  refine va_callv (va_runS (As := As) (rest := rest) ⟨hx, hb, hml, hown, hts⟩ (hM H.size) ⟨callB_of n hts (zGoodT h5) rfl hrc hrs (hts _ h4) (hts _ h1) hd hR, hts _ h2⟩ ⟨zPre_blind _, zPre_call B hI _⟩ rfl hn hl hst (lv_room hrest) hdg ⟨hcs.1, hcs.2⟩) hI.2.2 (fun q _ h => hFc q h) hFc (fun u t H1 locs1 ht hvm hw hB hz1 hk1 hS1 => ?_)
  obtain ⟨hP1, hD1⟩ := hB
  rw [ht] at hP1
  exact kk H1 locs1 ⟨hP1, hD1.weaken (fun _ q _ h => hFc q.1 h), hS1⟩
theorem rx_Sr (B : bx p s m args c cc nL own A D z) (hI : iw D A s w H locs) (hl : ls.size = nL) {r : Nat} (hM : zMet l D z y (.code y bytes maxL ret) rm As w (zQr D r w')) (h1 : Cond.methodLink own index y ∈ zT) (h2 : Cond.static y ∈ zT) (h4 : Cond.initialized y.cls ∈ zT) (h5 : Cond.code y bytes maxL ret ∈ zT) (hd : y.cls ≠ "java/lang/invoke/MethodHandle" ∧ y.cls ≠ "java/lang/invoke/VarHandle" ∧ (parseMethodDescriptor y.desc).map (fun d => d.parameters.length) = some n) (hn : As.length = n) (hst : st0 = As.reverse ++ rest) (hrest : (rest.map fun v => v.category).sum ≤ 8) (hdg : decode cc pc = .ok (.invokestatic index, 3)) (hR : rm.frames + 1 ≤ R.frames ∧ 8 + (maxL + 11) + rm.locals ≤ R.locals) (hrc : rm.cells = 0) (hrs : rm.slots = 0) (hcs : cells ≤ R.cells ∧ slots ≤ R.slots)
    (kk : ∀ (H1 : Heap) (locs1 : List Loc), iw D A s w' H1 locs1 → W p l e R s m args below meth c H1 locs1 cells slots Q (F0 m (pc + 3) ls (.ref r :: rest))) : W p l e R s m args below meth c H locs cells slots Q (F0 m pc ls st0) := by
  have hFc := iw_free B hI
  obtain ⟨hx, hb, hml, hown, hts, hK, hN, hZ, hA⟩ := id B
  refine va_callr (va_runS (As := As) (rest := rest) ⟨hx, hb, hml, hown, hts⟩ (hM H.size) ⟨callB_of n hts (zGoodT h5) rfl hrc hrs (hts _ h4) (hts _ h1) hd hR, hts _ h2⟩ ⟨zPre_blind _, zPre_call B hI _⟩ rfl hn hl hst (lv_room hrest) hdg ⟨hcs.1, hcs.2⟩) hI.2.2 (fun q _ h => hFc q h) hFc (fun u r1 t H1 locs1 ht hvm hw hB hz1 hk1 hS1 => ?_)
  obtain ⟨e9, hP1, hD1⟩ := hB
  subst e9
  rw [ht] at hP1
  exact kk H1 locs1 ⟨hP1, hD1.weaken (fun _ q _ h => hFc q.1 h), hS1⟩
theorem rx_Mi (B : bx p s m args c cc nL own A D z) (hI : iw D A s w H locs) (hl : ls.size = nL) {r : Int32} (hM : zMet l D z y (.code y bytes maxL ret) rm As w (zQi D r w')) (h1 : Cond.methodLinkNest own index y host ∈ zN) (h2 : Cond.static y ∈ zT) (h4 : Cond.initialized y.cls ∈ zT) (h5 : Cond.code y bytes maxL ret ∈ zT) (hd : y.cls ≠ "java/lang/invoke/MethodHandle" ∧ y.cls ≠ "java/lang/invoke/VarHandle" ∧ (parseMethodDescriptor y.desc).map (fun d => d.parameters.length) = some n) (hn : As.length = n) (hst : st0 = As.reverse ++ rest) (hrest : (rest.map fun v => v.category).sum ≤ 8) (hdg : decode cc pc = .ok (.invokestatic index, 3)) (hR : rm.frames + 1 ≤ R.frames ∧ 8 + (maxL + 11) + rm.locals ≤ R.locals) (hrc : rm.cells = 0) (hrs : rm.slots = 0) (hcs : cells ≤ R.cells ∧ slots ≤ R.slots)
    (kk : ∀ (H1 : Heap) (locs1 : List Loc), iw D A s w' H1 locs1 → W p l e R s m args below meth c H1 locs1 cells slots Q (F0 m (pc + 3) ls (.int r :: rest))) : W p l e R s m args below meth c H locs cells slots Q (F0 m pc ls st0) := by
  have hFc := iw_free B hI
  obtain ⟨hx, hb, hml, hown, hts, hK, hN, hZ, hA⟩ := id B
  refine va_calli (va_runSN (As := As) (rest := rest) ⟨hx, hb, hml, hown, hts⟩ (hM H.size) ⟨va_cnB n hts (zGoodT h5) rfl hrc hrs (hN _ h1) (hts _ h4) hd hR, hts _ h2, trivial⟩ ⟨zPre_blind _, zPre_call B hI _⟩ rfl hn hl hst (lv_room hrest) hdg ⟨hcs.1, hcs.2⟩) hI.2.2 (fun q _ h => hFc q h) hFc (fun r1 u t H1 locs1 ht hvm hw hB hz1 hk1 hS1 => ?_)
  subst hw
  obtain ⟨hP1, hD1⟩ := hB
  rw [ht] at hP1
  exact kk H1 locs1 ⟨hP1, hD1.weaken (fun _ q _ h => hFc q.1 h), hS1⟩
theorem rx_Ml (B : bx p s m args c cc nL own A D z) (hI : iw D A s w H locs) (hl : ls.size = nL) {r : Int64} (hM : zMet l D z y (.code y bytes maxL ret) rm As w (zQl D r w')) (h1 : Cond.methodLinkNest own index y host ∈ zN) (h2 : Cond.static y ∈ zT) (h4 : Cond.initialized y.cls ∈ zT) (h5 : Cond.code y bytes maxL ret ∈ zT) (hd : y.cls ≠ "java/lang/invoke/MethodHandle" ∧ y.cls ≠ "java/lang/invoke/VarHandle" ∧ (parseMethodDescriptor y.desc).map (fun d => d.parameters.length) = some n) (hn : As.length = n) (hst : st0 = As.reverse ++ rest) (hrest : (rest.map fun v => v.category).sum ≤ 8) (hdg : decode cc pc = .ok (.invokestatic index, 3)) (hR : rm.frames + 1 ≤ R.frames ∧ 8 + (maxL + 11) + rm.locals ≤ R.locals) (hrc : rm.cells = 0) (hrs : rm.slots = 0) (hcs : cells ≤ R.cells ∧ slots ≤ R.slots)
    (kk : ∀ (H1 : Heap) (locs1 : List Loc), iw D A s w' H1 locs1 → W p l e R s m args below meth c H1 locs1 cells slots Q (F0 m (pc + 3) ls (.long r :: rest))) : W p l e R s m args below meth c H locs cells slots Q (F0 m pc ls st0) := by
  have hFc := iw_free B hI
  obtain ⟨hx, hb, hml, hown, hts, hK, hN, hZ, hA⟩ := id B
  refine va_calll (va_runSN (As := As) (rest := rest) ⟨hx, hb, hml, hown, hts⟩ (hM H.size) ⟨va_cnB n hts (zGoodT h5) rfl hrc hrs (hN _ h1) (hts _ h4) hd hR, hts _ h2, trivial⟩ ⟨zPre_blind _, zPre_call B hI _⟩ rfl hn hl hst (lv_room hrest) hdg ⟨hcs.1, hcs.2⟩) hI.2.2 (fun q _ h => hFc q h) hFc (fun r1 u t H1 locs1 ht hvm hw hB hz1 hk1 hS1 => ?_)
  subst hw
  obtain ⟨hP1, hD1⟩ := hB
  rw [ht] at hP1
  exact kk H1 locs1 ⟨hP1, hD1.weaken (fun _ q _ h => hFc q.1 h), hS1⟩
theorem rx_Mv (B : bx p s m args c cc nL own A D z) (hI : iw D A s w H locs) (hl : ls.size = nL)  (hM : zMet l D z y (.code y bytes maxL ret) rm As w (zQv D w')) (h1 : Cond.methodLinkNest own index y host ∈ zN) (h2 : Cond.static y ∈ zT) (h4 : Cond.initialized y.cls ∈ zT) (h5 : Cond.code y bytes maxL ret ∈ zT) (hd : y.cls ≠ "java/lang/invoke/MethodHandle" ∧ y.cls ≠ "java/lang/invoke/VarHandle" ∧ (parseMethodDescriptor y.desc).map (fun d => d.parameters.length) = some n) (hn : As.length = n) (hst : st0 = As.reverse ++ rest) (hrest : (rest.map fun v => v.category).sum ≤ 8) (hdg : decode cc pc = .ok (.invokestatic index, 3)) (hR : rm.frames + 1 ≤ R.frames ∧ 8 + (maxL + 11) + rm.locals ≤ R.locals) (hrc : rm.cells = 0) (hrs : rm.slots = 0) (hcs : cells ≤ R.cells ∧ slots ≤ R.slots)
    (kk : ∀ (H1 : Heap) (locs1 : List Loc), iw D A s w' H1 locs1 → W p l e R s m args below meth c H1 locs1 cells slots Q (F0 m (pc + 3) ls (rest))) : W p l e R s m args below meth c H locs cells slots Q (F0 m pc ls st0) := by
  have hFc := iw_free B hI
  obtain ⟨hx, hb, hml, hown, hts, hK, hN, hZ, hA⟩ := id B
  refine va_callv (va_runSN (As := As) (rest := rest) ⟨hx, hb, hml, hown, hts⟩ (hM H.size) ⟨va_cnB n hts (zGoodT h5) rfl hrc hrs (hN _ h1) (hts _ h4) hd hR, hts _ h2, trivial⟩ ⟨zPre_blind _, zPre_call B hI _⟩ rfl hn hl hst (lv_room hrest) hdg ⟨hcs.1, hcs.2⟩) hI.2.2 (fun q _ h => hFc q h) hFc (fun u t H1 locs1 ht hvm hw hB hz1 hk1 hS1 => ?_)
  obtain ⟨hP1, hD1⟩ := hB
  rw [ht] at hP1
  exact kk H1 locs1 ⟨hP1, hD1.weaken (fun _ q _ h => hFc q.1 h), hS1⟩
theorem rx_Mr (B : bx p s m args c cc nL own A D z) (hI : iw D A s w H locs) (hl : ls.size = nL) {r : Nat} (hM : zMet l D z y (.code y bytes maxL ret) rm As w (zQr D r w')) (h1 : Cond.methodLinkNest own index y host ∈ zN) (h2 : Cond.static y ∈ zT) (h4 : Cond.initialized y.cls ∈ zT) (h5 : Cond.code y bytes maxL ret ∈ zT) (hd : y.cls ≠ "java/lang/invoke/MethodHandle" ∧ y.cls ≠ "java/lang/invoke/VarHandle" ∧ (parseMethodDescriptor y.desc).map (fun d => d.parameters.length) = some n) (hn : As.length = n) (hst : st0 = As.reverse ++ rest) (hrest : (rest.map fun v => v.category).sum ≤ 8) (hdg : decode cc pc = .ok (.invokestatic index, 3)) (hR : rm.frames + 1 ≤ R.frames ∧ 8 + (maxL + 11) + rm.locals ≤ R.locals) (hrc : rm.cells = 0) (hrs : rm.slots = 0) (hcs : cells ≤ R.cells ∧ slots ≤ R.slots)
    (kk : ∀ (H1 : Heap) (locs1 : List Loc), iw D A s w' H1 locs1 → W p l e R s m args below meth c H1 locs1 cells slots Q (F0 m (pc + 3) ls (.ref r :: rest))) : W p l e R s m args below meth c H locs cells slots Q (F0 m pc ls st0) := by
  have hFc := iw_free B hI
  obtain ⟨hx, hb, hml, hown, hts, hK, hN, hZ, hA⟩ := id B
  refine va_callr (va_runSN (As := As) (rest := rest) ⟨hx, hb, hml, hown, hts⟩ (hM H.size) ⟨va_cnB n hts (zGoodT h5) rfl hrc hrs (hN _ h1) (hts _ h4) hd hR, hts _ h2, trivial⟩ ⟨zPre_blind _, zPre_call B hI _⟩ rfl hn hl hst (lv_room hrest) hdg ⟨hcs.1, hcs.2⟩) hI.2.2 (fun q _ h => hFc q h) hFc (fun u r1 t H1 locs1 ht hvm hw hB hz1 hk1 hS1 => ?_)
  obtain ⟨e9, hP1, hD1⟩ := hB
  subst e9
  rw [ht] at hP1
  exact kk H1 locs1 ⟨hP1, hD1.weaken (fun _ q _ h => hFc q.1 h), hS1⟩
end ZC
theorem zM_i {l : Launch} {D : va_G} {z : zZ} {y : MethodName} {cc : ByteArray} {maxL : Nat} {ret : Option FieldType} {rm : Room} {own : String} (av : List Value) (w : va_W) (r : Int32) (w' : va_W) (hy : plainName y.cls = true) (ho : y.cls = own) (hsz : (lg_sl av).length ≤ maxL)
    (body : ∀ (p : Program) (e : Env) (s : State) (m : MethodId) (args : Array Value) (below : List Frame) (meth : Method) (c : Code) (A : Nat → Prop) (ls : Array Slot), bx p s m args c cc maxL own A D z → meth.sig.returnType = ret → meth.locks = false → iw D A s w s.heap [] → lv_has ls maxL (lv_args 0 av) → W p l e rm s m args below meth c s.heap [] 0 0 (MQ below (zQi D r w' A) args s 0 0 A) (F0 m 0 ls [])) : zMet l D z y (.code y cc maxL ret) rm av w (zQi D r w') := by
  intro sz
  refine Met.ofW (cc := cc) (maxL := maxL) (ret := ret) hy rfl ?_
  intro p e s m args below meth c s₁ B hml hv
  obtain ⟨rfl, hsz0, hP, hK, hD0, hN, hZ⟩ := hv
  subst ho
  subst hsz0
  have hl := lv_entry av (n := maxL) hsz
  rw [lg_entry_eq]
  exact body p e s m _ below meth c _ _ ⟨B.exec, B.bytes, hml, findClass_of_methodNamed B.named, fun w hw => atoms_spec (ws := _ :: zT) B.pre w (List.mem_cons_of_mem _ hw), hK, hN, hZ, fun q h => Or.inr h⟩ B.returns B.notSynchronized ⟨hP, hD0.self, va_S.rf⟩ hl
theorem zM_l {l : Launch} {D : va_G} {z : zZ} {y : MethodName} {cc : ByteArray} {maxL : Nat} {ret : Option FieldType} {rm : Room} {own : String} (av : List Value) (w : va_W) (r : Int64) (w' : va_W) (hy : plainName y.cls = true) (ho : y.cls = own) (hsz : (lg_sl av).length ≤ maxL)
    (body : ∀ (p : Program) (e : Env) (s : State) (m : MethodId) (args : Array Value) (below : List Frame) (meth : Method) (c : Code) (A : Nat → Prop) (ls : Array Slot), bx p s m args c cc maxL own A D z → meth.sig.returnType = ret → meth.locks = false → iw D A s w s.heap [] → lv_has ls maxL (lv_args 0 av) → W p l e rm s m args below meth c s.heap [] 0 0 (MQ below (zQl D r w' A) args s 0 0 A) (F0 m 0 ls [])) : zMet l D z y (.code y cc maxL ret) rm av w (zQl D r w') := by
  intro sz
  refine Met.ofW (cc := cc) (maxL := maxL) (ret := ret) hy rfl ?_
  intro p e s m args below meth c s₁ B hml hv
  obtain ⟨rfl, hsz0, hP, hK, hD0, hN, hZ⟩ := hv
  subst ho
  subst hsz0
  have hl := lv_entry av (n := maxL) hsz
  rw [lg_entry_eq]
  exact body p e s m _ below meth c _ _ ⟨B.exec, B.bytes, hml, findClass_of_methodNamed B.named, fun w hw => atoms_spec (ws := _ :: zT) B.pre w (List.mem_cons_of_mem _ hw), hK, hN, hZ, fun q h => Or.inr h⟩ B.returns B.notSynchronized ⟨hP, hD0.self, va_S.rf⟩ hl
theorem zM_v {l : Launch} {D : va_G} {z : zZ} {y : MethodName} {cc : ByteArray} {maxL : Nat} {ret : Option FieldType} {rm : Room} {own : String} (av : List Value) (w : va_W) (w' : va_W) (hy : plainName y.cls = true) (ho : y.cls = own) (hsz : (lg_sl av).length ≤ maxL)
    (body : ∀ (p : Program) (e : Env) (s : State) (m : MethodId) (args : Array Value) (below : List Frame) (meth : Method) (c : Code) (A : Nat → Prop) (ls : Array Slot), bx p s m args c cc maxL own A D z → meth.sig.returnType = ret → meth.locks = false → iw D A s w s.heap [] → lv_has ls maxL (lv_args 0 av) → W p l e rm s m args below meth c s.heap [] 0 0 (MQ below (zQv D w' A) args s 0 0 A) (F0 m 0 ls [])) : zMet l D z y (.code y cc maxL ret) rm av w (zQv D w') := by
  intro sz
  refine Met.ofW (cc := cc) (maxL := maxL) (ret := ret) hy rfl ?_
  intro p e s m args below meth c s₁ B hml hv
  obtain ⟨rfl, hsz0, hP, hK, hD0, hN, hZ⟩ := hv
  subst ho
  subst hsz0
  have hl := lv_entry av (n := maxL) hsz
  rw [lg_entry_eq]
  exact body p e s m _ below meth c _ _ ⟨B.exec, B.bytes, hml, findClass_of_methodNamed B.named, fun w hw => atoms_spec (ws := _ :: zT) B.pre w (List.mem_cons_of_mem _ hw), hK, hN, hZ, fun q h => Or.inr h⟩ B.returns B.notSynchronized ⟨hP, hD0.self, va_S.rf⟩ hl
theorem zM_r {l : Launch} {D : va_G} {z : zZ} {y : MethodName} {cc : ByteArray} {maxL : Nat} {ret : Option FieldType} {rm : Room} {own : String} (av : List Value) (w : va_W) (r : Nat) (w' : va_W) (hy : plainName y.cls = true) (ho : y.cls = own) (hsz : (lg_sl av).length ≤ maxL)
    (body : ∀ (p : Program) (e : Env) (s : State) (m : MethodId) (args : Array Value) (below : List Frame) (meth : Method) (c : Code) (A : Nat → Prop) (ls : Array Slot), bx p s m args c cc maxL own A D z → meth.sig.returnType = ret → meth.locks = false → iw D A s w s.heap [] → lv_has ls maxL (lv_args 0 av) → W p l e rm s m args below meth c s.heap [] 0 0 (MQ below (zQr D r w' A) args s 0 0 A) (F0 m 0 ls [])) : zMet l D z y (.code y cc maxL ret) rm av w (zQr D r w') := by
  intro sz
  refine Met.ofW (cc := cc) (maxL := maxL) (ret := ret) hy rfl ?_
  intro p e s m args below meth c s₁ B hml hv
  obtain ⟨rfl, hsz0, hP, hK, hD0, hN, hZ⟩ := hv
  subst ho
  subst hsz0
  have hl := lv_entry av (n := maxL) hsz
  rw [lg_entry_eq]
  exact body p e s m _ below meth c _ _ ⟨B.exec, B.bytes, hml, findClass_of_methodNamed B.named, fun w hw => atoms_spec (ws := _ :: zT) B.pre w (List.mem_cons_of_mem _ hw), hK, hN, hZ, fun q h => Or.inr h⟩ B.returns B.notSynchronized ⟨hP, hD0.self, va_S.rf⟩ hl
section ZR
variable {p : Program} {l : Launch} {e : Env} {R : Room} {s : State} {m : MethodId} {args : Array Value} {below : List Frame} {meth : Method} {c : Code} {H : Heap} {locs : List Loc}
variable {cc : ByteArray} {nL : Nat} {own : String} {A : Nat → Prop} {D : va_G} {z : zZ} {w : va_W} {pc : Nat} {ls : Array Slot}
theorem zr_i (B : bx p s m args c cc nL own A D z) (hI : iw D A s w H locs) (hr : meth.sig.returnType = some .int) (hlk : meth.locks = false) {v r : Int32} (e1 : v = r) (hdg : decode cc pc = .ok (.ireturn, 1)) : W p l e R s m args below meth c H locs 0 0 (MQ below (zQi D r w A) args s 0 0 A) (F0 m pc ls [.int v]) := by
  subst e1
  exact W.iret (v := v) B.1 B.2.1 hr (fun t ht hW => ⟨⟨v, (), rfl, rfl, by rw [ht]; exact hI.1, hI.2.1⟩, hI.2.2.F ht⟩) hI.2.2.2.2 hdg hlk
theorem zr_z (B : bx p s m args c cc nL own A D z) (hI : iw D A s w H locs) (hr : meth.sig.returnType = some .boolean) (hlk : meth.locks = false) {v r : Int32} (hz : zbz v) (e1 : v = r) (hdg : decode cc pc = .ok (.ireturn, 1)) : W p l e R s m args below meth c H locs 0 0 (MQ below (zQi D r w A) args s 0 0 A) (F0 m pc ls [.int v]) := by
  subst e1
  exact W.zret (v := v) B.1 B.2.1 hr (znar hz) (fun t ht hW => ⟨⟨v, (), rfl, rfl, by rw [ht]; exact hI.1, hI.2.1⟩, hI.2.2.F ht⟩) hI.2.2.2.2 hdg hlk
theorem zr_l (B : bx p s m args c cc nL own A D z) (hI : iw D A s w H locs) (hr : meth.sig.returnType = some .long) (hlk : meth.locks = false) {v r : Int64} (e1 : v = r) (hdg : decode cc pc = .ok (.lreturn, 1)) : W p l e R s m args below meth c H locs 0 0 (MQ below (zQl D r w A) args s 0 0 A) (F0 m pc ls [.long v]) := by
  subst e1
  exact W.lret (v := v) B.1 B.2.1 hr (fun t ht hW => ⟨⟨v, (), rfl, rfl, by rw [ht]; exact hI.1, hI.2.1⟩, hI.2.2.F ht⟩) hI.2.2.2.2 hdg hlk
theorem zr_v (B : bx p s m args c cc nL own A D z) (hI : iw D A s w H locs) (hr : meth.sig.returnType = none) (hlk : meth.locks = false) (hdg : decode cc pc = .ok (.return_, 1)) : W p l e R s m args below meth c H locs 0 0 (MQ below (zQv D w A) args s 0 0 A) (F0 m pc ls []) :=
  W.vret B.1 B.2.1 hr (fun t ht hW => ⟨⟨(), rfl, trivial, by rw [ht]; exact hI.1, hI.2.1⟩, hI.2.2.F ht⟩) hI.2.2.2.2 hdg hlk
theorem zr_r (B : bx p s m args c cc nL own A D z) (hI : iw D A s w H locs) {C : String} (hr : meth.sig.returnType = some (.object C)) (hlk : meth.locks = false) {v r : Nat} (e1 : v = r) (hdg : decode cc pc = .ok (.areturn, 1)) : W p l e R s m args below meth c H locs 0 0 (MQ below (zQr D r w A) args s 0 0 A) (F0 m pc ls [.ref v]) := by
  subst e1
  exact W.aret (v := .ref v) B.1 B.2.1 hr (Or.inl ⟨C, rfl⟩) (Or.inr ⟨v, rfl⟩) (fun t ht hW => ⟨⟨(), v, rfl, trivial, rfl, by rw [ht]; exact hI.1, hI.2.1⟩, hI.2.2.F ht⟩) hI.2.2.2.2 hdg hlk
end ZR
end
