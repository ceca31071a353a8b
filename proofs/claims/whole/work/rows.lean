section
/-! base: a state of numbers, a world of cells, contracts that keep to one world -/
abbrev zU : Type := (Nat → Int32) × (Nat → Int64) × (Nat → Nat → Int32) × (Nat → Nat → Int64)
abbrev zZ : Type := ClassId × ClassId × ClassId
abbrev zty (z : zZ) : List (ClassId × FieldType) := [(z.1, .int), (z.2.1, .boolean), (z.2.2, .long)]
abbrev gi (u : zU) (k : Nat) : Int32 := u.1 k
abbrev gj (u : zU) (k : Nat) : Int64 := u.2.1 k
abbrev ga (u : zU) (k : Nat) (i : Int32) : Int32 := u.2.2.1 k i.toNatClampNeg
abbrev gb (u : zU) (k : Nat) (i : Int32) : Int64 := u.2.2.2 k i.toNatClampNeg
def si (u : zU) (k : Nat) (v : Int32) : zU := (va_up u.1 k v, u.2)
def sj (u : zU) (k : Nat) (v : Int64) : zU := (u.1, va_up u.2.1 k v, u.2.2)
def sa (u : zU) (k : Nat) (i v : Int32) : zU := (u.1, u.2.1, va_up u.2.2.1 k (upd (u.2.2.1 k) i.toNatClampNeg v), u.2.2.2)
def sb (u : zU) (k : Nat) (i : Int32) (v : Int64) : zU := (u.1, u.2.1, u.2.2.1, va_up u.2.2.2 k (vp_updL (u.2.2.2 k) i.toNatClampNeg v))
abbrev zin (i : Int32) (n : Nat) : Prop := ¬ (i < 0 ∨ n ≤ i.toNatClampNeg)
abbrev zbz (v : Int32) : Prop := v = 0 ∨ v = 1
def zck {α : Type} (c : Prop) [Decidable c] (x : Option α) : Option α := if c then x else none
def zbd {α β : Type} (x : Option (α × zU)) (k : α → zU → Option β) : Option β := match x with
  | none => none
  | some q => k q.1 q.2
theorem zck_some {α : Type} {c : Prop} [Decidable c] {x : Option α} {r : α} (h : zck c x = some r) : c ∧ x = some r := by
  unfold zck at h
  by_cases hc : c
  · rw [if_pos hc] at h; exact ⟨hc, h⟩
  · rw [if_neg hc] at h; cases h
theorem zck_pos {α : Type} {c : Prop} [Decidable c] {x : Option α} (h : c) : zck c x = x := if_pos h
theorem zbd_some {α β : Type} {x : Option (α × zU)} {k : α → zU → Option β} {z : β} (h : zbd x k = some z) : ∃ r u, x = some (r, u) ∧ k r u = some z := by
  unfold zbd at h
  cases x with
  | none => cases h
  | some q => exact ⟨q.1, q.2, rfl, h⟩
theorem zbd_eq {α β : Type} {x : Option (α × zU)} {k : α → zU → Option β} {r : α} {u : zU} (h : x = some (r, u)) : zbd x k = k r u := by rw [h]; rfl
theorem zrt {α : Type} {v r : α} {u t : zU} (h : some (v, u) = some (r, t)) : v = r ∧ u = t := by cases h; exact ⟨rfl, rfl⟩

def t_X_INSTRUCTIONS : List Int32 := [0, 5, 11, 17, 26, 28, 32, 38, 40, 196, 208, 210, 256, 273]
def t_X_MOVED_BYTES : List Int32 := [4, 8, 4, 8, 1, 1, 2, 2, 1, 1, 2, 2, 4, 4, 4, 8, 4, 8, 1, 2, 1, 2, 4]
def t_X_PLAIN : List Int32 := [63, 63, 0, 0, 127, 64, 64, 1, 127, 127, 65, 65, 0, 0, 127, 66, 66, 0, 0, 126, 67, 67, 0, 0, 125, 68, 68, 0, 0, 124, 69, 69, 1, 127, 127, 70, 79, 2, 127, 127, 80, 80, 1, 126, 127, 81, 90, 2, 126, 127, 91, 96, 2, 125, 127, 97, 102, 2, 124, 127, 103, 105, 1, 127, 127, 106, 120, 2, 127, 127, 121, 123, 1, 126, 126, 124, 138, 2, 126, 126, 139, 145, 1, 125, 125, 146, 152, 2, 125, 125, 153, 159, 1, 124, 124, 160, 166, 2, 124, 124, 167, 167, 1, 126, 127, 168, 169, 1, 125, 127, 170, 171, 1, 124, 127, 172, 173, 1, 127, 126, 174, 175, 1, 125, 126, 176, 177, 1, 124, 126, 178, 179, 1, 127, 125, 180, 181, 1, 126, 125, 182, 182, 1, 124, 125, 183, 184, 1, 127, 124, 185, 186, 1, 126, 124, 187, 187, 1, 125, 124, 188, 188, 1, 125, 127, 189, 189, 1, 124, 126, 190, 190, 1, 127, 125, 191, 191, 1, 126, 124, 192, 193, 1, 127, 127, 194, 196, 1, 126, 126, 210, 210, 0, 0, 112, 256, 257, 1, 125, 127, 258, 259, 1, 124, 127, 260, 261, 1, 125, 126, 262, 263, 1, 124, 126, 264, 264, 3, 127, (-1), 266, 268, 3, 127, (-1), 270, 270, 3, 127, (-1), 272, 272, 0, 0, 127]
def t_X_MOVED_TYPE : List Int32 := [127, 126, 125, 124, 127, 127, 127, 127, 126, 126, 126, 126, 126, 126, 127, 126, 125, 124, 127, 127, 126, 126, 126]
def zst : List (String × String × List Int32) := [("CodeChecker", "INSTRUCTIONS", t_X_INSTRUCTIONS), ("CodeChecker", "MOVED_BYTES", t_X_MOVED_BYTES), ("CodeChecker", "PLAIN", t_X_PLAIN), ("CodeChecker", "MOVED_TYPE", t_X_MOVED_TYPE)]
end
section
-- ===== PART A: goes FIRST, ahead of the names: the tables' words, and 'selects' of the private methods out of them =====
/-- a private method of a class that the tables say can be made, by its rows of tables_1 -/
def lw_okq (q : MethodName × Nat) : Prop := (q.1.cls ≠ "java/lang/invoke/MethodHandle" ∧ q.1.cls ≠ "java/lang/invoke/VarHandle") ∧ Cond.instantiable q.1.cls q.2 ∈ tables_1 ∧ Cond.privateMethod q.1 ∈ tables_1 ∧ Cond.instanceMethod q.1 ∈ tables_1
theorem lw_p0 : lw_okq (⟨"CodeChecker$Code", "open", "(IZ)V"⟩, 10) := ⟨⟨by decide +kernel, by decide +kernel⟩, List.mem_of_getElem? (i := 96) (by decide +kernel), List.mem_of_getElem? (i := 276) (by decide +kernel), List.mem_of_getElem? (i := 277) (by decide +kernel)⟩
theorem lw_p1 : lw_okq (⟨"CodeChecker$Stack", "pushBlock", "(II)V"⟩, 10) := ⟨⟨by decide +kernel, by decide +kernel⟩, List.mem_of_getElem? (i := 123) (by decide +kernel), List.mem_of_getElem? (i := 284) (by decide +kernel), List.mem_of_getElem? (i := 285) (by decide +kernel)⟩
theorem lw_p2 : lw_okq (⟨"CodeChecker$Code", "isMalformed", "(II)Z"⟩, 10) := ⟨⟨by decide +kernel, by decide +kernel⟩, List.mem_of_getElem? (i := 96) (by decide +kernel), List.mem_of_getElem? (i := 339) (by decide +kernel), List.mem_of_getElem? (i := 340) (by decide +kernel)⟩
theorem lw_p3 : lw_okq (⟨"CodeChecker$Code", "mayStandInConstant", "(II)Z"⟩, 10) := ⟨⟨by decide +kernel, by decide +kernel⟩, List.mem_of_getElem? (i := 96) (by decide +kernel), List.mem_of_getElem? (i := 352) (by decide +kernel), List.mem_of_getElem? (i := 353) (by decide +kernel)⟩
theorem lw_p4 : lw_okq (⟨"CodeChecker$Code", "namesWhatIsMissing", "(III)Z"⟩, 10) := ⟨⟨by decide +kernel, by decide +kernel⟩, List.mem_of_getElem? (i := 96) (by decide +kernel), List.mem_of_getElem? (i := 361) (by decide +kernel), List.mem_of_getElem? (i := 362) (by decide +kernel)⟩
theorem lw_p5 : lw_okq (⟨"CodeChecker$Code", "isLabelMissing", "()Z"⟩, 10) := ⟨⟨by decide +kernel, by decide +kernel⟩, List.mem_of_getElem? (i := 96) (by decide +kernel), List.mem_of_getElem? (i := 370) (by decide +kernel), List.mem_of_getElem? (i := 371) (by decide +kernel)⟩
theorem lw_p6 : lw_okq (⟨"CodeChecker$Code", "misfit", "(III)I"⟩, 10) := ⟨⟨by decide +kernel, by decide +kernel⟩, List.mem_of_getElem? (i := 96) (by decide +kernel), List.mem_of_getElem? (i := 379) (by decide +kernel), List.mem_of_getElem? (i := 380) (by decide +kernel)⟩
theorem lw_p7 : lw_okq (⟨"CodeChecker$Code", "accessFault", "(II)I"⟩, 10) := ⟨⟨by decide +kernel, by decide +kernel⟩, List.mem_of_getElem? (i := 96) (by decide +kernel), List.mem_of_getElem? (i := 383) (by decide +kernel), List.mem_of_getElem? (i := 384) (by decide +kernel)⟩
theorem lw_p8 : lw_okq (⟨"CodeChecker$Code", "carryOutPlain", "(I)V"⟩, 10) := ⟨⟨by decide +kernel, by decide +kernel⟩, List.mem_of_getElem? (i := 96) (by decide +kernel), List.mem_of_getElem? (i := 407) (by decide +kernel), List.mem_of_getElem? (i := 408) (by decide +kernel)⟩
theorem lw_p9 : lw_okq (⟨"CodeChecker$Stack", "fail", "(I)V"⟩, 10) := ⟨⟨by decide +kernel, by decide +kernel⟩, List.mem_of_getElem? (i := 123) (by decide +kernel), List.mem_of_getElem? (i := 424) (by decide +kernel), List.mem_of_getElem? (i := 425) (by decide +kernel)⟩
theorem lw_p10 : lw_okq (⟨"CodeChecker$Code", "carryOutBlock", "(II)V"⟩, 10) := ⟨⟨by decide +kernel, by decide +kernel⟩, List.mem_of_getElem? (i := 96) (by decide +kernel), List.mem_of_getElem? (i := 432) (by decide +kernel), List.mem_of_getElem? (i := 433) (by decide +kernel)⟩
theorem lw_p11 : lw_okq (⟨"CodeChecker$Stack", "hasInnermost", "()Z"⟩, 10) := ⟨⟨by decide +kernel, by decide +kernel⟩, List.mem_of_getElem? (i := 123) (by decide +kernel), List.mem_of_getElem? (i := 440) (by decide +kernel), List.mem_of_getElem? (i := 441) (by decide +kernel)⟩
theorem lw_p12 : lw_okq (⟨"CodeChecker$Stack", "ofBlock", "([II)I"⟩, 10) := ⟨⟨by decide +kernel, by decide +kernel⟩, List.mem_of_getElem? (i := 123) (by decide +kernel), List.mem_of_getElem? (i := 468) (by decide +kernel), List.mem_of_getElem? (i := 469) (by decide +kernel)⟩
theorem lw_p13 : lw_okq (⟨"CodeChecker$Stack", "expectNoMoreOperands", "()V"⟩, 10) := ⟨⟨by decide +kernel, by decide +kernel⟩, List.mem_of_getElem? (i := 123) (by decide +kernel), List.mem_of_getElem? (i := 472) (by decide +kernel), List.mem_of_getElem? (i := 473) (by decide +kernel)⟩
theorem lw_p14 : lw_okq (⟨"CodeChecker$Code", "carryOutBranch", "(II)V"⟩, 10) := ⟨⟨by decide +kernel, by decide +kernel⟩, List.mem_of_getElem? (i := 96) (by decide +kernel), List.mem_of_getElem? (i := 490) (by decide +kernel), List.mem_of_getElem? (i := 491) (by decide +kernel)⟩
theorem lw_p15 : lw_okq (⟨"CodeChecker$Stack", "labelRows", "(I)LCodeChecker$Rows;"⟩, 10) := ⟨⟨by decide +kernel, by decide +kernel⟩, List.mem_of_getElem? (i := 123) (by decide +kernel), List.mem_of_getElem? (i := 498) (by decide +kernel), List.mem_of_getElem? (i := 499) (by decide +kernel)⟩
def lw_privs_1 : List (MethodName × Nat) := [(⟨"CodeChecker$Code", "open", "(IZ)V"⟩, 10), (⟨"CodeChecker$Stack", "pushBlock", "(II)V"⟩, 10), (⟨"CodeChecker$Code", "isMalformed", "(II)Z"⟩, 10), (⟨"CodeChecker$Code", "mayStandInConstant", "(II)Z"⟩, 10), (⟨"CodeChecker$Code", "namesWhatIsMissing", "(III)Z"⟩, 10), (⟨"CodeChecker$Code", "isLabelMissing", "()Z"⟩, 10), (⟨"CodeChecker$Code", "misfit", "(III)I"⟩, 10), (⟨"CodeChecker$Code", "accessFault", "(II)I"⟩, 10), (⟨"CodeChecker$Code", "carryOutPlain", "(I)V"⟩, 10), (⟨"CodeChecker$Stack", "fail", "(I)V"⟩, 10), (⟨"CodeChecker$Code", "carryOutBlock", "(II)V"⟩, 10), (⟨"CodeChecker$Stack", "hasInnermost", "()Z"⟩, 10), (⟨"CodeChecker$Stack", "ofBlock", "([II)I"⟩, 10), (⟨"CodeChecker$Stack", "expectNoMoreOperands", "()V"⟩, 10), (⟨"CodeChecker$Code", "carryOutBranch", "(II)V"⟩, 10), (⟨"CodeChecker$Stack", "labelRows", "(I)LCodeChecker$Rows;"⟩, 10)]
theorem lw_r1 : ∀ q ∈ lw_privs_1, lw_okq q := List.forall_mem_cons.mpr ⟨lw_p0, List.forall_mem_cons.mpr ⟨lw_p1, List.forall_mem_cons.mpr ⟨lw_p2, List.forall_mem_cons.mpr ⟨lw_p3, List.forall_mem_cons.mpr ⟨lw_p4, List.forall_mem_cons.mpr ⟨lw_p5, List.forall_mem_cons.mpr ⟨lw_p6, List.forall_mem_cons.mpr ⟨lw_p7, List.forall_mem_cons.mpr ⟨lw_p8, List.forall_mem_cons.mpr ⟨lw_p9, List.forall_mem_cons.mpr ⟨lw_p10, List.forall_mem_cons.mpr ⟨lw_p11, List.forall_mem_cons.mpr ⟨lw_p12, List.forall_mem_cons.mpr ⟨lw_p13, List.forall_mem_cons.mpr ⟨lw_p14, List.forall_mem_cons.mpr ⟨lw_p15, fun _ h => absurd h List.not_mem_nil⟩⟩⟩⟩⟩⟩⟩⟩⟩⟩⟩⟩⟩⟩⟩⟩
theorem lw_p16 : lw_okq (⟨"CodeChecker$Code", "branchByRow", "(I)V"⟩, 10) := ⟨⟨by decide +kernel, by decide +kernel⟩, List.mem_of_getElem? (i := 96) (by decide +kernel), List.mem_of_getElem? (i := 506) (by decide +kernel), List.mem_of_getElem? (i := 507) (by decide +kernel)⟩
theorem lw_p17 : lw_okq (⟨"CodeChecker$Code", "enterFunction", "(I)V"⟩, 10) := ⟨⟨by decide +kernel, by decide +kernel⟩, List.mem_of_getElem? (i := 96) (by decide +kernel), List.mem_of_getElem? (i := 522) (by decide +kernel), List.mem_of_getElem? (i := 523) (by decide +kernel)⟩
theorem lw_p18 : lw_okq (⟨"CodeChecker$Code", "carryOutVariable", "(II)V"⟩, 10) := ⟨⟨by decide +kernel, by decide +kernel⟩, List.mem_of_getElem? (i := 96) (by decide +kernel), List.mem_of_getElem? (i := 528) (by decide +kernel), List.mem_of_getElem? (i := 529) (by decide +kernel)⟩
theorem lw_p19 : lw_okq (⟨"CodeChecker$Code", "carryOutAccess", "(I)V"⟩, 10) := ⟨⟨by decide +kernel, by decide +kernel⟩, List.mem_of_getElem? (i := 96) (by decide +kernel), List.mem_of_getElem? (i := 542) (by decide +kernel), List.mem_of_getElem? (i := 543) (by decide +kernel)⟩
theorem lw_p20 : lw_okq (⟨"CodeChecker$Code", "carryOutReference", "(II)V"⟩, 10) := ⟨⟨by decide +kernel, by decide +kernel⟩, List.mem_of_getElem? (i := 96) (by decide +kernel), List.mem_of_getElem? (i := 548) (by decide +kernel), List.mem_of_getElem? (i := 549) (by decide +kernel)⟩
theorem lw_p21 : lw_okq (⟨"CodeCheckerModel", "beginCode", "(Z)V"⟩, 39) := ⟨⟨by decide +kernel, by decide +kernel⟩, List.mem_of_getElem? (i := 588) (by decide +kernel), List.mem_of_getElem? (i := 738) (by decide +kernel), List.mem_of_getElem? (i := 739) (by decide +kernel)⟩
theorem lw_p22 : lw_okq (⟨"CodeCheckerModel", "addRow", "(IJ)V"⟩, 39) := ⟨⟨by decide +kernel, by decide +kernel⟩, List.mem_of_getElem? (i := 588) (by decide +kernel), List.mem_of_getElem? (i := 742) (by decide +kernel), List.mem_of_getElem? (i := 743) (by decide +kernel)⟩
theorem lw_p23 : lw_okq (⟨"CodeCheckerModel", "examine", "(III)V"⟩, 39) := ⟨⟨by decide +kernel, by decide +kernel⟩, List.mem_of_getElem? (i := 588) (by decide +kernel), List.mem_of_getElem? (i := 763) (by decide +kernel), List.mem_of_getElem? (i := 764) (by decide +kernel)⟩
theorem lw_p24 : lw_okq (⟨"CodeCheckerModel", "stop", "(I)V"⟩, 39) := ⟨⟨by decide +kernel, by decide +kernel⟩, List.mem_of_getElem? (i := 588) (by decide +kernel), List.mem_of_getElem? (i := 776) (by decide +kernel), List.mem_of_getElem? (i := 777) (by decide +kernel)⟩
theorem lw_p25 : lw_okq (⟨"CodeCheckerModel", "mayBeConstant", "(II)Z"⟩, 39) := ⟨⟨by decide +kernel, by decide +kernel⟩, List.mem_of_getElem? (i := 588) (by decide +kernel), List.mem_of_getElem? (i := 780) (by decide +kernel), List.mem_of_getElem? (i := 781) (by decide +kernel)⟩
theorem lw_p26 : lw_okq (⟨"CodeCheckerModel", "has", "(II)Z"⟩, 39) := ⟨⟨by decide +kernel, by decide +kernel⟩, List.mem_of_getElem? (i := 588) (by decide +kernel), List.mem_of_getElem? (i := 784) (by decide +kernel), List.mem_of_getElem? (i := 785) (by decide +kernel)⟩
theorem lw_p27 : lw_okq (⟨"CodeCheckerModel", "isThere", "(III)Z"⟩, 39) := ⟨⟨by decide +kernel, by decide +kernel⟩, List.mem_of_getElem? (i := 588) (by decide +kernel), List.mem_of_getElem? (i := 788) (by decide +kernel), List.mem_of_getElem? (i := 789) (by decide +kernel)⟩
theorem lw_p28 : lw_okq (⟨"CodeCheckerModel", "isLabel", "(I)Z"⟩, 39) := ⟨⟨by decide +kernel, by decide +kernel⟩, List.mem_of_getElem? (i := 588) (by decide +kernel), List.mem_of_getElem? (i := 792) (by decide +kernel), List.mem_of_getElem? (i := 793) (by decide +kernel)⟩
theorem lw_p29 : lw_okq (⟨"CodeCheckerModel", "localType", "(I)I"⟩, 39) := ⟨⟨by decide +kernel, by decide +kernel⟩, List.mem_of_getElem? (i := 588) (by decide +kernel), List.mem_of_getElem? (i := 796) (by decide +kernel), List.mem_of_getElem? (i := 797) (by decide +kernel)⟩
theorem lw_p30 : lw_okq (⟨"CodeCheckerModel", "require", "(III)V"⟩, 39) := ⟨⟨by decide +kernel, by decide +kernel⟩, List.mem_of_getElem? (i := 588) (by decide +kernel), List.mem_of_getElem? (i := 800) (by decide +kernel), List.mem_of_getElem? (i := 801) (by decide +kernel)⟩
theorem lw_p31 : lw_okq (⟨"CodeCheckerModel", "attribute", "(II)I"⟩, 39) := ⟨⟨by decide +kernel, by decide +kernel⟩, List.mem_of_getElem? (i := 588) (by decide +kernel), List.mem_of_getElem? (i := 804) (by decide +kernel), List.mem_of_getElem? (i := 805) (by decide +kernel)⟩
def lw_privs_2 : List (MethodName × Nat) := [(⟨"CodeChecker$Code", "branchByRow", "(I)V"⟩, 10), (⟨"CodeChecker$Code", "enterFunction", "(I)V"⟩, 10), (⟨"CodeChecker$Code", "carryOutVariable", "(II)V"⟩, 10), (⟨"CodeChecker$Code", "carryOutAccess", "(I)V"⟩, 10), (⟨"CodeChecker$Code", "carryOutReference", "(II)V"⟩, 10), (⟨"CodeCheckerModel", "beginCode", "(Z)V"⟩, 39), (⟨"CodeCheckerModel", "addRow", "(IJ)V"⟩, 39), (⟨"CodeCheckerModel", "examine", "(III)V"⟩, 39), (⟨"CodeCheckerModel", "stop", "(I)V"⟩, 39), (⟨"CodeCheckerModel", "mayBeConstant", "(II)Z"⟩, 39), (⟨"CodeCheckerModel", "has", "(II)Z"⟩, 39), (⟨"CodeCheckerModel", "isThere", "(III)Z"⟩, 39), (⟨"CodeCheckerModel", "isLabel", "(I)Z"⟩, 39), (⟨"CodeCheckerModel", "localType", "(I)I"⟩, 39), (⟨"CodeCheckerModel", "require", "(III)V"⟩, 39), (⟨"CodeCheckerModel", "attribute", "(II)I"⟩, 39)]
theorem lw_r2 : ∀ q ∈ lw_privs_2, lw_okq q := List.forall_mem_cons.mpr ⟨lw_p16, List.forall_mem_cons.mpr ⟨lw_p17, List.forall_mem_cons.mpr ⟨lw_p18, List.forall_mem_cons.mpr ⟨lw_p19, List.forall_mem_cons.mpr ⟨lw_p20, List.forall_mem_cons.mpr ⟨lw_p21, List.forall_mem_cons.mpr ⟨lw_p22, List.forall_mem_cons.mpr ⟨lw_p23, List.forall_mem_cons.mpr ⟨lw_p24, List.forall_mem_cons.mpr ⟨lw_p25, List.forall_mem_cons.mpr ⟨lw_p26, List.forall_mem_cons.mpr ⟨lw_p27, List.forall_mem_cons.mpr ⟨lw_p28, List.forall_mem_cons.mpr ⟨lw_p29, List.forall_mem_cons.mpr ⟨lw_p30, List.forall_mem_cons.mpr ⟨lw_p31, fun _ h => absurd h List.not_mem_nil⟩⟩⟩⟩⟩⟩⟩⟩⟩⟩⟩⟩⟩⟩⟩⟩
theorem lw_p32 : lw_okq (⟨"CodeCheckerModel", "perform", "(III)V"⟩, 39) := ⟨⟨by decide +kernel, by decide +kernel⟩, List.mem_of_getElem? (i := 588) (by decide +kernel), List.mem_of_getElem? (i := 812) (by decide +kernel), List.mem_of_getElem? (i := 813) (by decide +kernel)⟩
theorem lw_p33 : lw_okq (⟨"CodeCheckerModel", "control", "(III)V"⟩, 39) := ⟨⟨by decide +kernel, by decide +kernel⟩, List.mem_of_getElem? (i := 588) (by decide +kernel), List.mem_of_getElem? (i := 816) (by decide +kernel), List.mem_of_getElem? (i := 817) (by decide +kernel)⟩
theorem lw_p34 : lw_okq (⟨"CodeCheckerModel", "wantNothing", "()V"⟩, 39) := ⟨⟨by decide +kernel, by decide +kernel⟩, List.mem_of_getElem? (i := 588) (by decide +kernel), List.mem_of_getElem? (i := 820) (by decide +kernel), List.mem_of_getElem? (i := 821) (by decide +kernel)⟩
theorem lw_p35 : lw_okq (⟨"CodeCheckerModel", "die", "()V"⟩, 39) := ⟨⟨by decide +kernel, by decide +kernel⟩, List.mem_of_getElem? (i := 588) (by decide +kernel), List.mem_of_getElem? (i := 824) (by decide +kernel), List.mem_of_getElem? (i := 825) (by decide +kernel)⟩
theorem lw_p36 : lw_okq (⟨"CodeCheckerModel", "open", "(II)V"⟩, 39) := ⟨⟨by decide +kernel, by decide +kernel⟩, List.mem_of_getElem? (i := 588) (by decide +kernel), List.mem_of_getElem? (i := 828) (by decide +kernel), List.mem_of_getElem? (i := 829) (by decide +kernel)⟩
theorem lw_p37 : lw_okq (⟨"CodeCheckerModel", "take", "(I)V"⟩, 39) := ⟨⟨by decide +kernel, by decide +kernel⟩, List.mem_of_getElem? (i := 588) (by decide +kernel), List.mem_of_getElem? (i := 832) (by decide +kernel), List.mem_of_getElem? (i := 833) (by decide +kernel)⟩
theorem lw_p38 : lw_okq (⟨"CodeCheckerModel", "wantParts", "(IZ)V"⟩, 39) := ⟨⟨by decide +kernel, by decide +kernel⟩, List.mem_of_getElem? (i := 588) (by decide +kernel), List.mem_of_getElem? (i := 836) (by decide +kernel), List.mem_of_getElem? (i := 837) (by decide +kernel)⟩
theorem lw_p39 : lw_okq (⟨"CodeCheckerModel", "wantOne", "(I)V"⟩, 39) := ⟨⟨by decide +kernel, by decide +kernel⟩, List.mem_of_getElem? (i := 588) (by decide +kernel), List.mem_of_getElem? (i := 840) (by decide +kernel), List.mem_of_getElem? (i := 841) (by decide +kernel)⟩
theorem lw_p40 : lw_okq (⟨"CodeCheckerModel", "takeWanted", "()V"⟩, 39) := ⟨⟨by decide +kernel, by decide +kernel⟩, List.mem_of_getElem? (i := 588) (by decide +kernel), List.mem_of_getElem? (i := 844) (by decide +kernel), List.mem_of_getElem? (i := 845) (by decide +kernel)⟩
theorem lw_p41 : lw_okq (⟨"CodeCheckerModel", "giveWanted", "()V"⟩, 39) := ⟨⟨by decide +kernel, by decide +kernel⟩, List.mem_of_getElem? (i := 588) (by decide +kernel), List.mem_of_getElem? (i := 848) (by decide +kernel), List.mem_of_getElem? (i := 849) (by decide +kernel)⟩
theorem lw_p42 : lw_okq (⟨"CodeCheckerModel", "give", "(I)V"⟩, 39) := ⟨⟨by decide +kernel, by decide +kernel⟩, List.mem_of_getElem? (i := 588) (by decide +kernel), List.mem_of_getElem? (i := 852) (by decide +kernel), List.mem_of_getElem? (i := 853) (by decide +kernel)⟩
theorem lw_p43 : lw_okq (⟨"CodeCheckerModel", "choose", "()V"⟩, 39) := ⟨⟨by decide +kernel, by decide +kernel⟩, List.mem_of_getElem? (i := 588) (by decide +kernel), List.mem_of_getElem? (i := 856) (by decide +kernel), List.mem_of_getElem? (i := 857) (by decide +kernel)⟩
theorem lw_p44 : lw_okq (⟨"CodeCheckerModel", "close", "()V"⟩, 39) := ⟨⟨by decide +kernel, by decide +kernel⟩, List.mem_of_getElem? (i := 588) (by decide +kernel), List.mem_of_getElem? (i := 860) (by decide +kernel), List.mem_of_getElem? (i := 861) (by decide +kernel)⟩
theorem lw_p45 : lw_okq (⟨"CodeCheckerModel", "wantBlock", "(IZ)V"⟩, 39) := ⟨⟨by decide +kernel, by decide +kernel⟩, List.mem_of_getElem? (i := 588) (by decide +kernel), List.mem_of_getElem? (i := 864) (by decide +kernel), List.mem_of_getElem? (i := 865) (by decide +kernel)⟩
theorem lw_p46 : lw_okq (⟨"CodeCheckerModel", "countOf", "(IZ)I"⟩, 39) := ⟨⟨by decide +kernel, by decide +kernel⟩, List.mem_of_getElem? (i := 588) (by decide +kernel), List.mem_of_getElem? (i := 868) (by decide +kernel), List.mem_of_getElem? (i := 869) (by decide +kernel)⟩
theorem lw_p47 : lw_okq (⟨"CodeCheckerModel", "partOf", "(IZI)I"⟩, 39) := ⟨⟨by decide +kernel, by decide +kernel⟩, List.mem_of_getElem? (i := 588) (by decide +kernel), List.mem_of_getElem? (i := 872) (by decide +kernel), List.mem_of_getElem? (i := 873) (by decide +kernel)⟩
def lw_privs_3 : List (MethodName × Nat) := [(⟨"CodeCheckerModel", "perform", "(III)V"⟩, 39), (⟨"CodeCheckerModel", "control", "(III)V"⟩, 39), (⟨"CodeCheckerModel", "wantNothing", "()V"⟩, 39), (⟨"CodeCheckerModel", "die", "()V"⟩, 39), (⟨"CodeCheckerModel", "open", "(II)V"⟩, 39), (⟨"CodeCheckerModel", "take", "(I)V"⟩, 39), (⟨"CodeCheckerModel", "wantParts", "(IZ)V"⟩, 39), (⟨"CodeCheckerModel", "wantOne", "(I)V"⟩, 39), (⟨"CodeCheckerModel", "takeWanted", "()V"⟩, 39), (⟨"CodeCheckerModel", "giveWanted", "()V"⟩, 39), (⟨"CodeCheckerModel", "give", "(I)V"⟩, 39), (⟨"CodeCheckerModel", "choose", "()V"⟩, 39), (⟨"CodeCheckerModel", "close", "()V"⟩, 39), (⟨"CodeCheckerModel", "wantBlock", "(IZ)V"⟩, 39), (⟨"CodeCheckerModel", "countOf", "(IZ)I"⟩, 39), (⟨"CodeCheckerModel", "partOf", "(IZI)I"⟩, 39)]
theorem lw_r3 : ∀ q ∈ lw_privs_3, lw_okq q := List.forall_mem_cons.mpr ⟨lw_p32, List.forall_mem_cons.mpr ⟨lw_p33, List.forall_mem_cons.mpr ⟨lw_p34, List.forall_mem_cons.mpr ⟨lw_p35, List.forall_mem_cons.mpr ⟨lw_p36, List.forall_mem_cons.mpr ⟨lw_p37, List.forall_mem_cons.mpr ⟨lw_p38, List.forall_mem_cons.mpr ⟨lw_p39, List.forall_mem_cons.mpr ⟨lw_p40, List.forall_mem_cons.mpr ⟨lw_p41, List.forall_mem_cons.mpr ⟨lw_p42, List.forall_mem_cons.mpr ⟨lw_p43, List.forall_mem_cons.mpr ⟨lw_p44, List.forall_mem_cons.mpr ⟨lw_p45, List.forall_mem_cons.mpr ⟨lw_p46, List.forall_mem_cons.mpr ⟨lw_p47, fun _ h => absurd h List.not_mem_nil⟩⟩⟩⟩⟩⟩⟩⟩⟩⟩⟩⟩⟩⟩⟩⟩
theorem lw_p48 : lw_okq (⟨"CodeCheckerModel", "end", "()V"⟩, 39) := ⟨⟨by decide +kernel, by decide +kernel⟩, List.mem_of_getElem? (i := 588) (by decide +kernel), List.mem_of_getElem? (i := 876) (by decide +kernel), List.mem_of_getElem? (i := 877) (by decide +kernel)⟩
theorem lw_p49 : lw_okq (⟨"CodeCheckerModel", "wantLabel", "(I)V"⟩, 39) := ⟨⟨by decide +kernel, by decide +kernel⟩, List.mem_of_getElem? (i := 588) (by decide +kernel), List.mem_of_getElem? (i := 880) (by decide +kernel), List.mem_of_getElem? (i := 881) (by decide +kernel)⟩
theorem lw_p50 : lw_okq (⟨"CodeCheckerModel", "labelCount", "(I)I"⟩, 39) := ⟨⟨by decide +kernel, by decide +kernel⟩, List.mem_of_getElem? (i := 588) (by decide +kernel), List.mem_of_getElem? (i := 884) (by decide +kernel), List.mem_of_getElem? (i := 885) (by decide +kernel)⟩
theorem lw_p51 : lw_okq (⟨"CodeCheckerModel", "blockOf", "(I)I"⟩, 39) := ⟨⟨by decide +kernel, by decide +kernel⟩, List.mem_of_getElem? (i := 588) (by decide +kernel), List.mem_of_getElem? (i := 888) (by decide +kernel), List.mem_of_getElem? (i := 889) (by decide +kernel)⟩
theorem lw_p52 : lw_okq (⟨"CodeCheckerModel", "labelPart", "(II)I"⟩, 39) := ⟨⟨by decide +kernel, by decide +kernel⟩, List.mem_of_getElem? (i := 588) (by decide +kernel), List.mem_of_getElem? (i := 892) (by decide +kernel), List.mem_of_getElem? (i := 893) (by decide +kernel)⟩
theorem lw_p53 : lw_okq (⟨"CodeCheckerModel", "table", "(I)V"⟩, 39) := ⟨⟨by decide +kernel, by decide +kernel⟩, List.mem_of_getElem? (i := 588) (by decide +kernel), List.mem_of_getElem? (i := 896) (by decide +kernel), List.mem_of_getElem? (i := 897) (by decide +kernel)⟩
theorem lw_p54 : lw_okq (⟨"CodeCheckerModel", "call", "(I)V"⟩, 39) := ⟨⟨by decide +kernel, by decide +kernel⟩, List.mem_of_getElem? (i := 588) (by decide +kernel), List.mem_of_getElem? (i := 900) (by decide +kernel), List.mem_of_getElem? (i := 901) (by decide +kernel)⟩
theorem lw_p55 : lw_okq (⟨"CodeCheckerModel", "named", "(II)V"⟩, 39) := ⟨⟨by decide +kernel, by decide +kernel⟩, List.mem_of_getElem? (i := 588) (by decide +kernel), List.mem_of_getElem? (i := 904) (by decide +kernel), List.mem_of_getElem? (i := 905) (by decide +kernel)⟩
theorem lw_p56 : lw_okq (⟨"CodeCheckerModel", "choice", "()V"⟩, 39) := ⟨⟨by decide +kernel, by decide +kernel⟩, List.mem_of_getElem? (i := 588) (by decide +kernel), List.mem_of_getElem? (i := 908) (by decide +kernel), List.mem_of_getElem? (i := 909) (by decide +kernel)⟩
theorem lw_p57 : lw_okq (⟨"CodeCheckerModel", "two", "(II)V"⟩, 39) := ⟨⟨by decide +kernel, by decide +kernel⟩, List.mem_of_getElem? (i := 588) (by decide +kernel), List.mem_of_getElem? (i := 912) (by decide +kernel), List.mem_of_getElem? (i := 913) (by decide +kernel)⟩
theorem lw_p58 : lw_okq (⟨"CodeCheckerModel", "one", "(II)V"⟩, 39) := ⟨⟨by decide +kernel, by decide +kernel⟩, List.mem_of_getElem? (i := 588) (by decide +kernel), List.mem_of_getElem? (i := 916) (by decide +kernel), List.mem_of_getElem? (i := 917) (by decide +kernel)⟩
theorem lw_p59 : lw_okq (⟨"CodeCheckerModel", "takeTwo", "(II)V"⟩, 39) := ⟨⟨by decide +kernel, by decide +kernel⟩, List.mem_of_getElem? (i := 588) (by decide +kernel), List.mem_of_getElem? (i := 920) (by decide +kernel), List.mem_of_getElem? (i := 921) (by decide +kernel)⟩
theorem lw_p60 : lw_okq (⟨"CodeCheckerModel", "memory", "(I)V"⟩, 39) := ⟨⟨by decide +kernel, by decide +kernel⟩, List.mem_of_getElem? (i := 588) (by decide +kernel), List.mem_of_getElem? (i := 924) (by decide +kernel), List.mem_of_getElem? (i := 925) (by decide +kernel)⟩
theorem lw_p61 : lw_okq (⟨"CodeCheckerModel", "number", "(I)V"⟩, 39) := ⟨⟨by decide +kernel, by decide +kernel⟩, List.mem_of_getElem? (i := 588) (by decide +kernel), List.mem_of_getElem? (i := 928) (by decide +kernel), List.mem_of_getElem? (i := 929) (by decide +kernel)⟩
theorem lw_p62 : lw_okq (⟨"CodeCheckerModel", "calculate", "(ZI)V"⟩, 39) := ⟨⟨by decide +kernel, by decide +kernel⟩, List.mem_of_getElem? (i := 588) (by decide +kernel), List.mem_of_getElem? (i := 932) (by decide +kernel), List.mem_of_getElem? (i := 933) (by decide +kernel)⟩
theorem lw_p63 : lw_okq (⟨"CodeCheckerModel", "other", "(II)V"⟩, 39) := ⟨⟨by decide +kernel, by decide +kernel⟩, List.mem_of_getElem? (i := 588) (by decide +kernel), List.mem_of_getElem? (i := 942) (by decide +kernel), List.mem_of_getElem? (i := 943) (by decide +kernel)⟩
def lw_privs_4 : List (MethodName × Nat) := [(⟨"CodeCheckerModel", "end", "()V"⟩, 39), (⟨"CodeCheckerModel", "wantLabel", "(I)V"⟩, 39), (⟨"CodeCheckerModel", "labelCount", "(I)I"⟩, 39), (⟨"CodeCheckerModel", "blockOf", "(I)I"⟩, 39), (⟨"CodeCheckerModel", "labelPart", "(II)I"⟩, 39), (⟨"CodeCheckerModel", "table", "(I)V"⟩, 39), (⟨"CodeCheckerModel", "call", "(I)V"⟩, 39), (⟨"CodeCheckerModel", "named", "(II)V"⟩, 39), (⟨"CodeCheckerModel", "choice", "()V"⟩, 39), (⟨"CodeCheckerModel", "two", "(II)V"⟩, 39), (⟨"CodeCheckerModel", "one", "(II)V"⟩, 39), (⟨"CodeCheckerModel", "takeTwo", "(II)V"⟩, 39), (⟨"CodeCheckerModel", "memory", "(I)V"⟩, 39), (⟨"CodeCheckerModel", "number", "(I)V"⟩, 39), (⟨"CodeCheckerModel", "calculate", "(ZI)V"⟩, 39), (⟨"CodeCheckerModel", "other", "(II)V"⟩, 39)]
theorem lw_r4 : ∀ q ∈ lw_privs_4, lw_okq q := List.forall_mem_cons.mpr ⟨lw_p48, List.forall_mem_cons.mpr ⟨lw_p49, List.forall_mem_cons.mpr ⟨lw_p50, List.forall_mem_cons.mpr ⟨lw_p51, List.forall_mem_cons.mpr ⟨lw_p52, List.forall_mem_cons.mpr ⟨lw_p53, List.forall_mem_cons.mpr ⟨lw_p54, List.forall_mem_cons.mpr ⟨lw_p55, List.forall_mem_cons.mpr ⟨lw_p56, List.forall_mem_cons.mpr ⟨lw_p57, List.forall_mem_cons.mpr ⟨lw_p58, List.forall_mem_cons.mpr ⟨lw_p59, List.forall_mem_cons.mpr ⟨lw_p60, List.forall_mem_cons.mpr ⟨lw_p61, List.forall_mem_cons.mpr ⟨lw_p62, List.forall_mem_cons.mpr ⟨lw_p63, fun _ h => absurd h List.not_mem_nil⟩⟩⟩⟩⟩⟩⟩⟩⟩⟩⟩⟩⟩⟩⟩⟩
theorem lw_p64 : lw_okq (⟨"CodeCheckerModel", "takeThree", "()V"⟩, 39) := ⟨⟨by decide +kernel, by decide +kernel⟩, List.mem_of_getElem? (i := 588) (by decide +kernel), List.mem_of_getElem? (i := 946) (by decide +kernel), List.mem_of_getElem? (i := 947) (by decide +kernel)⟩
def lw_privs_5 : List (MethodName × Nat) := [(⟨"CodeCheckerModel", "takeThree", "()V"⟩, 39)]
theorem lw_r5 : ∀ q ∈ lw_privs_5, lw_okq q := List.forall_mem_cons.mpr ⟨lw_p64, fun _ h => absurd h List.not_mem_nil⟩
def lw_privs : List (MethodName × Nat) := lw_privs_1 ++ (lw_privs_2 ++ (lw_privs_3 ++ (lw_privs_4 ++ (lw_privs_5))))
def lw_tbl : List Cond := k2_sels lw_privs ++ tables_1
theorem lw_privs_ok : ∀ q ∈ lw_privs, lw_okq q := by
  show ∀ q ∈ lw_privs_1 ++ (lw_privs_2 ++ (lw_privs_3 ++ (lw_privs_4 ++ (lw_privs_5)))), lw_okq q
  exact List.forall_mem_append.mpr ⟨lw_r1, List.forall_mem_append.mpr ⟨lw_r2, List.forall_mem_append.mpr ⟨lw_r3, List.forall_mem_append.mpr ⟨lw_r4, lw_r5⟩⟩⟩⟩
end
section
/-! THE CLAIM OUT OF ONE WALK OF THE LAW'S BODY. Your part is whole_start (and what it stands on); all else here is the same for every law, but numbers. -/
def R_law : String := "CodeCheckerLaw"
def lw_P (b : Addr) (xs : List Int32) (args : Array Value) (s : State) : Prop := args = #[.ref b] ∧ s.IntsAt b xs ∧ xs.length ≤ 2048 ∧ (Jvm.Cond.and given_1 narrow_1).before args s = true
def lw_Q (_ : Array Value) (s : State) (o : Outcome) (t : State) : Prop := o = .returned (some (.int 1)) ∧ Framed s o t [] 58 5088
def lw_Z (below : List Frame) (a : Array Value) (s : State) : State → Prop := fun t => ∃ o, t.status = .running ∧ Ended t below o ∧ lw_Q a s o t
/-- the law's own end, with 1 on the stack, nothing written that was there before, its room as the claim has it -/
theorem lw_ret {p : Program} {l : Launch} {e : Env} {s : State} {m : MethodId} {below : List Frame} {meth : Method} {c : Code} {b : Nat} (hx : p.tables.exec = Jvm.exec) (hb : c.code = code) (hr : meth.sig.returnType = ret) (hlocks : meth.locks = false) {pc : Nat} {H : Heap} {ls : Array Slot} (hdg : decode code pc = .ok (.ireturn, 1)) : W p l e room_1 s m #[Value.ref b] below meth c H [] 58 5088 (lw_Z below #[Value.ref b] s) (F0 m pc ls [.int 1]) := by
  intro T hT X
  obtain ⟨fs, hret, hrun, hended, hW, hframe⟩ := X.leave (v := some (.int 1)) (hlocks := hlocks) (fun h => by rw [hr] at h; cases h)
  have hmeth' : T.vm.method? m = some meth := X.method'
  refine ⟨T.setFrames fs, ?_, .returned (some (.int 1)), hrun, hended, rfl, ⟨_, rfl⟩, hW, hframe⟩
  jvm_step X.here [X.here.top, hx, hb, hdg, hmeth', hr, ret, narrow_b1]
  (try refine ⟨rfl, ?_⟩); (try refine ⟨rfl, ?_⟩)
  first | (intro acts; rw [hret _ acts rfl rfl rfl]) | rw [hret _ _ rfl rfl rfl]
  exact Steps.refl _
/-- what holds at the law's entry: the machine, the code, the tables' words (any of lw_tbl by 'hts w (by decide +kernel)'), the script of L ints xs at the cell b, what the Statement gives of the start (any of its parts by flat_of_before) -/
def lw_At (p : Program) (s : State) (m : MethodId) (meth : Method) (c : Code) (b L : Nat) (xs : Nat → Int32) : Prop :=
  p.tables.exec = Jvm.exec ∧ c.code = code ∧ meth.sig.returnType = ret ∧ c.maxLocals = 4 ∧ s.vm.findClass R_law = some m.cls ∧ (∀ w ∈ lw_tbl, w.before #[Value.ref b] s = true) ∧ va_X b L xs s s.heap ∧ b < s.heap.size ∧ meth.locks = false ∧ (Jvm.Cond.and given_1 narrow_1).before #[Value.ref b] s = true
end
section
def R_CC : String := "CodeChecker"
def R_CCode : String := "CodeChecker$Code"
def R_CLocals : String := "CodeChecker$Locals"
def R_CRows : String := "CodeChecker$Rows"
def R_CShelf : String := "CodeChecker$Shelf"
def R_CStack : String := "CodeChecker$Stack"
def R_CThings : String := "CodeChecker$Things"
def R_MC : String := "CodeCheckerModel"
def F_CC : u_T := fun k => match k with
  | 0 => ("CodeChecker", "things", "LCodeChecker$Things;", true)
  | _ => ("CodeChecker", "code", "LCodeChecker$Code;", true)
def t_CC : Nat → FieldType := fun k => match k with
  | 0 => .object "CodeChecker$Things"
  | _ => .object "CodeChecker$Code"
theorem hnm_CC : ∀ a, a < 2 → ∀ b, b < 2 → a ≠ b → (F_CC a).2.1 ≠ (F_CC b).2.1 := by decide +kernel
theorem hty_CC : ∀ k, k < 2 → parseFieldDescriptor (F_CC k).2.2.1 = some (t_CC k) := by decide +kernel
def F_CCode : u_T := fun k => match k with
  | 0 => ("CodeChecker$Code", "things", "LCodeChecker$Things;", true)
  | 1 => ("CodeChecker$Code", "stack", "LCodeChecker$Stack;", true)
  | 2 => ("CodeChecker$Code", "locals", "LCodeChecker$Locals;", true)
  | 3 => ("CodeChecker$Code", "labels", "[I", true)
  | 4 => ("CodeChecker$Code", "labelCount", "I", false)
  | 5 => ("CodeChecker$Code", "progress", "I", false)
  | 6 => ("CodeChecker$Code", "isConstant", "Z", false)
  | 7 => ("CodeChecker$Code", "hasInstruction", "Z", false)
  | 8 => ("CodeChecker$Code", "visibleGlobals", "I", false)
  | _ => ("CodeChecker$Code", "localCalls", "I", false)
def t_CCode : Nat → FieldType := fun k => match k with
  | 0 => .object "CodeChecker$Things"
  | 1 => .object "CodeChecker$Stack"
  | 2 => .object "CodeChecker$Locals"
  | 3 => .array .int
  | 4 => .int
  | 5 => .int
  | 6 => .boolean
  | 7 => .boolean
  | 8 => .int
  | _ => .int
theorem hnm_CCode : ∀ a, a < 10 → ∀ b, b < 10 → a ≠ b → (F_CCode a).2.1 ≠ (F_CCode b).2.1 := by decide +kernel
theorem hty_CCode : ∀ k, k < 10 → parseFieldDescriptor (F_CCode k).2.2.1 = some (t_CCode k) := by decide +kernel
def F_CLocals : u_T := fun k => match k with
  | 0 => ("CodeChecker$Locals", "types", "[I", true)
  | 1 => ("CodeChecker$Locals", "ends", "[J", true)
  | 2 => ("CodeChecker$Locals", "groups", "I", false)
  | _ => ("CodeChecker$Locals", "count", "J", false)
def t_CLocals : Nat → FieldType := fun k => match k with
  | 0 => .array .int
  | 1 => .array .long
  | 2 => .int
  | _ => .long
theorem hnm_CLocals : ∀ a, a < 4 → ∀ b, b < 4 → a ≠ b → (F_CLocals a).2.1 ≠ (F_CLocals b).2.1 := by decide +kernel
theorem hty_CLocals : ∀ k, k < 4 → parseFieldDescriptor (F_CLocals k).2.2.1 = some (t_CLocals k) := by decide +kernel
def F_CRows : u_T := fun k => match k with
  | 0 => ("CodeChecker$Rows", "ofResults", "Z", true)
  | 1 => ("CodeChecker$Rows", "sizes", "[I", true)
  | _ => ("CodeChecker$Rows", "parts", "[I", true)
def t_CRows : Nat → FieldType := fun k => match k with
  | 0 => .boolean
  | 1 => .array .int
  | _ => .array .int
theorem hnm_CRows : ∀ a, a < 3 → ∀ b, b < 3 → a ≠ b → (F_CRows a).2.1 ≠ (F_CRows b).2.1 := by decide +kernel
theorem hty_CRows : ∀ k, k < 3 → parseFieldDescriptor (F_CRows k).2.2.1 = some (t_CRows k) := by decide +kernel
def F_CShelf : u_T := fun k => match k with
  | 0 => ("CodeChecker$Shelf", "types", "[I", true)
  | 1 => ("CodeChecker$Shelf", "marks", "[Z", true)
  | _ => ("CodeChecker$Shelf", "count", "I", false)
def t_CShelf : Nat → FieldType := fun k => match k with
  | 0 => .array .int
  | 1 => .array .boolean
  | _ => .int
theorem hnm_CShelf : ∀ a, a < 3 → ∀ b, b < 3 → a ≠ b → (F_CShelf a).2.1 ≠ (F_CShelf b).2.1 := by decide +kernel
theorem hty_CShelf : ∀ k, k < 3 → parseFieldDescriptor (F_CShelf k).2.2.1 = some (t_CShelf k) := by decide +kernel
def F_CStack : u_T := fun k => match k with
  | 0 => ("CodeChecker$Stack", "things", "LCodeChecker$Things;", true)
  | 1 => ("CodeChecker$Stack", "operands", "[I", true)
  | 2 => ("CodeChecker$Stack", "blockTypes", "[I", true)
  | 3 => ("CodeChecker$Stack", "heights", "[I", true)
  | 4 => ("CodeChecker$Stack", "openers", "[I", true)
  | 5 => ("CodeChecker$Stack", "lives", "[Z", true)
  | 6 => ("CodeChecker$Stack", "taken", "[I", true)
  | 7 => ("CodeChecker$Stack", "operandCount", "I", false)
  | 8 => ("CodeChecker$Stack", "blockCount", "I", false)
  | _ => ("CodeChecker$Stack", "fault", "I", false)
def t_CStack : Nat → FieldType := fun k => match k with
  | 0 => .object "CodeChecker$Things"
  | 1 => .array .int
  | 2 => .array .int
  | 3 => .array .int
  | 4 => .array .int
  | 5 => .array .boolean
  | 6 => .array .int
  | 7 => .int
  | 8 => .int
  | _ => .int
theorem hnm_CStack : ∀ a, a < 10 → ∀ b, b < 10 → a ≠ b → (F_CStack a).2.1 ≠ (F_CStack b).2.1 := by decide +kernel
theorem hty_CStack : ∀ k, k < 10 → parseFieldDescriptor (F_CStack k).2.2.1 = some (t_CStack k) := by decide +kernel
def F_CThings : u_T := fun k => match k with
  | 0 => ("CodeChecker$Things", "parameters", "LCodeChecker$Rows;", true)
  | 1 => ("CodeChecker$Things", "results", "LCodeChecker$Rows;", true)
  | 2 => ("CodeChecker$Things", "functions", "LCodeChecker$Shelf;", true)
  | 3 => ("CodeChecker$Things", "tables", "LCodeChecker$Shelf;", true)
  | 4 => ("CodeChecker$Things", "memories", "LCodeChecker$Shelf;", true)
  | 5 => ("CodeChecker$Things", "globals", "LCodeChecker$Shelf;", true)
  | 6 => ("CodeChecker$Things", "elements", "LCodeChecker$Shelf;", true)
  | 7 => ("CodeChecker$Things", "data", "LCodeChecker$Shelf;", true)
  | _ => ("CodeChecker$Things", "typeCount", "I", false)
def t_CThings : Nat → FieldType := fun k => match k with
  | 0 => .object "CodeChecker$Rows"
  | 1 => .object "CodeChecker$Rows"
  | 2 => .object "CodeChecker$Shelf"
  | 3 => .object "CodeChecker$Shelf"
  | 4 => .object "CodeChecker$Shelf"
  | 5 => .object "CodeChecker$Shelf"
  | 6 => .object "CodeChecker$Shelf"
  | 7 => .object "CodeChecker$Shelf"
  | _ => .int
theorem hnm_CThings : ∀ a, a < 9 → ∀ b, b < 9 → a ≠ b → (F_CThings a).2.1 ≠ (F_CThings b).2.1 := by decide +kernel
theorem hty_CThings : ∀ k, k < 9 → parseFieldDescriptor (F_CThings k).2.2.1 = some (t_CThings k) := by decide +kernel
def F_MC : u_T := fun k => match k with
  | 0 => ("CodeCheckerModel", "types", "I", false)
  | 1 => ("CodeCheckerModel", "parameterCount", "[I", true)
  | 2 => ("CodeCheckerModel", "resultCount", "[I", true)
  | 3 => ("CodeCheckerModel", "parameters", "[I", true)
  | 4 => ("CodeCheckerModel", "results", "[I", true)
  | 5 => ("CodeCheckerModel", "many", "[I", true)
  | 6 => ("CodeCheckerModel", "first", "[I", true)
  | 7 => ("CodeCheckerModel", "second", "[I", true)
  | 8 => ("CodeCheckerModel", "declared", "[Z", true)
  | 9 => ("CodeCheckerModel", "state", "I", false)
  | 10 => ("CodeCheckerModel", "isBody", "Z", false)
  | 11 => ("CodeCheckerModel", "begun", "Z", false)
  | 12 => ("CodeCheckerModel", "bodyType", "I", false)
  | 13 => ("CodeCheckerModel", "constantType", "I", false)
  | 14 => ("CodeCheckerModel", "seen", "J", false)
  | 15 => ("CodeCheckerModel", "rows", "I", false)
  | 16 => ("CodeCheckerModel", "calls", "I", false)
  | 17 => ("CodeCheckerModel", "rowType", "[I", true)
  | 18 => ("CodeCheckerModel", "rowMany", "[J", true)
  | 19 => ("CodeCheckerModel", "labels", "I", false)
  | 20 => ("CodeCheckerModel", "label", "[I", true)
  | 21 => ("CodeCheckerModel", "operands", "I", false)
  | 22 => ("CodeCheckerModel", "blocks", "I", false)
  | 23 => ("CodeCheckerModel", "operand", "[I", true)
  | 24 => ("CodeCheckerModel", "begunBy", "[I", true)
  | 25 => ("CodeCheckerModel", "blockType", "[I", true)
  | 26 => ("CodeCheckerModel", "height", "[I", true)
  | 27 => ("CodeCheckerModel", "dead", "[Z", true)
  | 28 => ("CodeCheckerModel", "fault", "I", false)
  | 29 => ("CodeCheckerModel", "taken", "I", false)
  | 30 => ("CodeCheckerModel", "left", "I", false)
  | 31 => ("CodeCheckerModel", "row", "[I", true)
  | 32 => ("CodeCheckerModel", "dies", "Z", false)
  | 33 => ("CodeCheckerModel", "opens", "Z", false)
  | 34 => ("CodeCheckerModel", "ends", "Z", false)
  | 35 => ("CodeCheckerModel", "isOther", "Z", false)
  | 36 => ("CodeCheckerModel", "want", "[I", true)
  | 37 => ("CodeCheckerModel", "wants", "I", false)
  | _ => ("CodeCheckerModel", "taking", "[I", true)
def t_MC : Nat → FieldType := fun k => match k with
  | 0 => .int
  | 1 => .array .int
  | 2 => .array .int
  | 3 => .array .int
  | 4 => .array .int
  | 5 => .array .int
  | 6 => .array .int
  | 7 => .array .int
  | 8 => .array .boolean
  | 9 => .int
  | 10 => .boolean
  | 11 => .boolean
  | 12 => .int
  | 13 => .int
  | 14 => .long
  | 15 => .int
  | 16 => .int
  | 17 => .array .int
  | 18 => .array .long
  | 19 => .int
  | 20 => .array .int
  | 21 => .int
  | 22 => .int
  | 23 => .array .int
  | 24 => .array .int
  | 25 => .array .int
  | 26 => .array .int
  | 27 => .array .boolean
  | 28 => .int
  | 29 => .int
  | 30 => .int
  | 31 => .array .int
  | 32 => .boolean
  | 33 => .boolean
  | 34 => .boolean
  | 35 => .boolean
  | 36 => .array .int
  | 37 => .int
  | _ => .array .int
theorem hnm_MC : ∀ a, a < 39 → ∀ b, b < 39 → a ≠ b → (F_MC a).2.1 ≠ (F_MC b).2.1 := by decide +kernel
theorem hty_MC : ∀ k, k < 39 → parseFieldDescriptor (F_MC k).2.2.1 = some (t_MC k) := by decide +kernel
def zcl : List vw_C := [(R_CC, F_CC, 2), (R_CCode, F_CCode, 10), (R_CLocals, F_CLocals, 4), (R_CRows, F_CRows, 3), (R_CShelf, F_CShelf, 3), (R_CStack, F_CStack, 10), (R_CThings, F_CThings, 9), (R_MC, F_MC, 39)]
theorem hcl_CC : zcl[0]? = some (R_CC, F_CC, 2) := rfl
theorem hcl_CCode : zcl[1]? = some (R_CCode, F_CCode, 10) := rfl
theorem hcl_CLocals : zcl[2]? = some (R_CLocals, F_CLocals, 4) := rfl
theorem hcl_CRows : zcl[3]? = some (R_CRows, F_CRows, 3) := rfl
theorem hcl_CShelf : zcl[4]? = some (R_CShelf, F_CShelf, 3) := rfl
theorem hcl_CStack : zcl[5]? = some (R_CStack, F_CStack, 10) := rfl
theorem hcl_CThings : zcl[6]? = some (R_CThings, F_CThings, 9) := rfl
theorem hcl_MC : zcl[7]? = some (R_MC, F_MC, 39) := rfl
abbrev b_CC_init : ByteArray := prog_1_method_1_code
def y_CC_init : MethodName := ⟨R_CC, "<init>", "()V"⟩
abbrev b_CC_type : ByteArray := prog_1_method_2_code
def y_CC_type : MethodName := ⟨R_CC, "type", "()I"⟩
abbrev b_CC_part : ByteArray := prog_1_method_3_code
def y_CC_part : MethodName := ⟨R_CC, "part", "(ZI)I"⟩
abbrev b_CC_add : ByteArray := prog_1_method_4_code
def y_CC_add : MethodName := ⟨R_CC, "add", "(III)I"⟩
abbrev b_CC_declare : ByteArray := prog_1_method_5_code
def y_CC_declare : MethodName := ⟨R_CC, "declare", "(I)Z"⟩
abbrev b_CC_begin : ByteArray := prog_1_method_6_code
def y_CC_begin : MethodName := ⟨R_CC, "begin", "(I)Z"⟩
abbrev b_CC_constant : ByteArray := prog_1_method_7_code
def y_CC_constant : MethodName := ⟨R_CC, "constant", "(II)Z"⟩
abbrev b_CC_local : ByteArray := prog_1_method_8_code
def y_CC_local : MethodName := ⟨R_CC, "local", "(II)Z"⟩
abbrev b_CC_label : ByteArray := prog_1_method_9_code
def y_CC_label : MethodName := ⟨R_CC, "label", "(I)I"⟩
abbrev b_CC_step : ByteArray := prog_1_method_10_code
def y_CC_step : MethodName := ⟨R_CC, "step", "(III)I"⟩
abbrev b_CC_state : ByteArray := prog_1_method_11_code
def y_CC_state : MethodName := ⟨R_CC, "state", "()I"⟩
abbrev b_CC_look : ByteArray := prog_1_method_12_code
def y_CC_look : MethodName := ⟨R_CC, "look", "(I)J"⟩
abbrev b_CC_operand : ByteArray := prog_1_method_13_code
def y_CC_operand : MethodName := ⟨R_CC, "operand", "(I)I"⟩
abbrev b_CC_isValueType : ByteArray := prog_1_method_14_code
def y_CC_isValueType : MethodName := ⟨R_CC, "isValueType", "(I)Z"⟩
abbrev b_CC_isReferenceType : ByteArray := prog_1_method_15_code
def y_CC_isReferenceType : MethodName := ⟨R_CC, "isReferenceType", "(I)Z"⟩
abbrev b_CC_withoutSign : ByteArray := prog_1_method_16_code
def y_CC_withoutSign : MethodName := ⟨R_CC, "withoutSign", "(I)J"⟩
abbrev b_CC_isInstruction : ByteArray := prog_1_method_17_code
def y_CC_isInstruction : MethodName := ⟨R_CC, "isInstruction", "(I)Z"⟩
abbrev b_CC_isBlockType : ByteArray := prog_1_method_18_code
def y_CC_isBlockType : MethodName := ⟨R_CC, "isBlockType", "(I)Z"⟩
abbrev b_CC_plainLine : ByteArray := prog_1_method_19_code
def y_CC_plainLine : MethodName := ⟨R_CC, "plainLine", "(I)I"⟩
abbrev b_CCode_init : ByteArray := prog_2_method_1_code
def y_CCode_init : MethodName := ⟨R_CCode, "<init>", "(LCodeChecker$Things;)V"⟩
abbrev b_CCode_isOpen : ByteArray := prog_2_method_2_code
def y_CCode_isOpen : MethodName := ⟨R_CCode, "isOpen", "()Z"⟩
abbrev b_CCode_open : ByteArray := prog_2_method_3_code
def y_CCode_open : MethodName := ⟨R_CCode, "open", "(IZ)V"⟩
abbrev b_CCode_openBody : ByteArray := prog_2_method_4_code
def y_CCode_openBody : MethodName := ⟨R_CCode, "openBody", "(I)V"⟩
abbrev b_CCode_openConstant : ByteArray := prog_2_method_5_code
def y_CCode_openConstant : MethodName := ⟨R_CCode, "openConstant", "(II)V"⟩
abbrev b_CCode_addLocals : ByteArray := prog_2_method_6_code
def y_CCode_addLocals : MethodName := ⟨R_CCode, "addLocals", "(II)Z"⟩
abbrev b_CCode_addLabel : ByteArray := prog_2_method_7_code
def y_CCode_addLabel : MethodName := ⟨R_CCode, "addLabel", "(I)I"⟩
abbrev b_CCode_finishInstruction : ByteArray := prog_2_method_8_code
def y_CCode_finishInstruction : MethodName := ⟨R_CCode, "finishInstruction", "(I)V"⟩
abbrev b_CCode_figure : ByteArray := prog_2_method_9_code
def y_CCode_figure : MethodName := ⟨R_CCode, "figure", "(I)J"⟩
abbrev b_CCode_faultAhead : ByteArray := prog_2_method_10_code
def y_CCode_faultAhead : MethodName := ⟨R_CCode, "faultAhead", "(III)I"⟩
abbrev b_CCode_isMalformed : ByteArray := prog_2_method_11_code
def y_CCode_isMalformed : MethodName := ⟨R_CCode, "isMalformed", "(II)Z"⟩
abbrev b_CCode_mayStandInConstant : ByteArray := prog_2_method_12_code
def y_CCode_mayStandInConstant : MethodName := ⟨R_CCode, "mayStandInConstant", "(II)Z"⟩
abbrev b_CCode_namesWhatIsMissing : ByteArray := prog_2_method_13_code
def y_CCode_namesWhatIsMissing : MethodName := ⟨R_CCode, "namesWhatIsMissing", "(III)Z"⟩
abbrev b_CCode_isLabelMissing : ByteArray := prog_2_method_14_code
def y_CCode_isLabelMissing : MethodName := ⟨R_CCode, "isLabelMissing", "()Z"⟩
abbrev b_CCode_misfit : ByteArray := prog_2_method_15_code
def y_CCode_misfit : MethodName := ⟨R_CCode, "misfit", "(III)I"⟩
abbrev b_CCode_accessFault : ByteArray := prog_2_method_16_code
def y_CCode_accessFault : MethodName := ⟨R_CCode, "accessFault", "(II)I"⟩
abbrev b_CCode_carryOut : ByteArray := prog_2_method_17_code
def y_CCode_carryOut : MethodName := ⟨R_CCode, "carryOut", "(II)I"⟩
abbrev b_CCode_carryOutPlain : ByteArray := prog_2_method_18_code
def y_CCode_carryOutPlain : MethodName := ⟨R_CCode, "carryOutPlain", "(I)V"⟩
abbrev b_CCode_carryOutBlock : ByteArray := prog_2_method_19_code
def y_CCode_carryOutBlock : MethodName := ⟨R_CCode, "carryOutBlock", "(II)V"⟩
abbrev b_CCode_carryOutBranch : ByteArray := prog_2_method_20_code
def y_CCode_carryOutBranch : MethodName := ⟨R_CCode, "carryOutBranch", "(II)V"⟩
abbrev b_CCode_branchByRow : ByteArray := prog_2_method_21_code
def y_CCode_branchByRow : MethodName := ⟨R_CCode, "branchByRow", "(I)V"⟩
abbrev b_CCode_enterFunction : ByteArray := prog_2_method_22_code
def y_CCode_enterFunction : MethodName := ⟨R_CCode, "enterFunction", "(I)V"⟩
abbrev b_CCode_carryOutVariable : ByteArray := prog_2_method_23_code
def y_CCode_carryOutVariable : MethodName := ⟨R_CCode, "carryOutVariable", "(II)V"⟩
abbrev b_CCode_carryOutAccess : ByteArray := prog_2_method_24_code
def y_CCode_carryOutAccess : MethodName := ⟨R_CCode, "carryOutAccess", "(I)V"⟩
abbrev b_CCode_carryOutReference : ByteArray := prog_2_method_25_code
def y_CCode_carryOutReference : MethodName := ⟨R_CCode, "carryOutReference", "(II)V"⟩
abbrev b_CLocals_init : ByteArray := prog_3_method_1_code
def y_CLocals_init : MethodName := ⟨R_CLocals, "<init>", "()V"⟩
abbrev b_CLocals_clear : ByteArray := prog_3_method_2_code
def y_CLocals_clear : MethodName := ⟨R_CLocals, "clear", "()V"⟩
abbrev b_CLocals_append : ByteArray := prog_3_method_3_code
def y_CLocals_append : MethodName := ⟨R_CLocals, "append", "(IJ)V"⟩
abbrev b_CLocals_has : ByteArray := prog_3_method_4_code
def y_CLocals_has : MethodName := ⟨R_CLocals, "has", "(I)Z"⟩
abbrev b_CLocals_typeOf : ByteArray := prog_3_method_5_code
def y_CLocals_typeOf : MethodName := ⟨R_CLocals, "typeOf", "(I)I"⟩
abbrev b_CRows_init : ByteArray := prog_4_method_1_code
def y_CRows_init : MethodName := ⟨R_CRows, "<init>", "(Z)V"⟩
abbrev b_CRows_append : ByteArray := prog_4_method_2_code
def y_CRows_append : MethodName := ⟨R_CRows, "append", "(II)I"⟩
abbrev b_CRows_sizeOf : ByteArray := prog_4_method_3_code
def y_CRows_sizeOf : MethodName := ⟨R_CRows, "sizeOf", "(I)I"⟩
abbrev b_CRows_partOf : ByteArray := prog_4_method_4_code
def y_CRows_partOf : MethodName := ⟨R_CRows, "partOf", "(II)I"⟩
abbrev b_CShelf_init : ByteArray := prog_5_method_1_code
def y_CShelf_init : MethodName := ⟨R_CShelf, "<init>", "()V"⟩
abbrev b_CShelf_put : ByteArray := prog_5_method_2_code
def y_CShelf_put : MethodName := ⟨R_CShelf, "put", "(IZ)I"⟩
abbrev b_CShelf_has : ByteArray := prog_5_method_3_code
def y_CShelf_has : MethodName := ⟨R_CShelf, "has", "(I)Z"⟩
abbrev b_CShelf_typeOf : ByteArray := prog_5_method_4_code
def y_CShelf_typeOf : MethodName := ⟨R_CShelf, "typeOf", "(I)I"⟩
abbrev b_CShelf_isMarked : ByteArray := prog_5_method_5_code
def y_CShelf_isMarked : MethodName := ⟨R_CShelf, "isMarked", "(I)Z"⟩
abbrev b_CShelf_mark : ByteArray := prog_5_method_6_code
def y_CShelf_mark : MethodName := ⟨R_CShelf, "mark", "(I)Z"⟩
abbrev b_CStack_init : ByteArray := prog_6_method_1_code
def y_CStack_init : MethodName := ⟨R_CStack, "<init>", "(LCodeChecker$Things;)V"⟩
abbrev b_CStack_restart : ByteArray := prog_6_method_2_code
def y_CStack_restart : MethodName := ⟨R_CStack, "restart", "(I)V"⟩
abbrev b_CStack_fail : ByteArray := prog_6_method_3_code
def y_CStack_fail : MethodName := ⟨R_CStack, "fail", "(I)V"⟩
abbrev b_CStack_hasInnermost : ByteArray := prog_6_method_4_code
def y_CStack_hasInnermost : MethodName := ⟨R_CStack, "hasInnermost", "()Z"⟩
abbrev b_CStack_hasBlock : ByteArray := prog_6_method_5_code
def y_CStack_hasBlock : MethodName := ⟨R_CStack, "hasBlock", "(I)Z"⟩
abbrev b_CStack_ofBlock : ByteArray := prog_6_method_6_code
def y_CStack_ofBlock : MethodName := ⟨R_CStack, "ofBlock", "([II)I"⟩
abbrev b_CStack_height : ByteArray := prog_6_method_7_code
def y_CStack_height : MethodName := ⟨R_CStack, "height", "()I"⟩
abbrev b_CStack_opener : ByteArray := prog_6_method_8_code
def y_CStack_opener : MethodName := ⟨R_CStack, "opener", "()I"⟩
abbrev b_CStack_isLive : ByteArray := prog_6_method_9_code
def y_CStack_isLive : MethodName := ⟨R_CStack, "isLive", "()Z"⟩
abbrev b_CStack_operandFromEnd : ByteArray := prog_6_method_10_code
def y_CStack_operandFromEnd : MethodName := ⟨R_CStack, "operandFromEnd", "(I)I"⟩
abbrev b_CStack_takeAny : ByteArray := prog_6_method_11_code
def y_CStack_takeAny : MethodName := ⟨R_CStack, "takeAny", "()I"⟩
abbrev b_CStack_take : ByteArray := prog_6_method_12_code
def y_CStack_take : MethodName := ⟨R_CStack, "take", "(I)I"⟩
abbrev b_CStack_give : ByteArray := prog_6_method_13_code
def y_CStack_give : MethodName := ⟨R_CStack, "give", "(I)V"⟩
abbrev b_CStack_takeTimes : ByteArray := prog_6_method_14_code
def y_CStack_takeTimes : MethodName := ⟨R_CStack, "takeTimes", "(II)V"⟩
abbrev b_CStack_takeRow : ByteArray := prog_6_method_15_code
def y_CStack_takeRow : MethodName := ⟨R_CStack, "takeRow", "(LCodeChecker$Rows;I)V"⟩
abbrev b_CStack_giveRow : ByteArray := prog_6_method_16_code
def y_CStack_giveRow : MethodName := ⟨R_CStack, "giveRow", "(LCodeChecker$Rows;I)V"⟩
abbrev b_CStack_die : ByteArray := prog_6_method_17_code
def y_CStack_die : MethodName := ⟨R_CStack, "die", "()V"⟩
abbrev b_CStack_pushBlock : ByteArray := prog_6_method_18_code
def y_CStack_pushBlock : MethodName := ⟨R_CStack, "pushBlock", "(II)V"⟩
abbrev b_CStack_openBlock : ByteArray := prog_6_method_19_code
def y_CStack_openBlock : MethodName := ⟨R_CStack, "openBlock", "(II)V"⟩
abbrev b_CStack_expectNoMoreOperands : ByteArray := prog_6_method_20_code
def y_CStack_expectNoMoreOperands : MethodName := ⟨R_CStack, "expectNoMoreOperands", "()V"⟩
abbrev b_CStack_turnToElse : ByteArray := prog_6_method_21_code
def y_CStack_turnToElse : MethodName := ⟨R_CStack, "turnToElse", "()V"⟩
abbrev b_CStack_closeBlock : ByteArray := prog_6_method_22_code
def y_CStack_closeBlock : MethodName := ⟨R_CStack, "closeBlock", "()V"⟩
abbrev b_CStack_labelRows : ByteArray := prog_6_method_23_code
def y_CStack_labelRows : MethodName := ⟨R_CStack, "labelRows", "(I)LCodeChecker$Rows;"⟩
abbrev b_CStack_labelSize : ByteArray := prog_6_method_24_code
def y_CStack_labelSize : MethodName := ⟨R_CStack, "labelSize", "(I)I"⟩
abbrev b_CStack_takeLabel : ByteArray := prog_6_method_25_code
def y_CStack_takeLabel : MethodName := ⟨R_CStack, "takeLabel", "(I)V"⟩
abbrev b_CStack_giveLabel : ByteArray := prog_6_method_26_code
def y_CStack_giveLabel : MethodName := ⟨R_CStack, "giveLabel", "(I)V"⟩
abbrev b_CStack_passLabel : ByteArray := prog_6_method_27_code
def y_CStack_passLabel : MethodName := ⟨R_CStack, "passLabel", "(II)V"⟩
abbrev b_CStack_takeOutermostResults : ByteArray := prog_6_method_28_code
def y_CStack_takeOutermostResults : MethodName := ⟨R_CStack, "takeOutermostResults", "()V"⟩
abbrev b_CStack_takeReference : ByteArray := prog_6_method_29_code
def y_CStack_takeReference : MethodName := ⟨R_CStack, "takeReference", "()V"⟩
abbrev b_CStack_choose : ByteArray := prog_6_method_30_code
def y_CStack_choose : MethodName := ⟨R_CStack, "choose", "()V"⟩
abbrev b_CThings_init : ByteArray := prog_7_method_1_code
def y_CThings_init : MethodName := ⟨R_CThings, "<init>", "()V"⟩
abbrev b_CThings_makeType : ByteArray := prog_7_method_2_code
def y_CThings_makeType : MethodName := ⟨R_CThings, "makeType", "()I"⟩
abbrev b_CThings_hasType : ByteArray := prog_7_method_3_code
def y_CThings_hasType : MethodName := ⟨R_CThings, "hasType", "(I)Z"⟩
abbrev b_CThings_extendLatestType : ByteArray := prog_7_method_4_code
def y_CThings_extendLatestType : MethodName := ⟨R_CThings, "extendLatestType", "(ZI)I"⟩
abbrev b_CThings_addThing : ByteArray := prog_7_method_5_code
def y_CThings_addThing : MethodName := ⟨R_CThings, "addThing", "(III)I"⟩
abbrev b_CThings_hasMemory : ByteArray := prog_7_method_6_code
def y_CThings_hasMemory : MethodName := ⟨R_CThings, "hasMemory", "()Z"⟩
abbrev b_CThings_hasLikeParametersAndResults : ByteArray := prog_7_method_7_code
def y_CThings_hasLikeParametersAndResults : MethodName := ⟨R_CThings, "hasLikeParametersAndResults", "(I)Z"⟩
abbrev b_MC_init : ByteArray := prog_9_method_1_code
def y_MC_init : MethodName := ⟨R_MC, "<init>", "()V"⟩
abbrev b_MC_isReference : ByteArray := prog_9_method_2_code
def y_MC_isReference : MethodName := ⟨R_MC, "isReference", "(I)Z"⟩
abbrev b_MC_isValue : ByteArray := prog_9_method_3_code
def y_MC_isValue : MethodName := ⟨R_MC, "isValue", "(I)Z"⟩
abbrev b_MC_type : ByteArray := prog_9_method_4_code
def y_MC_type : MethodName := ⟨R_MC, "type", "()I"⟩
abbrev b_MC_part : ByteArray := prog_9_method_5_code
def y_MC_part : MethodName := ⟨R_MC, "part", "(ZI)I"⟩
abbrev b_MC_add : ByteArray := prog_9_method_6_code
def y_MC_add : MethodName := ⟨R_MC, "add", "(III)I"⟩
abbrev b_MC_declare : ByteArray := prog_9_method_7_code
def y_MC_declare : MethodName := ⟨R_MC, "declare", "(I)Z"⟩
abbrev b_MC_has : ByteArray := prog_9_method_8_code
def y_MC_has : MethodName := ⟨R_MC, "has", "(II)Z"⟩
abbrev b_MC_attribute : ByteArray := prog_9_method_9_code
def y_MC_attribute : MethodName := ⟨R_MC, "attribute", "(II)I"⟩
abbrev b_MC_beginCode : ByteArray := prog_9_method_10_code
def y_MC_beginCode : MethodName := ⟨R_MC, "beginCode", "(Z)V"⟩
abbrev b_MC_begin : ByteArray := prog_9_method_11_code
def y_MC_begin : MethodName := ⟨R_MC, "begin", "(I)Z"⟩
abbrev b_MC_constant : ByteArray := prog_9_method_12_code
def y_MC_constant : MethodName := ⟨R_MC, "constant", "(II)Z"⟩
abbrev b_MC_addRow : ByteArray := prog_9_method_13_code
def y_MC_addRow : MethodName := ⟨R_MC, "addRow", "(IJ)V"⟩
abbrev b_MC_local : ByteArray := prog_9_method_14_code
def y_MC_local : MethodName := ⟨R_MC, "local", "(II)Z"⟩
abbrev b_MC_label : ByteArray := prog_9_method_15_code
def y_MC_label : MethodName := ⟨R_MC, "label", "(I)I"⟩
abbrev b_MC_localType : ByteArray := prog_9_method_16_code
def y_MC_localType : MethodName := ⟨R_MC, "localType", "(I)I"⟩
abbrev b_MC_countOf : ByteArray := prog_9_method_17_code
def y_MC_countOf : MethodName := ⟨R_MC, "countOf", "(IZ)I"⟩
abbrev b_MC_partOf : ByteArray := prog_9_method_18_code
def y_MC_partOf : MethodName := ⟨R_MC, "partOf", "(IZI)I"⟩
abbrev b_MC_isBlockType : ByteArray := prog_9_method_19_code
def y_MC_isBlockType : MethodName := ⟨R_MC, "isBlockType", "(I)Z"⟩
abbrev b_MC_blockOf : ByteArray := prog_9_method_20_code
def y_MC_blockOf : MethodName := ⟨R_MC, "blockOf", "(I)I"⟩
abbrev b_MC_isLabel : ByteArray := prog_9_method_21_code
def y_MC_isLabel : MethodName := ⟨R_MC, "isLabel", "(I)Z"⟩
abbrev b_MC_labelCount : ByteArray := prog_9_method_22_code
def y_MC_labelCount : MethodName := ⟨R_MC, "labelCount", "(I)I"⟩
abbrev b_MC_labelPart : ByteArray := prog_9_method_23_code
def y_MC_labelPart : MethodName := ⟨R_MC, "labelPart", "(II)I"⟩
abbrev b_MC_stop : ByteArray := prog_9_method_24_code
def y_MC_stop : MethodName := ⟨R_MC, "stop", "(I)V"⟩
abbrev b_MC_take : ByteArray := prog_9_method_25_code
def y_MC_take : MethodName := ⟨R_MC, "take", "(I)V"⟩
abbrev b_MC_give : ByteArray := prog_9_method_26_code
def y_MC_give : MethodName := ⟨R_MC, "give", "(I)V"⟩
abbrev b_MC_die : ByteArray := prog_9_method_27_code
def y_MC_die : MethodName := ⟨R_MC, "die", "()V"⟩
abbrev b_MC_takeTwo : ByteArray := prog_9_method_28_code
def y_MC_takeTwo : MethodName := ⟨R_MC, "takeTwo", "(II)V"⟩
abbrev b_MC_takeThree : ByteArray := prog_9_method_29_code
def y_MC_takeThree : MethodName := ⟨R_MC, "takeThree", "()V"⟩
abbrev b_MC_wantNothing : ByteArray := prog_9_method_30_code
def y_MC_wantNothing : MethodName := ⟨R_MC, "wantNothing", "()V"⟩
abbrev b_MC_wantOne : ByteArray := prog_9_method_31_code
def y_MC_wantOne : MethodName := ⟨R_MC, "wantOne", "(I)V"⟩
abbrev b_MC_wantParts : ByteArray := prog_9_method_32_code
def y_MC_wantParts : MethodName := ⟨R_MC, "wantParts", "(IZ)V"⟩
abbrev b_MC_wantBlock : ByteArray := prog_9_method_33_code
def y_MC_wantBlock : MethodName := ⟨R_MC, "wantBlock", "(IZ)V"⟩
abbrev b_MC_wantLabel : ByteArray := prog_9_method_34_code
def y_MC_wantLabel : MethodName := ⟨R_MC, "wantLabel", "(I)V"⟩
abbrev b_MC_takeWanted : ByteArray := prog_9_method_35_code
def y_MC_takeWanted : MethodName := ⟨R_MC, "takeWanted", "()V"⟩
abbrev b_MC_giveWanted : ByteArray := prog_9_method_36_code
def y_MC_giveWanted : MethodName := ⟨R_MC, "giveWanted", "()V"⟩
abbrev b_MC_one : ByteArray := prog_9_method_37_code
def y_MC_one : MethodName := ⟨R_MC, "one", "(II)V"⟩
abbrev b_MC_two : ByteArray := prog_9_method_38_code
def y_MC_two : MethodName := ⟨R_MC, "two", "(II)V"⟩
abbrev b_MC_isInstruction : ByteArray := prog_9_method_39_code
def y_MC_isInstruction : MethodName := ⟨R_MC, "isInstruction", "(I)Z"⟩
abbrev b_MC_isFormed : ByteArray := prog_9_method_40_code
def y_MC_isFormed : MethodName := ⟨R_MC, "isFormed", "(II)Z"⟩
abbrev b_MC_mayBeConstant : ByteArray := prog_9_method_41_code
def y_MC_mayBeConstant : MethodName := ⟨R_MC, "mayBeConstant", "(II)Z"⟩
abbrev b_MC_isThere : ByteArray := prog_9_method_42_code
def y_MC_isThere : MethodName := ⟨R_MC, "isThere", "(III)Z"⟩
abbrev b_MC_bytesOf : ByteArray := prog_9_method_43_code
def y_MC_bytesOf : MethodName := ⟨R_MC, "bytesOf", "(I)I"⟩
abbrev b_MC_require : ByteArray := prog_9_method_44_code
def y_MC_require : MethodName := ⟨R_MC, "require", "(III)V"⟩
abbrev b_MC_control : ByteArray := prog_9_method_45_code
def y_MC_control : MethodName := ⟨R_MC, "control", "(III)V"⟩
abbrev b_MC_call : ByteArray := prog_9_method_46_code
def y_MC_call : MethodName := ⟨R_MC, "call", "(I)V"⟩
abbrev b_MC_open : ByteArray := prog_9_method_47_code
def y_MC_open : MethodName := ⟨R_MC, "open", "(II)V"⟩
abbrev b_MC_close : ByteArray := prog_9_method_48_code
def y_MC_close : MethodName := ⟨R_MC, "close", "()V"⟩
abbrev b_MC_choose : ByteArray := prog_9_method_49_code
def y_MC_choose : MethodName := ⟨R_MC, "choose", "()V"⟩
abbrev b_MC_end : ByteArray := prog_9_method_50_code
def y_MC_end : MethodName := ⟨R_MC, "end", "()V"⟩
abbrev b_MC_table : ByteArray := prog_9_method_51_code
def y_MC_table : MethodName := ⟨R_MC, "table", "(I)V"⟩
abbrev b_MC_choice : ByteArray := prog_9_method_52_code
def y_MC_choice : MethodName := ⟨R_MC, "choice", "()V"⟩
abbrev b_MC_named : ByteArray := prog_9_method_53_code
def y_MC_named : MethodName := ⟨R_MC, "named", "(II)V"⟩
abbrev b_MC_memory : ByteArray := prog_9_method_54_code
def y_MC_memory : MethodName := ⟨R_MC, "memory", "(I)V"⟩
abbrev b_MC_number : ByteArray := prog_9_method_55_code
def y_MC_number : MethodName := ⟨R_MC, "number", "(I)V"⟩
abbrev b_MC_calculate : ByteArray := prog_9_method_56_code
def y_MC_calculate : MethodName := ⟨R_MC, "calculate", "(ZI)V"⟩
abbrev b_MC_from : ByteArray := prog_9_method_57_code
def y_MC_from : MethodName := ⟨R_MC, "from", "(I)I"⟩
abbrev b_MC_to : ByteArray := prog_9_method_58_code
def y_MC_to : MethodName := ⟨R_MC, "to", "(I)I"⟩
abbrev b_MC_other : ByteArray := prog_9_method_59_code
def y_MC_other : MethodName := ⟨R_MC, "other", "(II)V"⟩
abbrev b_MC_perform : ByteArray := prog_9_method_60_code
def y_MC_perform : MethodName := ⟨R_MC, "perform", "(III)V"⟩
abbrev b_MC_examine : ByteArray := prog_9_method_61_code
def y_MC_examine : MethodName := ⟨R_MC, "examine", "(III)V"⟩
abbrev b_MC_step : ByteArray := prog_9_method_62_code
def y_MC_step : MethodName := ⟨R_MC, "step", "(III)I"⟩
abbrev b_MC_state : ByteArray := prog_9_method_63_code
def y_MC_state : MethodName := ⟨R_MC, "state", "()I"⟩
abbrev b_MC_look : ByteArray := prog_9_method_64_code
def y_MC_look : MethodName := ⟨R_MC, "look", "(I)J"⟩
abbrev b_MC_operand : ByteArray := prog_9_method_65_code
def y_MC_operand : MethodName := ⟨R_MC, "operand", "(I)I"⟩
end
section
/-! base: worlds, contracts, rows -/
theorem znar {v : Int32} (h : zbz v) : narrow .boolean (.int v) = .int v := by rcases h with rfl | rfl <;> decide
theorem zfit {v : Int32} (h : zbz v) : fits .boolean (.int v) = true := by rcases h with rfl | rfl <;> decide
/-- the good words of the tables -/
def zT : List Cond := lw_tbl.filter goodWord
def zisN : Cond → Bool
  | .fieldLinkNest .. => true
  | .methodLinkNest .. => true
  | _ => false
def zN : List Cond := lw_tbl.filter zisN
theorem zT_in {w : Cond} (i : Nat) (h : lw_tbl[i]? = some w) (g : goodWord w = true) : w ∈ zT := List.mem_filter.mpr ⟨List.mem_of_getElem? h, g⟩
theorem zN_in {w : Cond} (i : Nat) (h : lw_tbl[i]? = some w) (g : zisN w = true) : w ∈ zN := List.mem_filter.mpr ⟨List.mem_of_getElem? h, g⟩
def zNok (U : State) : Prop := ∀ w ∈ zN, va_Nw w U
theorem zNok_warm {s U : State} (hW : s.WarmedH U.vm) (h : zNok s) : zNok U := by
  intro w hw
  have h1 := h w hw
  have h2 : zisN w = true := (List.mem_filter.mp hw).2
  cases w <;> first | (simp [zisN] at h2; done) | exact va_Nw.warmF hW h1 | exact va_Nw.warmM hW h1
theorem zNok_same {s U : State} (hv : s.vm = U.vm) (h : zNok s) : zNok U := by
  intro w hw
  have h1 := h w hw
  have h2 : zisN w = true := (List.mem_filter.mp hw).2
  cases w <;> first | (simp [zisN] at h2; done) | exact va_Nw.same rfl hv h1
/-- the static tables: class, name, what it holds -/
def zSt (st : List (String × String × List Int32)) (A : Nat → Prop) (U : State) (H : Heap) : Prop := ∀ q ∈ st, ∃ t : Nat, va_Z q.1 q.2.1 "[I" (.ref t) A U H ∧ va_T .int t q.2.2.length (fun j => .int (q.2.2.getD j 0)) A U H
theorem zSt_to {st : List (String × String × List Int32)} {A B : Nat → Prop} {s U : State} {H H1 : Heap} (h : zSt st A s H) (hq : ∀ a : Nat, a < H.size → ¬ A a → H1[a]? = H[a]?) (hvm : s.vm.Alike U.vm) (hAB : ∀ q, B q → A q) : zSt st B U H1 := by
  intro q hx
  obtain ⟨t, h1, h2⟩ := h q hx
  exact ⟨t, ((h1.kept hq).moved hvm).narrow hAB, ((h2.kept hq).moved hvm).narrow hAB⟩
def bx (p : Program) (s : State) (m : MethodId) (args : Array Value) (c : Code) (cc : ByteArray) (nL : Nat) (own : String) (A : Nat → Prop) (D : va_G) (z : zZ) : Prop :=
  p.tables.exec = Jvm.exec ∧ c.code = cc ∧ c.maxLocals = nL ∧ s.vm.findClass own = some m.cls ∧ (∀ w ∈ zT, w.before args s = true) ∧ va_K D zcl (zty z) s ∧ zNok s ∧ zSt zst A s s.heap ∧ ∀ q : Nat, s.heap.size ≤ q → A q
def iw (D : va_G) (A : Nat → Prop) (s : State) (w : va_W) (H : Heap) (locs : List Loc) : Prop := va_P D zcl w H ∧ va_D A w ∧ va_S A s.heap H locs
def zPre (D : va_G) (z : zZ) (w : va_W) (U : State) : Prop := va_P D zcl w U.heap ∧ va_K D zcl (zty z) U ∧ va_D (fun _ => True) w ∧ zNok U ∧ zSt zst (va_A w U.heap.size) U U.heap
theorem zPre_blind {D : va_G} {z : zZ} {w : va_W} {sz : Nat} (av : List Value) : FrameBlind (va_Pc av (fun U => U.heap.size = sz ∧ zPre D z w U)) := by
  intro a U g mk q
  obtain ⟨q0, q1, qP, qK, qD, qN, qS⟩ := q
  exact ⟨q0, q1, qP, va_K.moved (u := U) (U := U.calling g mk a) (Vm.Alike.refl U.vm) qK, qD, zNok_same (s := U) (U := U.calling g mk a) rfl qN, zSt_to (s := U) (U := U.calling g mk a) qS (fun _ _ _ => rfl) (Vm.Alike.refl U.vm) (fun _ h => h)⟩
section ZB
variable {p : Program} {l : Launch} {e : Env} {R : Room} {s : State} {m : MethodId} {args : Array Value} {below : List Frame} {meth : Method} {c : Code} {H : Heap} {locs : List Loc} {cells slots : Nat} {Q : State → Prop}
variable {cc : ByteArray} {nL : Nat} {own : String} {A : Nat → Prop} {D : va_G} {z : zZ} {w w' : va_W} {pc : Nat} {ls : Array Slot} {rest : List Value}
theorem iw_free (B : bx p s m args c cc nL own A D z) (hI : iw D A s w H locs) : ∀ q, va_A w H.size q → A q := by
  obtain ⟨-, -, -, -, -, -, -, -, hA⟩ := B
  obtain ⟨-, hD, hS⟩ := hI
  intro q h
  rcases h with ⟨k, e0, h⟩ | h
  · exact hD.2 k (q, e0) h
  · exact hA q (Nat.le_trans hS.1 h)
theorem zPre_call (B : bx p s m args c cc nL own A D z) (hI : iw D A s w H locs) (av : List Value) : ∀ U : State, U.heap = H → s.WarmedH U.vm → va_Pc av (fun U => U.heap.size = H.size ∧ zPre D z w U) av.toArray U := by
  have hF := iw_free B hI
  obtain ⟨-, -, -, -, -, hK, hN, hZ, hA⟩ := B
  obtain ⟨hP, hD, hS⟩ := hI
  intro U hU hW
  subst hU
  exact ⟨rfl, rfl, hP, va_K.moved hW.alike hK, hD.weaken (fun _ _ _ _ => trivial), zNok_warm hW hN, zSt_to hZ hS.2.1 hW.alike hF⟩
theorem zGood {x y : Cond} (h : y ∈ zT) : ∀ w ∈ (y :: zT), w ∈ (x :: zT) ∧ ((w.onTables && w.keeps) = true ∨ ∃ ty, w = .arrayClass ty) := by
  intro w hw
  have h1 : w ∈ zT := by rcases List.mem_cons.mp hw with rfl | h2; exact h; exact h2
  exact ⟨List.mem_cons_of_mem _ h1, good_of_word (List.mem_filter.mp h1).2⟩
theorem zGoodT {y : Cond} (h : y ∈ zT) : GoodIn zT (y :: zT) := by
  intro w hw
  have h1 : w ∈ zT := by rcases List.mem_cons.mp hw with rfl | h2; exact h; exact h2
  exact ⟨h1, good_of_word (List.mem_filter.mp h1).2⟩
theorem rx_get (B : bx p s m args c cc nL own A D z) (hI : iw D A s w H locs) {C : String} {T : u_T} {N ci index a : Nat} (hcl : zcl[ci]? = some (C, T, N)) (hin : ∀ w ∈ u_ws C T N, w ∈ zT) (q0 : Nat) {fs : List Value} (he : w[q0]? = some (a, .inr (ci, fs))) (k : Nat) (hk : k < N) (hl : Cond.fieldLink own index (T k).1 (T k).2.1 (T k).2.2.1 ∈ zT) {v : Value} (hv : fs[k]? = some v) (hdg : decode cc pc = .ok (.getfield index, 3))
    (kk : W p l e R s m args below meth c H locs cells slots Q (F0 m (pc + 3) ls (v :: rest))) : W p l e R s m args below meth c H locs cells slots Q (F0 m pc ls (.ref a :: rest)) := by
  obtain ⟨hx, hb, hml, hown, hts, hK, hN, hZ, hA⟩ := B
  exact va_get (D := D) (cl := zcl) hx hb hts hin hown hK hI.1 q0 he hcl k hk (hts _ hl) (fun _ h => h) hv hdg kk
theorem rx_getN (B : bx p s m args c cc nL own A D z) (hI : iw D A s w H locs) {C host : String} {T : u_T} {N ci index a : Nat} (hcl : zcl[ci]? = some (C, T, N)) (hin : ∀ w ∈ u_ws C T N, w ∈ zT) (q0 : Nat) {fs : List Value} (he : w[q0]? = some (a, .inr (ci, fs))) (k : Nat) (hk : k < N) (hl : Cond.fieldLinkNest own index (T k).1 (T k).2.1 (T k).2.2.1 host ∈ zN) {v : Value} (hv : fs[k]? = some v) (hdg : decode cc pc = .ok (.getfield index, 3))
    (kk : W p l e R s m args below meth c H locs cells slots Q (F0 m (pc + 3) ls (v :: rest))) : W p l e R s m args below meth c H locs cells slots Q (F0 m pc ls (.ref a :: rest)) := by
  obtain ⟨hx, hb, hml, hown, hts, hK, hN, hZ, hA⟩ := B
  exact va_getN (D := D) (cl := zcl) hx hb hts hin hown hK hI.1 q0 he hcl k hk (va_Nw.use rfl (hN _ hl)) (fun _ h => h) hv hdg kk
theorem rx_put (B : bx p s m args c cc nL own A D z) (hI : iw D A s w H locs) {C : String} {T : u_T} {N ci index a : Nat} (hcl : zcl[ci]? = some (C, T, N)) (hin : ∀ w ∈ u_ws C T N, w ∈ zT) {ty0 : Nat → FieldType} (hty : ∀ k, k < N → parseFieldDescriptor (T k).2.2.1 = some (ty0 k)) (hnm : ∀ a, a < N → ∀ b, b < N → a ≠ b → (T a).2.1 ≠ (T b).2.1) (q0 : Nat) {fs : List Value} (he : w[q0]? = some (a, .inr (ci, fs))) (k : Nat) (hk : k < N) (hl : Cond.fieldLink own index (T k).1 (T k).2.1 (T k).2.2.1 ∈ zT) (hfin : (T k).2.2.2 = false) {ty : FieldType} {v : Value} (hd : parseFieldDescriptor (T k).2.2.1 = some ty) (hn : narrow ty v = v) (hfit : fits ty v = true) (hlen : k < fs.length) (hw : w.set q0 (a, .inr (ci, fs.set k v)) = w') (hdg : decode cc pc = .ok (.putfield index, 3))
    (kk : ∀ (H1 : Heap) (locs1 : List Loc), iw D A s w' H1 locs1 → W p l e R s m args below meth c H1 locs1 cells slots Q (F0 m (pc + 3) ls rest)) : W p l e R s m args below meth c H locs cells slots Q (F0 m pc ls (v :: .ref a :: rest)) := by
  obtain ⟨hx, hb, hml, hown, hts, hK, hN, hZ, hA⟩ := B
  subst hw
  exact va_put (D := D) (cl := zcl) hx hb hts hin ty0 hty hnm hown hK hI.1 hI.2.1 hI.2.2 q0 he hcl k hk (hts _ hl) (fun _ h => h) hfin hd hn hfit hlen hdg (fun H1 locs1 h1 h2 h3 => kk H1 locs1 ⟨h1, h2, h3⟩)
theorem rx_putN (B : bx p s m args c cc nL own A D z) (hI : iw D A s w H locs) {C host : String} {T : u_T} {N ci index a : Nat} (hcl : zcl[ci]? = some (C, T, N)) (hin : ∀ w ∈ u_ws C T N, w ∈ zT) {ty0 : Nat → FieldType} (hty : ∀ k, k < N → parseFieldDescriptor (T k).2.2.1 = some (ty0 k)) (hnm : ∀ a, a < N → ∀ b, b < N → a ≠ b → (T a).2.1 ≠ (T b).2.1) (q0 : Nat) {fs : List Value} (he : w[q0]? = some (a, .inr (ci, fs))) (k : Nat) (hk : k < N) (hl : Cond.fieldLinkNest own index (T k).1 (T k).2.1 (T k).2.2.1 host ∈ zN) (hfin : (T k).2.2.2 = false) {ty : FieldType} {v : Value} (hd : parseFieldDescriptor (T k).2.2.1 = some ty) (hn : narrow ty v = v) (hfit : fits ty v = true) (hlen : k < fs.length) (hw : w.set q0 (a, .inr (ci, fs.set k v)) = w') (hdg : decode cc pc = .ok (.putfield index, 3))
    (kk : ∀ (H1 : Heap) (locs1 : List Loc), iw D A s w' H1 locs1 → W p l e R s m args below meth c H1 locs1 cells slots Q (F0 m (pc + 3) ls rest)) : W p l e R s m args below meth c H locs cells slots Q (F0 m pc ls (v :: .ref a :: rest)) := by
  obtain ⟨hx, hb, hml, hown, hts, hK, hN, hZ, hA⟩ := B
  subst hw
  exact va_putN (D := D) (cl := zcl) hx hb hts hin ty0 hty hnm hown hK hI.1 hI.2.1 hI.2.2 q0 he hcl k hk (va_Nw.use rfl (hN _ hl)) (fun _ h => h) hfin hd hn hfit hlen hdg (fun H1 locs1 h1 h2 h3 => kk H1 locs1 ⟨h1, h2, h3⟩)
theorem rx_iald (B : bx p s m args c cc nL own A D z) (hI : iw D A s w H locs) (q0 : Nat) {a n : Nat} {f : Nat → Int32} (ha : w[q0]? = some (a, .inl (z.1, n, .inl f))) {i : Int32} (hin : zin i n) (hdg : decode cc pc = .ok (.iaload, 1))
    (kk : W p l e R s m args below meth c H locs cells slots Q (F0 m (pc + 1) ls (.int (f i.toNatClampNeg) :: rest))) : W p l e R s m args below meth c H locs cells slots Q (F0 m pc ls (.int i :: .ref a :: rest)) := by
  obtain ⟨hx, hb, hml, hown, hts, hK, hN, hZ, hA⟩ := B
  exact va_iald (D := D) (cl := zcl) hx hb hK hI.1 q0 0 ha rfl hin hdg kk
theorem rx_zald (B : bx p s m args c cc nL own A D z) (hI : iw D A s w H locs) (q0 : Nat) {a n : Nat} {f : Nat → Int32} (ha : w[q0]? = some (a, .inl (z.2.1, n, .inl f))) {i : Int32} (hin : zin i n) (hdg : decode cc pc = .ok (.baload, 1))
    (kk : W p l e R s m args below meth c H locs cells slots Q (F0 m (pc + 1) ls (.int (f i.toNatClampNeg) :: rest))) : W p l e R s m args below meth c H locs cells slots Q (F0 m pc ls (.int i :: .ref a :: rest)) := by
  obtain ⟨hx, hb, hml, hown, hts, hK, hN, hZ, hA⟩ := B
  exact va_zald (D := D) (cl := zcl) hx hb hK hI.1 q0 1 ha rfl hin hdg kk
theorem rx_lald (B : bx p s m args c cc nL own A D z) (hI : iw D A s w H locs) (q0 : Nat) {a n : Nat} {f : Nat → Int64} (ha : w[q0]? = some (a, .inl (z.2.2, n, .inr (.inl f)))) {i : Int32} (hin : zin i n) (hdg : decode cc pc = .ok (.laload, 1))
    (kk : W p l e R s m args below meth c H locs cells slots Q (F0 m (pc + 1) ls (.long (f i.toNatClampNeg) :: rest))) : W p l e R s m args below meth c H locs cells slots Q (F0 m pc ls (.int i :: .ref a :: rest)) := by
  obtain ⟨hx, hb, hml, hown, hts, hK, hN, hZ, hA⟩ := B
  exact va_lald (D := D) (cl := zcl) hx hb hK hI.1 q0 2 ha rfl hin hdg kk
theorem rx_iast (B : bx p s m args c cc nL own A D z) (hI : iw D A s w H locs) (q0 : Nat) {a n : Nat} {f : Nat → Int32} (ha : w[q0]? = some (a, .inl (z.1, n, .inl f))) {i : Int32} {x : Int32} (hin : zin i n) (hw : w.set q0 (a, .inl (z.1, n, .inl (upd f i.toNatClampNeg x))) = w') (hdg : decode cc pc = .ok (.iastore, 1))
    (kk : ∀ (H1 : Heap) (locs1 : List Loc), iw D A s w' H1 locs1 → W p l e R s m args below meth c H1 locs1 cells slots Q (F0 m (pc + 1) ls rest)) : W p l e R s m args below meth c H locs cells slots Q (F0 m pc ls (.int x :: .int i :: .ref a :: rest)) := by
  obtain ⟨hx, hb, hml, hown, hts, hK, hN, hZ, hA⟩ := B
  subst hw
  exact va_iast (D := D) (cl := zcl) hx hb hK hI.1 hI.2.1 hI.2.2 q0 0 ha rfl hin hdg (fun H1 locs1 h1 h2 h3 => kk H1 locs1 ⟨h1, h2, h3⟩)
theorem rx_zast (B : bx p s m args c cc nL own A D z) (hI : iw D A s w H locs) (q0 : Nat) {a n : Nat} {f : Nat → Int32} (ha : w[q0]? = some (a, .inl (z.2.1, n, .inl f))) {i : Int32} {x : Int32} (hin : zin i n) (hw : w.set q0 (a, .inl (z.2.1, n, .inl (upd f i.toNatClampNeg (vp_nar .boolean x)))) = w') (hdg : decode cc pc = .ok (.bastore, 1))
    (kk : ∀ (H1 : Heap) (locs1 : List Loc), iw D A s w' H1 locs1 → W p l e R s m args below meth c H1 locs1 cells slots Q (F0 m (pc + 1) ls rest)) : W p l e R s m args below meth c H locs cells slots Q (F0 m pc ls (.int x :: .int i :: .ref a :: rest)) := by
  obtain ⟨hx, hb, hml, hown, hts, hK, hN, hZ, hA⟩ := B
  subst hw
  exact va_zast (D := D) (cl := zcl) hx hb hK hI.1 hI.2.1 hI.2.2 q0 1 ha rfl hin hdg (fun H1 locs1 h1 h2 h3 => kk H1 locs1 ⟨h1, h2, h3⟩)
theorem rx_last (B : bx p s m args c cc nL own A D z) (hI : iw D A s w H locs) (q0 : Nat) {a n : Nat} {f : Nat → Int64} (ha : w[q0]? = some (a, .inl (z.2.2, n, .inr (.inl f)))) {i : Int32} {x : Int64} (hin : zin i n) (hw : w.set q0 (a, .inl (z.2.2, n, .inr (.inl (vp_updL f i.toNatClampNeg x)))) = w') (hdg : decode cc pc = .ok (.lastore, 1))
    (kk : ∀ (H1 : Heap) (locs1 : List Loc), iw D A s w' H1 locs1 → W p l e R s m args below meth c H1 locs1 cells slots Q (F0 m (pc + 1) ls rest)) : W p l e R s m args below meth c H locs cells slots Q (F0 m pc ls (.long x :: .int i :: .ref a :: rest)) := by
  obtain ⟨hx, hb, hml, hown, hts, hK, hN, hZ, hA⟩ := B
  subst hw
  exact va_last (D := D) (cl := zcl) hx hb hK hI.1 hI.2.1 hI.2.2 q0 2 ha rfl hin hdg (fun H1 locs1 h1 h2 h3 => kk H1 locs1 ⟨h1, h2, h3⟩)
theorem rx_alen (B : bx p s m args c cc nL own A D z) (hI : iw D A s w H locs) (q0 t0 : Nat) {a : Nat} {cA : ClassId} {x : vp_A} (ha : w[q0]? = some (a, .inl (cA, x))) {ty : FieldType} (ht : (zty z)[t0]? = some (cA, ty)) {v : Int32} (hv : Int32.ofNat x.1 = v) (hdg : decode cc pc = .ok (.arraylength, 1))
    (kk : W p l e R s m args below meth c H locs cells slots Q (F0 m (pc + 1) ls (.int v :: rest))) : W p l e R s m args below meth c H locs cells slots Q (F0 m pc ls (.ref a :: rest)) := by
  obtain ⟨hx, hb, hml, hown, hts, hK, hN, hZ, hA⟩ := B
  exact va_alen (D := D) (cl := zcl) hx hb hK hI.1 q0 t0 ha ht hv hdg kk
theorem rx_gets (B : bx p s m args c cc nL own A D z) (hI : iw D A s w H locs) (j : Nat) {C n : String} {vs : List Int32} (hj : zst[j]? = some (C, n, vs)) {index : Nat} (hl : Cond.fieldLink own index C n "[I" ∈ zT) (hdg : decode cc pc = .ok (.getstatic index, 3))
    (kk : ∀ t : Nat, va_T .int t vs.length (fun j => .int (vs.getD j 0)) A s s.heap → W p l e R s m args below meth c H locs cells slots Q (F0 m (pc + 3) ls (.ref t :: rest))) : W p l e R s m args below meth c H locs cells slots Q (F0 m pc ls rest) := by
  obtain ⟨hx, hb, hml, hown, hts, hK, hN, hZ, hA⟩ := B
  obtain ⟨t, h1, h2⟩ := hZ _ (List.mem_of_getElem? hj)
  exact va_gets hx hb h1 hI.2.2 hown (hts _ hl) (fun _ h => h) hdg (kk t h2)
theorem rx_getsN (B : bx p s m args c cc nL own A D z) (hI : iw D A s w H locs) (j : Nat) {C n : String} {vs : List Int32} (hj : zst[j]? = some (C, n, vs)) {index : Nat} {host : String} (hl : Cond.fieldLinkNest own index C n "[I" host ∈ zN) (hdg : decode cc pc = .ok (.getstatic index, 3))
    (kk : ∀ t : Nat, va_T .int t vs.length (fun j => .int (vs.getD j 0)) A s s.heap → W p l e R s m args below meth c H locs cells slots Q (F0 m (pc + 3) ls (.ref t :: rest))) : W p l e R s m args below meth c H locs cells slots Q (F0 m pc ls rest) := by
  obtain ⟨hx, hb, hml, hown, hts, hK, hN, hZ, hA⟩ := B
  obtain ⟨t, h1, h2⟩ := hZ _ (List.mem_of_getElem? hj)
  exact va_getsN hx hb h1 hI.2.2 hown (va_Nw.use rfl (hN _ hl)) (fun _ h => h) hdg (kk t h2)
theorem rx_ti (B : bx p s m args c cc nL own A D z) (hI : iw D A s w H locs) {t n : Nat} {vs : List Int32} (hT : va_T .int t vs.length (fun j => .int (vs.getD j 0)) A s s.heap) (hn : vs.length = n) {i : Int32} (hin : zin i n) (hdg : decode cc pc = .ok (.iaload, 1))
    (kk : W p l e R s m args below meth c H locs cells slots Q (F0 m (pc + 1) ls (.int (vs.getD i.toNatClampNeg 0) :: rest))) : W p l e R s m args below meth c H locs cells slots Q (F0 m pc ls (.int i :: .ref t :: rest)) := by
  subst hn
  exact va_ti B.1 B.2.1 hT hI.2.2 hin rfl hdg kk
theorem rx_tlen (B : bx p s m args c cc nL own A D z) (hI : iw D A s w H locs) {t : Nat} {vs : List Int32} (hT : va_T .int t vs.length (fun j => .int (vs.getD j 0)) A s s.heap) {v : Int32} (hv : Int32.ofNat vs.length = v) (hdg : decode cc pc = .ok (.arraylength, 1))
    (kk : W p l e R s m args below meth c H locs cells slots Q (F0 m (pc + 1) ls (.int v :: rest))) : W p l e R s m args below meth c H locs cells slots Q (F0 m pc ls (.ref t :: rest)) := va_tlen B.1 B.2.1 hT hI.2.2 hv hdg kk
end ZB
/-- a contract: world before, world behind -/
def zMet (l : Launch) (D : va_G) (z : zZ) (y : MethodName) (cw : Cond) (rm : Room) (av : List Value) (w : va_W) (Qa : (Nat → Prop) → Array Value → State → Outcome → State → Prop) : Prop :=
  ∀ sz : Nat, Met l y (cw :: zT) rm (va_Pc av (fun U => U.heap.size = sz ∧ zPre D z w U)) (Qa (va_A w sz)) 0 0 (va_A w sz)
def zQi (D : va_G) (r : Int32) (w' : va_W) (A : Nat → Prop) : Array Value → State → Outcome → State → Prop := va_Qi (fun r1 (_ : Unit) => r1 = r) (fun _ t => va_P D zcl w' t.heap ∧ va_D A w') A
def zQl (D : va_G) (r : Int64) (w' : va_W) (A : Nat → Prop) : Array Value → State → Outcome → State → Prop := va_Ql (fun r1 (_ : Unit) => r1 = r) (fun _ t => va_P D zcl w' t.heap ∧ va_D A w') A
def zQv (D : va_G) (w' : va_W) (A : Nat → Prop) : Array Value → State → Outcome → State → Prop := va_Qv (fun (_ : Unit) => True) (fun _ t => va_P D zcl w' t.heap ∧ va_D A w') A
def zQr (D : va_G) (r : Nat) (w' : va_W) (A : Nat → Prop) : Array Value → State → Outcome → State → Prop := va_Qr (fun (_ : Unit) => True) (fun _ a t => a = r ∧ va_P D zcl w' t.heap ∧ va_D A w') A
section ZC
variable {p : Program} {l : Launch} {e : Env} {R : Room} {s : State} {m : MethodId} {args : Array Value} {below : List Frame} {meth : Method} {c : Code} {H : Heap} {locs : List Loc} {cells slots : Nat} {Q : State → Prop}
variable {cc bytes : ByteArray} {nL maxL n index : Nat} {ret : Option FieldType} {own C host : String} {A : Nat → Prop} {D : va_G} {z : zZ} {w w' : va_W} {pc : Nat} {ls : Array Slot} {As rest st0 : List Value} {y : MethodName} {rm : Room} {b : Nat}
theorem rx_Vi (B : bx p s m args c cc nL own A D z) (hI : iw D A s w H locs) (hl : ls.size = nL) {r : Int32} (hM : zMet l D z y (.code y bytes maxL ret) rm (.ref b :: As) w (zQi D r w')) (h1 : Cond.methodLink own index y ∈ zT) (h2 : Cond.instanceMethod y ∈ zT) (h3 : Cond.selects C y y ∈ zT) (h4 : Cond.initialized C ∈ zT) (h5 : Cond.code y bytes maxL ret ∈ zT) (hd : y.cls = C ∧ y.cls ≠ "java/lang/invoke/MethodHandle" ∧ y.cls ≠ "java/lang/invoke/VarHandle" ∧ (parseMethodDescriptor y.desc).map (fun d => d.parameters.length) = some n) (q0 : Nat) {ci : Nat} {fs : List Value} {T : u_T} {N : Nat} (he : w[q0]? = some (b, .inr (ci, fs))) (hcl : zcl[ci]? = some (C, T, N)) (hn : As.length = n) (hst : st0 = As.reverse ++ .ref b :: rest) (hrest : (rest.map fun v => v.category).sum ≤ 8) (hdg : decode cc pc = .ok (.invokevirtual index, 3)) (hR : rm.frames + 1 ≤ R.frames ∧ 8 + (maxL + 11) + rm.locals ≤ R.locals) (hrc : rm.cells = 0) (hrs : rm.slots = 0) (hcs : cells ≤ R.cells ∧ slots ≤ R.slots)
    (kk : ∀ (H1 : Heap) (locs1 : List Loc), iw D A s w' H1 locs1 → W p l e R s m args below meth c H1 locs1 cells slots Q (F0 m (pc + 3) ls (.int r :: rest))) : W p l e R s m args below meth c H locs cells slots Q (F0 m pc ls st0) := by
  have hFc := iw_free B hI
  obtain ⟨hx, hb, hml, hown, hts, hK, hN, hZ, hA⟩ := id B
  refine va_calli (va_runV (As := As) (rest := rest) ⟨hx, hb, hml, hown, hts⟩ (hM H.size) (cwV n hts (fun w hw => by
      have h9 : w ∈ zT := by
        rcases List.mem_append.mp hw with hw | hw
        · simp only [List.mem_cons, List.mem_nil_iff, or_false] at hw
          rcases hw with rfl | rfl | rfl | rfl <;> assumption
        · rcases List.mem_cons.mp hw with rfl | hw
          · exact h5
          · exact hw
      exact ⟨h9, good_of_word (List.mem_filter.mp h9).2⟩) rfl hrc hrs hd hR) ⟨zPre_blind _, va_recv hK hI.1 hcl he, zPre_call B hI _⟩ rfl hn hl hst (lv_room hrest) hdg ⟨hcs.1, hcs.2⟩) hI.2.2 (fun q _ h => hFc q h) hFc (fun r1 u t H1 locs1 ht hvm hw hB hz1 hk1 hS1 => ?_)
  subst hw
  obtain ⟨hP1, hD1⟩ := hB
  rw [ht] at hP1
  exact kk H1 locs1 ⟨hP1, hD1.weaken (fun _ q _ h => hFc q.1 h), hS1⟩
theorem rx_Vl (B : bx p s m args c cc nL own A D z) (hI : iw D A s w H locs) (hl : ls.size = nL) {r : Int64} (hM : zMet l D z y (.code y bytes maxL ret) rm (.ref b :: As) w (zQl D r w')) (h1 : Cond.methodLink own index y ∈ zT) (h2 : Cond.instanceMethod y ∈ zT) (h3 : Cond.selects C y y ∈ zT) (h4 : Cond.initialized C ∈ zT) (h5 : Cond.code y bytes maxL ret ∈ zT) (hd : y.cls = C ∧ y.cls ≠ "java/lang/invoke/MethodHandle" ∧ y.cls ≠ "java/lang/invoke/VarHandle" ∧ (parseMethodDescriptor y.desc).map (fun d => d.parameters.length) = some n) (q0 : Nat) {ci : Nat} {fs : List Value} {T : u_T} {N : Nat} (he : w[q0]? = some (b, .inr (ci, fs))) (hcl : zcl[ci]? = some (C, T, N)) (hn : As.length = n) (hst : st0 = As.reverse ++ .ref b :: rest) (hrest : (rest.map fun v => v.category).sum ≤ 8) (hdg : decode cc pc = .ok (.invokevirtual index, 3)) (hR : rm.frames + 1 ≤ R.frames ∧ 8 + (maxL + 11) + rm.locals ≤ R.locals) (hrc : rm.cells = 0) (hrs : rm.slots = 0) (hcs : cells ≤ R.cells ∧ slots ≤ R.slots)
    (kk : ∀ (H1 : Heap) (locs1 : List Loc), iw D A s w' H1 locs1 → W p l e R s m args below meth c H1 locs1 cells slots Q (F0 m (pc + 3) ls (.long r :: rest))) : W p l e R s m args below meth c H locs cells slots Q (F0 m pc ls st0) := by
  have hFc := iw_free B hI
  obtain ⟨hx, hb, hml, hown, hts, hK, hN, hZ, hA⟩ := id B
  refine va_calll (va_runV (As := As) (rest := rest) ⟨hx, hb, hml, hown, hts⟩ (hM H.size) (cwV n hts (fun w hw => by
      have h9 : w ∈ zT := by
        rcases List.mem_append.mp hw with hw | hw
        · simp only [List.mem_cons, List.mem_nil_iff, or_false] at hw
          rcases hw with rfl | rfl | rfl | rfl <;> assumption
        · rcases List.mem_cons.mp hw with rfl | hw
          · exact h5
          · exact hw
      exact ⟨h9, good_of_word (List.mem_filter.mp h9).2⟩) rfl hrc hrs hd hR) ⟨zPre_blind _, va_recv hK hI.1 hcl he, zPre_call B hI _⟩ rfl hn hl hst (lv_room hrest) hdg ⟨hcs.1, hcs.2⟩) hI.2.2 (fun q _ h => hFc q h) hFc (fun r1 u t H1 locs1 ht hvm hw hB hz1 hk1 hS1 => ?_)
  subst hw
  obtain ⟨hP1, hD1⟩ := hB
  rw [ht] at hP1
  exact kk H1 locs1 ⟨hP1, hD1.weaken (fun _ q _ h => hFc q.1 h), hS1⟩
theorem rx_Vv (B : bx p s m args c cc nL own A D z) (hI : iw D A s w H locs) (hl : ls.size = nL)  (hM : zMet l D z y (.code y bytes maxL ret) rm (.ref b :: As) w (zQv D w')) (h1 : Cond.methodLink own index y ∈ zT) (h2 : Cond.instanceMethod y ∈ zT) (h3 : Cond.selects C y y ∈ zT) (h4 : Cond.initialized C ∈ zT) (h5 : Cond.code y bytes maxL ret ∈ zT) (hd : y.cls = C ∧ y.cls ≠ "java/lang/invoke/MethodHandle" ∧ y.cls ≠ "java/lang/invoke/VarHandle" ∧ (parseMethodDescriptor y.desc).map (fun d => d.parameters.length) = some n) (q0 : Nat) {ci : Nat} {fs : List Value} {T : u_T} {N : Nat} (he : w[q0]? = some (b, .inr (ci, fs))) (hcl : zcl[ci]? = some (C, T, N)) (hn : As.length = n) (hst : st0 = As.reverse ++ .ref b :: rest) (hrest : (rest.map fun v => v.category).sum ≤ 8) (hdg : decode cc pc = .ok (.invokevirtual index, 3)) (hR : rm.frames + 1 ≤ R.frames ∧ 8 + (maxL + 11) + rm.locals ≤ R.locals) (hrc : rm.cells = 0) (hrs : rm.slots = 0) (hcs : cells ≤ R.cells ∧ slots ≤ R.slots)
    (kk : ∀ (H1 : Heap) (locs1 : List Loc), iw D A s w' H1 locs1 → W p l e R s m args below meth c H1 locs1 cells slots Q (F0 m (pc + 3) ls (rest))) : W p l e R s m args below meth c H locs cells slots Q (F0 m pc ls st0) := by
  have hFc := iw_free B hI
  obtain ⟨hx, hb, hml, hown, hts, hK, hN, hZ, hA⟩ := id B
  refine va_callv (va_runV (As := As) (rest := rest) ⟨hx, hb, hml, hown, hts⟩ (hM H.size) (cwV n hts (fun w hw => by
      have h9 : w ∈ zT := by
        rcases List.mem_append.mp hw with hw | hw
        · simp only [List.mem_cons, List.mem_nil_iff, or_false] at hw
          rcases hw with rfl | rfl | rfl | rfl <;> assumption
        · rcases List.mem_cons.mp hw with rfl | hw
          · exact h5
          · exact hw
      exact ⟨h9, good_of_word (List.mem_filter.mp h9).2⟩) rfl hrc hrs hd hR) ⟨zPre_blind _, va_recv hK hI.1 hcl he, zPre_call B hI _⟩ rfl hn hl hst (lv_room hrest) hdg ⟨hcs.1, hcs.2⟩) hI.2.2 (fun q _ h => hFc q h) hFc (fun u t H1 locs1 ht hvm hw hB hz1 hk1 hS1 => ?_)
  obtain ⟨hP1, hD1⟩ := hB
  rw [ht] at hP1
  exact kk H1 locs1 ⟨hP1, hD1.weaken (fun _ q _ h => hFc q.1 h), hS1⟩
theorem rx_Vr (B : bx p s m args c cc nL own A D z) (hI : iw D A s w H locs) (hl : ls.size = nL) {r : Nat} (hM : zMet l D z y (.code y bytes maxL ret) rm (.ref b :: As) w (zQr D r w')) (h1 : Cond.methodLink own index y ∈ zT) (h2 : Cond.instanceMethod y ∈ zT) (h3 : Cond.selects C y y ∈ zT) (h4 : Cond.initialized C ∈ zT) (h5 : Cond.code y bytes maxL ret ∈ zT) (hd : y.cls = C ∧ y.cls ≠ "java/lang/invoke/MethodHandle" ∧ y.cls ≠ "java/lang/invoke/VarHandle" ∧ (parseMethodDescriptor y.desc).map (fun d => d.parameters.length) = some n) (q0 : Nat) {ci : Nat} {fs : List Value} {T : u_T} {N : Nat} (he : w[q0]? = some (b, .inr (ci, fs))) (hcl : zcl[ci]? = some (C, T, N)) (hn : As.length = n) (hst : st0 = As.reverse ++ .ref b :: rest) (hrest : (rest.map fun v => v.category).sum ≤ 8) (hdg : decode cc pc = .ok (.invokevirtual index, 3)) (hR : rm.frames + 1 ≤ R.frames ∧ 8 + (maxL + 11) + rm.locals ≤ R.locals) (hrc : rm.cells = 0) (hrs : rm.slots = 0) (hcs : cells ≤ R.cells ∧ slots ≤ R.slots)
    (kk : ∀ (H1 : Heap) (locs1 : List Loc), iw D A s w' H1 locs1 → W p l e R s m args below meth c H1 locs1 cells slots Q (F0 m (pc + 3) ls (.ref r :: rest))) : W p l e R s m args below meth c H locs cells slots Q (F0 m pc ls st0) := by
  have hFc := iw_free B hI
  obtain ⟨hx, hb, hml, hown, hts, hK, hN, hZ, hA⟩ := id B
  refine va_callr (va_runV (As := As) (rest := rest) ⟨hx, hb, hml, hown, hts⟩ (hM H.size) (cwV n hts (fun w hw => by
      have h9 : w ∈ zT := by
        rcases List.mem_append.mp hw with hw | hw
        · simp only [List.mem_cons, List.mem_nil_iff, or_false] at hw
          rcases hw with rfl | rfl | rfl | rfl <;> assumption
        · rcases List.mem_cons.mp hw with rfl | hw
          · exact h5
          · exact hw
      exact ⟨h9, good_of_word (List.mem_filter.mp h9).2⟩) rfl hrc hrs hd hR) ⟨zPre_blind _, va_recv hK hI.1 hcl he, zPre_call B hI _⟩ rfl hn hl hst (lv_room hrest) hdg ⟨hcs.1, hcs.2⟩) hI.2.2 (fun q _ h => hFc q h) hFc (fun u r1 t H1 locs1 ht hvm hw hB hz1 hk1 hS1 => ?_)
  obtain ⟨e9, hP1, hD1⟩ := hB
  subst e9
  rw [ht] at hP1
  exact kk H1 locs1 ⟨hP1, hD1.weaken (fun _ q _ h => hFc q.1 h), hS1⟩
theorem rx_Ni (B : bx p s m args c cc nL own A D z) (hI : iw D A s w H locs) (hl : ls.size = nL) {r : Int32} (hM : zMet l D z y (.code y bytes maxL ret) rm (.ref b :: As) w (zQi D r w')) (h1 : Cond.methodLinkNest own index y host ∈ zN) (h2 : Cond.instanceMethod y ∈ zT) (h3 : Cond.selects C y y ∈ zT) (h4 : Cond.initialized y.cls ∈ zT) (h5 : Cond.code y bytes maxL ret ∈ zT) (hd : y.cls ≠ "java/lang/invoke/MethodHandle" ∧ y.cls ≠ "java/lang/invoke/VarHandle" ∧ (parseMethodDescriptor y.desc).map (fun d => d.parameters.length) = some n) (q0 : Nat) {ci : Nat} {fs : List Value} {T : u_T} {N : Nat} (he : w[q0]? = some (b, .inr (ci, fs))) (hcl : zcl[ci]? = some (C, T, N)) (hn : As.length = n) (hst : st0 = As.reverse ++ .ref b :: rest) (hrest : (rest.map fun v => v.category).sum ≤ 8) (hdg : decode cc pc = .ok (.invokevirtual index, 3)) (hR : rm.frames + 1 ≤ R.frames ∧ 8 + (maxL + 11) + rm.locals ≤ R.locals) (hrc : rm.cells = 0) (hrs : rm.slots = 0) (hcs : cells ≤ R.cells ∧ slots ≤ R.slots)
    (kk : ∀ (H1 : Heap) (locs1 : List Loc), iw D A s w' H1 locs1 → W p l e R s m args below meth c H1 locs1 cells slots Q (F0 m (pc + 3) ls (.int r :: rest))) : W p l e R s m args below meth c H locs cells slots Q (F0 m pc ls st0) := by
  have hFc := iw_free B hI
  obtain ⟨hx, hb, hml, hown, hts, hK, hN, hZ, hA⟩ := id B
  refine va_calli (va_runVN (As := As) (rest := rest) ⟨hx, hb, hml, hown, hts⟩ (hM H.size) ⟨va_cnB n hts (zGoodT h5) rfl hrc hrs (hN _ h1) (hts _ h4) hd hR, hts _ h2, hts _ h3⟩ ⟨zPre_blind _, va_recv hK hI.1 hcl he, zPre_call B hI _⟩ rfl hn hl hst (lv_room hrest) hdg ⟨hcs.1, hcs.2⟩) hI.2.2 (fun q _ h => hFc q h) hFc (fun r1 u t H1 locs1 ht hvm hw hB hz1 hk1 hS1 => ?_)
  subst hw
  obtain ⟨hP1, hD1⟩ := hB
  rw [ht] at hP1
  exact kk H1 locs1 ⟨hP1, hD1.weaken (fun _ q _ h => hFc q.1 h), hS1⟩
theorem rx_Nl (B : bx p s m args c cc nL own A D z) (hI : iw D A s w H locs) (hl : ls.size = nL) {r : Int64} (hM : zMet l D z y (.code y bytes maxL ret) rm (.ref b :: As) w (zQl D r w')) (h1 : Cond.methodLinkNest own index y host ∈ zN) (h2 : Cond.instanceMethod y ∈ zT) (h3 : Cond.selects C y y ∈ zT) (h4 : Cond.initialized y.cls ∈ zT) (h5 : Cond.code y bytes maxL ret ∈ zT) (hd : y.cls ≠ "java/lang/invoke/MethodHandle" ∧ y.cls ≠ "java/lang/invoke/VarHandle" ∧ (parseMethodDescriptor y.desc).map (fun d => d.parameters.length) = some n) (q0 : Nat) {ci : Nat} {fs : List Value} {T : u_T} {N : Nat} (he : w[q0]? = some (b, .inr (ci, fs))) (hcl : zcl[ci]? = some (C, T, N)) (hn : As.length = n) (hst : st0 = As.reverse ++ .ref b :: rest) (hrest : (rest.map fun v => v.category).sum ≤ 8) (hdg : decode cc pc = .ok (.invokevirtual index, 3)) (hR : rm.frames + 1 ≤ R.frames ∧ 8 + (maxL + 11) + rm.locals ≤ R.locals) (hrc : rm.cells = 0) (hrs : rm.slots = 0) (hcs : cells ≤ R.cells ∧ slots ≤ R.slots)
    (kk : ∀ (H1 : Heap) (locs1 : List Loc), iw D A s w' H1 locs1 → W p l e R s m args below meth c H1 locs1 cells slots Q (F0 m (pc + 3) ls (.long r :: rest))) : W p l e R s m args below meth c H locs cells slots Q (F0 m pc ls st0) := by
  have hFc := iw_free B hI
  obtain ⟨hx, hb, hml, hown, hts, hK, hN, hZ, hA⟩ := id B
  refine va_calll (va_runVN (As := As) (rest := rest) ⟨hx, hb, hml, hown, hts⟩ (hM H.size) ⟨va_cnB n hts (zGoodT h5) rfl hrc hrs (hN _ h1) (hts _ h4) hd hR, hts _ h2, hts _ h3⟩ ⟨zPre_blind _, va_recv hK hI.1 hcl he, zPre_call B hI _⟩ rfl hn hl hst (lv_room hrest) hdg ⟨hcs.1, hcs.2⟩) hI.2.2 (fun q _ h => hFc q h) hFc (fun r1 u t H1 locs1 ht hvm hw hB hz1 hk1 hS1 => ?_)
  subst hw
  obtain ⟨hP1, hD1⟩ := hB
  rw [ht] at hP1
  exact kk H1 locs1 ⟨hP1, hD1.weaken (fun _ q _ h => hFc q.1 h), hS1⟩
theorem rx_Nv (B : bx p s m args c cc nL own A D z) (hI : iw D A s w H locs) (hl : ls.size = nL)  (hM : zMet l D z y (.code y bytes maxL ret) rm (.ref b :: As) w (zQv D w')) (h1 : Cond.methodLinkNest own index y host ∈ zN) (h2 : Cond.instanceMethod y ∈ zT) (h3 : Cond.selects C y y ∈ zT) (h4 : Cond.initialized y.cls ∈ zT) (h5 : Cond.code y bytes maxL ret ∈ zT) (hd : y.cls ≠ "java/lang/invoke/MethodHandle" ∧ y.cls ≠ "java/lang/invoke/VarHandle" ∧ (parseMethodDescriptor y.desc).map (fun d => d.parameters.length) = some n) (q0 : Nat) {ci : Nat} {fs : List Value} {T : u_T} {N : Nat} (he : w[q0]? = some (b, .inr (ci, fs))) (hcl : zcl[ci]? = some (C, T, N)) (hn : As.length = n) (hst : st0 = As.reverse ++ .ref b :: rest) (hrest : (rest.map fun v => v.category).sum ≤ 8) (hdg : decode cc pc = .ok (.invokevirtual index, 3)) (hR : rm.frames + 1 ≤ R.frames ∧ 8 + (maxL + 11) + rm.locals ≤ R.locals) (hrc : rm.cells = 0) (hrs : rm.slots = 0) (hcs : cells ≤ R.cells ∧ slots ≤ R.slots)
    (kk : ∀ (H1 : Heap) (locs1 : List Loc), iw D A s w' H1 locs1 → W p l e R s m args below meth c H1 locs1 cells slots Q (F0 m (pc + 3) ls (rest))) : W p l e R s m args below meth c H locs cells slots Q (F0 m pc ls st0) := by
  have hFc := iw_free B hI
  obtain ⟨hx, hb, hml, hown, hts, hK, hN, hZ, hA⟩ := id B
  refine va_callv (va_runVN (As := As) (rest := rest) ⟨hx, hb, hml, hown, hts⟩ (hM H.size) ⟨va_cnB n hts (zGoodT h5) rfl hrc hrs (hN _ h1) (hts _ h4) hd hR, hts _ h2, hts _ h3⟩ ⟨zPre_blind _, va_recv hK hI.1 hcl he, zPre_call B hI _⟩ rfl hn hl hst (lv_room hrest) hdg ⟨hcs.1, hcs.2⟩) hI.2.2 (fun q _ h => hFc q h) hFc (fun u t H1 locs1 ht hvm hw hB hz1 hk1 hS1 => ?_)
  obtain ⟨hP1, hD1⟩ := hB
  rw [ht] at hP1
  exact kk H1 locs1 ⟨hP1, hD1.weaken (fun _ q _ h => hFc q.1 h), hS1⟩
theorem rx_Nr (B : bx p s m args c cc nL own A D z) (hI : iw D A s w H locs) (hl : ls.size = nL) {r : Nat} (hM : zMet l D z y (.code y bytes maxL ret) rm (.ref b :: As) w (zQr D r w')) (h1 : Cond.methodLinkNest own index y host ∈ zN) (h2 : Cond.instanceMethod y ∈ zT) (h3 : Cond.selects C y y ∈ zT) (h4 : Cond.initialized y.cls ∈ zT) (h5 : Cond.code y bytes maxL ret ∈ zT) (hd : y.cls ≠ "java/lang/invoke/MethodHandle" ∧ y.cls ≠ "java/lang/invoke/VarHandle" ∧ (parseMethodDescriptor y.desc).map (fun d => d.parameters.length) = some n) (q0 : Nat) {ci : Nat} {fs : List Value} {T : u_T} {N : Nat} (he : w[q0]? = some (b, .inr (ci, fs))) (hcl : zcl[ci]? = some (C, T, N)) (hn : As.length = n) (hst : st0 = As.reverse ++ .ref b :: rest) (hrest : (rest.map fun v => v.category).sum ≤ 8) (hdg : decode cc pc = .ok (.invokevirtual index, 3)) (hR : rm.frames + 1 ≤ R.frames ∧ 8 + (maxL + 11) + rm.locals ≤ R.locals) (hrc : rm.cells = 0) (hrs : rm.slots = 0) (hcs : cells ≤ R.cells ∧ slots ≤ R.slots)
    (kk : ∀ (H1 : Heap) (locs1 : List Loc), iw D A s w' H1 locs1 → W p l e R s m args below meth c H1 locs1 cells slots Q (F0 m (pc + 3) ls (.ref r :: rest))) : W p l e R s m args below meth c H locs cells slots Q (F0 m pc ls st0) := by
  have hFc := iw_free B hI
  obtain ⟨hx, hb, hml, hown, hts, hK, hN, hZ, hA⟩ := id B
  refine va_callr (va_runVN (As := As) (rest := rest) ⟨hx, hb, hml, hown, hts⟩ (hM H.size) ⟨va_cnB n hts (zGoodT h5) rfl hrc hrs (hN _ h1) (hts _ h4) hd hR, hts _ h2, hts _ h3⟩ ⟨zPre_blind _, va_recv hK hI.1 hcl he, zPre_call B hI _⟩ rfl hn hl hst (lv_room hrest) hdg ⟨hcs.1, hcs.2⟩) hI.2.2 (fun q _ h => hFc q h) hFc (fun u r1 t H1 locs1 ht hvm hw hB hz1 hk1 hS1 => ?_)
  obtain ⟨e9, hP1, hD1⟩ := hB
  subst e9
  rw [ht] at hP1
  exact kk H1 locs1 ⟨hP1, hD1.weaken (fun _ q _ h => hFc q.1 h), hS1⟩
theorem rx_Si (B : bx p s m args c cc nL own A D z) (hI : iw D A s w H locs) (hl : ls.size = nL) {r : Int32} (hM : zMet l D z y (.code y bytes maxL ret) rm As w (zQi D r w')) (h1 : Cond.methodLink own index y ∈ zT) (h2 : Cond.static y ∈ zT) (h4 : Cond.initialized y.cls ∈ zT) (h5 : Cond.code y bytes maxL ret ∈ zT) (hd : y.cls ≠ "java/lang/invoke/MethodHandle" ∧ y.cls ≠ "java/lang/invoke/VarHandle" ∧ (parseMethodDescriptor y.desc).map (fun d => d.parameters.length) = some n) (hn : As.length = n) (hst : st0 = As.reverse ++ rest) (hrest : (rest.map fun v => v.category).sum ≤ 8) (hdg : decode cc pc = .ok (.invokestatic index, 3)) (hR : rm.frames + 1 ≤ R.frames ∧ 8 + (maxL + 11) + rm.locals ≤ R.locals) (hrc : rm.cells = 0) (hrs : rm.slots = 0) (hcs : cells ≤ R.cells ∧ slots ≤ R.slots)
    (kk : ∀ (H1 : Heap) (locs1 : List Loc), iw D A s w' H1 locs1 → W p l e R s m args below meth c H1 locs1 cells slots Q (F0 m (pc + 3) ls (.int r :: rest))) : W p l e R s m args below meth c H locs cells slots Q (F0 m pc ls st0) := by
  have hFc := iw_free B hI
  obtain ⟨hx, hb, hml, hown, hts, hK, hN, hZ, hA⟩ := id B
  refine va_calli (va_runS (As := As) (rest := rest) ⟨hx, hb, hml, hown, hts⟩ (hM H.size) ⟨callB_of n hts (zGoodT h5) rfl hrc hrs (hts _ h4) (hts _ h1) hd hR, hts _ h2⟩ ⟨zPre_blind _, zPre_call B hI _⟩ rfl hn hl hst (lv_room hrest) hdg ⟨hcs.1, hcs.2⟩) hI.2.2 (fun q _ h => hFc q h) hFc (fun r1 u t H1 locs1 ht hvm hw hB hz1 hk1 hS1 => ?_)
  subst hw
  obtain ⟨hP1, hD1⟩ := hB
  rw [ht] at hP1
  exact kk H1 locs1 ⟨hP1, hD1.weaken (fun _ q _ h => hFc q.1 h), hS1⟩
theorem rx_Sl (B : bx p s m args c cc nL own A D z) (hI : iw D A s w H locs) (hl : ls.size = nL) {r : Int64} (hM : zMet l D z y (.code y bytes maxL ret) rm As w (zQl D r w')) (h1 : Cond.methodLink own index y ∈ zT) (h2 : Cond.static y ∈ zT) (h4 : Cond.initialized y.cls ∈ zT) (h5 : Cond.code y bytes maxL ret ∈ zT) (hd : y.cls ≠ "java/lang/invoke/MethodHandle" ∧ y.cls ≠ "java/lang/invoke/VarHandle" ∧ (parseMethodDescriptor y.desc).map (fun d => d.parameters.length) = some n) (hn : As.length = n) (hst : st0 = As.reverse ++ rest) (hrest : (rest.map fun v => v.category).sum ≤ 8) (hdg : decode cc pc = .ok (.invokestatic index, 3)) (hR : rm.frames + 1 ≤ R.frames ∧ 8 + (maxL + 11) + rm.locals ≤ R.locals) (hrc : rm.cells = 0) (hrs : rm.slots = 0) (hcs : cells ≤ R.cells ∧ slots ≤ R.slots)
    (kk : ∀ (H1 : Heap) (locs1 : List Loc), iw D A s w' H1 locs1 → W p l e R s m args below meth c H1 locs1 cells slots Q (F0 m (pc + 3) ls (.long r :: rest))) : W p l e R s m args below meth c H locs cells slots Q (F0 m pc ls st0) := by
  have hFc := iw_free B hI
  obtain ⟨hx, hb, hml, hown, hts, hK, hN, hZ, hA⟩ := id B
  refine va_calll (va_runS (As := As) (rest := rest) ⟨hx, hb, hml, hown, hts⟩ (hM H.size) ⟨callB_of n hts (zGoodT h5) rfl hrc hrs (hts _ h4) (hts _ h1) hd hR, hts _ h2⟩ ⟨zPre_blind _, zPre_call B hI _⟩ rfl hn hl hst (lv_room hrest) hdg ⟨hcs.1, hcs.2⟩) hI.2.2 (fun q _ h => hFc q h) hFc (fun r1 u t H1 locs1 ht hvm hw hB hz1 hk1 hS1 => ?_)
  subst hw
  obtain ⟨hP1, hD1⟩ := hB
  rw [ht] at hP1
  exact kk H1 locs1 ⟨hP1, hD1.weaken (fun _ q _ h => hFc q.1 h), hS1⟩
theorem rx_Sv (B : bx p s m args c cc nL own A D z) (hI : iw D A s w H locs) (hl : ls.size = nL)  (hM : zMet l D z y (.code y bytes maxL ret) rm As w (zQv D w')) (h1 : Cond.methodLink own index y ∈ zT) (h2 : Cond.static y ∈ zT) (h4 : Cond.initialized y.cls ∈ zT) (h5 : Cond.code y bytes maxL ret ∈ zT) (hd : y.cls ≠ "java/lang/invoke/MethodHandle" ∧ y.cls ≠ "java/lang/invoke/VarHandle" ∧ (parseMethodDescriptor y.desc).map (fun d => d.parameters.length) = some n) (hn : As.length = n) (hst : st0 = As.reverse ++ rest) (hrest : (rest.map fun v => v.category).sum ≤ 8) (hdg : decode cc pc = .ok (.invokestatic index, 3)) (hR : rm.frames + 1 ≤ R.frames ∧ 8 + (maxL + 11) + rm.locals ≤ R.locals) (hrc : rm.cells = 0) (hrs : rm.slots = 0) (hcs : cells ≤ R.cells ∧ slots ≤ R.slots)
    (kk : ∀ (H1 : Heap) (locs1 : List Loc), iw D A s w' H1 locs1 → W p l e R s m args below meth c H1 locs1 cells slots Q (F0 m (pc + 3) ls (rest))) : W p l e R s m args below meth c H locs cells slots Q (F0 m pc ls st0) := by
  have hFc := iw_free B hI
  obtain ⟨hx, hb, hml, hown, hts, hK, hN, hZ, hA⟩ := id B
  refine va_callv (va_runS (As := As) (rest := rest) ⟨hx, hb, hml, hown, hts⟩ (hM H.size) ⟨callB_of n hts (zGoodT h5) rfl hrc hrs (hts _ h4) (hts _ h1) hd hR, hts _ h2⟩ ⟨zPre_blind _, zPre_call B hI _⟩ rfl hn hl hst (lv_room hrest) hdg ⟨hcs.1, hcs.2⟩) hI.2.2 (fun q _ h => hFc q h) hFc (fun u t H1 locs1 ht hvm hw hB hz1 hk1 hS1 => ?_)
  obtain ⟨hP1, hD1⟩ := hB
  rw [ht] at hP1
  exact kk H1 locs1 ⟨hP1, hD1.weaken (fun _ q _ h => hFc q.1 h), hS1⟩
theorem rx_Sr (B : bx p s m args c cc nL own A D z) (hI : iw D A s w H locs) (hl : ls.size = nL) {r : Nat} (hM : zMet l D z y (.code y bytes maxL ret) rm As w (zQr D r w')) (h1 : Cond.methodLink own index y ∈ zT) (h2 : Cond.static y ∈ zT) (h4 : Cond.initialized y.cls ∈ zT) (h5 : Cond.code y bytes maxL ret ∈ zT) (hd : y.cls ≠ "java/lang/invoke/MethodHandle" ∧ y.cls ≠ "java/lang/invoke/VarHandle" ∧ (parseMethodDescriptor y.desc).map (fun d => d.parameters.length) = some n) (hn : As.length = n) (hst : st0 = As.reverse ++ rest) (hrest : (rest.map fun v => v.category).sum ≤ 8) (hdg : decode cc pc = .ok (.invokestatic index, 3)) (hR : rm.frames + 1 ≤ R.frames ∧ 8 + (maxL + 11) + rm.locals ≤ R.locals) (hrc : rm.cells = 0) (hrs : rm.slots = 0) (hcs : cells ≤ R.cells ∧ slots ≤ R.slots)
    (kk : ∀ (H1 : Heap) (locs1 : List Loc), iw D A s w' H1 locs1 → W p l e R s m args below meth c H1 locs1 cells slots Q (F0 m (pc + 3) ls (.ref r :: rest))) : W p l e R s m args below meth c H locs cells slots Q (F0 m pc ls st0) := by
  have hFc := iw_free B hI
  obtain ⟨hx, hb, hml, hown, hts, hK, hN, hZ, hA⟩ := id B
  refine va_callr (va_runS (As := As) (rest := rest) ⟨hx, hb, hml, hown, hts⟩ (hM H.size) ⟨callB_of n hts (zGoodT h5) rfl hrc hrs (hts _ h4) (hts _ h1) hd hR, hts _ h2⟩ ⟨zPre_blind _, zPre_call B hI _⟩ rfl hn hl hst (lv_room hrest) hdg ⟨hcs.1, hcs.2⟩) hI.2.2 (fun q _ h => hFc q h) hFc (fun u r1 t H1 locs1 ht hvm hw hB hz1 hk1 hS1 => ?_)
  obtain ⟨e9, hP1, hD1⟩ := hB
  subst e9
  rw [ht] at hP1
  exact kk H1 locs1 ⟨hP1, hD1.weaken (fun _ q _ h => hFc q.1 h), hS1⟩
theorem rx_Mi (B : bx p s m args c cc nL own A D z) (hI : iw D A s w H locs) (hl : ls.size = nL) {r : Int32} (hM : zMet l D z y (.code y bytes maxL ret) rm As w (zQi D r w')) (h1 : Cond.methodLinkNest own index y host ∈ zN) (h2 : Cond.static y ∈ zT) (h4 : Cond.initialized y.cls ∈ zT) (h5 : Cond.code y bytes maxL ret ∈ zT) (hd : y.cls ≠ "java/lang/invoke/MethodHandle" ∧ y.cls ≠ "java/lang/invoke/VarHandle" ∧ (parseMethodDescriptor y.desc).map (fun d => d.parameters.length) = some n) (hn : As.length = n) (hst : st0 = As.reverse ++ rest) (hrest : (rest.map fun v => v.category).sum ≤ 8) (hdg : decode cc pc = .ok (.invokestatic index, 3)) (hR : rm.frames + 1 ≤ R.frames ∧ 8 + (maxL + 11) + rm.locals ≤ R.locals) (hrc : rm.cells = 0) (hrs : rm.slots = 0) (hcs : cells ≤ R.cells ∧ slots ≤ R.slots)
    (kk : ∀ (H1 : Heap) (locs1 : List Loc), iw D A s w' H1 locs1 → W p l e R s m args below meth c H1 locs1 cells slots Q (F0 m (pc + 3) ls (.int r :: rest))) : W p l e R s m args below meth c H locs cells slots Q (F0 m pc ls st0) := by
  have hFc := iw_free B hI
  obtain ⟨hx, hb, hml, hown, hts, hK, hN, hZ, hA⟩ := id B
  refine va_calli (va_runSN (As := As) (rest := rest) ⟨hx, hb, hml, hown, hts⟩ (hM H.size) ⟨va_cnB n hts (zGoodT h5) rfl hrc hrs (hN _ h1) (hts _ h4) hd hR, hts _ h2, trivial⟩ ⟨zPre_blind _, zPre_call B hI _⟩ rfl hn hl hst (lv_room hrest) hdg ⟨hcs.1, hcs.2⟩) hI.2.2 (fun q _ h => hFc q h) hFc (fun r1 u t H1 locs1 ht hvm hw hB hz1 hk1 hS1 => ?_)
  subst hw
  obtain ⟨hP1, hD1⟩ := hB
  rw [ht] at hP1
  exact kk H1 locs1 ⟨hP1, hD1.weaken (fun _ q _ h => hFc q.1 h), hS1⟩
theorem rx_Ml (B : bx p s m args c cc nL own A D z) (hI : iw D A s w H locs) (hl : ls.size = nL) {r : Int64} (hM : zMet l D z y (.code y bytes maxL ret) rm As w (zQl D r w')) (h1 : Cond.methodLinkNest own index y host ∈ zN) (h2 : Cond.static y ∈ zT) (h4 : Cond.initialized y.cls ∈ zT) (h5 : Cond.code y bytes maxL ret ∈ zT) (hd : y.cls ≠ "java/lang/invoke/MethodHandle" ∧ y.cls ≠ "java/lang/invoke/VarHandle" ∧ (parseMethodDescriptor y.desc).map (fun d => d.parameters.length) = some n) (hn : As.length = n) (hst : st0 = As.reverse ++ rest) (hrest : (rest.map fun v => v.category).sum ≤ 8) (hdg : decode cc pc = .ok (.invokestatic index, 3)) (hR : rm.frames + 1 ≤ R.frames ∧ 8 + (maxL + 11) + rm.locals ≤ R.locals) (hrc : rm.cells = 0) (hrs : rm.slots = 0) (hcs : cells ≤ R.cells ∧ slots ≤ R.slots)
    (kk : ∀ (H1 : Heap) (locs1 : List Loc), iw D A s w' H1 locs1 → W p l e R s m args below meth c H1 locs1 cells slots Q (F0 m (pc + 3) ls (.long r :: rest))) : W p l e R s m args below meth c H locs cells slots Q (F0 m pc ls st0) := by
  have hFc := iw_free B hI
  obtain ⟨hx, hb, hml, hown, hts, hK, hN, hZ, hA⟩ := id B
  refine va_calll (va_runSN (As := As) (rest := rest) ⟨hx, hb, hml, hown, hts⟩ (hM H.size) ⟨va_cnB n hts (zGoodT h5) rfl hrc hrs (hN _ h1) (hts _ h4) hd hR, hts _ h2, trivial⟩ ⟨zPre_blind _, zPre_call B hI _⟩ rfl hn hl hst (lv_room hrest) hdg ⟨hcs.1, hcs.2⟩) hI.2.2 (fun q _ h => hFc q h) hFc (fun r1 u t H1 locs1 ht hvm hw hB hz1 hk1 hS1 => ?_)
  subst hw
  obtain ⟨hP1, hD1⟩ := hB
  rw [ht] at hP1
  exact kk H1 locs1 ⟨hP1, hD1.weaken (fun _ q _ h => hFc q.1 h), hS1⟩
theorem rx_Mv (B : bx p s m args c cc nL own A D z) (hI : iw D A s w H locs) (hl : ls.size = nL)  (hM : zMet l D z y (.code y bytes maxL ret) rm As w (zQv D w')) (h1 : Cond.methodLinkNest own index y host ∈ zN) (h2 : Cond.static y ∈ zT) (h4 : Cond.initialized y.cls ∈ zT) (h5 : Cond.code y bytes maxL ret ∈ zT) (hd : y.cls ≠ "java/lang/invoke/MethodHandle" ∧ y.cls ≠ "java/lang/invoke/VarHandle" ∧ (parseMethodDescriptor y.desc).map (fun d => d.parameters.length) = some n) (hn : As.length = n) (hst : st0 = As.reverse ++ rest) (hrest : (rest.map fun v => v.category).sum ≤ 8) (hdg : decode cc pc = .ok (.invokestatic index, 3)) (hR : rm.frames + 1 ≤ R.frames ∧ 8 + (maxL + 11) + rm.locals ≤ R.locals) (hrc : rm.cells = 0) (hrs : rm.slots = 0) (hcs : cells ≤ R.cells ∧ slots ≤ R.slots)
    (kk : ∀ (H1 : Heap) (locs1 : List Loc), iw D A s w' H1 locs1 → W p l e R s m args below meth c H1 locs1 cells slots Q (F0 m (pc + 3) ls (rest))) : W p l e R s m args below meth c H locs cells slots Q (F0 m pc ls st0) := by
  have hFc := iw_free B hI
  obtain ⟨hx, hb, hml, hown, hts, hK, hN, hZ, hA⟩ := id B
  refine va_callv (va_runSN (As := As) (rest := rest) ⟨hx, hb, hml, hown, hts⟩ (hM H.size) ⟨va_cnB n hts (zGoodT h5) rfl hrc hrs (hN _ h1) (hts _ h4) hd hR, hts _ h2, trivial⟩ ⟨zPre_blind _, zPre_call B hI _⟩ rfl hn hl hst (lv_room hrest) hdg ⟨hcs.1, hcs.2⟩) hI.2.2 (fun q _ h => hFc q h) hFc (fun u t H1 locs1 ht hvm hw hB hz1 hk1 hS1 => ?_)
  obtain ⟨hP1, hD1⟩ := hB
  rw [ht] at hP1
  exact kk H1 locs1 ⟨hP1, hD1.weaken (fun _ q _ h => hFc q.1 h), hS1⟩
theorem rx_Mr (B : bx p s m args c cc nL own A D z) (hI : iw D A s w H locs) (hl : ls.size = nL) {r : Nat} (hM : zMet l D z y (.code y bytes maxL ret) rm As w (zQr D r w')) (h1 : Cond.methodLinkNest own index y host ∈ zN) (h2 : Cond.static y ∈ zT) (h4 : Cond.initialized y.cls ∈ zT) (h5 : Cond.code y bytes maxL ret ∈ zT) (hd : y.cls ≠ "java/lang/invoke/MethodHandle" ∧ y.cls ≠ "java/lang/invoke/VarHandle" ∧ (parseMethodDescriptor y.desc).map (fun d => d.parameters.length) = some n) (hn : As.length = n) (hst : st0 = As.reverse ++ rest) (hrest : (rest.map fun v => v.category).sum ≤ 8) (hdg : decode cc pc = .ok (.invokestatic index, 3)) (hR : rm.frames + 1 ≤ R.frames ∧ 8 + (maxL + 11) + rm.locals ≤ R.locals) (hrc : rm.cells = 0) (hrs : rm.slots = 0) (hcs : cells ≤ R.cells ∧ slots ≤ R.slots)
    (kk : ∀ (H1 : Heap) (locs1 : List Loc), iw D A s w' H1 locs1 → W p l e R s m args below meth c H1 locs1 cells slots Q (F0 m (pc + 3) ls (.ref r :: rest))) : W p l e R s m args below meth c H locs cells slots Q (F0 m pc ls st0) := by
  have hFc := iw_free B hI
  obtain ⟨hx, hb, hml, hown, hts, hK, hN, hZ, hA⟩ := id B
  refine va_callr (va_runSN (As := As) (rest := rest) ⟨hx, hb, hml, hown, hts⟩ (hM H.size) ⟨va_cnB n hts (zGoodT h5) rfl hrc hrs (hN _ h1) (hts _ h4) hd hR, hts _ h2, trivial⟩ ⟨zPre_blind _, zPre_call B hI _⟩ rfl hn hl hst (lv_room hrest) hdg ⟨hcs.1, hcs.2⟩) hI.2.2 (fun q _ h => hFc q h) hFc (fun u r1 t H1 locs1 ht hvm hw hB hz1 hk1 hS1 => ?_)
  obtain ⟨e9, hP1, hD1⟩ := hB
  subst e9
  rw [ht] at hP1
  exact kk H1 locs1 ⟨hP1, hD1.weaken (fun _ q _ h => hFc q.1 h), hS1⟩
end ZC
theorem zM_i {l : Launch} {D : va_G} {z : zZ} {y : MethodName} {cc : ByteArray} {maxL : Nat} {ret : Option FieldType} {rm : Room} {own : String} (av : List Value) (w : va_W) (r : Int32) (w' : va_W) (hy : plainName y.cls = true) (ho : y.cls = own) (hsz : (lg_sl av).length ≤ maxL)
    (body : ∀ (p : Program) (e : Env) (s : State) (m : MethodId) (args : Array Value) (below : List Frame) (meth : Method) (c : Code) (A : Nat → Prop) (ls : Array Slot), bx p s m args c cc maxL own A D z → meth.sig.returnType = ret → meth.locks = false → iw D A s w s.heap [] → lv_has ls maxL (lv_args 0 av) → W p l e rm s m args below meth c s.heap [] 0 0 (MQ below (zQi D r w' A) args s 0 0 A) (F0 m 0 ls [])) : zMet l D z y (.code y cc maxL ret) rm av w (zQi D r w') := by
  intro sz
  refine Met.ofW (cc := cc) (maxL := maxL) (ret := ret) hy rfl ?_
  intro p e s m args below meth c s₁ B hml hv
  obtain ⟨rfl, hsz0, hP, hK, hD0, hN, hZ⟩ := hv
  subst ho
  subst hsz0
  have hl := lv_entry av (n := maxL) hsz
  rw [lg_entry_eq]
  exact body p e s m _ below meth c _ _ ⟨B.exec, B.bytes, hml, findClass_of_methodNamed B.named, fun w hw => atoms_spec (ws := _ :: zT) B.pre w (List.mem_cons_of_mem _ hw), hK, hN, hZ, fun q h => Or.inr h⟩ B.returns B.notSynchronized ⟨hP, hD0.self, va_S.rf⟩ hl
theorem zM_l {l : Launch} {D : va_G} {z : zZ} {y : MethodName} {cc : ByteArray} {maxL : Nat} {ret : Option FieldType} {rm : Room} {own : String} (av : List Value) (w : va_W) (r : Int64) (w' : va_W) (hy : plainName y.cls = true) (ho : y.cls = own) (hsz : (lg_sl av).length ≤ maxL)
    (body : ∀ (p : Program) (e : Env) (s : State) (m : MethodId) (args : Array Value) (below : List Frame) (meth : Method) (c : Code) (A : Nat → Prop) (ls : Array Slot), bx p s m args c cc maxL own A D z → meth.sig.returnType = ret → meth.locks = false → iw D A s w s.heap [] → lv_has ls maxL (lv_args 0 av) → W p l e rm s m args below meth c s.heap [] 0 0 (MQ below (zQl D r w' A) args s 0 0 A) (F0 m 0 ls [])) : zMet l D z y (.code y cc maxL ret) rm av w (zQl D r w') := by
  intro sz
  refine Met.ofW (cc := cc) (maxL := maxL) (ret := ret) hy rfl ?_
  intro p e s m args below meth c s₁ B hml hv
  obtain ⟨rfl, hsz0, hP, hK, hD0, hN, hZ⟩ := hv
  subst ho
  subst hsz0
  have hl := lv_entry av (n := maxL) hsz
  rw [lg_entry_eq]
  exact body p e s m _ below meth c _ _ ⟨B.exec, B.bytes, hml, findClass_of_methodNamed B.named, fun w hw => atoms_spec (ws := _ :: zT) B.pre w (List.mem_cons_of_mem _ hw), hK, hN, hZ, fun q h => Or.inr h⟩ B.returns B.notSynchronized ⟨hP, hD0.self, va_S.rf⟩ hl
theorem zM_v {l : Launch} {D : va_G} {z : zZ} {y : MethodName} {cc : ByteArray} {maxL : Nat} {ret : Option FieldType} {rm : Room} {own : String} (av : List Value) (w : va_W) (w' : va_W) (hy : plainName y.cls = true) (ho : y.cls = own) (hsz : (lg_sl av).length ≤ maxL)
    (body : ∀ (p : Program) (e : Env) (s : State) (m : MethodId) (args : Array Value) (below : List Frame) (meth : Method) (c : Code) (A : Nat → Prop) (ls : Array Slot), bx p s m args c cc maxL own A D z → meth.sig.returnType = ret → meth.locks = false → iw D A s w s.heap [] → lv_has ls maxL (lv_args 0 av) → W p l e rm s m args below meth c s.heap [] 0 0 (MQ below (zQv D w' A) args s 0 0 A) (F0 m 0 ls [])) : zMet l D z y (.code y cc maxL ret) rm av w (zQv D w') := by
  intro sz
  refine Met.ofW (cc := cc) (maxL := maxL) (ret := ret) hy rfl ?_
  intro p e s m args below meth c s₁ B hml hv
  obtain ⟨rfl, hsz0, hP, hK, hD0, hN, hZ⟩ := hv
  subst ho
  subst hsz0
  have hl := lv_entry av (n := maxL) hsz
  rw [lg_entry_eq]
  exact body p e s m _ below meth c _ _ ⟨B.exec, B.bytes, hml, findClass_of_methodNamed B.named, fun w hw => atoms_spec (ws := _ :: zT) B.pre w (List.mem_cons_of_mem _ hw), hK, hN, hZ, fun q h => Or.inr h⟩ B.returns B.notSynchronized ⟨hP, hD0.self, va_S.rf⟩ hl
theorem zM_r {l : Launch} {D : va_G} {z : zZ} {y : MethodName} {cc : ByteArray} {maxL : Nat} {ret : Option FieldType} {rm : Room} {own : String} (av : List Value) (w : va_W) (r : Nat) (w' : va_W) (hy : plainName y.cls = true) (ho : y.cls = own) (hsz : (lg_sl av).length ≤ maxL)
    (body : ∀ (p : Program) (e : Env) (s : State) (m : MethodId) (args : Array Value) (below : List Frame) (meth : Method) (c : Code) (A : Nat → Prop) (ls : Array Slot), bx p s m args c cc maxL own A D z → meth.sig.returnType = ret → meth.locks = false → iw D A s w s.heap [] → lv_has ls maxL (lv_args 0 av) → W p l e rm s m args below meth c s.heap [] 0 0 (MQ below (zQr D r w' A) args s 0 0 A) (F0 m 0 ls [])) : zMet l D z y (.code y cc maxL ret) rm av w (zQr D r w') := by
  intro sz
  refine Met.ofW (cc := cc) (maxL := maxL) (ret := ret) hy rfl ?_
  intro p e s m args below meth c s₁ B hml hv
  obtain ⟨rfl, hsz0, hP, hK, hD0, hN, hZ⟩ := hv
  subst ho
  subst hsz0
  have hl := lv_entry av (n := maxL) hsz
  rw [lg_entry_eq]
  exact body p e s m _ below meth c _ _ ⟨B.exec, B.bytes, hml, findClass_of_methodNamed B.named, fun w hw => atoms_spec (ws := _ :: zT) B.pre w (List.mem_cons_of_mem _ hw), hK, hN, hZ, fun q h => Or.inr h⟩ B.returns B.notSynchronized ⟨hP, hD0.self, va_S.rf⟩ hl
section ZR
variable {p : Program} {l : Launch} {e : Env} {R : Room} {s : State} {m : MethodId} {args : Array Value} {below : List Frame} {meth : Method} {c : Code} {H : Heap} {locs : List Loc}
variable {cc : ByteArray} {nL : Nat} {own : String} {A : Nat → Prop} {D : va_G} {z : zZ} {w : va_W} {pc : Nat} {ls : Array Slot}
theorem zr_i (B : bx p s m args c cc nL own A D z) (hI : iw D A s w H locs) (hr : meth.sig.returnType = some .int) (hlk : meth.locks = false) {v r : Int32} (e1 : v = r) (hdg : decode cc pc = .ok (.ireturn, 1)) : W p l e R s m args below meth c H locs 0 0 (MQ below (zQi D r w A) args s 0 0 A) (F0 m pc ls [.int v]) := by
  subst e1
  exact W.iret (v := v) B.1 B.2.1 hr (fun t ht hW => ⟨⟨v, (), rfl, rfl, by rw [ht]; exact hI.1, hI.2.1⟩, hI.2.2.F ht⟩) hI.2.2.2.2 hdg hlk
theorem zr_z (B : bx p s m args c cc nL own A D z) (hI : iw D A s w H locs) (hr : meth.sig.returnType = some .boolean) (hlk : meth.locks = false) {v r : Int32} (hz : zbz v) (e1 : v = r) (hdg : decode cc pc = .ok (.ireturn, 1)) : W p l e R s m args below meth c H locs 0 0 (MQ below (zQi D r w A) args s 0 0 A) (F0 m pc ls [.int v]) := by
  subst e1
  exact W.zret (v := v) B.1 B.2.1 hr (znar hz) (fun t ht hW => ⟨⟨v, (), rfl, rfl, by rw [ht]; exact hI.1, hI.2.1⟩, hI.2.2.F ht⟩) hI.2.2.2.2 hdg hlk
theorem zr_l (B : bx p s m args c cc nL own A D z) (hI : iw D A s w H locs) (hr : meth.sig.returnType = some .long) (hlk : meth.locks = false) {v r : Int64} (e1 : v = r) (hdg : decode cc pc = .ok (.lreturn, 1)) : W p l e R s m args below meth c H locs 0 0 (MQ below (zQl D r w A) args s 0 0 A) (F0 m pc ls [.long v]) := by
  subst e1
  exact W.lret (v := v) B.1 B.2.1 hr (fun t ht hW => ⟨⟨v, (), rfl, rfl, by rw [ht]; exact hI.1, hI.2.1⟩, hI.2.2.F ht⟩) hI.2.2.2.2 hdg hlk
theorem zr_v (B : bx p s m args c cc nL own A D z) (hI : iw D A s w H locs) (hr : meth.sig.returnType = none) (hlk : meth.locks = false) (hdg : decode cc pc = .ok (.return_, 1)) : W p l e R s m args below meth c H locs 0 0 (MQ below (zQv D w A) args s 0 0 A) (F0 m pc ls []) :=
  W.vret B.1 B.2.1 hr (fun t ht hW => ⟨⟨(), rfl, trivial, by rw [ht]; exact hI.1, hI.2.1⟩, hI.2.2.F ht⟩) hI.2.2.2.2 hdg hlk
theorem zr_r (B : bx p s m args c cc nL own A D z) (hI : iw D A s w H locs) {C : String} (hr : meth.sig.returnType = some (.object C)) (hlk : meth.locks = false) {v r : Nat} (e1 : v = r) (hdg : decode cc pc = .ok (.areturn, 1)) : W p l e R s m args below meth c H locs 0 0 (MQ below (zQr D r w A) args s 0 0 A) (F0 m pc ls [.ref v]) := by
  subst e1
  exact W.aret (v := .ref v) B.1 B.2.1 hr (Or.inl ⟨C, rfl⟩) (Or.inr ⟨v, rfl⟩) (fun t ht hW => ⟨⟨(), v, rfl, trivial, rfl, by rw [ht]; exact hI.1, hI.2.1⟩, hI.2.2.F ht⟩) hI.2.2.2.2 hdg hlk
end ZR
end
section
/-! base2: rows for constructors -/
def zu0 : zU := (fun _ => 0, fun _ => 0, fun _ _ => 0, fun _ _ => 0)
def zMetK (l : Launch) (D : va_G) (z : zZ) (y : MethodName) (cw : Cond) (rm : Room) (av : List Value) (w : va_W) (mc ms : Nat) (post : (Nat → Nat) → Prop) (sub : (Nat → Nat) → va_W) : Prop :=
  ∀ sz : Nat, Met l y (cw :: zT) rm (va_Pc av (fun U => U.heap.size = sz ∧ zPre D z w U)) (va_Qv post (fun ad t => va_P D zcl (sub ad) t.heap ∧ va_D (va_A w sz) (sub ad)) (va_A w sz)) mc ms (va_A w sz)
section ZK
variable {p : Program} {l : Launch} {e : Env} {R : Room} {s : State} {m : MethodId} {args : Array Value} {below : List Frame} {meth : Method} {c : Code} {H : Heap} {locs : List Loc} {cells slots : Nat} {Q : State → Prop}
variable {cc bytes : ByteArray} {nL maxL n index : Nat} {own C host : String} {A : Nat → Prop} {D : va_G} {z : zZ} {w w' : va_W} {pc : Nat} {ls : Array Slot} {As rest st0 : List Value} {y : MethodName} {rm : Room} {b mc ms : Nat}
theorem rx_new (B : bx p s m args c cc nL own A D z) (hI : iw D A s w H locs) {T : u_T} {N ci : Nat} (hcl : zcl[ci]? = some (C, T, N)) (hin : ∀ w ∈ u_ws C T N, w ∈ zT) {ty0 : Nat → FieldType} (hty : ∀ k, k < N → parseFieldDescriptor (T k).2.2.1 = some (ty0 k)) (h1 : Cond.classLink own index C ∈ zT) (h2 : Cond.instantiable C N ∈ zT) (h3 : Cond.initialized C ∈ zT) {fs : List Value} (hfs : ∀ j, j < N → defaultValue (ty0 j) = vp_V fs j) (hc : cells + 1 ≤ R.cells) (hs : slots + N ≤ R.slots) (hdg : decode cc pc = .ok (.new index, 3))
    (kk : ∀ (q : Nat) (H1 : Heap), iw D A s (w ++ [(q, .inr (ci, fs))]) H1 locs → W p l e R s m args below meth c H1 locs (cells + 1) (slots + N) Q (F0 m (pc + 3) ls (.ref q :: rest))) : W p l e R s m args below meth c H locs cells slots Q (F0 m pc ls rest) := by
  obtain ⟨hx, hb, hml, hown, hts, hK, hN, hZ, hA⟩ := B
  exact va_new (D := D) (cl := zcl) hx hb hts hin ty0 hty hown (hts _ h1) (hts _ h2) (hts _ h3) hK hI.1 hI.2.1 hI.2.2 hA hcl hfs hc hs hdg (fun q H1 a1 a2 a3 => kk q H1 ⟨a1, a2, a3⟩)
theorem rx_newc (B : bx p s m args c cc nL own A D z) (hI : iw D A s w H locs) {T : u_T} {N ci : Nat} (hcl : zcl[ci]? = some (C, T, N)) (hin : ∀ w ∈ u_ws C T N, w ∈ zT) {ty0 : Nat → FieldType} (hty : ∀ k, k < N → parseFieldDescriptor (T k).2.2.1 = some (ty0 k)) (h1 : Cond.classLink own index C ∈ zT) (h2 : Cond.instantiable C N ∈ zT) (h3 : Cond.initialized C ∈ zT) {fs : List Value} (hfs : (List.range N).all (fun j => decide (defaultValue (ty0 j) = vp_V fs j)) = true) (hc : cells + 1 ≤ R.cells) (hs : slots + N ≤ R.slots) (hdg : decode cc pc = .ok (.new index, 3))
    (kk : ∀ (q : Nat) (H1 : Heap), iw D A s (w ++ [(q, .inr (ci, fs))]) H1 locs → W p l e R s m args below meth c H1 locs (cells + 1) (slots + N) Q (F0 m (pc + 3) ls (.ref q :: rest))) : W p l e R s m args below meth c H locs cells slots Q (F0 m pc ls rest) :=
  rx_new B hI hcl hin hty h1 h2 h3 (fun j hj => by simpa using List.all_eq_true.mp hfs j (List.mem_range.mpr hj)) hc hs hdg kk
theorem rx_objInit (B : bx p s m args c cc nL own A D z) (hl : ls.size = nL) (h1 : Cond.methodLink own index Lib.objectInit ∈ zT) (h2 : Cond.instanceMethod Lib.objectInit ∈ zT) (h3 : Cond.code Lib.objectInit ⟨#[0xb1]⟩ 1 none ∈ zT) (hdg : decode cc pc = .ok (.invokespecial index, 3)) (hframes : 1 ≤ R.frames) (hlocals : (rest.map fun v => v.category).sum + 12 ≤ R.locals)
    (kk : W p l e R s m args below meth c H locs cells slots Q (F0 m (pc + 3) ls rest)) : W p l e R s m args below meth c H locs cells slots Q (F0 m pc ls (.ref b :: rest)) := by
  obtain ⟨hx, hb, hml, hown, hts, hK, hN, hZ, hA⟩ := B
  exact W.objInit hx hb hown (hts _ h1) (hts _ h2) (hts _ h3) rfl (by rw [hml]; exact hl) rfl hdg hframes (by have h9 : (F0 m pc ls (.ref b :: rest)).monitorRoom = 0 := rfl; rw [h9]; omega) kk
theorem rx_putF (B : bx p s m args c cc nL own A D z) (hI : iw D A s w H locs) {T : u_T} {N ci a : Nat} (hcl : zcl[ci]? = some (C, T, N)) (hin : ∀ w ∈ u_ws C T N, w ∈ zT) {ty0 : Nat → FieldType} (hty : ∀ k, k < N → parseFieldDescriptor (T k).2.2.1 = some (ty0 k)) (hnm : ∀ a, a < N → ∀ b, b < N → a ≠ b → (T a).2.1 ≠ (T b).2.1) (q0 : Nat) {fs : List Value} (he : w[q0]? = some (a, .inr (ci, fs))) (k : Nat) (hk : k < N) (hl : Cond.fieldLink own index (T k).1 (T k).2.1 (T k).2.2.1 ∈ zT) (hfin : (T k).2.2.2 = true) (hin2 : meth.name = "<init>") (hdecl : (T k).1 = own) {ty : FieldType} {v : Value} (hd : parseFieldDescriptor (T k).2.2.1 = some ty) (hn : narrow ty v = v) (hfit : fits ty v = true) (hlen : k < fs.length) (hw : w.set q0 (a, .inr (ci, fs.set k v)) = w') (hdg : decode cc pc = .ok (.putfield index, 3))
    (kk : ∀ (H1 : Heap) (locs1 : List Loc), iw D A s w' H1 locs1 → W p l e R s m args below meth c H1 locs1 cells slots Q (F0 m (pc + 3) ls rest)) : W p l e R s m args below meth c H locs cells slots Q (F0 m pc ls (v :: .ref a :: rest)) := by
  obtain ⟨hx, hb, hml, hown, hts, hK, hN, hZ, hA⟩ := B
  subst hw
  exact va_putF (D := D) (cl := zcl) hx hb hts hin ty0 hty hnm hown hK hI.1 hI.2.1 hI.2.2 q0 he hcl k hk (hts _ hl) (fun _ h => h) hfin hin2 hdecl hd hn hfit hlen hdg (fun H1 locs1 h1 h2 h3 => kk H1 locs1 ⟨h1, h2, h3⟩)
theorem rx_newai (B : bx p s m args c cc nL own A D z) (hI : iw D A s w H locs) (h1 : Cond.arrayClass .int ∈ zT) {k : Int32} (N' : Nat) (hn : ¬ k < 0) (hN : k.toNatClampNeg = N') (hbytes : N' * componentBytes .int ≤ 536870912) (hc : cells + 1 ≤ R.cells) (hs : slots + N' ≤ R.slots) (hdg : decode cc pc = .ok (.newarray .int, 2))
    (kk : ∀ (q : Nat) (H1 : Heap), iw D A s (w ++ [(q, .inl (z.1, N', .inl (fun _ => 0)))]) H1 locs → W p l e R s m args below meth c H1 locs (cells + 1) (slots + N') Q (F0 m (pc + 2) ls (.ref q :: rest))) : W p l e R s m args below meth c H locs cells slots Q (F0 m pc ls (.int k :: rest)) := by
  obtain ⟨hx, hb, hml, hown, hts, hK, hN0, hZ, hA⟩ := B
  refine va_newa (D := D) (cl := zcl) hx hb (atype := .int) (ty := .int) (hts _ h1) rfl hK hI.1 hI.2.1 hI.2.2 hA (a0 := (N', .inl (fun _ => 0))) (fun _ => rfl) hn hN hbytes hc hs hdg (fun q cA H1 hK1 a1 a2 a3 => ?_)
  have e1 := (hK.2 0 (z.1, .int) rfl).2
  have e2 := (hK1.2 3 (cA, .int) rfl).2
  have e3 : z.1 = cA := Option.some.inj (e1.symm.trans e2)
  subst e3
  exact kk q H1 ⟨a1, a2, a3⟩
theorem rx_newaz (B : bx p s m args c cc nL own A D z) (hI : iw D A s w H locs) (h1 : Cond.arrayClass .boolean ∈ zT) {k : Int32} (N' : Nat) (hn : ¬ k < 0) (hN : k.toNatClampNeg = N') (hbytes : N' * componentBytes .boolean ≤ 536870912) (hc : cells + 1 ≤ R.cells) (hs : slots + N' ≤ R.slots) (hdg : decode cc pc = .ok (.newarray .boolean, 2))
    (kk : ∀ (q : Nat) (H1 : Heap), iw D A s (w ++ [(q, .inl (z.2.1, N', .inl (fun _ => 0)))]) H1 locs → W p l e R s m args below meth c H1 locs (cells + 1) (slots + N') Q (F0 m (pc + 2) ls (.ref q :: rest))) : W p l e R s m args below meth c H locs cells slots Q (F0 m pc ls (.int k :: rest)) := by
  obtain ⟨hx, hb, hml, hown, hts, hK, hN0, hZ, hA⟩ := B
  refine va_newa (D := D) (cl := zcl) hx hb (atype := .boolean) (ty := .boolean) (hts _ h1) rfl hK hI.1 hI.2.1 hI.2.2 hA (a0 := (N', .inl (fun _ => 0))) (fun _ => rfl) hn hN hbytes hc hs hdg (fun q cA H1 hK1 a1 a2 a3 => ?_)
  have e1 := (hK.2 1 (z.2.1, .boolean) rfl).2
  have e2 := (hK1.2 3 (cA, .boolean) rfl).2
  have e3 : z.2.1 = cA := Option.some.inj (e1.symm.trans e2)
  subst e3
  exact kk q H1 ⟨a1, a2, a3⟩
theorem rx_newal (B : bx p s m args c cc nL own A D z) (hI : iw D A s w H locs) (h1 : Cond.arrayClass .long ∈ zT) {k : Int32} (N' : Nat) (hn : ¬ k < 0) (hN : k.toNatClampNeg = N') (hbytes : N' * componentBytes .long ≤ 536870912) (hc : cells + 1 ≤ R.cells) (hs : slots + N' ≤ R.slots) (hdg : decode cc pc = .ok (.newarray .long, 2))
    (kk : ∀ (q : Nat) (H1 : Heap), iw D A s (w ++ [(q, .inl (z.2.2, N', .inr (.inl (fun _ => 0))))]) H1 locs → W p l e R s m args below meth c H1 locs (cells + 1) (slots + N') Q (F0 m (pc + 2) ls (.ref q :: rest))) : W p l e R s m args below meth c H locs cells slots Q (F0 m pc ls (.int k :: rest)) := by
  obtain ⟨hx, hb, hml, hown, hts, hK, hN0, hZ, hA⟩ := B
  refine va_newa (D := D) (cl := zcl) hx hb (atype := .long) (ty := .long) (hts _ h1) rfl hK hI.1 hI.2.1 hI.2.2 hA (a0 := (N', .inr (.inl (fun _ => 0)))) (fun _ => rfl) hn hN hbytes hc hs hdg (fun q cA H1 hK1 a1 a2 a3 => ?_)
  have e1 := (hK.2 2 (z.2.2, .long) rfl).2
  have e2 := (hK1.2 3 (cA, .long) rfl).2
  have e3 : z.2.2 = cA := Option.some.inj (e1.symm.trans e2)
  subst e3
  exact kk q H1 ⟨a1, a2, a3⟩
theorem rx_ctorI (B : bx p s m args c cc nL own A D z) (hI : iw D A s w H locs) (hl : ls.size = nL) {e0 : va_E} {post : (Nat → Nat) → Prop} {sub : (Nat → Nat) → va_W} (hM : zMetK l D z y (.code y bytes maxL none) rm (.ref b :: As) [(b, e0)] mc ms post sub) (h1 : Cond.methodLink own index y ∈ zT) (h2 : Cond.instanceMethod y ∈ zT) (h4 : Cond.initialized y.cls ∈ zT) (h5 : Cond.code y bytes maxL none ∈ zT) (hy1 : y.name = "<init>") (hd : y.cls ≠ "java/lang/invoke/MethodHandle" ∧ y.cls ≠ "java/lang/invoke/VarHandle" ∧ (parseMethodDescriptor y.desc).map (fun d => d.parameters.length) = some n) (q0 : Nat) (hq : w[q0]? = some (b, e0)) (isR : List Nat) (wr : va_W) (hR0 : isR.map (fun i => w[i]?) = wr.map some) (hnd : va_nd isR = true) (hdis : ∀ i ∈ isR, i ∉ [q0]) (hn : As.length = n) (hst : st0 = As.reverse ++ .ref b :: rest) (hrest : (rest.map fun v => v.category).sum ≤ 8) (hdg : decode cc pc = .ok (.invokespecial index, 3)) (hR : rm.frames + 1 ≤ R.frames ∧ 8 + (maxL + 11) + rm.locals ≤ R.locals) (hrc : rm.cells = mc) (hrs : rm.slots = ms) (hcs : cells + mc ≤ R.cells ∧ slots + ms ≤ R.slots)
    (kk : ∀ (ad : Nat → Nat) (H1 : Heap) (locs1 : List Loc), post ad → iw D A s (wr ++ sub ad) H1 locs1 → W p l e R s m args below meth c H1 locs1 (cells + mc) (slots + ms) Q (F0 m (pc + 3) ls rest)) : W p l e R s m args below meth c H locs cells slots Q (F0 m pc ls st0) := by
  have hI2 : iw D A s [(b, e0)] H locs := ⟨hI.1.sub [q0] (by simp [hq]), hI.2.1.sub [q0] (by simp [va_nd]) (by simp [hq]), hI.2.2⟩
  have hFc := iw_free B hI2
  obtain ⟨hx, hb, hml, hown, hts, hK, hN, hZ, hA⟩ := id B
  refine va_callv (va_runI (As := As) (rest := rest) ⟨hx, hb, hml, hown, hts⟩ (hM H.size) ⟨callB_of n hts (zGoodT h5) rfl hrc hrs (hts _ h4) (hts _ h1) hd hR, hy1, hts _ h2⟩ ⟨zPre_blind _, zPre_call B hI2 _⟩ rfl hn hl hst (lv_room hrest) hdg hcs) hI.2.2 (fun q _ h => hFc q h) hFc (fun ad t H1 locs1 ht hvm hw hB hz1 hk1 hS1 => ?_)
  obtain ⟨hP1, hD1⟩ := hB
  rw [ht] at hP1
  obtain ⟨j1, j2⟩ := va_join (wc := [(b, e0)]) hI.1 hI.2.1 [q0] isR (by simp [hq]) hR0 hnd hdis hk1 hFc hP1 hD1
  exact kk ad H1 locs1 hw ⟨j1, j2, hS1⟩
theorem rx_ctorJ (B : bx p s m args c cc nL own A D z) (hI : iw D A s w H locs) (hl : ls.size = nL) {e0 : va_E} {post : (Nat → Nat) → Prop} {sub : (Nat → Nat) → va_W} (hM : zMetK l D z y (.code y bytes maxL none) rm (.ref b :: As) [(b, e0)] mc ms post sub) (h1 : Cond.methodLinkNest own index y host ∈ zN) (h2 : Cond.instanceMethod y ∈ zT) (h4 : Cond.initialized y.cls ∈ zT) (h5 : Cond.code y bytes maxL none ∈ zT) (hy1 : y.name = "<init>") (hd : y.cls ≠ "java/lang/invoke/MethodHandle" ∧ y.cls ≠ "java/lang/invoke/VarHandle" ∧ (parseMethodDescriptor y.desc).map (fun d => d.parameters.length) = some n) (q0 : Nat) (hq : w[q0]? = some (b, e0)) (isR : List Nat) (wr : va_W) (hR0 : isR.map (fun i => w[i]?) = wr.map some) (hnd : va_nd isR = true) (hdis : ∀ i ∈ isR, i ∉ [q0]) (hn : As.length = n) (hst : st0 = As.reverse ++ .ref b :: rest) (hrest : (rest.map fun v => v.category).sum ≤ 8) (hdg : decode cc pc = .ok (.invokespecial index, 3)) (hR : rm.frames + 1 ≤ R.frames ∧ 8 + (maxL + 11) + rm.locals ≤ R.locals) (hrc : rm.cells = mc) (hrs : rm.slots = ms) (hcs : cells + mc ≤ R.cells ∧ slots + ms ≤ R.slots)
    (kk : ∀ (ad : Nat → Nat) (H1 : Heap) (locs1 : List Loc), post ad → iw D A s (wr ++ sub ad) H1 locs1 → W p l e R s m args below meth c H1 locs1 (cells + mc) (slots + ms) Q (F0 m (pc + 3) ls rest)) : W p l e R s m args below meth c H locs cells slots Q (F0 m pc ls st0) := by
  have hI2 : iw D A s [(b, e0)] H locs := ⟨hI.1.sub [q0] (by simp [hq]), hI.2.1.sub [q0] (by simp [va_nd]) (by simp [hq]), hI.2.2⟩
  have hFc := iw_free B hI2
  obtain ⟨hx, hb, hml, hown, hts, hK, hN, hZ, hA⟩ := id B
  refine va_callv (va_runIN (As := As) (rest := rest) ⟨hx, hb, hml, hown, hts⟩ (hM H.size) ⟨va_cnB n hts (zGoodT h5) rfl hrc hrs (hN _ h1) (hts _ h4) hd hR, hy1, hts _ h2⟩ ⟨zPre_blind _, zPre_call B hI2 _⟩ rfl hn hl hst (lv_room hrest) hdg hcs) hI.2.2 (fun q _ h => hFc q h) hFc (fun ad t H1 locs1 ht hvm hw hB hz1 hk1 hS1 => ?_)
  obtain ⟨hP1, hD1⟩ := hB
  rw [ht] at hP1
  obtain ⟨j1, j2⟩ := va_join (wc := [(b, e0)]) hI.1 hI.2.1 [q0] isR (by simp [hq]) hR0 hnd hdis hk1 hFc hP1 hD1
  exact kk ad H1 locs1 hw ⟨j1, j2, hS1⟩
end ZK
theorem zM_k {l : Launch} {D : va_G} {z : zZ} {y : MethodName} {cc : ByteArray} {maxL : Nat} {rm : Room} {own : String} {mc ms : Nat} (av : List Value) (w : va_W) (post : (Nat → Nat) → Prop) (sub : (Nat → Nat) → va_W) (hy : plainName y.cls = true) (ho : y.cls = own) (hn : y.name = "<init>") (hsz : (lg_sl av).length ≤ maxL)
    (body : ∀ (p : Program) (e : Env) (s : State) (m : MethodId) (args : Array Value) (below : List Frame) (meth : Method) (c : Code) (A : Nat → Prop) (ls : Array Slot), bx p s m args c cc maxL own A D z → meth.sig.returnType = none → meth.locks = false → meth.name = "<init>" → iw D A s w s.heap [] → lv_has ls maxL (lv_args 0 av) → W p l e rm s m args below meth c s.heap [] 0 0 (MQ below (va_Qv post (fun ad t => va_P D zcl (sub ad) t.heap ∧ va_D A (sub ad)) A) args s mc ms A) (F0 m 0 ls [])) : zMetK l D z y (.code y cc maxL none) rm av w mc ms post sub := by
  intro sz
  refine Met.ofW (cc := cc) (maxL := maxL) (ret := none) hy rfl ?_
  intro p e s m args below meth c s₁ B hml hv
  obtain ⟨rfl, hsz0, hP, hK, hD0, hN, hZ⟩ := hv
  subst ho
  subst hsz0
  have hl := lv_entry av (n := maxL) hsz
  rw [lg_entry_eq]
  have hin : meth.name = "<init>" := by rw [(name_of_methodNamed B.named B.method).1]; exact hn
  exact body p e s m _ below meth c _ _ ⟨B.exec, B.bytes, hml, findClass_of_methodNamed B.named, fun w hw => atoms_spec (ws := _ :: zT) B.pre w (List.mem_cons_of_mem _ hw), hK, hN, hZ, fun q h => Or.inr h⟩ B.returns B.notSynchronized hin ⟨hP, hD0.self, va_S.rf⟩ hl
theorem zr_k {p : Program} {l : Launch} {e : Env} {R : Room} {s : State} {m : MethodId} {args : Array Value} {below : List Frame} {meth : Method} {c : Code} {H : Heap} {locs : List Loc} {cc : ByteArray} {nL : Nat} {own : String} {A : Nat → Prop} {D : va_G} {z : zZ} {w : va_W} {pc : Nat} {ls : Array Slot} {cells slots : Nat} {post : (Nat → Nat) → Prop} {sub : (Nat → Nat) → va_W} (B : bx p s m args c cc nL own A D z) (hI : iw D A s w H locs) (hr : meth.sig.returnType = none) (hlk : meth.locks = false) (ad : Nat → Nat) (hp : post ad) (is : List Nat) (h1 : is.filterMap (fun i => w[i]?) = sub ad) (h2 : va_nd is = true) (h3 : is.map (fun i => w[i]?) = (sub ad).map some) (hdg : decode cc pc = .ok (.return_, 1)) : W p l e R s m args below meth c H locs cells slots (MQ below (va_Qv post (fun ad t => va_P D zcl (sub ad) t.heap ∧ va_D A (sub ad)) A) args s cells slots A) (F0 m pc ls []) :=
  W.vret B.1 B.2.1 hr (fun t ht hW => ⟨⟨ad, rfl, hp, by rw [ht]; exact hI.1.sub is h1, hI.2.1.sub is h2 h3⟩, hI.2.2.F ht⟩) hI.2.2.2.2 hdg hlk
end
section
/-! base3: a contract with more beside it -/
theorem zMet_conseq {l : Launch} {y : MethodName} {ws : List Cond} {rm : Room} {Pc Pc1 : Array Value → State → Prop} {Qc Qc1 : Array Value → State → Outcome → State → Prop} {mc ms : Nat} {free free1 : Addr → Prop} (hM : Met l y ws rm Pc Qc mc ms free) (h1 : ∀ a s, Pc1 a s → Pc a s) (h2 : ∀ a s o t, Pc1 a s → Qc a s o t → Qc1 a s o t) (h3 : ∀ q, free q → free1 q) : Met l y ws rm Pc1 Qc1 mc ms free1 := by
  intro p e a b c s m args below hf ha hP hK
  obtain ⟨n, o, k1, k2, k3, k4, L, k5, k6⟩ := hM p e a b c s m args below hf ha (h1 _ _ hP) trivial
  exact ⟨n, o, k1, k2, k3, h2 _ _ _ _ hP k4, L, k5, fun q hq => h3 _ (k6 q hq)⟩
theorem zap_l {w v : va_W} {k : Nat} {q : Nat × va_E} (h : w[k]? = some q) : (w ++ v)[k]? = some q := by
  rw [List.getElem?_append_left (List.getElem?_eq_some_iff.mp h).1]; exact h
theorem zap_r {w v : va_W} {k : Nat} {q : Nat × va_E} (h : v[k]? = some q) : (w ++ v)[w.length + k]? = some q := by
  rw [List.getElem?_append_right (by omega)]; simpa using h
theorem zA_l {w v : va_W} {sz q : Nat} (h : va_A w sz q) : va_A (w ++ v) sz q := by
  rcases h with ⟨k, e, h⟩ | h
  · exact Or.inl ⟨k, e, zap_l h⟩
  · exact Or.inr h
theorem zA_r {w v : va_W} {sz q : Nat} (h : va_A v sz q) : va_A (w ++ v) sz q := by
  rcases h with ⟨k, e, h⟩ | h
  · exact Or.inl ⟨_, e, zap_r h⟩
  · exact Or.inr h
theorem zP_l {D : va_G} {w v : va_W} {H : Heap} (h : va_P D zcl (w ++ v) H) : va_P D zcl w H := fun k q hk => h k q (zap_l hk)
theorem zP_r {D : va_G} {w v : va_W} {H : Heap} (h : va_P D zcl (w ++ v) H) : va_P D zcl v H := fun k q hk => h _ q (zap_r hk)
theorem zD_l {A : Nat → Prop} {w v : va_W} (h : va_D A (w ++ v)) : va_D A w := ⟨fun i j p q hi hj e => h.1 i j p q (zap_l hi) (zap_l hj) e, fun k q hk => h.2 k q (zap_l hk)⟩
theorem zD_r {A : Nat → Prop} {w v : va_W} (h : va_D A (w ++ v)) : va_D A v := ⟨fun i j p q hi hj e => by have := h.1 _ _ p q (zap_r hi) (zap_r hj) e; omega, fun k q hk => h.2 _ q (zap_r hk)⟩
theorem zD_x {A : Nat → Prop} {w v : va_W} (h : va_D A (w ++ v)) (i j : Nat) (p q : Nat × va_E) (hi : w[i]? = some p) (hj : v[j]? = some q) : p.1 ≠ q.1 := by
  intro e
  have h1 := h.1 _ _ p q (zap_l hi) (zap_r hj) e
  have h2 := (List.getElem?_eq_some_iff.mp hi).1
  omega
theorem zPre_l {D : va_G} {z : zZ} {w v : va_W} {U : State} (h : zPre D z (w ++ v) U) : zPre D z w U := by
  obtain ⟨hP, hK, hD, hN, hS⟩ := h
  exact ⟨zP_l hP, hK, zD_l hD, hN, zSt_to hS (fun _ _ _ => rfl) (Vm.Alike.refl _) (fun _ h => zA_l h)⟩
theorem zPre_r {D : va_G} {z : zZ} {w v : va_W} {U : State} (h : zPre D z (w ++ v) U) : zPre D z v U := by
  obtain ⟨hP, hK, hD, hN, hS⟩ := h
  exact ⟨zP_r hP, hK, zD_r hD, hN, zSt_to hS (fun _ _ _ => rfl) (Vm.Alike.refl _) (fun _ h => zA_r h)⟩
/-- the cells beside stay -/
theorem zfr_keep {D : va_G} {w v : va_W} {s t : State} (hP : va_P D zcl v s.heap) (hx : ∀ (i j : Nat) (p q : Nat × va_E), w[i]? = some p → v[j]? = some q → p.1 ≠ q.1) (hF : va_F (va_A w s.heap.size) s t) : va_P D zcl v t.heap ∧ ∀ (k : Nat) (q : Nat × va_E), v[k]? = some q → ¬ va_A w s.heap.size q.1 := by
  have key : ∀ (k : Nat) (q : Nat × va_E), v[k]? = some q → ¬ va_A w s.heap.size q.1 := by
    intro k q hk h
    rcases h with ⟨j, e, h⟩ | h
    · exact hx j k _ q h hk rfl
    · exact absurd (hP k q hk).lt (by omega)
  exact ⟨fun k q hk => (hP k q hk).kept (hF.2 q.1 (hP k q hk).lt (key k q hk)), key⟩
theorem zfr_l {D : va_G} {z : zZ} {w w' v : va_W} {s t : State} (h : zPre D z (w ++ v) s) (hF : va_F (va_A w s.heap.size) s t) (hP1 : va_P D zcl w' t.heap) (hD1 : va_D (va_A w s.heap.size) w') : va_P D zcl (w' ++ v) t.heap ∧ va_D (va_A (w ++ v) s.heap.size) (w' ++ v) := by
  obtain ⟨hP, hK, hD, hN, hS⟩ := h
  obtain ⟨k1, k2⟩ := zfr_keep (zP_r hP) (zD_x hD) hF
  refine ⟨hP1.app k1, va_D.app (hD1.weaken (fun _ _ _ h => zA_l h)) ⟨(zD_r hD).1, fun k q hk => zA_r (va_A.in hk)⟩ (fun i j p q hi hj e => ?_)⟩
  exact k2 j q hj (by rw [← e]; exact hD1.2 i p hi)
theorem zfr_r {D : va_G} {z : zZ} {w v v' : va_W} {s t : State} (h : zPre D z (w ++ v) s) (hF : va_F (va_A v s.heap.size) s t) (hP1 : va_P D zcl v' t.heap) (hD1 : va_D (va_A v s.heap.size) v') : va_P D zcl (w ++ v') t.heap ∧ va_D (va_A (w ++ v) s.heap.size) (w ++ v') := by
  obtain ⟨hP, hK, hD, hN, hS⟩ := h
  obtain ⟨k1, k2⟩ := zfr_keep (zP_l hP) (fun i j p q hi hj e => zD_x hD j i q p hj hi e.symm) hF
  refine ⟨k1.app hP1, va_D.app ⟨(zD_l hD).1, fun k q hk => zA_l (va_A.in hk)⟩ (hD1.weaken (fun _ _ _ h => zA_r h)) (fun i j p q hi hj e => ?_)⟩
  exact k2 i p hi (by rw [e]; exact hD1.2 j q hj)
theorem zF_w {A B : Nat → Prop} {s t : State} (h : va_F A s t) (hAB : ∀ q, A q → B q) : va_F B s t := ⟨h.1, fun q h1 h2 => h.2 q h1 (fun h3 => h2 (hAB q h3))⟩
theorem zMet_il {l : Launch} {D : va_G} {z : zZ} {y : MethodName} {cw : Cond} {rm : Room} {av : List Value} {w w' : va_W} (v : va_W) {r : Int32} (hM : zMet l D z y cw rm av w (zQi D r (w'))) : zMet l D z y cw rm av (w ++ v) (zQi D r (w' ++ v)) := by
  intro sz
  refine zMet_conseq (hM sz) (fun a s h => ⟨h.1, h.2.1, zPre_l h.2.2⟩) (fun a s o t h hq => ?_) (fun q h => zA_l h)
  obtain ⟨-, hsz, h⟩ := h
  subst hsz
  obtain ⟨⟨r1, u1, e1, e2, hP1, hD1⟩, hF⟩ := hq
  obtain ⟨j1, j2⟩ := zfr_l h hF hP1 hD1
  exact ⟨⟨r1, u1, e1, e2, j1, j2⟩, zF_w hF (fun q h => zA_l h)⟩
theorem zMet_ir {l : Launch} {D : va_G} {z : zZ} {y : MethodName} {cw : Cond} {rm : Room} {av : List Value} {w w' : va_W} (v : va_W) {r : Int32} (hM : zMet l D z y cw rm av w (zQi D r (w'))) : zMet l D z y cw rm av (v ++ w) (zQi D r (v ++ w')) := by
  intro sz
  refine zMet_conseq (hM sz) (fun a s h => ⟨h.1, h.2.1, zPre_r h.2.2⟩) (fun a s o t h hq => ?_) (fun q h => zA_r h)
  obtain ⟨-, hsz, h⟩ := h
  subst hsz
  obtain ⟨⟨r1, u1, e1, e2, hP1, hD1⟩, hF⟩ := hq
  obtain ⟨j1, j2⟩ := zfr_r h hF hP1 hD1
  exact ⟨⟨r1, u1, e1, e2, j1, j2⟩, zF_w hF (fun q h => zA_r h)⟩
theorem zMet_ll {l : Launch} {D : va_G} {z : zZ} {y : MethodName} {cw : Cond} {rm : Room} {av : List Value} {w w' : va_W} (v : va_W) {r : Int64} (hM : zMet l D z y cw rm av w (zQl D r (w'))) : zMet l D z y cw rm av (w ++ v) (zQl D r (w' ++ v)) := by
  intro sz
  refine zMet_conseq (hM sz) (fun a s h => ⟨h.1, h.2.1, zPre_l h.2.2⟩) (fun a s o t h hq => ?_) (fun q h => zA_l h)
  obtain ⟨-, hsz, h⟩ := h
  subst hsz
  obtain ⟨⟨r1, u1, e1, e2, hP1, hD1⟩, hF⟩ := hq
  obtain ⟨j1, j2⟩ := zfr_l h hF hP1 hD1
  exact ⟨⟨r1, u1, e1, e2, j1, j2⟩, zF_w hF (fun q h => zA_l h)⟩
theorem zMet_lr {l : Launch} {D : va_G} {z : zZ} {y : MethodName} {cw : Cond} {rm : Room} {av : List Value} {w w' : va_W} (v : va_W) {r : Int64} (hM : zMet l D z y cw rm av w (zQl D r (w'))) : zMet l D z y cw rm av (v ++ w) (zQl D r (v ++ w')) := by
  intro sz
  refine zMet_conseq (hM sz) (fun a s h => ⟨h.1, h.2.1, zPre_r h.2.2⟩) (fun a s o t h hq => ?_) (fun q h => zA_r h)
  obtain ⟨-, hsz, h⟩ := h
  subst hsz
  obtain ⟨⟨r1, u1, e1, e2, hP1, hD1⟩, hF⟩ := hq
  obtain ⟨j1, j2⟩ := zfr_r h hF hP1 hD1
  exact ⟨⟨r1, u1, e1, e2, j1, j2⟩, zF_w hF (fun q h => zA_r h)⟩
theorem zMet_vl {l : Launch} {D : va_G} {z : zZ} {y : MethodName} {cw : Cond} {rm : Room} {av : List Value} {w w' : va_W} (v : va_W) (hM : zMet l D z y cw rm av w (zQv D (w'))) : zMet l D z y cw rm av (w ++ v) (zQv D (w' ++ v)) := by
  intro sz
  refine zMet_conseq (hM sz) (fun a s h => ⟨h.1, h.2.1, zPre_l h.2.2⟩) (fun a s o t h hq => ?_) (fun q h => zA_l h)
  obtain ⟨-, hsz, h⟩ := h
  subst hsz
  obtain ⟨⟨u1, e1, e2, hP1, hD1⟩, hF⟩ := hq
  obtain ⟨j1, j2⟩ := zfr_l h hF hP1 hD1
  exact ⟨⟨u1, e1, e2, j1, j2⟩, zF_w hF (fun q h => zA_l h)⟩
theorem zMet_vr {l : Launch} {D : va_G} {z : zZ} {y : MethodName} {cw : Cond} {rm : Room} {av : List Value} {w w' : va_W} (v : va_W) (hM : zMet l D z y cw rm av w (zQv D (w'))) : zMet l D z y cw rm av (v ++ w) (zQv D (v ++ w')) := by
  intro sz
  refine zMet_conseq (hM sz) (fun a s h => ⟨h.1, h.2.1, zPre_r h.2.2⟩) (fun a s o t h hq => ?_) (fun q h => zA_r h)
  obtain ⟨-, hsz, h⟩ := h
  subst hsz
  obtain ⟨⟨u1, e1, e2, hP1, hD1⟩, hF⟩ := hq
  obtain ⟨j1, j2⟩ := zfr_r h hF hP1 hD1
  exact ⟨⟨u1, e1, e2, j1, j2⟩, zF_w hF (fun q h => zA_r h)⟩
end
section
theorem zL_of_tables_1_1 {w : Cond} (k : Nat) (h : tables_1_1[k]? = some w) : w ∈ lw_tbl := List.mem_append_right _ (show w ∈ tables_1 from List.mem_append_left _ (List.mem_of_getElem? h))
theorem zL_of_tables_1_2 {w : Cond} (k : Nat) (h : tables_1_2[k]? = some w) : w ∈ lw_tbl := List.mem_append_right _ (show w ∈ tables_1 from List.mem_append_right _ (List.mem_append_left _ (List.mem_of_getElem? h)))
theorem zL_of_tables_1_3 {w : Cond} (k : Nat) (h : tables_1_3[k]? = some w) : w ∈ lw_tbl := List.mem_append_right _ (show w ∈ tables_1 from List.mem_append_right _ (List.mem_append_right _ (List.mem_append_left _ (List.mem_of_getElem? h))))
theorem zL_of_tables_1_4 {w : Cond} (k : Nat) (h : tables_1_4[k]? = some w) : w ∈ lw_tbl := List.mem_append_right _ (show w ∈ tables_1 from List.mem_append_right _ (List.mem_append_right _ (List.mem_append_right _ (List.mem_append_left _ (List.mem_of_getElem? h)))))
theorem zL_of_tables_1_5 {w : Cond} (k : Nat) (h : tables_1_5[k]? = some w) : w ∈ lw_tbl := List.mem_append_right _ (show w ∈ tables_1 from List.mem_append_right _ (List.mem_append_right _ (List.mem_append_right _ (List.mem_append_right _ (List.mem_of_getElem? h)))))
theorem zT_of_tables_1_1 {w : Cond} (k : Nat) (h : tables_1_1[k]? = some w) (g : goodWord w = true) : w ∈ zT := List.mem_filter.mpr ⟨zL_of_tables_1_1 k h, g⟩
theorem zN_of_tables_1_1 {w : Cond} (k : Nat) (h : tables_1_1[k]? = some w) (g : zisN w = true) : w ∈ zN := List.mem_filter.mpr ⟨zL_of_tables_1_1 k h, g⟩
theorem zT_of_tables_1_2 {w : Cond} (k : Nat) (h : tables_1_2[k]? = some w) (g : goodWord w = true) : w ∈ zT := List.mem_filter.mpr ⟨zL_of_tables_1_2 k h, g⟩
theorem zN_of_tables_1_2 {w : Cond} (k : Nat) (h : tables_1_2[k]? = some w) (g : zisN w = true) : w ∈ zN := List.mem_filter.mpr ⟨zL_of_tables_1_2 k h, g⟩
theorem zT_of_tables_1_3 {w : Cond} (k : Nat) (h : tables_1_3[k]? = some w) (g : goodWord w = true) : w ∈ zT := List.mem_filter.mpr ⟨zL_of_tables_1_3 k h, g⟩
theorem zN_of_tables_1_3 {w : Cond} (k : Nat) (h : tables_1_3[k]? = some w) (g : zisN w = true) : w ∈ zN := List.mem_filter.mpr ⟨zL_of_tables_1_3 k h, g⟩
theorem zT_of_tables_1_4 {w : Cond} (k : Nat) (h : tables_1_4[k]? = some w) (g : goodWord w = true) : w ∈ zT := List.mem_filter.mpr ⟨zL_of_tables_1_4 k h, g⟩
theorem zN_of_tables_1_4 {w : Cond} (k : Nat) (h : tables_1_4[k]? = some w) (g : zisN w = true) : w ∈ zN := List.mem_filter.mpr ⟨zL_of_tables_1_4 k h, g⟩
theorem zT_of_tables_1_5 {w : Cond} (k : Nat) (h : tables_1_5[k]? = some w) (g : goodWord w = true) : w ∈ zT := List.mem_filter.mpr ⟨zL_of_tables_1_5 k h, g⟩
theorem zN_of_tables_1_5 {w : Cond} (k : Nat) (h : tables_1_5[k]? = some w) (g : zisN w = true) : w ∈ zN := List.mem_filter.mpr ⟨zL_of_tables_1_5 k h, g⟩
theorem zT_of_sels {q : MethodName × Nat} (k : Nat) (h : lw_privs[k]? = some q) : Cond.selects q.1.cls q.1 q.1 ∈ zT := List.mem_filter.mpr ⟨List.mem_append_left _ (List.mem_map.mpr ⟨q, List.mem_of_getElem? h, rfl⟩), rfl⟩
theorem hin0_CC : ∀ w ∈ u_ws R_CC F_CC 2, w ∈ lw_tbl ∧ goodWord w = true := by decide +kernel
theorem hin_CC : ∀ w ∈ u_ws R_CC F_CC 2, w ∈ zT := fun w h => List.mem_filter.mpr (hin0_CC w h)
theorem hin0_CCode : ∀ w ∈ u_ws R_CCode F_CCode 10, w ∈ lw_tbl ∧ goodWord w = true := by decide +kernel
theorem hin_CCode : ∀ w ∈ u_ws R_CCode F_CCode 10, w ∈ zT := fun w h => List.mem_filter.mpr (hin0_CCode w h)
theorem hin0_CLocals : ∀ w ∈ u_ws R_CLocals F_CLocals 4, w ∈ lw_tbl ∧ goodWord w = true := by decide +kernel
theorem hin_CLocals : ∀ w ∈ u_ws R_CLocals F_CLocals 4, w ∈ zT := fun w h => List.mem_filter.mpr (hin0_CLocals w h)
theorem hin0_CRows : ∀ w ∈ u_ws R_CRows F_CRows 3, w ∈ lw_tbl ∧ goodWord w = true := by decide +kernel
theorem hin_CRows : ∀ w ∈ u_ws R_CRows F_CRows 3, w ∈ zT := fun w h => List.mem_filter.mpr (hin0_CRows w h)
theorem hin0_CShelf : ∀ w ∈ u_ws R_CShelf F_CShelf 3, w ∈ lw_tbl ∧ goodWord w = true := by decide +kernel
theorem hin_CShelf : ∀ w ∈ u_ws R_CShelf F_CShelf 3, w ∈ zT := fun w h => List.mem_filter.mpr (hin0_CShelf w h)
theorem hin0_CStack : ∀ w ∈ u_ws R_CStack F_CStack 10, w ∈ lw_tbl ∧ goodWord w = true := by decide +kernel
theorem hin_CStack : ∀ w ∈ u_ws R_CStack F_CStack 10, w ∈ zT := fun w h => List.mem_filter.mpr (hin0_CStack w h)
theorem hin0_CThings : ∀ w ∈ u_ws R_CThings F_CThings 9, w ∈ lw_tbl ∧ goodWord w = true := by decide +kernel
theorem hin_CThings : ∀ w ∈ u_ws R_CThings F_CThings 9, w ∈ zT := fun w h => List.mem_filter.mpr (hin0_CThings w h)
theorem hin0_MC : ∀ w ∈ u_ws R_MC F_MC 39, w ∈ lw_tbl ∧ goodWord w = true := by decide +kernel
theorem hin_MC : ∀ w ∈ u_ws R_MC F_MC 39, w ∈ zT := fun w h => List.mem_filter.mpr (hin0_MC w h)
end
section
theorem zw_0 : Cond.fieldLink R_CC 10 R_CC "things" "LCodeChecker$Things;" ∈ zT := zT_of_tables_1_1 195 (by decide +kernel) (by decide +kernel)
theorem zw_1 : Cond.fieldLink R_CThings 45 R_CThings "typeCount" "I" ∈ zT := zT_of_tables_1_1 75 (by decide +kernel) (by decide +kernel)
theorem zw_2 : Cond.methodLink R_CC 25 y_CThings_makeType ∈ zT := zT_of_tables_1_1 206 (by decide +kernel) (by decide +kernel)
theorem zw_3 : Cond.initialized R_CThings ∈ zT := zT_of_tables_1_1 2 (by decide +kernel) (by decide +kernel)
theorem zw_4 : Cond.code y_CThings_makeType b_CThings_makeType 1 (some (.int)) ∈ zT := zT_of_tables_1_1 209 rfl rfl
theorem zw_5 : Cond.instanceMethod y_CThings_makeType ∈ zT := zT_of_tables_1_1 207 (by decide +kernel) (by decide +kernel)
theorem zw_6 : Cond.selects R_CThings y_CThings_makeType y_CThings_makeType ∈ zT := zT_of_tables_1_1 208 (by decide +kernel) (by decide +kernel)
theorem zw_7 : Cond.fieldLink R_CC 21 R_CC "code" "LCodeChecker$Code;" ∈ zT := zT_of_tables_1_1 196 (by decide +kernel) (by decide +kernel)
theorem zw_8 : Cond.fieldLink R_CCode 22 R_CCode "progress" "I" ∈ zT := zT_of_tables_1_1 168 (by decide +kernel) (by decide +kernel)
theorem zw_9 : Cond.methodLink R_CC 29 y_CCode_isOpen ∈ zT := zT_of_tables_1_1 214 (by decide +kernel) (by decide +kernel)
theorem zw_10 : Cond.initialized R_CCode ∈ zT := zT_of_tables_1_1 5 (by decide +kernel) (by decide +kernel)
theorem zw_11 : Cond.code y_CCode_isOpen b_CCode_isOpen 1 (some (.boolean)) ∈ zT := zT_of_tables_1_1 217 rfl rfl
theorem zw_12 : Cond.instanceMethod y_CCode_isOpen ∈ zT := zT_of_tables_1_1 215 (by decide +kernel) (by decide +kernel)
theorem zw_13 : Cond.selects R_CCode y_CCode_isOpen y_CCode_isOpen ∈ zT := zT_of_tables_1_1 216 (by decide +kernel) (by decide +kernel)
theorem zw_14 : Cond.methodLink R_CC 102 y_CC_isReferenceType ∈ zT := zT_of_tables_1_1 221 (by decide +kernel) (by decide +kernel)
theorem zw_15 : Cond.initialized R_CC ∈ zT := zT_of_tables_1_1 1 (by decide +kernel) (by decide +kernel)
theorem zw_16 : Cond.code y_CC_isReferenceType b_CC_isReferenceType 1 (some (.boolean)) ∈ zT := zT_of_tables_1_1 223 rfl rfl
theorem zw_17 : Cond.static y_CC_isReferenceType ∈ zT := zT_of_tables_1_1 222 (by decide +kernel) (by decide +kernel)
theorem zw_18 : Cond.methodLink R_CC 33 y_CC_isValueType ∈ zT := zT_of_tables_1_1 218 (by decide +kernel) (by decide +kernel)
theorem zw_19 : Cond.code y_CC_isValueType b_CC_isValueType 1 (some (.boolean)) ∈ zT := zT_of_tables_1_1 220 rfl rfl
theorem zw_20 : Cond.static y_CC_isValueType ∈ zT := zT_of_tables_1_1 219 (by decide +kernel) (by decide +kernel)
theorem zw_21 : Cond.fieldLink R_CThings 20 R_CThings "results" "LCodeChecker$Rows;" ∈ zT := zT_of_tables_1_1 60 (by decide +kernel) (by decide +kernel)
theorem zw_22 : Cond.fieldLink R_CRows 18 R_CRows "ofResults" "Z" ∈ zT := zT_of_tables_1_1 29 (by decide +kernel) (by decide +kernel)
theorem zw_23 : Cond.fieldLink R_CRows 9 R_CRows "sizes" "[I" ∈ zT := zT_of_tables_1_1 30 (by decide +kernel) (by decide +kernel)
theorem zw_24 : Cond.methodLink R_CRows 22 y_CRows_sizeOf ∈ zT := zT_of_tables_1_1 232 (by decide +kernel) (by decide +kernel)
theorem zw_25 : Cond.initialized R_CRows ∈ zT := zT_of_tables_1_1 3 (by decide +kernel) (by decide +kernel)
theorem zw_26 : Cond.code y_CRows_sizeOf b_CRows_sizeOf 2 (some (.int)) ∈ zT := zT_of_tables_1_1 235 rfl rfl
theorem zw_27 : Cond.instanceMethod y_CRows_sizeOf ∈ zT := zT_of_tables_1_1 233 (by decide +kernel) (by decide +kernel)
theorem zw_28 : Cond.selects R_CRows y_CRows_sizeOf y_CRows_sizeOf ∈ zT := zT_of_tables_1_1 234 (by decide +kernel) (by decide +kernel)
theorem zw_29 : Cond.fieldLink R_CRows 15 R_CRows "parts" "[I" ∈ zT := zT_of_tables_1_1 31 (by decide +kernel) (by decide +kernel)
theorem zw_30 : Cond.methodLink R_CThings 49 y_CRows_append ∈ zT := zT_of_tables_1_1 228 (by decide +kernel) (by decide +kernel)
theorem zw_31 : Cond.code y_CRows_append b_CRows_append 5 (some (.int)) ∈ zT := zT_of_tables_1_1 231 rfl rfl
theorem zw_32 : Cond.instanceMethod y_CRows_append ∈ zT := zT_of_tables_1_1 229 (by decide +kernel) (by decide +kernel)
theorem zw_33 : Cond.selects R_CRows y_CRows_append y_CRows_append ∈ zT := zT_of_tables_1_1 230 (by decide +kernel) (by decide +kernel)
theorem zw_34 : Cond.fieldLink R_CThings 14 R_CThings "parameters" "LCodeChecker$Rows;" ∈ zT := zT_of_tables_1_1 57 (by decide +kernel) (by decide +kernel)
theorem zw_35 : Cond.methodLink R_CC 37 y_CThings_extendLatestType ∈ zT := zT_of_tables_1_1 224 (by decide +kernel) (by decide +kernel)
theorem zw_36 : Cond.code y_CThings_extendLatestType b_CThings_extendLatestType 4 (some (.int)) ∈ zT := zT_of_tables_1_1 227 rfl rfl
theorem zw_37 : Cond.instanceMethod y_CThings_extendLatestType ∈ zT := zT_of_tables_1_1 225 (by decide +kernel) (by decide +kernel)
theorem zw_38 : Cond.selects R_CThings y_CThings_extendLatestType y_CThings_extendLatestType ∈ zT := zT_of_tables_1_1 226 (by decide +kernel) (by decide +kernel)
theorem zw_39 : Cond.fieldLink R_CThings 42 R_CThings "data" "LCodeChecker$Shelf;" ∈ zT := zT_of_tables_1_1 73 (by decide +kernel) (by decide +kernel)
theorem zw_40 : Cond.fieldLink R_CShelf 19 R_CShelf "count" "I" ∈ zT := zT_of_tables_1_1 48 (by decide +kernel) (by decide +kernel)
theorem zw_41 : Cond.fieldLink R_CShelf 9 R_CShelf "types" "[I" ∈ zT := zT_of_tables_1_1 46 (by decide +kernel) (by decide +kernel)
theorem zw_42 : Cond.fieldLink R_CShelf 15 R_CShelf "marks" "[Z" ∈ zT := zT_of_tables_1_1 47 (by decide +kernel) (by decide +kernel)
theorem zw_43 : Cond.methodLink R_CThings 57 y_CShelf_put ∈ zT := zT_of_tables_1_2 8 (by decide +kernel) (by decide +kernel)
theorem zw_44 : Cond.initialized R_CShelf ∈ zT := zT_of_tables_1_1 4 (by decide +kernel) (by decide +kernel)
theorem zw_45 : Cond.code y_CShelf_put b_CShelf_put 3 (some (.int)) ∈ zT := zT_of_tables_1_2 11 rfl rfl
theorem zw_46 : Cond.instanceMethod y_CShelf_put ∈ zT := zT_of_tables_1_2 9 (by decide +kernel) (by decide +kernel)
theorem zw_47 : Cond.selects R_CShelf y_CShelf_put y_CShelf_put ∈ zT := zT_of_tables_1_2 10 (by decide +kernel) (by decide +kernel)
theorem zw_48 : Cond.methodLinkNest R_CThings 61 y_CC_isReferenceType R_CC ∈ zN := zN_of_tables_1_2 12 (by decide +kernel) (by decide +kernel)
theorem zw_49 : Cond.fieldLink R_CThings 39 R_CThings "elements" "LCodeChecker$Shelf;" ∈ zT := zT_of_tables_1_1 71 (by decide +kernel) (by decide +kernel)
theorem zw_50 : Cond.methodLinkNest R_CThings 64 y_CC_isValueType R_CC ∈ zN := zN_of_tables_1_2 13 (by decide +kernel) (by decide +kernel)
theorem zw_51 : Cond.fieldLink R_CThings 36 R_CThings "globals" "LCodeChecker$Shelf;" ∈ zT := zT_of_tables_1_1 69 (by decide +kernel) (by decide +kernel)
theorem zw_52 : Cond.fieldLink R_CThings 33 R_CThings "memories" "LCodeChecker$Shelf;" ∈ zT := zT_of_tables_1_1 68 (by decide +kernel) (by decide +kernel)
theorem zw_53 : Cond.fieldLink R_CThings 30 R_CThings "tables" "LCodeChecker$Shelf;" ∈ zT := zT_of_tables_1_1 66 (by decide +kernel) (by decide +kernel)
theorem zw_54 : Cond.methodLink R_CThings 53 y_CThings_hasType ∈ zT := zT_of_tables_1_2 4 (by decide +kernel) (by decide +kernel)
theorem zw_55 : Cond.code y_CThings_hasType b_CThings_hasType 2 (some (.boolean)) ∈ zT := zT_of_tables_1_2 7 rfl rfl
theorem zw_56 : Cond.instanceMethod y_CThings_hasType ∈ zT := zT_of_tables_1_2 5 (by decide +kernel) (by decide +kernel)
theorem zw_57 : Cond.selects R_CThings y_CThings_hasType y_CThings_hasType ∈ zT := zT_of_tables_1_2 6 (by decide +kernel) (by decide +kernel)
theorem zw_58 : Cond.fieldLink R_CThings 26 R_CThings "functions" "LCodeChecker$Shelf;" ∈ zT := zT_of_tables_1_1 63 (by decide +kernel) (by decide +kernel)
theorem zw_59 : Cond.methodLink R_CC 41 y_CThings_addThing ∈ zT := zT_of_tables_1_2 0 (by decide +kernel) (by decide +kernel)
theorem zw_60 : Cond.code y_CThings_addThing b_CThings_addThing 4 (some (.int)) ∈ zT := zT_of_tables_1_2 3 rfl rfl
theorem zw_61 : Cond.instanceMethod y_CThings_addThing ∈ zT := zT_of_tables_1_2 1 (by decide +kernel) (by decide +kernel)
theorem zw_62 : Cond.selects R_CThings y_CThings_addThing y_CThings_addThing ∈ zT := zT_of_tables_1_2 2 (by decide +kernel) (by decide +kernel)
theorem zw_63 : Cond.fieldLinkNest R_CC 45 R_CThings "functions" "LCodeChecker$Shelf;" R_CC ∈ zN := zN_of_tables_1_1 64 (by decide +kernel) (by decide +kernel)
theorem zw_64 : Cond.methodLink R_CShelf 23 y_CShelf_has ∈ zT := zT_of_tables_1_2 22 (by decide +kernel) (by decide +kernel)
theorem zw_65 : Cond.code y_CShelf_has b_CShelf_has 2 (some (.boolean)) ∈ zT := zT_of_tables_1_2 25 rfl rfl
theorem zw_66 : Cond.instanceMethod y_CShelf_has ∈ zT := zT_of_tables_1_2 23 (by decide +kernel) (by decide +kernel)
theorem zw_67 : Cond.selects R_CShelf y_CShelf_has y_CShelf_has ∈ zT := zT_of_tables_1_2 24 (by decide +kernel) (by decide +kernel)
theorem zw_68 : Cond.methodLink R_CC 49 y_CShelf_mark ∈ zT := zT_of_tables_1_2 18 (by decide +kernel) (by decide +kernel)
theorem zw_69 : Cond.code y_CShelf_mark b_CShelf_mark 2 (some (.boolean)) ∈ zT := zT_of_tables_1_2 21 rfl rfl
theorem zw_70 : Cond.instanceMethod y_CShelf_mark ∈ zT := zT_of_tables_1_2 19 (by decide +kernel) (by decide +kernel)
theorem zw_71 : Cond.selects R_CShelf y_CShelf_mark y_CShelf_mark ∈ zT := zT_of_tables_1_2 20 (by decide +kernel) (by decide +kernel)
theorem zw_72 : Cond.methodLink R_CC 54 y_CThings_hasType ∈ zT := zT_of_tables_1_2 30 (by decide +kernel) (by decide +kernel)
theorem zw_73 : Cond.fieldLink R_CCode 35 R_CCode "stack" "LCodeChecker$Stack;" ∈ zT := zT_of_tables_1_1 163 (by decide +kernel) (by decide +kernel)
theorem zw_74 : Cond.fieldLink R_CStack 35 R_CStack "operandCount" "I" ∈ zT := zT_of_tables_1_1 135 (by decide +kernel) (by decide +kernel)
theorem zw_75 : Cond.fieldLink R_CStack 39 R_CStack "blockCount" "I" ∈ zT := zT_of_tables_1_1 137 (by decide +kernel) (by decide +kernel)
theorem zw_76 : Cond.fieldLink R_CStack 42 R_CStack "fault" "I" ∈ zT := zT_of_tables_1_1 139 (by decide +kernel) (by decide +kernel)
theorem zw_77 : Cond.fieldLink R_CStack 15 R_CStack "blockTypes" "[I" ∈ zT := zT_of_tables_1_1 130 (by decide +kernel) (by decide +kernel)
theorem zw_78 : Cond.fieldLink R_CStack 18 R_CStack "heights" "[I" ∈ zT := zT_of_tables_1_1 131 (by decide +kernel) (by decide +kernel)
theorem zw_79 : Cond.fieldLink R_CStack 21 R_CStack "openers" "[I" ∈ zT := zT_of_tables_1_1 132 (by decide +kernel) (by decide +kernel)
theorem zw_80 : Cond.fieldLink R_CStack 24 R_CStack "lives" "[Z" ∈ zT := zT_of_tables_1_1 133 (by decide +kernel) (by decide +kernel)
theorem zw_81 : Cond.methodLink R_CStack 45 y_CStack_pushBlock ∈ zT := zT_of_tables_1_2 43 (by decide +kernel) (by decide +kernel)
theorem zw_82 : Cond.initialized R_CStack ∈ zT := zT_of_tables_1_1 7 (by decide +kernel) (by decide +kernel)
theorem zw_83 : Cond.code y_CStack_pushBlock b_CStack_pushBlock 3 none ∈ zT := zT_of_tables_1_2 46 rfl rfl
theorem zw_84 : Cond.instanceMethod y_CStack_pushBlock ∈ zT := zT_of_tables_1_2 45 (by decide +kernel) (by decide +kernel)
theorem zw_85 : Cond.selects R_CStack y_CStack_pushBlock y_CStack_pushBlock ∈ zT := zT_of_sels 1 rfl
theorem zw_86 : Cond.methodLink R_CCode 39 y_CStack_restart ∈ zT := zT_of_tables_1_2 39 (by decide +kernel) (by decide +kernel)
theorem zw_87 : Cond.code y_CStack_restart b_CStack_restart 2 none ∈ zT := zT_of_tables_1_2 42 rfl rfl
theorem zw_88 : Cond.instanceMethod y_CStack_restart ∈ zT := zT_of_tables_1_2 40 (by decide +kernel) (by decide +kernel)
theorem zw_89 : Cond.selects R_CStack y_CStack_restart y_CStack_restart ∈ zT := zT_of_tables_1_2 41 (by decide +kernel) (by decide +kernel)
theorem zw_90 : Cond.fieldLink R_CCode 12 R_CCode "locals" "LCodeChecker$Locals;" ∈ zT := zT_of_tables_1_1 165 (by decide +kernel) (by decide +kernel)
theorem zw_91 : Cond.fieldLink R_CLocals 19 R_CLocals "groups" "I" ∈ zT := zT_of_tables_1_1 109 (by decide +kernel) (by decide +kernel)
theorem zw_92 : Cond.fieldLink R_CLocals 23 R_CLocals "count" "J" ∈ zT := zT_of_tables_1_1 110 (by decide +kernel) (by decide +kernel)
theorem zw_93 : Cond.methodLink R_CCode 43 y_CLocals_clear ∈ zT := zT_of_tables_1_2 47 (by decide +kernel) (by decide +kernel)
theorem zw_94 : Cond.initialized R_CLocals ∈ zT := zT_of_tables_1_1 6 (by decide +kernel) (by decide +kernel)
theorem zw_95 : Cond.code y_CLocals_clear b_CLocals_clear 1 none ∈ zT := zT_of_tables_1_2 50 rfl rfl
theorem zw_96 : Cond.instanceMethod y_CLocals_clear ∈ zT := zT_of_tables_1_2 48 (by decide +kernel) (by decide +kernel)
theorem zw_97 : Cond.selects R_CLocals y_CLocals_clear y_CLocals_clear ∈ zT := zT_of_tables_1_2 49 (by decide +kernel) (by decide +kernel)
theorem zw_98 : Cond.fieldLink R_CCode 46 R_CCode "labelCount" "I" ∈ zT := zT_of_tables_1_1 167 (by decide +kernel) (by decide +kernel)
theorem zw_99 : Cond.fieldLink R_CCode 49 R_CCode "localCalls" "I" ∈ zT := zT_of_tables_1_1 173 (by decide +kernel) (by decide +kernel)
theorem zw_100 : Cond.fieldLink R_CCode 52 R_CCode "hasInstruction" "Z" ∈ zT := zT_of_tables_1_1 171 (by decide +kernel) (by decide +kernel)
theorem zw_101 : Cond.fieldLink R_CCode 56 R_CCode "isConstant" "Z" ∈ zT := zT_of_tables_1_1 170 (by decide +kernel) (by decide +kernel)
theorem zw_102 : Cond.methodLink R_CCode 59 y_CCode_open ∈ zT := zT_of_tables_1_2 35 (by decide +kernel) (by decide +kernel)
theorem zw_103 : Cond.code y_CCode_open b_CCode_open 3 none ∈ zT := zT_of_tables_1_2 38 rfl rfl
theorem zw_104 : Cond.instanceMethod y_CCode_open ∈ zT := zT_of_tables_1_2 37 (by decide +kernel) (by decide +kernel)
theorem zw_105 : Cond.selects R_CCode y_CCode_open y_CCode_open ∈ zT := zT_of_sels 0 rfl
theorem zw_106 : Cond.fieldLink R_CCode 26 R_CCode "things" "LCodeChecker$Things;" ∈ zT := zT_of_tables_1_1 162 (by decide +kernel) (by decide +kernel)
theorem zw_107 : Cond.fieldLinkNest R_CCode 63 R_CThings "parameters" "LCodeChecker$Rows;" R_CC ∈ zN := zN_of_tables_1_1 58 (by decide +kernel) (by decide +kernel)
theorem zw_108 : Cond.methodLink R_CCode 69 y_CRows_sizeOf ∈ zT := zT_of_tables_1_2 51 (by decide +kernel) (by decide +kernel)
theorem zw_109 : Cond.methodLink R_CCode 75 y_CRows_partOf ∈ zT := zT_of_tables_1_2 52 (by decide +kernel) (by decide +kernel)
theorem zw_110 : Cond.code y_CRows_partOf b_CRows_partOf 3 (some (.int)) ∈ zT := zT_of_tables_1_2 55 rfl rfl
theorem zw_111 : Cond.instanceMethod y_CRows_partOf ∈ zT := zT_of_tables_1_2 53 (by decide +kernel) (by decide +kernel)
theorem zw_112 : Cond.selects R_CRows y_CRows_partOf y_CRows_partOf ∈ zT := zT_of_tables_1_2 54 (by decide +kernel) (by decide +kernel)
theorem zw_113 : Cond.fieldLink R_CLocals 9 R_CLocals "types" "[I" ∈ zT := zT_of_tables_1_1 107 (by decide +kernel) (by decide +kernel)
theorem zw_114 : Cond.fieldLink R_CLocals 15 R_CLocals "ends" "[J" ∈ zT := zT_of_tables_1_1 108 (by decide +kernel) (by decide +kernel)
theorem zw_115 : Cond.methodLink R_CCode 79 y_CLocals_append ∈ zT := zT_of_tables_1_2 56 (by decide +kernel) (by decide +kernel)
theorem zw_116 : Cond.code y_CLocals_append b_CLocals_append 4 none ∈ zT := zT_of_tables_1_2 59 rfl rfl
theorem zw_117 : Cond.instanceMethod y_CLocals_append ∈ zT := zT_of_tables_1_2 57 (by decide +kernel) (by decide +kernel)
theorem zw_118 : Cond.selects R_CLocals y_CLocals_append y_CLocals_append ∈ zT := zT_of_tables_1_2 58 (by decide +kernel) (by decide +kernel)
theorem zw_119 : Cond.methodLink R_CC 57 y_CCode_openBody ∈ zT := zT_of_tables_1_2 31 (by decide +kernel) (by decide +kernel)
theorem zw_120 : Cond.code y_CCode_openBody b_CCode_openBody 4 none ∈ zT := zT_of_tables_1_2 34 rfl rfl
theorem zw_121 : Cond.instanceMethod y_CCode_openBody ∈ zT := zT_of_tables_1_2 32 (by decide +kernel) (by decide +kernel)
theorem zw_122 : Cond.selects R_CCode y_CCode_openBody y_CCode_openBody ∈ zT := zT_of_tables_1_2 33 (by decide +kernel) (by decide +kernel)
theorem zw_123 : Cond.fieldLink R_CCode 83 R_CCode "visibleGlobals" "I" ∈ zT := zT_of_tables_1_1 172 (by decide +kernel) (by decide +kernel)
theorem zw_124 : Cond.methodLink R_CC 61 y_CCode_openConstant ∈ zT := zT_of_tables_1_2 64 (by decide +kernel) (by decide +kernel)
theorem zw_125 : Cond.code y_CCode_openConstant b_CCode_openConstant 3 none ∈ zT := zT_of_tables_1_2 67 rfl rfl
theorem zw_126 : Cond.instanceMethod y_CCode_openConstant ∈ zT := zT_of_tables_1_2 65 (by decide +kernel) (by decide +kernel)
theorem zw_127 : Cond.selects R_CCode y_CCode_openConstant y_CCode_openConstant ∈ zT := zT_of_tables_1_2 66 (by decide +kernel) (by decide +kernel)
theorem zw_128 : Cond.methodLink R_CCode 86 y_CCode_isOpen ∈ zT := zT_of_tables_1_2 76 (by decide +kernel) (by decide +kernel)
theorem zw_129 : Cond.methodLinkNest R_CCode 90 y_CC_isValueType R_CC ∈ zN := zN_of_tables_1_2 77 (by decide +kernel) (by decide +kernel)
theorem zw_130 : Cond.constantLong R_CC 105 4294967295 ∈ zT := zT_of_tables_1_2 81 (by decide +kernel) (by decide +kernel)
theorem zw_131 : Cond.methodLinkNest R_CCode 94 y_CC_withoutSign R_CC ∈ zN := zN_of_tables_1_2 78 (by decide +kernel) (by decide +kernel)
theorem zw_132 : Cond.code y_CC_withoutSign b_CC_withoutSign 1 (some (.long)) ∈ zT := zT_of_tables_1_2 80 rfl rfl
theorem zw_133 : Cond.static y_CC_withoutSign ∈ zT := zT_of_tables_1_2 79 (by decide +kernel) (by decide +kernel)
theorem zw_134 : Cond.methodLink R_CC 65 y_CCode_addLocals ∈ zT := zT_of_tables_1_2 72 (by decide +kernel) (by decide +kernel)
theorem zw_135 : Cond.code y_CCode_addLocals b_CCode_addLocals 3 (some (.boolean)) ∈ zT := zT_of_tables_1_2 75 rfl rfl
theorem zw_136 : Cond.instanceMethod y_CCode_addLocals ∈ zT := zT_of_tables_1_2 73 (by decide +kernel) (by decide +kernel)
theorem zw_137 : Cond.selects R_CCode y_CCode_addLocals y_CCode_addLocals ∈ zT := zT_of_tables_1_2 74 (by decide +kernel) (by decide +kernel)
theorem zw_138 : Cond.fieldLink R_CCode 18 R_CCode "labels" "[I" ∈ zT := zT_of_tables_1_1 166 (by decide +kernel) (by decide +kernel)
theorem zw_139 : Cond.methodLink R_CC 69 y_CCode_addLabel ∈ zT := zT_of_tables_1_2 86 (by decide +kernel) (by decide +kernel)
theorem zw_140 : Cond.code y_CCode_addLabel b_CCode_addLabel 2 (some (.int)) ∈ zT := zT_of_tables_1_2 89 rfl rfl
theorem zw_141 : Cond.instanceMethod y_CCode_addLabel ∈ zT := zT_of_tables_1_2 87 (by decide +kernel) (by decide +kernel)
theorem zw_142 : Cond.selects R_CCode y_CCode_addLabel y_CCode_addLabel ∈ zT := zT_of_tables_1_2 88 (by decide +kernel) (by decide +kernel)
theorem zw_143 : Cond.fieldLink R_CC 107 R_CC "INSTRUCTIONS" "[I" ∈ zT := zT_of_tables_1_2 109 (by decide +kernel) (by decide +kernel)
theorem zw_144 : Cond.methodLinkNest R_CCode 141 y_CC_isInstruction R_CC ∈ zN := zN_of_tables_1_2 106 (by decide +kernel) (by decide +kernel)
theorem zw_145 : Cond.code y_CC_isInstruction b_CC_isInstruction 2 (some (.boolean)) ∈ zT := zT_of_tables_1_2 108 rfl rfl
theorem zw_146 : Cond.static y_CC_isInstruction ∈ zT := zT_of_tables_1_2 107 (by decide +kernel) (by decide +kernel)
theorem zw_147 : Cond.methodLinkNest R_CCode 138 y_CC_isReferenceType R_CC ∈ zN := zN_of_tables_1_2 105 (by decide +kernel) (by decide +kernel)
theorem zw_148 : Cond.methodLinkNest R_CCode 135 y_CC_isBlockType R_CC ∈ zN := zN_of_tables_1_2 102 (by decide +kernel) (by decide +kernel)
theorem zw_149 : Cond.code y_CC_isBlockType b_CC_isBlockType 1 (some (.boolean)) ∈ zT := zT_of_tables_1_2 104 rfl rfl
theorem zw_150 : Cond.static y_CC_isBlockType ∈ zT := zT_of_tables_1_2 103 (by decide +kernel) (by decide +kernel)
theorem zw_151 : Cond.methodLink R_CCode 120 y_CCode_isMalformed ∈ zT := zT_of_tables_1_2 98 (by decide +kernel) (by decide +kernel)
theorem zw_152 : Cond.code y_CCode_isMalformed b_CCode_isMalformed 3 (some (.boolean)) ∈ zT := zT_of_tables_1_2 101 rfl rfl
theorem zw_153 : Cond.instanceMethod y_CCode_isMalformed ∈ zT := zT_of_tables_1_2 100 (by decide +kernel) (by decide +kernel)
theorem zw_154 : Cond.selects R_CCode y_CCode_isMalformed y_CCode_isMalformed ∈ zT := zT_of_sels 2 rfl
theorem zw_155 : Cond.fieldLinkNest R_CCode 144 R_CThings "globals" "LCodeChecker$Shelf;" R_CC ∈ zN := zN_of_tables_1_1 70 (by decide +kernel) (by decide +kernel)
theorem zw_156 : Cond.methodLink R_CCode 148 y_CShelf_has ∈ zT := zT_of_tables_1_2 115 (by decide +kernel) (by decide +kernel)
theorem zw_157 : Cond.methodLink R_CCode 153 y_CShelf_isMarked ∈ zT := zT_of_tables_1_2 116 (by decide +kernel) (by decide +kernel)
theorem zw_158 : Cond.code y_CShelf_isMarked b_CShelf_isMarked 2 (some (.boolean)) ∈ zT := zT_of_tables_1_2 119 rfl rfl
theorem zw_159 : Cond.instanceMethod y_CShelf_isMarked ∈ zT := zT_of_tables_1_2 117 (by decide +kernel) (by decide +kernel)
theorem zw_160 : Cond.selects R_CShelf y_CShelf_isMarked y_CShelf_isMarked ∈ zT := zT_of_tables_1_2 118 (by decide +kernel) (by decide +kernel)
theorem zw_161 : Cond.methodLink R_CCode 124 y_CCode_mayStandInConstant ∈ zT := zT_of_tables_1_2 111 (by decide +kernel) (by decide +kernel)
theorem zw_162 : Cond.code y_CCode_mayStandInConstant b_CCode_mayStandInConstant 3 (some (.boolean)) ∈ zT := zT_of_tables_1_2 114 rfl rfl
theorem zw_163 : Cond.instanceMethod y_CCode_mayStandInConstant ∈ zT := zT_of_tables_1_2 113 (by decide +kernel) (by decide +kernel)
theorem zw_164 : Cond.selects R_CCode y_CCode_mayStandInConstant y_CCode_mayStandInConstant ∈ zT := zT_of_sels 3 rfl
theorem zw_165 : Cond.fieldLinkNest R_CCode 168 R_CThings "tables" "LCodeChecker$Shelf;" R_CC ∈ zN := zN_of_tables_1_1 67 (by decide +kernel) (by decide +kernel)
theorem zw_166 : Cond.fieldLinkNest R_CCode 175 R_CThings "elements" "LCodeChecker$Shelf;" R_CC ∈ zN := zN_of_tables_1_1 72 (by decide +kernel) (by decide +kernel)
theorem zw_167 : Cond.fieldLinkNest R_CCode 172 R_CThings "data" "LCodeChecker$Shelf;" R_CC ∈ zN := zN_of_tables_1_1 74 (by decide +kernel) (by decide +kernel)
theorem zw_168 : Cond.methodLinkNest R_CLocals 27 y_CC_withoutSign R_CC ∈ zN := zN_of_tables_1_2 137 (by decide +kernel) (by decide +kernel)
theorem zw_169 : Cond.methodLink R_CCode 171 y_CLocals_has ∈ zT := zT_of_tables_1_2 133 (by decide +kernel) (by decide +kernel)
theorem zw_170 : Cond.code y_CLocals_has b_CLocals_has 2 (some (.boolean)) ∈ zT := zT_of_tables_1_2 136 rfl rfl
theorem zw_171 : Cond.instanceMethod y_CLocals_has ∈ zT := zT_of_tables_1_2 134 (by decide +kernel) (by decide +kernel)
theorem zw_172 : Cond.selects R_CLocals y_CLocals_has y_CLocals_has ∈ zT := zT_of_tables_1_2 135 (by decide +kernel) (by decide +kernel)
theorem zw_173 : Cond.methodLink R_CCode 156 y_CThings_hasType ∈ zT := zT_of_tables_1_2 124 (by decide +kernel) (by decide +kernel)
theorem zw_174 : Cond.fieldLinkNest R_CCode 165 R_CThings "functions" "LCodeChecker$Shelf;" R_CC ∈ zN := zN_of_tables_1_1 65 (by decide +kernel) (by decide +kernel)
theorem zw_175 : Cond.methodLink R_CCode 159 y_CStack_hasBlock ∈ zT := zT_of_tables_1_2 125 (by decide +kernel) (by decide +kernel)
theorem zw_176 : Cond.code y_CStack_hasBlock b_CStack_hasBlock 2 (some (.boolean)) ∈ zT := zT_of_tables_1_2 128 rfl rfl
theorem zw_177 : Cond.instanceMethod y_CStack_hasBlock ∈ zT := zT_of_tables_1_2 126 (by decide +kernel) (by decide +kernel)
theorem zw_178 : Cond.selects R_CStack y_CStack_hasBlock y_CStack_hasBlock ∈ zT := zT_of_tables_1_2 127 (by decide +kernel) (by decide +kernel)
theorem zw_179 : Cond.methodLink R_CCode 162 y_CCode_isLabelMissing ∈ zT := zT_of_tables_1_2 129 (by decide +kernel) (by decide +kernel)
theorem zw_180 : Cond.code y_CCode_isLabelMissing b_CCode_isLabelMissing 2 (some (.boolean)) ∈ zT := zT_of_tables_1_2 132 rfl rfl
theorem zw_181 : Cond.instanceMethod y_CCode_isLabelMissing ∈ zT := zT_of_tables_1_2 131 (by decide +kernel) (by decide +kernel)
theorem zw_182 : Cond.selects R_CCode y_CCode_isLabelMissing y_CCode_isLabelMissing ∈ zT := zT_of_sels 5 rfl
theorem zw_183 : Cond.methodLink R_CCode 127 y_CCode_namesWhatIsMissing ∈ zT := zT_of_tables_1_2 120 (by decide +kernel) (by decide +kernel)
theorem zw_184 : Cond.code y_CCode_namesWhatIsMissing b_CCode_namesWhatIsMissing 4 (some (.boolean)) ∈ zT := zT_of_tables_1_2 123 rfl rfl
theorem zw_185 : Cond.instanceMethod y_CCode_namesWhatIsMissing ∈ zT := zT_of_tables_1_2 122 (by decide +kernel) (by decide +kernel)
theorem zw_186 : Cond.selects R_CCode y_CCode_namesWhatIsMissing y_CCode_namesWhatIsMissing ∈ zT := zT_of_sels 4 rfl
theorem zw_187 : Cond.methodLink R_CThings 67 y_CShelf_has ∈ zT := zT_of_tables_1_2 150 (by decide +kernel) (by decide +kernel)
theorem zw_188 : Cond.methodLink R_CCode 184 y_CThings_hasMemory ∈ zT := zT_of_tables_1_2 146 (by decide +kernel) (by decide +kernel)
theorem zw_189 : Cond.code y_CThings_hasMemory b_CThings_hasMemory 1 (some (.boolean)) ∈ zT := zT_of_tables_1_2 149 rfl rfl
theorem zw_190 : Cond.instanceMethod y_CThings_hasMemory ∈ zT := zT_of_tables_1_2 147 (by decide +kernel) (by decide +kernel)
theorem zw_191 : Cond.selects R_CThings y_CThings_hasMemory y_CThings_hasMemory ∈ zT := zT_of_tables_1_2 148 (by decide +kernel) (by decide +kernel)
theorem zw_192 : Cond.fieldLinkNest R_CCode 187 R_CC "MOVED_BYTES" "[I" R_CC ∈ zN := zN_of_tables_1_2 151 (by decide +kernel) (by decide +kernel)
theorem zw_193 : Cond.methodLink R_CCode 178 y_CCode_accessFault ∈ zT := zT_of_tables_1_2 142 (by decide +kernel) (by decide +kernel)
theorem zw_194 : Cond.code y_CCode_accessFault b_CCode_accessFault 6 (some (.int)) ∈ zT := zT_of_tables_1_2 145 rfl rfl
theorem zw_195 : Cond.instanceMethod y_CCode_accessFault ∈ zT := zT_of_tables_1_2 144 (by decide +kernel) (by decide +kernel)
theorem zw_196 : Cond.selects R_CCode y_CCode_accessFault y_CCode_accessFault ∈ zT := zT_of_sels 7 rfl
theorem zw_197 : Cond.methodLink R_CCode 181 y_CShelf_typeOf ∈ zT := zT_of_tables_1_2 153 (by decide +kernel) (by decide +kernel)
theorem zw_198 : Cond.code y_CShelf_typeOf b_CShelf_typeOf 2 (some (.int)) ∈ zT := zT_of_tables_1_2 156 rfl rfl
theorem zw_199 : Cond.instanceMethod y_CShelf_typeOf ∈ zT := zT_of_tables_1_2 154 (by decide +kernel) (by decide +kernel)
theorem zw_200 : Cond.selects R_CShelf y_CShelf_typeOf y_CShelf_typeOf ∈ zT := zT_of_tables_1_2 155 (by decide +kernel) (by decide +kernel)
theorem zw_201 : Cond.methodLink R_CCode 131 y_CCode_misfit ∈ zT := zT_of_tables_1_2 138 (by decide +kernel) (by decide +kernel)
theorem zw_202 : Cond.code y_CCode_misfit b_CCode_misfit 4 (some (.int)) ∈ zT := zT_of_tables_1_2 141 rfl rfl
theorem zw_203 : Cond.instanceMethod y_CCode_misfit ∈ zT := zT_of_tables_1_2 140 (by decide +kernel) (by decide +kernel)
theorem zw_204 : Cond.selects R_CCode y_CCode_misfit y_CCode_misfit ∈ zT := zT_of_sels 6 rfl
theorem zw_205 : Cond.methodLink R_CC 73 y_CCode_faultAhead ∈ zT := zT_of_tables_1_2 94 (by decide +kernel) (by decide +kernel)
theorem zw_206 : Cond.code y_CCode_faultAhead b_CCode_faultAhead 4 (some (.int)) ∈ zT := zT_of_tables_1_2 97 rfl rfl
theorem zw_207 : Cond.instanceMethod y_CCode_faultAhead ∈ zT := zT_of_tables_1_2 95 (by decide +kernel) (by decide +kernel)
theorem zw_208 : Cond.selects R_CCode y_CCode_faultAhead y_CCode_faultAhead ∈ zT := zT_of_tables_1_2 96 (by decide +kernel) (by decide +kernel)
theorem zw_209 : Cond.fieldLink R_CC 111 R_CC "PLAIN" "[I" ∈ zT := zT_of_tables_1_2 164 (by decide +kernel) (by decide +kernel)
theorem zw_210 : Cond.methodLinkNest R_CCode 190 y_CC_plainLine R_CC ∈ zN := zN_of_tables_1_2 161 (by decide +kernel) (by decide +kernel)
theorem zw_211 : Cond.code y_CC_plainLine b_CC_plainLine 2 (some (.int)) ∈ zT := zT_of_tables_1_2 163 rfl rfl
theorem zw_212 : Cond.static y_CC_plainLine ∈ zT := zT_of_tables_1_2 162 (by decide +kernel) (by decide +kernel)
theorem zw_213 : Cond.fieldLinkNest R_CCode 215 R_CC "PLAIN" "[I" R_CC ∈ zN := zN_of_tables_1_2 170 (by decide +kernel) (by decide +kernel)
theorem zw_214 : Cond.fieldLink R_CStack 9 R_CStack "operands" "[I" ∈ zT := zT_of_tables_1_1 129 (by decide +kernel) (by decide +kernel)
theorem zw_215 : Cond.methodLink R_CStack 57 y_CStack_takeAny ∈ zT := zT_of_tables_1_2 179 (by decide +kernel) (by decide +kernel)
theorem zw_216 : Cond.code y_CStack_takeAny b_CStack_takeAny 3 (some (.int)) ∈ zT := zT_of_tables_1_2 182 rfl rfl
theorem zw_217 : Cond.instanceMethod y_CStack_takeAny ∈ zT := zT_of_tables_1_2 180 (by decide +kernel) (by decide +kernel)
theorem zw_218 : Cond.selects R_CStack y_CStack_takeAny y_CStack_takeAny ∈ zT := zT_of_tables_1_2 181 (by decide +kernel) (by decide +kernel)
theorem zw_219 : Cond.methodLink R_CStack 61 y_CStack_fail ∈ zT := zT_of_tables_1_2 183 (by decide +kernel) (by decide +kernel)
theorem zw_220 : Cond.code y_CStack_fail b_CStack_fail 2 none ∈ zT := zT_of_tables_1_2 186 rfl rfl
theorem zw_221 : Cond.instanceMethod y_CStack_fail ∈ zT := zT_of_tables_1_2 185 (by decide +kernel) (by decide +kernel)
theorem zw_222 : Cond.selects R_CStack y_CStack_fail y_CStack_fail ∈ zT := zT_of_sels 9 rfl
theorem zw_223 : Cond.methodLink R_CStack 65 y_CStack_take ∈ zT := zT_of_tables_1_2 175 (by decide +kernel) (by decide +kernel)
theorem zw_224 : Cond.code y_CStack_take b_CStack_take 3 (some (.int)) ∈ zT := zT_of_tables_1_2 178 rfl rfl
theorem zw_225 : Cond.instanceMethod y_CStack_take ∈ zT := zT_of_tables_1_2 176 (by decide +kernel) (by decide +kernel)
theorem zw_226 : Cond.selects R_CStack y_CStack_take y_CStack_take ∈ zT := zT_of_tables_1_2 177 (by decide +kernel) (by decide +kernel)
theorem zw_227 : Cond.methodLink R_CCode 218 y_CStack_takeTimes ∈ zT := zT_of_tables_1_2 171 (by decide +kernel) (by decide +kernel)
theorem zw_228 : Cond.code y_CStack_takeTimes b_CStack_takeTimes 4 none ∈ zT := zT_of_tables_1_2 174 rfl rfl
theorem zw_229 : Cond.instanceMethod y_CStack_takeTimes ∈ zT := zT_of_tables_1_2 172 (by decide +kernel) (by decide +kernel)
theorem zw_230 : Cond.selects R_CStack y_CStack_takeTimes y_CStack_takeTimes ∈ zT := zT_of_tables_1_2 173 (by decide +kernel) (by decide +kernel)
theorem zw_231 : Cond.methodLink R_CCode 221 y_CStack_give ∈ zT := zT_of_tables_1_2 187 (by decide +kernel) (by decide +kernel)
theorem zw_232 : Cond.code y_CStack_give b_CStack_give 2 none ∈ zT := zT_of_tables_1_2 190 rfl rfl
theorem zw_233 : Cond.instanceMethod y_CStack_give ∈ zT := zT_of_tables_1_2 188 (by decide +kernel) (by decide +kernel)
theorem zw_234 : Cond.selects R_CStack y_CStack_give y_CStack_give ∈ zT := zT_of_tables_1_2 189 (by decide +kernel) (by decide +kernel)
theorem zw_235 : Cond.methodLink R_CCode 193 y_CCode_carryOutPlain ∈ zT := zT_of_tables_1_2 166 (by decide +kernel) (by decide +kernel)
theorem zw_236 : Cond.code y_CCode_carryOutPlain b_CCode_carryOutPlain 2 none ∈ zT := zT_of_tables_1_2 169 rfl rfl
theorem zw_237 : Cond.instanceMethod y_CCode_carryOutPlain ∈ zT := zT_of_tables_1_2 168 (by decide +kernel) (by decide +kernel)
theorem zw_238 : Cond.selects R_CCode y_CCode_carryOutPlain y_CCode_carryOutPlain ∈ zT := zT_of_sels 8 rfl
theorem zw_239 : Cond.fieldLinkNest R_CCode 212 R_CStack "fault" "I" R_CC ∈ zN := zN_of_tables_1_1 140 (by decide +kernel) (by decide +kernel)
theorem zw_240 : Cond.methodLink R_CStack 49 y_CStack_ofBlock ∈ zT := zT_of_tables_1_2 227 (by decide +kernel) (by decide +kernel)
theorem zw_241 : Cond.code y_CStack_ofBlock b_CStack_ofBlock 4 (some (.int)) ∈ zT := zT_of_tables_1_2 230 rfl rfl
theorem zw_242 : Cond.instanceMethod y_CStack_ofBlock ∈ zT := zT_of_tables_1_2 229 (by decide +kernel) (by decide +kernel)
theorem zw_243 : Cond.selects R_CStack y_CStack_ofBlock y_CStack_ofBlock ∈ zT := zT_of_sels 12 rfl
theorem zw_244 : Cond.fieldLink R_CStack 31 R_CStack "things" "LCodeChecker$Things;" ∈ zT := zT_of_tables_1_1 128 (by decide +kernel) (by decide +kernel)
theorem zw_245 : Cond.fieldLinkNest R_CStack 100 R_CThings "results" "LCodeChecker$Rows;" R_CC ∈ zN := zN_of_tables_1_1 61 (by decide +kernel) (by decide +kernel)
theorem zw_246 : Cond.methodLink R_CStack 69 y_CRows_sizeOf ∈ zT := zT_of_tables_1_2 211 (by decide +kernel) (by decide +kernel)
theorem zw_247 : Cond.methodLink R_CStack 74 y_CRows_partOf ∈ zT := zT_of_tables_1_2 212 (by decide +kernel) (by decide +kernel)
theorem zw_248 : Cond.methodLink R_CStack 87 y_CStack_takeRow ∈ zT := zT_of_tables_1_2 207 (by decide +kernel) (by decide +kernel)
theorem zw_249 : Cond.code y_CStack_takeRow b_CStack_takeRow 4 none ∈ zT := zT_of_tables_1_2 210 rfl rfl
theorem zw_250 : Cond.instanceMethod y_CStack_takeRow ∈ zT := zT_of_tables_1_2 208 (by decide +kernel) (by decide +kernel)
theorem zw_251 : Cond.selects R_CStack y_CStack_takeRow y_CStack_takeRow ∈ zT := zT_of_tables_1_2 209 (by decide +kernel) (by decide +kernel)
theorem zw_252 : Cond.methodLink R_CStack 94 y_CStack_height ∈ zT := zT_of_tables_1_2 235 (by decide +kernel) (by decide +kernel)
theorem zw_253 : Cond.code y_CStack_height b_CStack_height 1 (some (.int)) ∈ zT := zT_of_tables_1_2 238 rfl rfl
theorem zw_254 : Cond.instanceMethod y_CStack_height ∈ zT := zT_of_tables_1_2 236 (by decide +kernel) (by decide +kernel)
theorem zw_255 : Cond.selects R_CStack y_CStack_height y_CStack_height ∈ zT := zT_of_tables_1_2 237 (by decide +kernel) (by decide +kernel)
theorem zw_256 : Cond.methodLink R_CStack 103 y_CStack_expectNoMoreOperands ∈ zT := zT_of_tables_1_2 231 (by decide +kernel) (by decide +kernel)
theorem zw_257 : Cond.code y_CStack_expectNoMoreOperands b_CStack_expectNoMoreOperands 1 none ∈ zT := zT_of_tables_1_2 234 rfl rfl
theorem zw_258 : Cond.instanceMethod y_CStack_expectNoMoreOperands ∈ zT := zT_of_tables_1_2 233 (by decide +kernel) (by decide +kernel)
theorem zw_259 : Cond.selects R_CStack y_CStack_expectNoMoreOperands y_CStack_expectNoMoreOperands ∈ zT := zT_of_sels 13 rfl
theorem zw_260 : Cond.methodLink R_CStack 97 y_CStack_opener ∈ zT := zT_of_tables_1_2 223 (by decide +kernel) (by decide +kernel)
theorem zw_261 : Cond.code y_CStack_opener b_CStack_opener 1 (some (.int)) ∈ zT := zT_of_tables_1_2 226 rfl rfl
theorem zw_262 : Cond.instanceMethod y_CStack_opener ∈ zT := zT_of_tables_1_2 224 (by decide +kernel) (by decide +kernel)
theorem zw_263 : Cond.selects R_CStack y_CStack_opener y_CStack_opener ∈ zT := zT_of_tables_1_2 225 (by decide +kernel) (by decide +kernel)
theorem zw_264 : Cond.methodLink R_CThings 70 y_CRows_sizeOf ∈ zT := zT_of_tables_1_3 7 (by decide +kernel) (by decide +kernel)
theorem zw_265 : Cond.methodLink R_CThings 74 y_CRows_partOf ∈ zT := zT_of_tables_1_3 8 (by decide +kernel) (by decide +kernel)
theorem zw_266 : Cond.methodLink R_CStack 106 y_CThings_hasLikeParametersAndResults ∈ zT := zT_of_tables_1_3 3 (by decide +kernel) (by decide +kernel)
theorem zw_267 : Cond.code y_CThings_hasLikeParametersAndResults b_CThings_hasLikeParametersAndResults 4 (some (.boolean)) ∈ zT := zT_of_tables_1_3 6 rfl rfl
theorem zw_268 : Cond.instanceMethod y_CThings_hasLikeParametersAndResults ∈ zT := zT_of_tables_1_3 4 (by decide +kernel) (by decide +kernel)
theorem zw_269 : Cond.selects R_CThings y_CThings_hasLikeParametersAndResults y_CThings_hasLikeParametersAndResults ∈ zT := zT_of_tables_1_3 5 (by decide +kernel) (by decide +kernel)
theorem zw_270 : Cond.methodLink R_CStack 53 y_CStack_hasInnermost ∈ zT := zT_of_tables_1_2 199 (by decide +kernel) (by decide +kernel)
theorem zw_271 : Cond.code y_CStack_hasInnermost b_CStack_hasInnermost 1 (some (.boolean)) ∈ zT := zT_of_tables_1_2 202 rfl rfl
theorem zw_272 : Cond.instanceMethod y_CStack_hasInnermost ∈ zT := zT_of_tables_1_2 201 (by decide +kernel) (by decide +kernel)
theorem zw_273 : Cond.selects R_CStack y_CStack_hasInnermost y_CStack_hasInnermost ∈ zT := zT_of_sels 11 rfl
theorem zw_274 : Cond.methodLink R_CStack 78 y_CStack_give ∈ zT := zT_of_tables_1_2 217 (by decide +kernel) (by decide +kernel)
theorem zw_275 : Cond.methodLink R_CStack 91 y_CStack_giveRow ∈ zT := zT_of_tables_1_2 213 (by decide +kernel) (by decide +kernel)
theorem zw_276 : Cond.code y_CStack_giveRow b_CStack_giveRow 5 none ∈ zT := zT_of_tables_1_2 216 rfl rfl
theorem zw_277 : Cond.instanceMethod y_CStack_giveRow ∈ zT := zT_of_tables_1_2 214 (by decide +kernel) (by decide +kernel)
theorem zw_278 : Cond.selects R_CStack y_CStack_giveRow y_CStack_giveRow ∈ zT := zT_of_tables_1_2 215 (by decide +kernel) (by decide +kernel)
theorem zw_279 : Cond.methodLink R_CCode 236 y_CStack_closeBlock ∈ zT := zT_of_tables_1_2 239 (by decide +kernel) (by decide +kernel)
theorem zw_280 : Cond.code y_CStack_closeBlock b_CStack_closeBlock 2 none ∈ zT := zT_of_tables_1_3 2 rfl rfl
theorem zw_281 : Cond.instanceMethod y_CStack_closeBlock ∈ zT := zT_of_tables_1_3 0 (by decide +kernel) (by decide +kernel)
theorem zw_282 : Cond.selects R_CStack y_CStack_closeBlock y_CStack_closeBlock ∈ zT := zT_of_tables_1_3 1 (by decide +kernel) (by decide +kernel)
theorem zw_283 : Cond.fieldLinkNest R_CStack 81 R_CThings "parameters" "LCodeChecker$Rows;" R_CC ∈ zN := zN_of_tables_1_1 59 (by decide +kernel) (by decide +kernel)
theorem zw_284 : Cond.methodLink R_CCode 233 y_CStack_turnToElse ∈ zT := zT_of_tables_1_2 219 (by decide +kernel) (by decide +kernel)
theorem zw_285 : Cond.code y_CStack_turnToElse b_CStack_turnToElse 2 none ∈ zT := zT_of_tables_1_2 222 rfl rfl
theorem zw_286 : Cond.instanceMethod y_CStack_turnToElse ∈ zT := zT_of_tables_1_2 220 (by decide +kernel) (by decide +kernel)
theorem zw_287 : Cond.selects R_CStack y_CStack_turnToElse y_CStack_turnToElse ∈ zT := zT_of_tables_1_2 221 (by decide +kernel) (by decide +kernel)
theorem zw_288 : Cond.methodLink R_CCode 230 y_CStack_take ∈ zT := zT_of_tables_1_2 218 (by decide +kernel) (by decide +kernel)
theorem zw_289 : Cond.methodLink R_CCode 227 y_CStack_openBlock ∈ zT := zT_of_tables_1_2 203 (by decide +kernel) (by decide +kernel)
theorem zw_290 : Cond.code y_CStack_openBlock b_CStack_openBlock 3 none ∈ zT := zT_of_tables_1_2 206 rfl rfl
theorem zw_291 : Cond.instanceMethod y_CStack_openBlock ∈ zT := zT_of_tables_1_2 204 (by decide +kernel) (by decide +kernel)
theorem zw_292 : Cond.selects R_CStack y_CStack_openBlock y_CStack_openBlock ∈ zT := zT_of_tables_1_2 205 (by decide +kernel) (by decide +kernel)
theorem zw_293 : Cond.methodLink R_CCode 224 y_CStack_die ∈ zT := zT_of_tables_1_2 195 (by decide +kernel) (by decide +kernel)
theorem zw_294 : Cond.code y_CStack_die b_CStack_die 1 none ∈ zT := zT_of_tables_1_2 198 rfl rfl
theorem zw_295 : Cond.instanceMethod y_CStack_die ∈ zT := zT_of_tables_1_2 196 (by decide +kernel) (by decide +kernel)
theorem zw_296 : Cond.selects R_CStack y_CStack_die y_CStack_die ∈ zT := zT_of_tables_1_2 197 (by decide +kernel) (by decide +kernel)
theorem zw_297 : Cond.methodLink R_CCode 196 y_CCode_carryOutBlock ∈ zT := zT_of_tables_1_2 191 (by decide +kernel) (by decide +kernel)
theorem zw_298 : Cond.code y_CCode_carryOutBlock b_CCode_carryOutBlock 3 none ∈ zT := zT_of_tables_1_2 194 rfl rfl
theorem zw_299 : Cond.instanceMethod y_CCode_carryOutBlock ∈ zT := zT_of_tables_1_2 193 (by decide +kernel) (by decide +kernel)
theorem zw_300 : Cond.selects R_CCode y_CCode_carryOutBlock y_CCode_carryOutBlock ∈ zT := zT_of_sels 10 rfl
theorem zw_301 : Cond.methodLink R_CCode 260 y_CStack_takeRow ∈ zT := zT_of_tables_1_3 45 (by decide +kernel) (by decide +kernel)
theorem zw_302 : Cond.fieldLinkNest R_CCode 264 R_CThings "results" "LCodeChecker$Rows;" R_CC ∈ zN := zN_of_tables_1_1 62 (by decide +kernel) (by decide +kernel)
theorem zw_303 : Cond.methodLink R_CCode 267 y_CStack_giveRow ∈ zT := zT_of_tables_1_3 46 (by decide +kernel) (by decide +kernel)
theorem zw_304 : Cond.methodLink R_CCode 251 y_CCode_enterFunction ∈ zT := zT_of_tables_1_3 41 (by decide +kernel) (by decide +kernel)
theorem zw_305 : Cond.code y_CCode_enterFunction b_CCode_enterFunction 2 none ∈ zT := zT_of_tables_1_3 44 rfl rfl
theorem zw_306 : Cond.instanceMethod y_CCode_enterFunction ∈ zT := zT_of_tables_1_3 43 (by decide +kernel) (by decide +kernel)
theorem zw_307 : Cond.selects R_CCode y_CCode_enterFunction y_CCode_enterFunction ∈ zT := zT_of_sels 17 rfl
theorem zw_308 : Cond.methodLink R_CCode 248 y_CStack_takeOutermostResults ∈ zT := zT_of_tables_1_3 37 (by decide +kernel) (by decide +kernel)
theorem zw_309 : Cond.code y_CStack_takeOutermostResults b_CStack_takeOutermostResults 1 none ∈ zT := zT_of_tables_1_3 40 rfl rfl
theorem zw_310 : Cond.instanceMethod y_CStack_takeOutermostResults ∈ zT := zT_of_tables_1_3 38 (by decide +kernel) (by decide +kernel)
theorem zw_311 : Cond.selects R_CStack y_CStack_takeOutermostResults y_CStack_takeOutermostResults ∈ zT := zT_of_tables_1_3 39 (by decide +kernel) (by decide +kernel)
theorem zw_312 : Cond.methodLink R_CStack 110 y_CStack_labelRows ∈ zT := zT_of_tables_1_3 17 (by decide +kernel) (by decide +kernel)
theorem zw_313 : Cond.code y_CStack_labelRows b_CStack_labelRows 2 (some (.object "CodeChecker$Rows")) ∈ zT := zT_of_tables_1_3 20 rfl rfl
theorem zw_314 : Cond.instanceMethod y_CStack_labelRows ∈ zT := zT_of_tables_1_3 19 (by decide +kernel) (by decide +kernel)
theorem zw_315 : Cond.selects R_CStack y_CStack_labelRows y_CStack_labelRows ∈ zT := zT_of_sels 15 rfl
theorem zw_316 : Cond.methodLink R_CCode 254 y_CStack_labelSize ∈ zT := zT_of_tables_1_3 29 (by decide +kernel) (by decide +kernel)
theorem zw_317 : Cond.code y_CStack_labelSize b_CStack_labelSize 2 (some (.int)) ∈ zT := zT_of_tables_1_3 32 rfl rfl
theorem zw_318 : Cond.instanceMethod y_CStack_labelSize ∈ zT := zT_of_tables_1_3 30 (by decide +kernel) (by decide +kernel)
theorem zw_319 : Cond.selects R_CStack y_CStack_labelSize y_CStack_labelSize ∈ zT := zT_of_tables_1_3 31 (by decide +kernel) (by decide +kernel)
theorem zw_320 : Cond.fieldLink R_CStack 28 R_CStack "taken" "[I" ∈ zT := zT_of_tables_1_1 134 (by decide +kernel) (by decide +kernel)
theorem zw_321 : Cond.methodLink R_CCode 257 y_CStack_passLabel ∈ zT := zT_of_tables_1_3 33 (by decide +kernel) (by decide +kernel)
theorem zw_322 : Cond.code y_CStack_passLabel b_CStack_passLabel 7 none ∈ zT := zT_of_tables_1_3 36 rfl rfl
theorem zw_323 : Cond.instanceMethod y_CStack_passLabel ∈ zT := zT_of_tables_1_3 34 (by decide +kernel) (by decide +kernel)
theorem zw_324 : Cond.selects R_CStack y_CStack_passLabel y_CStack_passLabel ∈ zT := zT_of_tables_1_3 35 (by decide +kernel) (by decide +kernel)
theorem zw_325 : Cond.methodLink R_CCode 239 y_CStack_takeLabel ∈ zT := zT_of_tables_1_3 13 (by decide +kernel) (by decide +kernel)
theorem zw_326 : Cond.code y_CStack_takeLabel b_CStack_takeLabel 2 none ∈ zT := zT_of_tables_1_3 16 rfl rfl
theorem zw_327 : Cond.instanceMethod y_CStack_takeLabel ∈ zT := zT_of_tables_1_3 14 (by decide +kernel) (by decide +kernel)
theorem zw_328 : Cond.selects R_CStack y_CStack_takeLabel y_CStack_takeLabel ∈ zT := zT_of_tables_1_3 15 (by decide +kernel) (by decide +kernel)
theorem zw_329 : Cond.methodLink R_CCode 245 y_CCode_branchByRow ∈ zT := zT_of_tables_1_3 25 (by decide +kernel) (by decide +kernel)
theorem zw_330 : Cond.code y_CCode_branchByRow b_CCode_branchByRow 4 none ∈ zT := zT_of_tables_1_3 28 rfl rfl
theorem zw_331 : Cond.instanceMethod y_CCode_branchByRow ∈ zT := zT_of_tables_1_3 27 (by decide +kernel) (by decide +kernel)
theorem zw_332 : Cond.selects R_CCode y_CCode_branchByRow y_CCode_branchByRow ∈ zT := zT_of_sels 16 rfl
theorem zw_333 : Cond.methodLink R_CCode 242 y_CStack_giveLabel ∈ zT := zT_of_tables_1_3 21 (by decide +kernel) (by decide +kernel)
theorem zw_334 : Cond.code y_CStack_giveLabel b_CStack_giveLabel 2 none ∈ zT := zT_of_tables_1_3 24 rfl rfl
theorem zw_335 : Cond.instanceMethod y_CStack_giveLabel ∈ zT := zT_of_tables_1_3 22 (by decide +kernel) (by decide +kernel)
theorem zw_336 : Cond.selects R_CStack y_CStack_giveLabel y_CStack_giveLabel ∈ zT := zT_of_tables_1_3 23 (by decide +kernel) (by decide +kernel)
theorem zw_337 : Cond.methodLink R_CCode 200 y_CCode_carryOutBranch ∈ zT := zT_of_tables_1_3 9 (by decide +kernel) (by decide +kernel)
theorem zw_338 : Cond.code y_CCode_carryOutBranch b_CCode_carryOutBranch 3 none ∈ zT := zT_of_tables_1_3 12 rfl rfl
theorem zw_339 : Cond.instanceMethod y_CCode_carryOutBranch ∈ zT := zT_of_tables_1_3 11 (by decide +kernel) (by decide +kernel)
theorem zw_340 : Cond.selects R_CCode y_CCode_carryOutBranch y_CCode_carryOutBranch ∈ zT := zT_of_sels 14 rfl
theorem zw_341 : Cond.methodLink R_CCode 276 y_CLocals_typeOf ∈ zT := zT_of_tables_1_3 57 (by decide +kernel) (by decide +kernel)
theorem zw_342 : Cond.code y_CLocals_typeOf b_CLocals_typeOf 5 (some (.int)) ∈ zT := zT_of_tables_1_3 60 rfl rfl
theorem zw_343 : Cond.instanceMethod y_CLocals_typeOf ∈ zT := zT_of_tables_1_3 58 (by decide +kernel) (by decide +kernel)
theorem zw_344 : Cond.selects R_CLocals y_CLocals_typeOf y_CLocals_typeOf ∈ zT := zT_of_tables_1_3 59 (by decide +kernel) (by decide +kernel)
theorem zw_345 : Cond.methodLinkNest R_CStack 114 y_CC_isReferenceType R_CC ∈ zN := zN_of_tables_1_3 56 (by decide +kernel) (by decide +kernel)
theorem zw_346 : Cond.methodLink R_CCode 273 y_CStack_choose ∈ zT := zT_of_tables_1_3 52 (by decide +kernel) (by decide +kernel)
theorem zw_347 : Cond.code y_CStack_choose b_CStack_choose 3 none ∈ zT := zT_of_tables_1_3 55 rfl rfl
theorem zw_348 : Cond.instanceMethod y_CStack_choose ∈ zT := zT_of_tables_1_3 53 (by decide +kernel) (by decide +kernel)
theorem zw_349 : Cond.selects R_CStack y_CStack_choose y_CStack_choose ∈ zT := zT_of_tables_1_3 54 (by decide +kernel) (by decide +kernel)
theorem zw_350 : Cond.methodLink R_CCode 270 y_CStack_takeAny ∈ zT := zT_of_tables_1_3 51 (by decide +kernel) (by decide +kernel)
theorem zw_351 : Cond.methodLink R_CCode 203 y_CCode_carryOutVariable ∈ zT := zT_of_tables_1_3 47 (by decide +kernel) (by decide +kernel)
theorem zw_352 : Cond.code y_CCode_carryOutVariable b_CCode_carryOutVariable 3 none ∈ zT := zT_of_tables_1_3 50 rfl rfl
theorem zw_353 : Cond.instanceMethod y_CCode_carryOutVariable ∈ zT := zT_of_tables_1_3 49 (by decide +kernel) (by decide +kernel)
theorem zw_354 : Cond.selects R_CCode y_CCode_carryOutVariable y_CCode_carryOutVariable ∈ zT := zT_of_sels 18 rfl
theorem zw_355 : Cond.fieldLinkNest R_CCode 277 R_CC "MOVED_TYPE" "[I" R_CC ∈ zN := zN_of_tables_1_3 65 (by decide +kernel) (by decide +kernel)
theorem zw_356 : Cond.methodLink R_CCode 206 y_CCode_carryOutAccess ∈ zT := zT_of_tables_1_3 61 (by decide +kernel) (by decide +kernel)
theorem zw_357 : Cond.code y_CCode_carryOutAccess b_CCode_carryOutAccess 4 none ∈ zT := zT_of_tables_1_3 64 rfl rfl
theorem zw_358 : Cond.instanceMethod y_CCode_carryOutAccess ∈ zT := zT_of_tables_1_3 63 (by decide +kernel) (by decide +kernel)
theorem zw_359 : Cond.selects R_CCode y_CCode_carryOutAccess y_CCode_carryOutAccess ∈ zT := zT_of_sels 19 rfl
theorem zw_360 : Cond.methodLink R_CCode 280 y_CStack_takeReference ∈ zT := zT_of_tables_1_3 71 (by decide +kernel) (by decide +kernel)
theorem zw_361 : Cond.code y_CStack_takeReference b_CStack_takeReference 2 none ∈ zT := zT_of_tables_1_3 74 rfl rfl
theorem zw_362 : Cond.instanceMethod y_CStack_takeReference ∈ zT := zT_of_tables_1_3 72 (by decide +kernel) (by decide +kernel)
theorem zw_363 : Cond.selects R_CStack y_CStack_takeReference y_CStack_takeReference ∈ zT := zT_of_tables_1_3 73 (by decide +kernel) (by decide +kernel)
theorem zw_364 : Cond.methodLink R_CCode 209 y_CCode_carryOutReference ∈ zT := zT_of_tables_1_3 67 (by decide +kernel) (by decide +kernel)
theorem zw_365 : Cond.code y_CCode_carryOutReference b_CCode_carryOutReference 3 none ∈ zT := zT_of_tables_1_3 70 rfl rfl
theorem zw_366 : Cond.instanceMethod y_CCode_carryOutReference ∈ zT := zT_of_tables_1_3 69 (by decide +kernel) (by decide +kernel)
theorem zw_367 : Cond.selects R_CCode y_CCode_carryOutReference y_CCode_carryOutReference ∈ zT := zT_of_sels 20 rfl
theorem zw_368 : Cond.methodLink R_CC 76 y_CCode_carryOut ∈ zT := zT_of_tables_1_2 157 (by decide +kernel) (by decide +kernel)
theorem zw_369 : Cond.code y_CCode_carryOut b_CCode_carryOut 4 (some (.int)) ∈ zT := zT_of_tables_1_2 160 rfl rfl
theorem zw_370 : Cond.instanceMethod y_CCode_carryOut ∈ zT := zT_of_tables_1_2 158 (by decide +kernel) (by decide +kernel)
theorem zw_371 : Cond.selects R_CCode y_CCode_carryOut y_CCode_carryOut ∈ zT := zT_of_tables_1_2 159 (by decide +kernel) (by decide +kernel)
theorem zw_372 : Cond.fieldLinkNest R_CCode 98 R_CStack "blockCount" "I" R_CC ∈ zN := zN_of_tables_1_1 138 (by decide +kernel) (by decide +kernel)
theorem zw_373 : Cond.methodLink R_CC 80 y_CCode_finishInstruction ∈ zT := zT_of_tables_1_3 75 (by decide +kernel) (by decide +kernel)
theorem zw_374 : Cond.code y_CCode_finishInstruction b_CCode_finishInstruction 2 none ∈ zT := zT_of_tables_1_3 78 rfl rfl
theorem zw_375 : Cond.instanceMethod y_CCode_finishInstruction ∈ zT := zT_of_tables_1_3 76 (by decide +kernel) (by decide +kernel)
theorem zw_376 : Cond.selects R_CCode y_CCode_finishInstruction y_CCode_finishInstruction ∈ zT := zT_of_tables_1_3 77 (by decide +kernel) (by decide +kernel)
theorem zw_377 : Cond.fieldLinkNest R_CC 83 R_CCode "progress" "I" R_CC ∈ zN := zN_of_tables_1_1 169 (by decide +kernel) (by decide +kernel)
theorem zw_378 : Cond.constantLong R_CCode 118 (-1) ∈ zT := zT_of_tables_1_3 97 (by decide +kernel) (by decide +kernel)
theorem zw_379 : Cond.fieldLinkNest R_CCode 114 R_CLocals "count" "J" R_CC ∈ zN := zN_of_tables_1_1 111 (by decide +kernel) (by decide +kernel)
theorem zw_380 : Cond.methodLink R_CCode 111 y_CStack_opener ∈ zT := zT_of_tables_1_3 96 (by decide +kernel) (by decide +kernel)
theorem zw_381 : Cond.methodLink R_CCode 108 y_CStack_isLive ∈ zT := zT_of_tables_1_3 92 (by decide +kernel) (by decide +kernel)
theorem zw_382 : Cond.code y_CStack_isLive b_CStack_isLive 1 (some (.boolean)) ∈ zT := zT_of_tables_1_3 95 rfl rfl
theorem zw_383 : Cond.instanceMethod y_CStack_isLive ∈ zT := zT_of_tables_1_3 93 (by decide +kernel) (by decide +kernel)
theorem zw_384 : Cond.selects R_CStack y_CStack_isLive y_CStack_isLive ∈ zT := zT_of_tables_1_3 94 (by decide +kernel) (by decide +kernel)
theorem zw_385 : Cond.methodLink R_CCode 104 y_CStack_height ∈ zT := zT_of_tables_1_3 91 (by decide +kernel) (by decide +kernel)
theorem zw_386 : Cond.fieldLinkNest R_CCode 101 R_CStack "operandCount" "I" R_CC ∈ zN := zN_of_tables_1_1 136 (by decide +kernel) (by decide +kernel)
theorem zw_387 : Cond.methodLink R_CC 87 y_CCode_figure ∈ zT := zT_of_tables_1_3 87 (by decide +kernel) (by decide +kernel)
theorem zw_388 : Cond.code y_CCode_figure b_CCode_figure 2 (some (.long)) ∈ zT := zT_of_tables_1_3 90 rfl rfl
theorem zw_389 : Cond.instanceMethod y_CCode_figure ∈ zT := zT_of_tables_1_3 88 (by decide +kernel) (by decide +kernel)
theorem zw_390 : Cond.selects R_CCode y_CCode_figure y_CCode_figure ∈ zT := zT_of_tables_1_3 89 (by decide +kernel) (by decide +kernel)
theorem zw_391 : Cond.constantLong R_CC 91 (-1) ∈ zT := zT_of_tables_1_3 98 (by decide +kernel) (by decide +kernel)
theorem zw_392 : Cond.fieldLinkNest R_CC 93 R_CCode "stack" "LCodeChecker$Stack;" R_CC ∈ zN := zN_of_tables_1_1 164 (by decide +kernel) (by decide +kernel)
theorem zw_393 : Cond.methodLink R_CC 97 y_CStack_operandFromEnd ∈ zT := zT_of_tables_1_3 103 (by decide +kernel) (by decide +kernel)
theorem zw_394 : Cond.code y_CStack_operandFromEnd b_CStack_operandFromEnd 2 (some (.int)) ∈ zT := zT_of_tables_1_3 106 rfl rfl
theorem zw_395 : Cond.instanceMethod y_CStack_operandFromEnd ∈ zT := zT_of_tables_1_3 104 (by decide +kernel) (by decide +kernel)
theorem zw_396 : Cond.selects R_CStack y_CStack_operandFromEnd y_CStack_operandFromEnd ∈ zT := zT_of_tables_1_3 105 (by decide +kernel) (by decide +kernel)
theorem zw_397 : Cond.fieldLink R_MC 73 R_MC "types" "I" ∈ zT := zT_of_tables_1_3 113 (by decide +kernel) (by decide +kernel)
theorem zw_398 : Cond.methodLink R_MC 69 y_MC_isReference ∈ zT := zT_of_tables_1_4 2 (by decide +kernel) (by decide +kernel)
theorem zw_399 : Cond.initialized R_MC ∈ zT := zT_of_tables_1_1 8 (by decide +kernel) (by decide +kernel)
end
section
theorem zw_400 : Cond.code y_MC_isReference b_MC_isReference 1 (some (.boolean)) ∈ zT := zT_of_tables_1_4 4 rfl rfl
theorem zw_401 : Cond.static y_MC_isReference ∈ zT := zT_of_tables_1_4 3 (by decide +kernel) (by decide +kernel)
theorem zw_402 : Cond.methodLink R_MC 77 y_MC_isValue ∈ zT := zT_of_tables_1_3 239 (by decide +kernel) (by decide +kernel)
theorem zw_403 : Cond.code y_MC_isValue b_MC_isValue 1 (some (.boolean)) ∈ zT := zT_of_tables_1_4 1 rfl rfl
theorem zw_404 : Cond.static y_MC_isValue ∈ zT := zT_of_tables_1_4 0 (by decide +kernel) (by decide +kernel)
theorem zw_405 : Cond.fieldLink R_MC 80 R_MC "state" "I" ∈ zT := zT_of_tables_1_3 122 (by decide +kernel) (by decide +kernel)
theorem zw_406 : Cond.fieldLink R_MC 13 R_MC "resultCount" "[I" ∈ zT := zT_of_tables_1_3 115 (by decide +kernel) (by decide +kernel)
theorem zw_407 : Cond.fieldLink R_MC 19 R_MC "results" "[I" ∈ zT := zT_of_tables_1_3 117 (by decide +kernel) (by decide +kernel)
theorem zw_408 : Cond.fieldLink R_MC 16 R_MC "parameters" "[I" ∈ zT := zT_of_tables_1_3 116 (by decide +kernel) (by decide +kernel)
theorem zw_409 : Cond.fieldLink R_MC 7 R_MC "parameterCount" "[I" ∈ zT := zT_of_tables_1_3 114 (by decide +kernel) (by decide +kernel)
theorem zw_410 : Cond.fieldLink R_MC 22 R_MC "many" "[I" ∈ zT := zT_of_tables_1_3 118 (by decide +kernel) (by decide +kernel)
theorem zw_411 : Cond.fieldLink R_MC 25 R_MC "first" "[I" ∈ zT := zT_of_tables_1_3 119 (by decide +kernel) (by decide +kernel)
theorem zw_412 : Cond.fieldLink R_MC 28 R_MC "second" "[I" ∈ zT := zT_of_tables_1_3 120 (by decide +kernel) (by decide +kernel)
theorem zw_413 : Cond.fieldLink R_MC 31 R_MC "declared" "[Z" ∈ zT := zT_of_tables_1_3 121 (by decide +kernel) (by decide +kernel)
theorem zw_414 : Cond.fieldLink R_MC 85 R_MC "isBody" "Z" ∈ zT := zT_of_tables_1_3 123 (by decide +kernel) (by decide +kernel)
theorem zw_415 : Cond.fieldLink R_MC 89 R_MC "begun" "Z" ∈ zT := zT_of_tables_1_3 124 (by decide +kernel) (by decide +kernel)
theorem zw_416 : Cond.fieldLink R_MC 92 R_MC "rows" "I" ∈ zT := zT_of_tables_1_3 128 (by decide +kernel) (by decide +kernel)
theorem zw_417 : Cond.fieldLink R_MC 95 R_MC "calls" "I" ∈ zT := zT_of_tables_1_3 129 (by decide +kernel) (by decide +kernel)
theorem zw_418 : Cond.fieldLink R_MC 98 R_MC "labels" "I" ∈ zT := zT_of_tables_1_3 132 (by decide +kernel) (by decide +kernel)
theorem zw_419 : Cond.fieldLink R_MC 101 R_MC "operands" "I" ∈ zT := zT_of_tables_1_3 134 (by decide +kernel) (by decide +kernel)
theorem zw_420 : Cond.fieldLink R_MC 104 R_MC "blocks" "I" ∈ zT := zT_of_tables_1_3 135 (by decide +kernel) (by decide +kernel)
theorem zw_421 : Cond.fieldLink R_MC 48 R_MC "begunBy" "[I" ∈ zT := zT_of_tables_1_3 137 (by decide +kernel) (by decide +kernel)
theorem zw_422 : Cond.fieldLink R_MC 54 R_MC "height" "[I" ∈ zT := zT_of_tables_1_3 139 (by decide +kernel) (by decide +kernel)
theorem zw_423 : Cond.fieldLink R_MC 57 R_MC "dead" "[Z" ∈ zT := zT_of_tables_1_3 140 (by decide +kernel) (by decide +kernel)
theorem zw_424 : Cond.methodLink R_MC 107 y_MC_beginCode ∈ zT := zT_of_tables_1_4 17 (by decide +kernel) (by decide +kernel)
theorem zw_425 : Cond.code y_MC_beginCode b_MC_beginCode 2 none ∈ zT := zT_of_tables_1_4 20 rfl rfl
theorem zw_426 : Cond.instanceMethod y_MC_beginCode ∈ zT := zT_of_tables_1_4 19 (by decide +kernel) (by decide +kernel)
theorem zw_427 : Cond.selects R_MC y_MC_beginCode y_MC_beginCode ∈ zT := zT_of_sels 21 rfl
theorem zw_428 : Cond.fieldLink R_MC 111 R_MC "bodyType" "I" ∈ zT := zT_of_tables_1_3 125 (by decide +kernel) (by decide +kernel)
theorem zw_429 : Cond.fieldLink R_MC 35 R_MC "rowType" "[I" ∈ zT := zT_of_tables_1_3 130 (by decide +kernel) (by decide +kernel)
theorem zw_430 : Cond.fieldLink R_MC 38 R_MC "rowMany" "[J" ∈ zT := zT_of_tables_1_3 131 (by decide +kernel) (by decide +kernel)
theorem zw_431 : Cond.methodLink R_MC 114 y_MC_addRow ∈ zT := zT_of_tables_1_4 21 (by decide +kernel) (by decide +kernel)
theorem zw_432 : Cond.code y_MC_addRow b_MC_addRow 4 none ∈ zT := zT_of_tables_1_4 24 rfl rfl
theorem zw_433 : Cond.instanceMethod y_MC_addRow ∈ zT := zT_of_tables_1_4 23 (by decide +kernel) (by decide +kernel)
theorem zw_434 : Cond.selects R_MC y_MC_addRow y_MC_addRow ∈ zT := zT_of_sels 22 rfl
theorem zw_435 : Cond.fieldLink R_MC 118 R_MC "constantType" "I" ∈ zT := zT_of_tables_1_3 126 (by decide +kernel) (by decide +kernel)
theorem zw_436 : Cond.fieldLink R_MC 121 R_MC "seen" "J" ∈ zT := zT_of_tables_1_3 127 (by decide +kernel) (by decide +kernel)
theorem zw_437 : Cond.constantLong R_MC 83 4294967295 ∈ zT := zT_of_tables_1_4 33 (by decide +kernel) (by decide +kernel)
theorem zw_438 : Cond.fieldLink R_MC 42 R_MC "label" "[I" ∈ zT := zT_of_tables_1_3 133 (by decide +kernel) (by decide +kernel)
theorem zw_439 : Cond.fieldLink R_MC 137 R_MC "fault" "I" ∈ zT := zT_of_tables_1_3 141 (by decide +kernel) (by decide +kernel)
theorem zw_440 : Cond.fieldLink R_MC 143 R_MC "left" "I" ∈ zT := zT_of_tables_1_3 143 (by decide +kernel) (by decide +kernel)
theorem zw_441 : Cond.fieldLink R_MC 60 R_MC "row" "[I" ∈ zT := zT_of_tables_1_3 144 (by decide +kernel) (by decide +kernel)
theorem zw_442 : Cond.fieldLink R_MC 45 R_MC "operand" "[I" ∈ zT := zT_of_tables_1_3 136 (by decide +kernel) (by decide +kernel)
theorem zw_443 : Cond.fieldLink R_MC 150 R_MC "dies" "Z" ∈ zT := zT_of_tables_1_3 145 (by decide +kernel) (by decide +kernel)
theorem zw_444 : Cond.fieldLink R_MC 234 R_MC "opens" "Z" ∈ zT := zT_of_tables_1_3 146 (by decide +kernel) (by decide +kernel)
theorem zw_445 : Cond.fieldLink R_MC 243 R_MC "ends" "Z" ∈ zT := zT_of_tables_1_3 147 (by decide +kernel) (by decide +kernel)
theorem zw_446 : Cond.fieldLink R_MC 240 R_MC "isOther" "Z" ∈ zT := zT_of_tables_1_3 148 (by decide +kernel) (by decide +kernel)
theorem zw_447 : Cond.methodLink R_MC 172 y_MC_isInstruction ∈ zT := zT_of_tables_1_4 49 (by decide +kernel) (by decide +kernel)
theorem zw_448 : Cond.code y_MC_isInstruction b_MC_isInstruction 1 (some (.boolean)) ∈ zT := zT_of_tables_1_4 51 rfl rfl
theorem zw_449 : Cond.static y_MC_isInstruction ∈ zT := zT_of_tables_1_4 50 (by decide +kernel) (by decide +kernel)
theorem zw_450 : Cond.methodLink R_MC 175 y_MC_isBlockType ∈ zT := zT_of_tables_1_4 52 (by decide +kernel) (by decide +kernel)
theorem zw_451 : Cond.code y_MC_isBlockType b_MC_isBlockType 1 (some (.boolean)) ∈ zT := zT_of_tables_1_4 54 rfl rfl
theorem zw_452 : Cond.static y_MC_isBlockType ∈ zT := zT_of_tables_1_4 53 (by decide +kernel) (by decide +kernel)
theorem zw_453 : Cond.methodLink R_MC 287 y_MC_isFormed ∈ zT := zT_of_tables_1_4 46 (by decide +kernel) (by decide +kernel)
theorem zw_454 : Cond.code y_MC_isFormed b_MC_isFormed 2 (some (.boolean)) ∈ zT := zT_of_tables_1_4 48 rfl rfl
theorem zw_455 : Cond.static y_MC_isFormed ∈ zT := zT_of_tables_1_4 47 (by decide +kernel) (by decide +kernel)
theorem zw_456 : Cond.methodLink R_MC 146 y_MC_stop ∈ zT := zT_of_tables_1_4 55 (by decide +kernel) (by decide +kernel)
theorem zw_457 : Cond.code y_MC_stop b_MC_stop 2 none ∈ zT := zT_of_tables_1_4 58 rfl rfl
theorem zw_458 : Cond.instanceMethod y_MC_stop ∈ zT := zT_of_tables_1_4 57 (by decide +kernel) (by decide +kernel)
theorem zw_459 : Cond.selects R_MC y_MC_stop y_MC_stop ∈ zT := zT_of_sels 24 rfl
theorem zw_460 : Cond.methodLink R_MC 178 y_MC_has ∈ zT := zT_of_tables_1_4 63 (by decide +kernel) (by decide +kernel)
theorem zw_461 : Cond.code y_MC_has b_MC_has 3 (some (.boolean)) ∈ zT := zT_of_tables_1_4 66 rfl rfl
theorem zw_462 : Cond.instanceMethod y_MC_has ∈ zT := zT_of_tables_1_4 65 (by decide +kernel) (by decide +kernel)
theorem zw_463 : Cond.selects R_MC y_MC_has y_MC_has ∈ zT := zT_of_sels 26 rfl
theorem zw_464 : Cond.methodLink R_MC 290 y_MC_mayBeConstant ∈ zT := zT_of_tables_1_4 59 (by decide +kernel) (by decide +kernel)
theorem zw_465 : Cond.code y_MC_mayBeConstant b_MC_mayBeConstant 3 (some (.boolean)) ∈ zT := zT_of_tables_1_4 62 rfl rfl
theorem zw_466 : Cond.instanceMethod y_MC_mayBeConstant ∈ zT := zT_of_tables_1_4 61 (by decide +kernel) (by decide +kernel)
theorem zw_467 : Cond.selects R_MC y_MC_mayBeConstant y_MC_mayBeConstant ∈ zT := zT_of_sels 25 rfl
theorem zw_468 : Cond.methodLink R_MC 185 y_MC_localType ∈ zT := zT_of_tables_1_4 75 (by decide +kernel) (by decide +kernel)
theorem zw_469 : Cond.code y_MC_localType b_MC_localType 5 (some (.int)) ∈ zT := zT_of_tables_1_4 78 rfl rfl
theorem zw_470 : Cond.instanceMethod y_MC_localType ∈ zT := zT_of_tables_1_4 77 (by decide +kernel) (by decide +kernel)
theorem zw_471 : Cond.selects R_MC y_MC_localType y_MC_localType ∈ zT := zT_of_sels 29 rfl
theorem zw_472 : Cond.methodLink R_MC 182 y_MC_isLabel ∈ zT := zT_of_tables_1_4 71 (by decide +kernel) (by decide +kernel)
theorem zw_473 : Cond.code y_MC_isLabel b_MC_isLabel 2 (some (.boolean)) ∈ zT := zT_of_tables_1_4 74 rfl rfl
theorem zw_474 : Cond.instanceMethod y_MC_isLabel ∈ zT := zT_of_tables_1_4 73 (by decide +kernel) (by decide +kernel)
theorem zw_475 : Cond.selects R_MC y_MC_isLabel y_MC_isLabel ∈ zT := zT_of_sels 28 rfl
theorem zw_476 : Cond.methodLink R_MC 293 y_MC_isThere ∈ zT := zT_of_tables_1_4 67 (by decide +kernel) (by decide +kernel)
theorem zw_477 : Cond.code y_MC_isThere b_MC_isThere 6 (some (.boolean)) ∈ zT := zT_of_tables_1_4 70 rfl rfl
theorem zw_478 : Cond.instanceMethod y_MC_isThere ∈ zT := zT_of_tables_1_4 69 (by decide +kernel) (by decide +kernel)
theorem zw_479 : Cond.selects R_MC y_MC_isThere y_MC_isThere ∈ zT := zT_of_sels 27 rfl
theorem zw_480 : Cond.methodLink R_MC 188 y_MC_attribute ∈ zT := zT_of_tables_1_4 83 (by decide +kernel) (by decide +kernel)
theorem zw_481 : Cond.code y_MC_attribute b_MC_attribute 3 (some (.int)) ∈ zT := zT_of_tables_1_4 86 rfl rfl
theorem zw_482 : Cond.instanceMethod y_MC_attribute ∈ zT := zT_of_tables_1_4 85 (by decide +kernel) (by decide +kernel)
theorem zw_483 : Cond.selects R_MC y_MC_attribute y_MC_attribute ∈ zT := zT_of_sels 31 rfl
theorem zw_484 : Cond.constantLong R_MC 191 3 ∈ zT := zT_of_tables_1_4 87 (by decide +kernel) (by decide +kernel)
theorem zw_485 : Cond.methodLink R_MC 193 y_MC_bytesOf ∈ zT := zT_of_tables_1_4 88 (by decide +kernel) (by decide +kernel)
theorem zw_486 : Cond.code y_MC_bytesOf b_MC_bytesOf 1 (some (.int)) ∈ zT := zT_of_tables_1_4 90 rfl rfl
theorem zw_487 : Cond.static y_MC_bytesOf ∈ zT := zT_of_tables_1_4 89 (by decide +kernel) (by decide +kernel)
theorem zw_488 : Cond.methodLink R_MC 297 y_MC_require ∈ zT := zT_of_tables_1_4 79 (by decide +kernel) (by decide +kernel)
theorem zw_489 : Cond.code y_MC_require b_MC_require 5 none ∈ zT := zT_of_tables_1_4 82 rfl rfl
theorem zw_490 : Cond.instanceMethod y_MC_require ∈ zT := zT_of_tables_1_4 81 (by decide +kernel) (by decide +kernel)
theorem zw_491 : Cond.selects R_MC y_MC_require y_MC_require ∈ zT := zT_of_sels 30 rfl
theorem zw_492 : Cond.methodLink R_MC 300 y_MC_examine ∈ zT := zT_of_tables_1_4 42 (by decide +kernel) (by decide +kernel)
theorem zw_493 : Cond.code y_MC_examine b_MC_examine 4 none ∈ zT := zT_of_tables_1_4 45 rfl rfl
theorem zw_494 : Cond.instanceMethod y_MC_examine ∈ zT := zT_of_tables_1_4 44 (by decide +kernel) (by decide +kernel)
theorem zw_495 : Cond.selects R_MC y_MC_examine y_MC_examine ∈ zT := zT_of_sels 23 rfl
theorem zw_496 : Cond.fieldLink R_MC 156 R_MC "wants" "I" ∈ zT := zT_of_tables_1_3 150 (by decide +kernel) (by decide +kernel)
theorem zw_497 : Cond.methodLink R_MC 196 y_MC_wantNothing ∈ zT := zT_of_tables_1_4 99 (by decide +kernel) (by decide +kernel)
theorem zw_498 : Cond.code y_MC_wantNothing b_MC_wantNothing 1 none ∈ zT := zT_of_tables_1_4 102 rfl rfl
theorem zw_499 : Cond.instanceMethod y_MC_wantNothing ∈ zT := zT_of_tables_1_4 101 (by decide +kernel) (by decide +kernel)
theorem zw_500 : Cond.selects R_MC y_MC_wantNothing y_MC_wantNothing ∈ zT := zT_of_sels 34 rfl
theorem zw_501 : Cond.fieldLink R_MC 63 R_MC "want" "[I" ∈ zT := zT_of_tables_1_3 149 (by decide +kernel) (by decide +kernel)
theorem zw_502 : Cond.methodLink R_MC 159 y_MC_wantOne ∈ zT := zT_of_tables_1_4 119 (by decide +kernel) (by decide +kernel)
theorem zw_503 : Cond.code y_MC_wantOne b_MC_wantOne 2 none ∈ zT := zT_of_tables_1_4 122 rfl rfl
theorem zw_504 : Cond.instanceMethod y_MC_wantOne ∈ zT := zT_of_tables_1_4 121 (by decide +kernel) (by decide +kernel)
theorem zw_505 : Cond.selects R_MC y_MC_wantOne y_MC_wantOne ∈ zT := zT_of_sels 39 rfl
theorem zw_506 : Cond.methodLink R_MC 231 y_MC_wantParts ∈ zT := zT_of_tables_1_4 115 (by decide +kernel) (by decide +kernel)
theorem zw_507 : Cond.code y_MC_wantParts b_MC_wantParts 5 none ∈ zT := zT_of_tables_1_4 118 rfl rfl
theorem zw_508 : Cond.instanceMethod y_MC_wantParts ∈ zT := zT_of_tables_1_4 117 (by decide +kernel) (by decide +kernel)
theorem zw_509 : Cond.selects R_MC y_MC_wantParts y_MC_wantParts ∈ zT := zT_of_sels 38 rfl
theorem zw_510 : Cond.fieldLink R_MC 140 R_MC "taken" "I" ∈ zT := zT_of_tables_1_3 142 (by decide +kernel) (by decide +kernel)
theorem zw_511 : Cond.methodLink R_MC 153 y_MC_take ∈ zT := zT_of_tables_1_4 111 (by decide +kernel) (by decide +kernel)
theorem zw_512 : Cond.code y_MC_take b_MC_take 3 none ∈ zT := zT_of_tables_1_4 114 rfl rfl
theorem zw_513 : Cond.instanceMethod y_MC_take ∈ zT := zT_of_tables_1_4 113 (by decide +kernel) (by decide +kernel)
theorem zw_514 : Cond.selects R_MC y_MC_take y_MC_take ∈ zT := zT_of_sels 37 rfl
theorem zw_515 : Cond.methodLink R_MC 215 y_MC_takeWanted ∈ zT := zT_of_tables_1_4 123 (by decide +kernel) (by decide +kernel)
theorem zw_516 : Cond.code y_MC_takeWanted b_MC_takeWanted 2 none ∈ zT := zT_of_tables_1_4 126 rfl rfl
theorem zw_517 : Cond.instanceMethod y_MC_takeWanted ∈ zT := zT_of_tables_1_4 125 (by decide +kernel) (by decide +kernel)
theorem zw_518 : Cond.selects R_MC y_MC_takeWanted y_MC_takeWanted ∈ zT := zT_of_sels 40 rfl
theorem zw_519 : Cond.methodLink R_MC 169 y_MC_give ∈ zT := zT_of_tables_1_4 131 (by decide +kernel) (by decide +kernel)
theorem zw_520 : Cond.code y_MC_give b_MC_give 2 none ∈ zT := zT_of_tables_1_4 134 rfl rfl
theorem zw_521 : Cond.instanceMethod y_MC_give ∈ zT := zT_of_tables_1_4 133 (by decide +kernel) (by decide +kernel)
theorem zw_522 : Cond.selects R_MC y_MC_give y_MC_give ∈ zT := zT_of_sels 42 rfl
theorem zw_523 : Cond.methodLink R_MC 218 y_MC_giveWanted ∈ zT := zT_of_tables_1_4 127 (by decide +kernel) (by decide +kernel)
theorem zw_524 : Cond.code y_MC_giveWanted b_MC_giveWanted 2 none ∈ zT := zT_of_tables_1_4 130 rfl rfl
theorem zw_525 : Cond.instanceMethod y_MC_giveWanted ∈ zT := zT_of_tables_1_4 129 (by decide +kernel) (by decide +kernel)
theorem zw_526 : Cond.selects R_MC y_MC_giveWanted y_MC_giveWanted ∈ zT := zT_of_sels 41 rfl
theorem zw_527 : Cond.methodLink R_MC 228 y_MC_call ∈ zT := zT_of_tables_1_4 179 (by decide +kernel) (by decide +kernel)
theorem zw_528 : Cond.code y_MC_call b_MC_call 2 none ∈ zT := zT_of_tables_1_4 182 rfl rfl
theorem zw_529 : Cond.instanceMethod y_MC_call ∈ zT := zT_of_tables_1_4 181 (by decide +kernel) (by decide +kernel)
theorem zw_530 : Cond.selects R_MC y_MC_call y_MC_call ∈ zT := zT_of_sels 54 rfl
theorem zw_531 : Cond.fieldLink R_MC 51 R_MC "blockType" "[I" ∈ zT := zT_of_tables_1_3 138 (by decide +kernel) (by decide +kernel)
theorem zw_532 : Cond.methodLink R_MC 129 y_MC_countOf ∈ zT := zT_of_tables_1_4 147 (by decide +kernel) (by decide +kernel)
theorem zw_533 : Cond.code y_MC_countOf b_MC_countOf 4 (some (.int)) ∈ zT := zT_of_tables_1_4 150 rfl rfl
theorem zw_534 : Cond.instanceMethod y_MC_countOf ∈ zT := zT_of_tables_1_4 149 (by decide +kernel) (by decide +kernel)
theorem zw_535 : Cond.selects R_MC y_MC_countOf y_MC_countOf ∈ zT := zT_of_sels 46 rfl
theorem zw_536 : Cond.methodLink R_MC 133 y_MC_partOf ∈ zT := zT_of_tables_1_4 151 (by decide +kernel) (by decide +kernel)
theorem zw_537 : Cond.code y_MC_partOf b_MC_partOf 5 (some (.int)) ∈ zT := zT_of_tables_1_4 154 rfl rfl
theorem zw_538 : Cond.instanceMethod y_MC_partOf ∈ zT := zT_of_tables_1_4 153 (by decide +kernel) (by decide +kernel)
theorem zw_539 : Cond.selects R_MC y_MC_partOf y_MC_partOf ∈ zT := zT_of_sels 47 rfl
theorem zw_540 : Cond.methodLink R_MC 224 y_MC_wantBlock ∈ zT := zT_of_tables_1_4 143 (by decide +kernel) (by decide +kernel)
theorem zw_541 : Cond.code y_MC_wantBlock b_MC_wantBlock 4 none ∈ zT := zT_of_tables_1_4 146 rfl rfl
theorem zw_542 : Cond.instanceMethod y_MC_wantBlock ∈ zT := zT_of_tables_1_4 145 (by decide +kernel) (by decide +kernel)
theorem zw_543 : Cond.selects R_MC y_MC_wantBlock y_MC_wantBlock ∈ zT := zT_of_sels 45 rfl
theorem zw_544 : Cond.methodLink R_MC 199 y_MC_die ∈ zT := zT_of_tables_1_4 103 (by decide +kernel) (by decide +kernel)
theorem zw_545 : Cond.code y_MC_die b_MC_die 1 none ∈ zT := zT_of_tables_1_4 106 rfl rfl
theorem zw_546 : Cond.instanceMethod y_MC_die ∈ zT := zT_of_tables_1_4 105 (by decide +kernel) (by decide +kernel)
theorem zw_547 : Cond.selects R_MC y_MC_die y_MC_die ∈ zT := zT_of_sels 35 rfl
theorem zw_548 : Cond.methodLink R_MC 125 y_MC_blockOf ∈ zT := zT_of_tables_1_4 167 (by decide +kernel) (by decide +kernel)
theorem zw_549 : Cond.code y_MC_blockOf b_MC_blockOf 2 (some (.int)) ∈ zT := zT_of_tables_1_4 170 rfl rfl
theorem zw_550 : Cond.instanceMethod y_MC_blockOf ∈ zT := zT_of_tables_1_4 169 (by decide +kernel) (by decide +kernel)
theorem zw_551 : Cond.selects R_MC y_MC_blockOf y_MC_blockOf ∈ zT := zT_of_sels 51 rfl
theorem zw_552 : Cond.methodLink R_MC 162 y_MC_labelCount ∈ zT := zT_of_tables_1_4 163 (by decide +kernel) (by decide +kernel)
theorem zw_553 : Cond.code y_MC_labelCount b_MC_labelCount 2 (some (.int)) ∈ zT := zT_of_tables_1_4 166 rfl rfl
theorem zw_554 : Cond.instanceMethod y_MC_labelCount ∈ zT := zT_of_tables_1_4 165 (by decide +kernel) (by decide +kernel)
theorem zw_555 : Cond.selects R_MC y_MC_labelCount y_MC_labelCount ∈ zT := zT_of_sels 50 rfl
theorem zw_556 : Cond.methodLink R_MC 165 y_MC_labelPart ∈ zT := zT_of_tables_1_4 171 (by decide +kernel) (by decide +kernel)
theorem zw_557 : Cond.code y_MC_labelPart b_MC_labelPart 3 (some (.int)) ∈ zT := zT_of_tables_1_4 174 rfl rfl
theorem zw_558 : Cond.instanceMethod y_MC_labelPart ∈ zT := zT_of_tables_1_4 173 (by decide +kernel) (by decide +kernel)
theorem zw_559 : Cond.selects R_MC y_MC_labelPart y_MC_labelPart ∈ zT := zT_of_sels 52 rfl
theorem zw_560 : Cond.methodLink R_MC 212 y_MC_wantLabel ∈ zT := zT_of_tables_1_4 159 (by decide +kernel) (by decide +kernel)
theorem zw_561 : Cond.code y_MC_wantLabel b_MC_wantLabel 3 none ∈ zT := zT_of_tables_1_4 162 rfl rfl
theorem zw_562 : Cond.instanceMethod y_MC_wantLabel ∈ zT := zT_of_tables_1_4 161 (by decide +kernel) (by decide +kernel)
theorem zw_563 : Cond.selects R_MC y_MC_wantLabel y_MC_wantLabel ∈ zT := zT_of_sels 49 rfl
theorem zw_564 : Cond.fieldLink R_MC 66 R_MC "taking" "[I" ∈ zT := zT_of_tables_1_3 151 (by decide +kernel) (by decide +kernel)
theorem zw_565 : Cond.methodLink R_MC 221 y_MC_table ∈ zT := zT_of_tables_1_4 175 (by decide +kernel) (by decide +kernel)
theorem zw_566 : Cond.code y_MC_table b_MC_table 5 none ∈ zT := zT_of_tables_1_4 178 rfl rfl
theorem zw_567 : Cond.instanceMethod y_MC_table ∈ zT := zT_of_tables_1_4 177 (by decide +kernel) (by decide +kernel)
theorem zw_568 : Cond.selects R_MC y_MC_table y_MC_table ∈ zT := zT_of_sels 53 rfl
theorem zw_569 : Cond.methodLink R_MC 237 y_MC_close ∈ zT := zT_of_tables_1_4 139 (by decide +kernel) (by decide +kernel)
theorem zw_570 : Cond.code y_MC_close b_MC_close 1 none ∈ zT := zT_of_tables_1_4 142 rfl rfl
theorem zw_571 : Cond.instanceMethod y_MC_close ∈ zT := zT_of_tables_1_4 141 (by decide +kernel) (by decide +kernel)
theorem zw_572 : Cond.selects R_MC y_MC_close y_MC_close ∈ zT := zT_of_sels 44 rfl
theorem zw_573 : Cond.methodLink R_MC 209 y_MC_end ∈ zT := zT_of_tables_1_4 155 (by decide +kernel) (by decide +kernel)
theorem zw_574 : Cond.code y_MC_end b_MC_end 4 none ∈ zT := zT_of_tables_1_4 158 rfl rfl
theorem zw_575 : Cond.instanceMethod y_MC_end ∈ zT := zT_of_tables_1_4 157 (by decide +kernel) (by decide +kernel)
theorem zw_576 : Cond.selects R_MC y_MC_end y_MC_end ∈ zT := zT_of_sels 48 rfl
theorem zw_577 : Cond.methodLink R_MC 206 y_MC_choose ∈ zT := zT_of_tables_1_4 135 (by decide +kernel) (by decide +kernel)
theorem zw_578 : Cond.code y_MC_choose b_MC_choose 1 none ∈ zT := zT_of_tables_1_4 138 rfl rfl
theorem zw_579 : Cond.instanceMethod y_MC_choose ∈ zT := zT_of_tables_1_4 137 (by decide +kernel) (by decide +kernel)
theorem zw_580 : Cond.selects R_MC y_MC_choose y_MC_choose ∈ zT := zT_of_sels 43 rfl
theorem zw_581 : Cond.methodLink R_MC 202 y_MC_open ∈ zT := zT_of_tables_1_4 107 (by decide +kernel) (by decide +kernel)
theorem zw_582 : Cond.code y_MC_open b_MC_open 3 none ∈ zT := zT_of_tables_1_4 110 rfl rfl
theorem zw_583 : Cond.instanceMethod y_MC_open ∈ zT := zT_of_tables_1_4 109 (by decide +kernel) (by decide +kernel)
theorem zw_584 : Cond.selects R_MC y_MC_open y_MC_open ∈ zT := zT_of_sels 36 rfl
theorem zw_585 : Cond.methodLink R_MC 271 y_MC_control ∈ zT := zT_of_tables_1_4 95 (by decide +kernel) (by decide +kernel)
theorem zw_586 : Cond.code y_MC_control b_MC_control 4 none ∈ zT := zT_of_tables_1_4 98 rfl rfl
theorem zw_587 : Cond.instanceMethod y_MC_control ∈ zT := zT_of_tables_1_4 97 (by decide +kernel) (by decide +kernel)
theorem zw_588 : Cond.selects R_MC y_MC_control y_MC_control ∈ zT := zT_of_sels 33 rfl
theorem zw_589 : Cond.methodLink R_MC 252 y_MC_one ∈ zT := zT_of_tables_1_4 195 (by decide +kernel) (by decide +kernel)
theorem zw_590 : Cond.code y_MC_one b_MC_one 3 none ∈ zT := zT_of_tables_1_4 198 rfl rfl
theorem zw_591 : Cond.instanceMethod y_MC_one ∈ zT := zT_of_tables_1_4 197 (by decide +kernel) (by decide +kernel)
theorem zw_592 : Cond.selects R_MC y_MC_one y_MC_one ∈ zT := zT_of_sels 58 rfl
theorem zw_593 : Cond.methodLink R_MC 255 y_MC_takeTwo ∈ zT := zT_of_tables_1_4 199 (by decide +kernel) (by decide +kernel)
theorem zw_594 : Cond.code y_MC_takeTwo b_MC_takeTwo 3 none ∈ zT := zT_of_tables_1_4 202 rfl rfl
theorem zw_595 : Cond.instanceMethod y_MC_takeTwo ∈ zT := zT_of_tables_1_4 201 (by decide +kernel) (by decide +kernel)
theorem zw_596 : Cond.selects R_MC y_MC_takeTwo y_MC_takeTwo ∈ zT := zT_of_sels 59 rfl
theorem zw_597 : Cond.methodLink R_MC 249 y_MC_two ∈ zT := zT_of_tables_1_4 191 (by decide +kernel) (by decide +kernel)
theorem zw_598 : Cond.code y_MC_two b_MC_two 3 none ∈ zT := zT_of_tables_1_4 194 rfl rfl
theorem zw_599 : Cond.instanceMethod y_MC_two ∈ zT := zT_of_tables_1_4 193 (by decide +kernel) (by decide +kernel)
theorem zw_600 : Cond.selects R_MC y_MC_two y_MC_two ∈ zT := zT_of_sels 57 rfl
theorem zw_601 : Cond.methodLink R_MC 246 y_MC_choice ∈ zT := zT_of_tables_1_4 187 (by decide +kernel) (by decide +kernel)
theorem zw_602 : Cond.code y_MC_choice b_MC_choice 3 none ∈ zT := zT_of_tables_1_4 190 rfl rfl
theorem zw_603 : Cond.instanceMethod y_MC_choice ∈ zT := zT_of_tables_1_4 189 (by decide +kernel) (by decide +kernel)
theorem zw_604 : Cond.selects R_MC y_MC_choice y_MC_choice ∈ zT := zT_of_sels 56 rfl
theorem zw_605 : Cond.methodLink R_MC 275 y_MC_named ∈ zT := zT_of_tables_1_4 183 (by decide +kernel) (by decide +kernel)
theorem zw_606 : Cond.code y_MC_named b_MC_named 3 none ∈ zT := zT_of_tables_1_4 186 rfl rfl
theorem zw_607 : Cond.instanceMethod y_MC_named ∈ zT := zT_of_tables_1_4 185 (by decide +kernel) (by decide +kernel)
theorem zw_608 : Cond.selects R_MC y_MC_named y_MC_named ∈ zT := zT_of_sels 55 rfl
theorem zw_609 : Cond.methodLink R_MC 278 y_MC_memory ∈ zT := zT_of_tables_1_4 203 (by decide +kernel) (by decide +kernel)
theorem zw_610 : Cond.code y_MC_memory b_MC_memory 2 none ∈ zT := zT_of_tables_1_4 206 rfl rfl
theorem zw_611 : Cond.instanceMethod y_MC_memory ∈ zT := zT_of_tables_1_4 205 (by decide +kernel) (by decide +kernel)
theorem zw_612 : Cond.selects R_MC y_MC_memory y_MC_memory ∈ zT := zT_of_sels 60 rfl
theorem zw_613 : Cond.methodLink R_MC 268 y_MC_takeThree ∈ zT := zT_of_tables_1_4 225 (by decide +kernel) (by decide +kernel)
theorem zw_614 : Cond.code y_MC_takeThree b_MC_takeThree 1 none ∈ zT := zT_of_tables_1_4 228 rfl rfl
theorem zw_615 : Cond.instanceMethod y_MC_takeThree ∈ zT := zT_of_tables_1_4 227 (by decide +kernel) (by decide +kernel)
theorem zw_616 : Cond.selects R_MC y_MC_takeThree y_MC_takeThree ∈ zT := zT_of_sels 64 rfl
theorem zw_617 : Cond.methodLink R_MC 284 y_MC_other ∈ zT := zT_of_tables_1_4 221 (by decide +kernel) (by decide +kernel)
theorem zw_618 : Cond.code y_MC_other b_MC_other 3 none ∈ zT := zT_of_tables_1_4 224 rfl rfl
theorem zw_619 : Cond.instanceMethod y_MC_other ∈ zT := zT_of_tables_1_4 223 (by decide +kernel) (by decide +kernel)
theorem zw_620 : Cond.selects R_MC y_MC_other y_MC_other ∈ zT := zT_of_sels 63 rfl
theorem zw_621 : Cond.methodLink R_MC 258 y_MC_calculate ∈ zT := zT_of_tables_1_4 211 (by decide +kernel) (by decide +kernel)
theorem zw_622 : Cond.code y_MC_calculate b_MC_calculate 3 none ∈ zT := zT_of_tables_1_4 214 rfl rfl
theorem zw_623 : Cond.instanceMethod y_MC_calculate ∈ zT := zT_of_tables_1_4 213 (by decide +kernel) (by decide +kernel)
theorem zw_624 : Cond.selects R_MC y_MC_calculate y_MC_calculate ∈ zT := zT_of_sels 62 rfl
theorem zw_625 : Cond.methodLink R_MC 262 y_MC_from ∈ zT := zT_of_tables_1_4 215 (by decide +kernel) (by decide +kernel)
theorem zw_626 : Cond.code y_MC_from b_MC_from 1 (some (.int)) ∈ zT := zT_of_tables_1_4 217 rfl rfl
theorem zw_627 : Cond.static y_MC_from ∈ zT := zT_of_tables_1_4 216 (by decide +kernel) (by decide +kernel)
theorem zw_628 : Cond.methodLink R_MC 265 y_MC_to ∈ zT := zT_of_tables_1_4 218 (by decide +kernel) (by decide +kernel)
theorem zw_629 : Cond.code y_MC_to b_MC_to 1 (some (.int)) ∈ zT := zT_of_tables_1_4 220 rfl rfl
theorem zw_630 : Cond.static y_MC_to ∈ zT := zT_of_tables_1_4 219 (by decide +kernel) (by decide +kernel)
theorem zw_631 : Cond.methodLink R_MC 281 y_MC_number ∈ zT := zT_of_tables_1_4 207 (by decide +kernel) (by decide +kernel)
theorem zw_632 : Cond.code y_MC_number b_MC_number 2 none ∈ zT := zT_of_tables_1_4 210 rfl rfl
theorem zw_633 : Cond.instanceMethod y_MC_number ∈ zT := zT_of_tables_1_4 209 (by decide +kernel) (by decide +kernel)
theorem zw_634 : Cond.selects R_MC y_MC_number y_MC_number ∈ zT := zT_of_sels 61 rfl
theorem zw_635 : Cond.methodLink R_MC 303 y_MC_perform ∈ zT := zT_of_tables_1_4 91 (by decide +kernel) (by decide +kernel)
theorem zw_636 : Cond.code y_MC_perform b_MC_perform 4 none ∈ zT := zT_of_tables_1_4 94 rfl rfl
theorem zw_637 : Cond.instanceMethod y_MC_perform ∈ zT := zT_of_tables_1_4 93 (by decide +kernel) (by decide +kernel)
theorem zw_638 : Cond.selects R_MC y_MC_perform y_MC_perform ∈ zT := zT_of_sels 32 rfl
theorem zw_639 : Cond.constantLong R_MC 306 (-1) ∈ zT := zT_of_tables_1_4 237 (by decide +kernel) (by decide +kernel)
theorem zw_640 : Cond.methodLink R_CRows 3 Lib.objectInit ∈ zT := zT_of_tables_1_1 28 (by decide +kernel) (by decide +kernel)
theorem zw_641 : Cond.instanceMethod Lib.objectInit ∈ zT := zT_of_tables_1_1 15 (by decide +kernel) (by decide +kernel)
theorem zw_642 : Cond.code Lib.objectInit ⟨#[0xb1]⟩ 1 none ∈ zT := zT_of_tables_1_1 16 rfl rfl
theorem zw_643 : Cond.arrayClass .int ∈ zT := zT_of_tables_1_1 39 (by decide +kernel) (by decide +kernel)
theorem zw_644 : Cond.methodLink R_CShelf 3 Lib.objectInit ∈ zT := zT_of_tables_1_1 45 (by decide +kernel) (by decide +kernel)
theorem zw_645 : Cond.arrayClass .boolean ∈ zT := zT_of_tables_1_1 56 (by decide +kernel) (by decide +kernel)
theorem zw_646 : Cond.methodLink R_CThings 3 Lib.objectInit ∈ zT := zT_of_tables_1_1 22 (by decide +kernel) (by decide +kernel)
theorem zw_647 : Cond.classLink R_CThings 9 R_CRows ∈ zT := zT_of_tables_1_1 23 (by decide +kernel) (by decide +kernel)
theorem zw_648 : Cond.instantiable R_CRows 3 ∈ zT := zT_of_tables_1_1 24 (by decide +kernel) (by decide +kernel)
theorem zw_649 : Cond.methodLink R_CThings 11 y_CRows_init ∈ zT := zT_of_tables_1_1 25 (by decide +kernel) (by decide +kernel)
theorem zw_650 : Cond.code y_CRows_init b_CRows_init 2 none ∈ zT := zT_of_tables_1_1 27 rfl rfl
theorem zw_651 : Cond.instanceMethod y_CRows_init ∈ zT := zT_of_tables_1_1 26 (by decide +kernel) (by decide +kernel)
theorem zw_652 : Cond.classLink R_CThings 23 R_CShelf ∈ zT := zT_of_tables_1_1 40 (by decide +kernel) (by decide +kernel)
theorem zw_653 : Cond.instantiable R_CShelf 3 ∈ zT := zT_of_tables_1_1 41 (by decide +kernel) (by decide +kernel)
theorem zw_654 : Cond.methodLinkNest R_CThings 25 y_CShelf_init R_CC ∈ zN := zN_of_tables_1_1 42 (by decide +kernel) (by decide +kernel)
theorem zw_655 : Cond.code y_CShelf_init b_CShelf_init 1 none ∈ zT := zT_of_tables_1_1 44 rfl rfl
theorem zw_656 : Cond.instanceMethod y_CShelf_init ∈ zT := zT_of_tables_1_1 43 (by decide +kernel) (by decide +kernel)
theorem zw_657 : Cond.methodLink R_CLocals 3 Lib.objectInit ∈ zT := zT_of_tables_1_1 106 (by decide +kernel) (by decide +kernel)
theorem zw_658 : Cond.arrayClass .long ∈ zT := zT_of_tables_1_1 121 (by decide +kernel) (by decide +kernel)
theorem zw_659 : Cond.methodLink R_CStack 3 Lib.objectInit ∈ zT := zT_of_tables_1_1 127 (by decide +kernel) (by decide +kernel)
theorem zw_660 : Cond.methodLink R_CCode 3 Lib.objectInit ∈ zT := zT_of_tables_1_1 100 (by decide +kernel) (by decide +kernel)
theorem zw_661 : Cond.classLink R_CCode 9 R_CLocals ∈ zT := zT_of_tables_1_1 101 (by decide +kernel) (by decide +kernel)
theorem zw_662 : Cond.instantiable R_CLocals 4 ∈ zT := zT_of_tables_1_1 102 (by decide +kernel) (by decide +kernel)
theorem zw_663 : Cond.methodLinkNest R_CCode 11 y_CLocals_init R_CC ∈ zN := zN_of_tables_1_1 103 (by decide +kernel) (by decide +kernel)
theorem zw_664 : Cond.code y_CLocals_init b_CLocals_init 1 none ∈ zT := zT_of_tables_1_1 105 rfl rfl
theorem zw_665 : Cond.instanceMethod y_CLocals_init ∈ zT := zT_of_tables_1_1 104 (by decide +kernel) (by decide +kernel)
theorem zw_666 : Cond.classLink R_CCode 30 R_CStack ∈ zT := zT_of_tables_1_1 122 (by decide +kernel) (by decide +kernel)
theorem zw_667 : Cond.instantiable R_CStack 10 ∈ zT := zT_of_tables_1_1 123 (by decide +kernel) (by decide +kernel)
theorem zw_668 : Cond.methodLink R_CCode 32 y_CStack_init ∈ zT := zT_of_tables_1_1 124 (by decide +kernel) (by decide +kernel)
theorem zw_669 : Cond.code y_CStack_init b_CStack_init 2 none ∈ zT := zT_of_tables_1_1 126 rfl rfl
theorem zw_670 : Cond.instanceMethod y_CStack_init ∈ zT := zT_of_tables_1_1 125 (by decide +kernel) (by decide +kernel)
theorem zw_671 : Cond.methodLink R_CC 1 Lib.objectInit ∈ zT := zT_of_tables_1_1 14 (by decide +kernel) (by decide +kernel)
theorem zw_672 : Cond.classLink R_CC 7 R_CThings ∈ zT := zT_of_tables_1_1 17 (by decide +kernel) (by decide +kernel)
theorem zw_673 : Cond.instantiable R_CThings 9 ∈ zT := zT_of_tables_1_1 18 (by decide +kernel) (by decide +kernel)
theorem zw_674 : Cond.methodLinkNest R_CC 9 y_CThings_init R_CC ∈ zN := zN_of_tables_1_1 19 (by decide +kernel) (by decide +kernel)
theorem zw_675 : Cond.code y_CThings_init b_CThings_init 1 none ∈ zT := zT_of_tables_1_1 21 rfl rfl
theorem zw_676 : Cond.instanceMethod y_CThings_init ∈ zT := zT_of_tables_1_1 20 (by decide +kernel) (by decide +kernel)
theorem zw_677 : Cond.classLink R_CC 16 R_CCode ∈ zT := zT_of_tables_1_1 95 (by decide +kernel) (by decide +kernel)
theorem zw_678 : Cond.instantiable R_CCode 10 ∈ zT := zT_of_tables_1_1 96 (by decide +kernel) (by decide +kernel)
theorem zw_679 : Cond.methodLink R_CC 18 y_CCode_init ∈ zT := zT_of_tables_1_1 97 (by decide +kernel) (by decide +kernel)
theorem zw_680 : Cond.code y_CCode_init b_CCode_init 2 none ∈ zT := zT_of_tables_1_1 99 rfl rfl
theorem zw_681 : Cond.instanceMethod y_CCode_init ∈ zT := zT_of_tables_1_1 98 (by decide +kernel) (by decide +kernel)
theorem zw_682 : Cond.methodLink R_MC 1 Lib.objectInit ∈ zT := zT_of_tables_1_3 112 (by decide +kernel) (by decide +kernel)
theorem zw_683 : Cond.laysStatic R_CC "INSTRUCTIONS" "[I" ∈ lw_tbl := zL_of_tables_1_2 110 (by decide +kernel)
theorem zw_684 : Cond.laysStatic R_CC "MOVED_BYTES" "[I" ∈ lw_tbl := zL_of_tables_1_2 152 (by decide +kernel)
theorem zw_685 : Cond.laysStatic R_CC "PLAIN" "[I" ∈ lw_tbl := zL_of_tables_1_2 165 (by decide +kernel)
theorem zw_686 : Cond.laysStatic R_CC "MOVED_TYPE" "[I" ∈ lw_tbl := zL_of_tables_1_3 66 (by decide +kernel)
theorem zw_687 : Cond.instantiable R_CC 2 ∈ zT := zT_of_tables_1_1 10 (by decide +kernel) (by decide +kernel)
theorem zw_688 : Cond.instantiable R_MC 39 ∈ zT := zT_of_tables_1_3 108 (by decide +kernel) (by decide +kernel)
theorem zw_689 : Cond.classLink R_law 7 R_CC ∈ zT := zT_of_tables_1_1 9 (by decide +kernel) (by decide +kernel)
theorem zw_690 : Cond.methodLink R_law 9 y_CC_init ∈ zT := zT_of_tables_1_1 11 (by decide +kernel) (by decide +kernel)
theorem zw_691 : Cond.code y_CC_init b_CC_init 2 none ∈ zT := zT_of_tables_1_1 13 rfl rfl
theorem zw_692 : Cond.instanceMethod y_CC_init ∈ zT := zT_of_tables_1_1 12 (by decide +kernel) (by decide +kernel)
theorem zw_693 : Cond.classLink R_law 10 R_MC ∈ zT := zT_of_tables_1_3 107 (by decide +kernel) (by decide +kernel)
theorem zw_694 : Cond.methodLink R_law 12 y_MC_init ∈ zT := zT_of_tables_1_3 109 (by decide +kernel) (by decide +kernel)
theorem zw_695 : Cond.code y_MC_init b_MC_init 1 none ∈ zT := zT_of_tables_1_3 111 rfl rfl
theorem zw_696 : Cond.instanceMethod y_MC_init ∈ zT := zT_of_tables_1_3 110 (by decide +kernel) (by decide +kernel)
theorem zw_697 : Cond.methodLink R_law 13 y_CC_type ∈ zT := zT_of_tables_1_1 202 (by decide +kernel) (by decide +kernel)
theorem zw_698 : Cond.code y_CC_type b_CC_type 1 (some (.int)) ∈ zT := zT_of_tables_1_1 205 rfl rfl
theorem zw_699 : Cond.instanceMethod y_CC_type ∈ zT := zT_of_tables_1_1 203 (by decide +kernel) (by decide +kernel)
theorem zw_700 : Cond.selects R_CC y_CC_type y_CC_type ∈ zT := zT_of_tables_1_1 204 (by decide +kernel) (by decide +kernel)
theorem zw_701 : Cond.methodLink R_law 17 y_MC_type ∈ zT := zT_of_tables_1_3 231 (by decide +kernel) (by decide +kernel)
theorem zw_702 : Cond.code y_MC_type b_MC_type 1 (some (.int)) ∈ zT := zT_of_tables_1_3 234 rfl rfl
theorem zw_703 : Cond.instanceMethod y_MC_type ∈ zT := zT_of_tables_1_3 232 (by decide +kernel) (by decide +kernel)
theorem zw_704 : Cond.selects R_MC y_MC_type y_MC_type ∈ zT := zT_of_tables_1_3 233 (by decide +kernel) (by decide +kernel)
theorem zw_705 : Cond.methodLink R_law 18 y_CC_part ∈ zT := zT_of_tables_1_1 210 (by decide +kernel) (by decide +kernel)
theorem zw_706 : Cond.code y_CC_part b_CC_part 3 (some (.int)) ∈ zT := zT_of_tables_1_1 213 rfl rfl
theorem zw_707 : Cond.instanceMethod y_CC_part ∈ zT := zT_of_tables_1_1 211 (by decide +kernel) (by decide +kernel)
theorem zw_708 : Cond.selects R_CC y_CC_part y_CC_part ∈ zT := zT_of_tables_1_1 212 (by decide +kernel) (by decide +kernel)
theorem zw_709 : Cond.methodLink R_law 22 y_MC_part ∈ zT := zT_of_tables_1_3 235 (by decide +kernel) (by decide +kernel)
theorem zw_710 : Cond.code y_MC_part b_MC_part 5 (some (.int)) ∈ zT := zT_of_tables_1_3 238 rfl rfl
theorem zw_711 : Cond.instanceMethod y_MC_part ∈ zT := zT_of_tables_1_3 236 (by decide +kernel) (by decide +kernel)
theorem zw_712 : Cond.selects R_MC y_MC_part y_MC_part ∈ zT := zT_of_tables_1_3 237 (by decide +kernel) (by decide +kernel)
theorem zw_713 : Cond.methodLink R_law 23 y_CC_add ∈ zT := zT_of_tables_1_1 236 (by decide +kernel) (by decide +kernel)
theorem zw_714 : Cond.code y_CC_add b_CC_add 4 (some (.int)) ∈ zT := zT_of_tables_1_1 239 rfl rfl
theorem zw_715 : Cond.instanceMethod y_CC_add ∈ zT := zT_of_tables_1_1 237 (by decide +kernel) (by decide +kernel)
theorem zw_716 : Cond.selects R_CC y_CC_add y_CC_add ∈ zT := zT_of_tables_1_1 238 (by decide +kernel) (by decide +kernel)
theorem zw_717 : Cond.methodLink R_law 27 y_MC_add ∈ zT := zT_of_tables_1_4 5 (by decide +kernel) (by decide +kernel)
theorem zw_718 : Cond.code y_MC_add b_MC_add 5 (some (.int)) ∈ zT := zT_of_tables_1_4 8 rfl rfl
theorem zw_719 : Cond.instanceMethod y_MC_add ∈ zT := zT_of_tables_1_4 6 (by decide +kernel) (by decide +kernel)
theorem zw_720 : Cond.selects R_MC y_MC_add y_MC_add ∈ zT := zT_of_tables_1_4 7 (by decide +kernel) (by decide +kernel)
theorem zw_721 : Cond.methodLink R_law 28 y_CC_declare ∈ zT := zT_of_tables_1_2 14 (by decide +kernel) (by decide +kernel)
theorem zw_722 : Cond.code y_CC_declare b_CC_declare 2 (some (.boolean)) ∈ zT := zT_of_tables_1_2 17 rfl rfl
theorem zw_723 : Cond.instanceMethod y_CC_declare ∈ zT := zT_of_tables_1_2 15 (by decide +kernel) (by decide +kernel)
theorem zw_724 : Cond.selects R_CC y_CC_declare y_CC_declare ∈ zT := zT_of_tables_1_2 16 (by decide +kernel) (by decide +kernel)
theorem zw_725 : Cond.methodLink R_law 32 y_MC_declare ∈ zT := zT_of_tables_1_4 9 (by decide +kernel) (by decide +kernel)
theorem zw_726 : Cond.code y_MC_declare b_MC_declare 2 (some (.boolean)) ∈ zT := zT_of_tables_1_4 12 rfl rfl
theorem zw_727 : Cond.instanceMethod y_MC_declare ∈ zT := zT_of_tables_1_4 10 (by decide +kernel) (by decide +kernel)
theorem zw_728 : Cond.selects R_MC y_MC_declare y_MC_declare ∈ zT := zT_of_tables_1_4 11 (by decide +kernel) (by decide +kernel)
theorem zw_729 : Cond.methodLink R_law 33 y_CC_begin ∈ zT := zT_of_tables_1_2 26 (by decide +kernel) (by decide +kernel)
theorem zw_730 : Cond.code y_CC_begin b_CC_begin 2 (some (.boolean)) ∈ zT := zT_of_tables_1_2 29 rfl rfl
theorem zw_731 : Cond.instanceMethod y_CC_begin ∈ zT := zT_of_tables_1_2 27 (by decide +kernel) (by decide +kernel)
theorem zw_732 : Cond.selects R_CC y_CC_begin y_CC_begin ∈ zT := zT_of_tables_1_2 28 (by decide +kernel) (by decide +kernel)
theorem zw_733 : Cond.methodLink R_law 36 y_MC_begin ∈ zT := zT_of_tables_1_4 13 (by decide +kernel) (by decide +kernel)
theorem zw_734 : Cond.code y_MC_begin b_MC_begin 3 (some (.boolean)) ∈ zT := zT_of_tables_1_4 16 rfl rfl
theorem zw_735 : Cond.instanceMethod y_MC_begin ∈ zT := zT_of_tables_1_4 14 (by decide +kernel) (by decide +kernel)
theorem zw_736 : Cond.selects R_MC y_MC_begin y_MC_begin ∈ zT := zT_of_tables_1_4 15 (by decide +kernel) (by decide +kernel)
theorem zw_737 : Cond.methodLink R_law 37 y_CC_constant ∈ zT := zT_of_tables_1_2 60 (by decide +kernel) (by decide +kernel)
theorem zw_738 : Cond.code y_CC_constant b_CC_constant 3 (some (.boolean)) ∈ zT := zT_of_tables_1_2 63 rfl rfl
theorem zw_739 : Cond.instanceMethod y_CC_constant ∈ zT := zT_of_tables_1_2 61 (by decide +kernel) (by decide +kernel)
theorem zw_740 : Cond.selects R_CC y_CC_constant y_CC_constant ∈ zT := zT_of_tables_1_2 62 (by decide +kernel) (by decide +kernel)
theorem zw_741 : Cond.methodLink R_law 41 y_MC_constant ∈ zT := zT_of_tables_1_4 25 (by decide +kernel) (by decide +kernel)
theorem zw_742 : Cond.code y_MC_constant b_MC_constant 3 (some (.boolean)) ∈ zT := zT_of_tables_1_4 28 rfl rfl
theorem zw_743 : Cond.instanceMethod y_MC_constant ∈ zT := zT_of_tables_1_4 26 (by decide +kernel) (by decide +kernel)
theorem zw_744 : Cond.selects R_MC y_MC_constant y_MC_constant ∈ zT := zT_of_tables_1_4 27 (by decide +kernel) (by decide +kernel)
theorem zw_745 : Cond.methodLink R_law 42 y_CC_local ∈ zT := zT_of_tables_1_2 68 (by decide +kernel) (by decide +kernel)
theorem zw_746 : Cond.code y_CC_local b_CC_local 3 (some (.boolean)) ∈ zT := zT_of_tables_1_2 71 rfl rfl
theorem zw_747 : Cond.instanceMethod y_CC_local ∈ zT := zT_of_tables_1_2 69 (by decide +kernel) (by decide +kernel)
theorem zw_748 : Cond.selects R_CC y_CC_local y_CC_local ∈ zT := zT_of_tables_1_2 70 (by decide +kernel) (by decide +kernel)
theorem zw_749 : Cond.methodLink R_law 45 y_MC_local ∈ zT := zT_of_tables_1_4 29 (by decide +kernel) (by decide +kernel)
theorem zw_750 : Cond.code y_MC_local b_MC_local 3 (some (.boolean)) ∈ zT := zT_of_tables_1_4 32 rfl rfl
theorem zw_751 : Cond.instanceMethod y_MC_local ∈ zT := zT_of_tables_1_4 30 (by decide +kernel) (by decide +kernel)
theorem zw_752 : Cond.selects R_MC y_MC_local y_MC_local ∈ zT := zT_of_tables_1_4 31 (by decide +kernel) (by decide +kernel)
theorem zw_753 : Cond.methodLink R_law 46 y_CC_label ∈ zT := zT_of_tables_1_2 82 (by decide +kernel) (by decide +kernel)
theorem zw_754 : Cond.code y_CC_label b_CC_label 2 (some (.int)) ∈ zT := zT_of_tables_1_2 85 rfl rfl
theorem zw_755 : Cond.instanceMethod y_CC_label ∈ zT := zT_of_tables_1_2 83 (by decide +kernel) (by decide +kernel)
theorem zw_756 : Cond.selects R_CC y_CC_label y_CC_label ∈ zT := zT_of_tables_1_2 84 (by decide +kernel) (by decide +kernel)
theorem zw_757 : Cond.methodLink R_law 50 y_MC_label ∈ zT := zT_of_tables_1_4 34 (by decide +kernel) (by decide +kernel)
theorem zw_758 : Cond.code y_MC_label b_MC_label 2 (some (.int)) ∈ zT := zT_of_tables_1_4 37 rfl rfl
theorem zw_759 : Cond.instanceMethod y_MC_label ∈ zT := zT_of_tables_1_4 35 (by decide +kernel) (by decide +kernel)
theorem zw_760 : Cond.selects R_MC y_MC_label y_MC_label ∈ zT := zT_of_tables_1_4 36 (by decide +kernel) (by decide +kernel)
theorem zw_761 : Cond.methodLink R_law 51 y_CC_step ∈ zT := zT_of_tables_1_2 90 (by decide +kernel) (by decide +kernel)
theorem zw_762 : Cond.code y_CC_step b_CC_step 5 (some (.int)) ∈ zT := zT_of_tables_1_2 93 rfl rfl
theorem zw_763 : Cond.instanceMethod y_CC_step ∈ zT := zT_of_tables_1_2 91 (by decide +kernel) (by decide +kernel)
theorem zw_764 : Cond.selects R_CC y_CC_step y_CC_step ∈ zT := zT_of_tables_1_2 92 (by decide +kernel) (by decide +kernel)
theorem zw_765 : Cond.methodLink R_law 54 y_MC_step ∈ zT := zT_of_tables_1_4 38 (by decide +kernel) (by decide +kernel)
theorem zw_766 : Cond.code y_MC_step b_MC_step 5 (some (.int)) ∈ zT := zT_of_tables_1_4 41 rfl rfl
theorem zw_767 : Cond.instanceMethod y_MC_step ∈ zT := zT_of_tables_1_4 39 (by decide +kernel) (by decide +kernel)
theorem zw_768 : Cond.selects R_MC y_MC_step y_MC_step ∈ zT := zT_of_tables_1_4 40 (by decide +kernel) (by decide +kernel)
theorem zw_769 : Cond.methodLink R_law 55 y_CC_state ∈ zT := zT_of_tables_1_3 79 (by decide +kernel) (by decide +kernel)
theorem zw_770 : Cond.code y_CC_state b_CC_state 1 (some (.int)) ∈ zT := zT_of_tables_1_3 82 rfl rfl
theorem zw_771 : Cond.instanceMethod y_CC_state ∈ zT := zT_of_tables_1_3 80 (by decide +kernel) (by decide +kernel)
theorem zw_772 : Cond.selects R_CC y_CC_state y_CC_state ∈ zT := zT_of_tables_1_3 81 (by decide +kernel) (by decide +kernel)
theorem zw_773 : Cond.methodLink R_law 58 y_MC_state ∈ zT := zT_of_tables_1_4 229 (by decide +kernel) (by decide +kernel)
theorem zw_774 : Cond.code y_MC_state b_MC_state 1 (some (.int)) ∈ zT := zT_of_tables_1_4 232 rfl rfl
theorem zw_775 : Cond.instanceMethod y_MC_state ∈ zT := zT_of_tables_1_4 230 (by decide +kernel) (by decide +kernel)
theorem zw_776 : Cond.selects R_MC y_MC_state y_MC_state ∈ zT := zT_of_tables_1_4 231 (by decide +kernel) (by decide +kernel)
theorem zw_777 : Cond.methodLink R_law 59 y_CC_look ∈ zT := zT_of_tables_1_3 83 (by decide +kernel) (by decide +kernel)
theorem zw_778 : Cond.code y_CC_look b_CC_look 2 (some (.long)) ∈ zT := zT_of_tables_1_3 86 rfl rfl
theorem zw_779 : Cond.instanceMethod y_CC_look ∈ zT := zT_of_tables_1_3 84 (by decide +kernel) (by decide +kernel)
theorem zw_780 : Cond.selects R_CC y_CC_look y_CC_look ∈ zT := zT_of_tables_1_3 85 (by decide +kernel) (by decide +kernel)
theorem zw_781 : Cond.methodLink R_law 63 y_MC_look ∈ zT := zT_of_tables_1_4 233 (by decide +kernel) (by decide +kernel)
theorem zw_782 : Cond.code y_MC_look b_MC_look 6 (some (.long)) ∈ zT := zT_of_tables_1_4 236 rfl rfl
theorem zw_783 : Cond.instanceMethod y_MC_look ∈ zT := zT_of_tables_1_4 234 (by decide +kernel) (by decide +kernel)
theorem zw_784 : Cond.selects R_MC y_MC_look y_MC_look ∈ zT := zT_of_tables_1_4 235 (by decide +kernel) (by decide +kernel)
theorem zw_785 : Cond.methodLink R_law 64 y_CC_operand ∈ zT := zT_of_tables_1_3 99 (by decide +kernel) (by decide +kernel)
theorem zw_786 : Cond.code y_CC_operand b_CC_operand 2 (some (.int)) ∈ zT := zT_of_tables_1_3 102 rfl rfl
theorem zw_787 : Cond.instanceMethod y_CC_operand ∈ zT := zT_of_tables_1_3 100 (by decide +kernel) (by decide +kernel)
theorem zw_788 : Cond.selects R_CC y_CC_operand y_CC_operand ∈ zT := zT_of_tables_1_3 101 (by decide +kernel) (by decide +kernel)
theorem zw_789 : Cond.methodLink R_law 67 y_MC_operand ∈ zT := zT_of_tables_1_4 238 (by decide +kernel) (by decide +kernel)
theorem zw_790 : Cond.code y_MC_operand b_MC_operand 2 (some (.int)) ∈ zT := zT_of_tables_1_5 1 rfl rfl
theorem zw_791 : Cond.instanceMethod y_MC_operand ∈ zT := zT_of_tables_1_4 239 (by decide +kernel) (by decide +kernel)
theorem zw_792 : Cond.selects R_MC y_MC_operand y_MC_operand ∈ zT := zT_of_tables_1_5 0 (by decide +kernel) (by decide +kernel)
end
section
theorem d_CC_type_0 : decode b_CC_type 0 = .ok (.aload_n 0, 1) := by decide +kernel
theorem d_CC_type_1 : decode b_CC_type 1 = .ok (.getfield 10, 3) := by decide +kernel
theorem d_CC_type_4 : decode b_CC_type 4 = .ok (.invokevirtual 25, 3) := by decide +kernel
theorem d_CC_type_7 : decode b_CC_type 7 = .ok (.ireturn, 1) := by decide +kernel
theorem d_CThings_makeType_0 : decode b_CThings_makeType 0 = .ok (.aload_n 0, 1) := by decide +kernel
theorem d_CThings_makeType_1 : decode b_CThings_makeType 1 = .ok (.getfield 45, 3) := by decide +kernel
theorem d_CThings_makeType_4 : decode b_CThings_makeType 4 = .ok (.bipush 40, 2) := by decide +kernel
theorem d_CThings_makeType_6 : decode b_CThings_makeType 6 = .ok (.if_icmp .lt 5, 3) := by decide +kernel
theorem d_CThings_makeType_9 : decode b_CThings_makeType 9 = .ok (.iconst (-1), 1) := by decide +kernel
theorem d_CThings_makeType_10 : decode b_CThings_makeType 10 = .ok (.ireturn, 1) := by decide +kernel
theorem d_CThings_makeType_11 : decode b_CThings_makeType 11 = .ok (.aload_n 0, 1) := by decide +kernel
theorem d_CThings_makeType_12 : decode b_CThings_makeType 12 = .ok (.dup, 1) := by decide +kernel
theorem d_CThings_makeType_13 : decode b_CThings_makeType 13 = .ok (.getfield 45, 3) := by decide +kernel
theorem d_CThings_makeType_16 : decode b_CThings_makeType 16 = .ok (.iconst 1, 1) := by decide +kernel
theorem d_CThings_makeType_17 : decode b_CThings_makeType 17 = .ok (.iadd, 1) := by decide +kernel
theorem d_CThings_makeType_18 : decode b_CThings_makeType 18 = .ok (.putfield 45, 3) := by decide +kernel
theorem d_CThings_makeType_21 : decode b_CThings_makeType 21 = .ok (.aload_n 0, 1) := by decide +kernel
theorem d_CThings_makeType_22 : decode b_CThings_makeType 22 = .ok (.getfield 45, 3) := by decide +kernel
theorem d_CThings_makeType_25 : decode b_CThings_makeType 25 = .ok (.iconst 1, 1) := by decide +kernel
theorem d_CThings_makeType_26 : decode b_CThings_makeType 26 = .ok (.isub, 1) := by decide +kernel
theorem d_CThings_makeType_27 : decode b_CThings_makeType 27 = .ok (.ireturn, 1) := by decide +kernel
theorem d_CC_part_0 : decode b_CC_part 0 = .ok (.aload_n 0, 1) := by decide +kernel
theorem d_CC_part_1 : decode b_CC_part 1 = .ok (.getfield 21, 3) := by decide +kernel
theorem d_CC_part_4 : decode b_CC_part 4 = .ok (.invokevirtual 29, 3) := by decide +kernel
theorem d_CC_part_7 : decode b_CC_part 7 = .ok (.ifCond .ne 10, 3) := by decide +kernel
theorem d_CC_part_10 : decode b_CC_part 10 = .ok (.iload_n 2, 1) := by decide +kernel
theorem d_CC_part_11 : decode b_CC_part 11 = .ok (.invokestatic 33, 3) := by decide +kernel
theorem d_CC_part_14 : decode b_CC_part 14 = .ok (.ifCond .ne 5, 3) := by decide +kernel
theorem d_CC_part_17 : decode b_CC_part 17 = .ok (.iconst (-1), 1) := by decide +kernel
theorem d_CC_part_18 : decode b_CC_part 18 = .ok (.ireturn, 1) := by decide +kernel
theorem d_CC_part_19 : decode b_CC_part 19 = .ok (.aload_n 0, 1) := by decide +kernel
theorem d_CC_part_20 : decode b_CC_part 20 = .ok (.getfield 10, 3) := by decide +kernel
theorem d_CC_part_23 : decode b_CC_part 23 = .ok (.iload_n 1, 1) := by decide +kernel
theorem d_CC_part_24 : decode b_CC_part 24 = .ok (.iload_n 2, 1) := by decide +kernel
theorem d_CC_part_25 : decode b_CC_part 25 = .ok (.invokevirtual 37, 3) := by decide +kernel
theorem d_CC_part_28 : decode b_CC_part 28 = .ok (.ireturn, 1) := by decide +kernel
theorem d_CCode_isOpen_0 : decode b_CCode_isOpen 0 = .ok (.aload_n 0, 1) := by decide +kernel
theorem d_CCode_isOpen_1 : decode b_CCode_isOpen 1 = .ok (.getfield 22, 3) := by decide +kernel
theorem d_CCode_isOpen_4 : decode b_CCode_isOpen 4 = .ok (.iconst 1, 1) := by decide +kernel
theorem d_CCode_isOpen_5 : decode b_CCode_isOpen 5 = .ok (.if_icmp .ne 7, 3) := by decide +kernel
theorem d_CCode_isOpen_8 : decode b_CCode_isOpen 8 = .ok (.iconst 1, 1) := by decide +kernel
theorem d_CCode_isOpen_9 : decode b_CCode_isOpen 9 = .ok (.goto 4, 3) := by decide +kernel
theorem d_CCode_isOpen_12 : decode b_CCode_isOpen 12 = .ok (.iconst 0, 1) := by decide +kernel
theorem d_CCode_isOpen_13 : decode b_CCode_isOpen 13 = .ok (.ireturn, 1) := by decide +kernel
theorem d_CC_isValueType_0 : decode b_CC_isValueType 0 = .ok (.iload_n 0, 1) := by decide +kernel
theorem d_CC_isValueType_1 : decode b_CC_isValueType 1 = .ok (.bipush 127, 2) := by decide +kernel
theorem d_CC_isValueType_3 : decode b_CC_isValueType 3 = .ok (.if_icmp .eq 28, 3) := by decide +kernel
theorem d_CC_isValueType_6 : decode b_CC_isValueType 6 = .ok (.iload_n 0, 1) := by decide +kernel
theorem d_CC_isValueType_7 : decode b_CC_isValueType 7 = .ok (.bipush 126, 2) := by decide +kernel
theorem d_CC_isValueType_9 : decode b_CC_isValueType 9 = .ok (.if_icmp .eq 22, 3) := by decide +kernel
theorem d_CC_isValueType_12 : decode b_CC_isValueType 12 = .ok (.iload_n 0, 1) := by decide +kernel
theorem d_CC_isValueType_13 : decode b_CC_isValueType 13 = .ok (.bipush 125, 2) := by decide +kernel
theorem d_CC_isValueType_15 : decode b_CC_isValueType 15 = .ok (.if_icmp .eq 16, 3) := by decide +kernel
theorem d_CC_isValueType_18 : decode b_CC_isValueType 18 = .ok (.iload_n 0, 1) := by decide +kernel
theorem d_CC_isValueType_19 : decode b_CC_isValueType 19 = .ok (.bipush 124, 2) := by decide +kernel
theorem d_CC_isValueType_21 : decode b_CC_isValueType 21 = .ok (.if_icmp .eq 10, 3) := by decide +kernel
theorem d_CC_isValueType_24 : decode b_CC_isValueType 24 = .ok (.iload_n 0, 1) := by decide +kernel
theorem d_CC_isValueType_25 : decode b_CC_isValueType 25 = .ok (.invokestatic 102, 3) := by decide +kernel
theorem d_CC_isValueType_28 : decode b_CC_isValueType 28 = .ok (.ifCond .eq 7, 3) := by decide +kernel
theorem d_CC_isValueType_31 : decode b_CC_isValueType 31 = .ok (.iconst 1, 1) := by decide +kernel
theorem d_CC_isValueType_32 : decode b_CC_isValueType 32 = .ok (.goto 4, 3) := by decide +kernel
theorem d_CC_isValueType_35 : decode b_CC_isValueType 35 = .ok (.iconst 0, 1) := by decide +kernel
theorem d_CC_isValueType_36 : decode b_CC_isValueType 36 = .ok (.ireturn, 1) := by decide +kernel
theorem d_CC_isReferenceType_0 : decode b_CC_isReferenceType 0 = .ok (.iload_n 0, 1) := by decide +kernel
theorem d_CC_isReferenceType_1 : decode b_CC_isReferenceType 1 = .ok (.bipush 112, 2) := by decide +kernel
theorem d_CC_isReferenceType_3 : decode b_CC_isReferenceType 3 = .ok (.if_icmp .eq 9, 3) := by decide +kernel
theorem d_CC_isReferenceType_6 : decode b_CC_isReferenceType 6 = .ok (.iload_n 0, 1) := by decide +kernel
theorem d_CC_isReferenceType_7 : decode b_CC_isReferenceType 7 = .ok (.bipush 111, 2) := by decide +kernel
theorem d_CC_isReferenceType_9 : decode b_CC_isReferenceType 9 = .ok (.if_icmp .ne 7, 3) := by decide +kernel
theorem d_CC_isReferenceType_12 : decode b_CC_isReferenceType 12 = .ok (.iconst 1, 1) := by decide +kernel
theorem d_CC_isReferenceType_13 : decode b_CC_isReferenceType 13 = .ok (.goto 4, 3) := by decide +kernel
theorem d_CC_isReferenceType_16 : decode b_CC_isReferenceType 16 = .ok (.iconst 0, 1) := by decide +kernel
theorem d_CC_isReferenceType_17 : decode b_CC_isReferenceType 17 = .ok (.ireturn, 1) := by decide +kernel
theorem d_CThings_extendLatestType_0 : decode b_CThings_extendLatestType 0 = .ok (.iload_n 1, 1) := by decide +kernel
theorem d_CThings_extendLatestType_1 : decode b_CThings_extendLatestType 1 = .ok (.ifCond .eq 10, 3) := by decide +kernel
theorem d_CThings_extendLatestType_4 : decode b_CThings_extendLatestType 4 = .ok (.aload_n 0, 1) := by decide +kernel
theorem d_CThings_extendLatestType_5 : decode b_CThings_extendLatestType 5 = .ok (.getfield 20, 3) := by decide +kernel
theorem d_CThings_extendLatestType_8 : decode b_CThings_extendLatestType 8 = .ok (.goto 7, 3) := by decide +kernel
theorem d_CThings_extendLatestType_11 : decode b_CThings_extendLatestType 11 = .ok (.aload_n 0, 1) := by decide +kernel
theorem d_CThings_extendLatestType_12 : decode b_CThings_extendLatestType 12 = .ok (.getfield 14, 3) := by decide +kernel
theorem d_CThings_extendLatestType_15 : decode b_CThings_extendLatestType 15 = .ok (.astore_n 3, 1) := by decide +kernel
theorem d_CThings_extendLatestType_16 : decode b_CThings_extendLatestType 16 = .ok (.aload_n 3, 1) := by decide +kernel
theorem d_CThings_extendLatestType_17 : decode b_CThings_extendLatestType 17 = .ok (.aload_n 0, 1) := by decide +kernel
theorem d_CThings_extendLatestType_18 : decode b_CThings_extendLatestType 18 = .ok (.getfield 45, 3) := by decide +kernel
theorem d_CThings_extendLatestType_21 : decode b_CThings_extendLatestType 21 = .ok (.iconst 1, 1) := by decide +kernel
theorem d_CThings_extendLatestType_22 : decode b_CThings_extendLatestType 22 = .ok (.isub, 1) := by decide +kernel
theorem d_CThings_extendLatestType_23 : decode b_CThings_extendLatestType 23 = .ok (.iload_n 2, 1) := by decide +kernel
theorem d_CThings_extendLatestType_24 : decode b_CThings_extendLatestType 24 = .ok (.invokevirtual 49, 3) := by decide +kernel
theorem d_CThings_extendLatestType_27 : decode b_CThings_extendLatestType 27 = .ok (.ireturn, 1) := by decide +kernel
theorem d_CRows_append_0 : decode b_CRows_append 0 = .ok (.aload_n 0, 1) := by decide +kernel
theorem d_CRows_append_1 : decode b_CRows_append 1 = .ok (.iload_n 1, 1) := by decide +kernel
theorem d_CRows_append_2 : decode b_CRows_append 2 = .ok (.invokevirtual 22, 3) := by decide +kernel
theorem d_CRows_append_5 : decode b_CRows_append 5 = .ok (.istore_n 3, 1) := by decide +kernel
theorem d_CRows_append_6 : decode b_CRows_append 6 = .ok (.iload_n 1, 1) := by decide +kernel
theorem d_CRows_append_7 : decode b_CRows_append 7 = .ok (.bipush 12, 2) := by decide +kernel
theorem d_CRows_append_9 : decode b_CRows_append 9 = .ok (.imul, 1) := by decide +kernel
theorem d_CRows_append_10 : decode b_CRows_append 10 = .ok (.iload_n 3, 1) := by decide +kernel
theorem d_CRows_append_11 : decode b_CRows_append 11 = .ok (.iadd, 1) := by decide +kernel
theorem d_CRows_append_12 : decode b_CRows_append 12 = .ok (.istore 4, 2) := by decide +kernel
theorem d_CRows_append_14 : decode b_CRows_append 14 = .ok (.iload_n 1, 1) := by decide +kernel
theorem d_CRows_append_15 : decode b_CRows_append 15 = .ok (.ifCond .lt 30, 3) := by decide +kernel
theorem d_CRows_append_18 : decode b_CRows_append 18 = .ok (.iload_n 1, 1) := by decide +kernel
theorem d_CRows_append_19 : decode b_CRows_append 19 = .ok (.bipush 40, 2) := by decide +kernel
theorem d_CRows_append_21 : decode b_CRows_append 21 = .ok (.if_icmp .ge 24, 3) := by decide +kernel
theorem d_CRows_append_24 : decode b_CRows_append 24 = .ok (.iload_n 3, 1) := by decide +kernel
theorem d_CRows_append_25 : decode b_CRows_append 25 = .ok (.bipush 12, 2) := by decide +kernel
theorem d_CRows_append_27 : decode b_CRows_append 27 = .ok (.if_icmp .ge 18, 3) := by decide +kernel
theorem d_CRows_append_30 : decode b_CRows_append 30 = .ok (.iload 4, 2) := by decide +kernel
theorem d_CRows_append_32 : decode b_CRows_append 32 = .ok (.ifCond .lt 13, 3) := by decide +kernel
theorem d_CRows_append_35 : decode b_CRows_append 35 = .ok (.iload 4, 2) := by decide +kernel
theorem d_CRows_append_37 : decode b_CRows_append 37 = .ok (.aload_n 0, 1) := by decide +kernel
theorem d_CRows_append_38 : decode b_CRows_append 38 = .ok (.getfield 15, 3) := by decide +kernel
theorem d_CRows_append_41 : decode b_CRows_append 41 = .ok (.arraylength, 1) := by decide +kernel
theorem d_CRows_append_42 : decode b_CRows_append 42 = .ok (.if_icmp .lt 5, 3) := by decide +kernel
theorem d_CRows_append_45 : decode b_CRows_append 45 = .ok (.iconst (-1), 1) := by decide +kernel
theorem d_CRows_append_46 : decode b_CRows_append 46 = .ok (.ireturn, 1) := by decide +kernel
theorem d_CRows_append_47 : decode b_CRows_append 47 = .ok (.aload_n 0, 1) := by decide +kernel
theorem d_CRows_append_48 : decode b_CRows_append 48 = .ok (.getfield 15, 3) := by decide +kernel
theorem d_CRows_append_51 : decode b_CRows_append 51 = .ok (.iload 4, 2) := by decide +kernel
theorem d_CRows_append_53 : decode b_CRows_append 53 = .ok (.iload_n 2, 1) := by decide +kernel
theorem d_CRows_append_54 : decode b_CRows_append 54 = .ok (.iastore, 1) := by decide +kernel
theorem d_CRows_append_55 : decode b_CRows_append 55 = .ok (.aload_n 0, 1) := by decide +kernel
theorem d_CRows_append_56 : decode b_CRows_append 56 = .ok (.getfield 9, 3) := by decide +kernel
theorem d_CRows_append_59 : decode b_CRows_append 59 = .ok (.iload_n 1, 1) := by decide +kernel
theorem d_CRows_append_60 : decode b_CRows_append 60 = .ok (.iload_n 3, 1) := by decide +kernel
theorem d_CRows_append_61 : decode b_CRows_append 61 = .ok (.iconst 1, 1) := by decide +kernel
theorem d_CRows_append_62 : decode b_CRows_append 62 = .ok (.iadd, 1) := by decide +kernel
theorem d_CRows_append_63 : decode b_CRows_append 63 = .ok (.iastore, 1) := by decide +kernel
theorem d_CRows_append_64 : decode b_CRows_append 64 = .ok (.iload_n 3, 1) := by decide +kernel
theorem d_CRows_append_65 : decode b_CRows_append 65 = .ok (.iconst 1, 1) := by decide +kernel
theorem d_CRows_append_66 : decode b_CRows_append 66 = .ok (.iadd, 1) := by decide +kernel
theorem d_CRows_append_67 : decode b_CRows_append 67 = .ok (.ireturn, 1) := by decide +kernel
theorem d_CRows_sizeOf_0 : decode b_CRows_sizeOf 0 = .ok (.iload_n 1, 1) := by decide +kernel
theorem d_CRows_sizeOf_1 : decode b_CRows_sizeOf 1 = .ok (.ifCond .ge 22, 3) := by decide +kernel
theorem d_CRows_sizeOf_4 : decode b_CRows_sizeOf 4 = .ok (.aload_n 0, 1) := by decide +kernel
theorem d_CRows_sizeOf_5 : decode b_CRows_sizeOf 5 = .ok (.getfield 18, 3) := by decide +kernel
theorem d_CRows_sizeOf_8 : decode b_CRows_sizeOf 8 = .ok (.ifCond .eq 13, 3) := by decide +kernel
theorem d_CRows_sizeOf_11 : decode b_CRows_sizeOf 11 = .ok (.iload_n 1, 1) := by decide +kernel
theorem d_CRows_sizeOf_12 : decode b_CRows_sizeOf 12 = .ok (.bipush (-64), 2) := by decide +kernel
theorem d_CRows_sizeOf_14 : decode b_CRows_sizeOf 14 = .ok (.if_icmp .eq 7, 3) := by decide +kernel
theorem d_CRows_sizeOf_17 : decode b_CRows_sizeOf 17 = .ok (.iconst 1, 1) := by decide +kernel
theorem d_CRows_sizeOf_18 : decode b_CRows_sizeOf 18 = .ok (.goto 4, 3) := by decide +kernel
theorem d_CRows_sizeOf_21 : decode b_CRows_sizeOf 21 = .ok (.iconst 0, 1) := by decide +kernel
theorem d_CRows_sizeOf_22 : decode b_CRows_sizeOf 22 = .ok (.ireturn, 1) := by decide +kernel
theorem d_CRows_sizeOf_23 : decode b_CRows_sizeOf 23 = .ok (.iload_n 1, 1) := by decide +kernel
theorem d_CRows_sizeOf_24 : decode b_CRows_sizeOf 24 = .ok (.aload_n 0, 1) := by decide +kernel
theorem d_CRows_sizeOf_25 : decode b_CRows_sizeOf 25 = .ok (.getfield 9, 3) := by decide +kernel
theorem d_CRows_sizeOf_28 : decode b_CRows_sizeOf 28 = .ok (.arraylength, 1) := by decide +kernel
theorem d_CRows_sizeOf_29 : decode b_CRows_sizeOf 29 = .ok (.if_icmp .ge 12, 3) := by decide +kernel
theorem d_CRows_sizeOf_32 : decode b_CRows_sizeOf 32 = .ok (.aload_n 0, 1) := by decide +kernel
theorem d_CRows_sizeOf_33 : decode b_CRows_sizeOf 33 = .ok (.getfield 9, 3) := by decide +kernel
theorem d_CRows_sizeOf_36 : decode b_CRows_sizeOf 36 = .ok (.iload_n 1, 1) := by decide +kernel
theorem d_CRows_sizeOf_37 : decode b_CRows_sizeOf 37 = .ok (.iaload, 1) := by decide +kernel
theorem d_CRows_sizeOf_38 : decode b_CRows_sizeOf 38 = .ok (.goto 4, 3) := by decide +kernel
theorem d_CRows_sizeOf_41 : decode b_CRows_sizeOf 41 = .ok (.iconst 0, 1) := by decide +kernel
theorem d_CRows_sizeOf_42 : decode b_CRows_sizeOf 42 = .ok (.ireturn, 1) := by decide +kernel
theorem d_CC_add_0 : decode b_CC_add 0 = .ok (.aload_n 0, 1) := by decide +kernel
theorem d_CC_add_1 : decode b_CC_add 1 = .ok (.getfield 10, 3) := by decide +kernel
theorem d_CC_add_4 : decode b_CC_add 4 = .ok (.iload_n 1, 1) := by decide +kernel
theorem d_CC_add_5 : decode b_CC_add 5 = .ok (.iload_n 2, 1) := by decide +kernel
theorem d_CC_add_6 : decode b_CC_add 6 = .ok (.iload_n 3, 1) := by decide +kernel
theorem d_CC_add_7 : decode b_CC_add 7 = .ok (.invokevirtual 41, 3) := by decide +kernel
theorem d_CC_add_10 : decode b_CC_add 10 = .ok (.ireturn, 1) := by decide +kernel
theorem d_CThings_addThing_0 : decode b_CThings_addThing 0 = .ok (.iload_n 1, 1) := by decide +kernel
theorem d_CThings_addThing_1 : decode b_CThings_addThing 1 = .ok (.tableswitch 162 0 5 #[39, 61, 82, 92, 131, 152], 39) := by decide +kernel
theorem d_CThings_addThing_40 : decode b_CThings_addThing 40 = .ok (.aload_n 0, 1) := by decide +kernel
theorem d_CThings_addThing_41 : decode b_CThings_addThing 41 = .ok (.iload_n 2, 1) := by decide +kernel
theorem d_CThings_addThing_42 : decode b_CThings_addThing 42 = .ok (.invokevirtual 53, 3) := by decide +kernel
theorem d_CThings_addThing_45 : decode b_CThings_addThing 45 = .ok (.ifCond .eq 15, 3) := by decide +kernel
theorem d_CThings_addThing_48 : decode b_CThings_addThing 48 = .ok (.aload_n 0, 1) := by decide +kernel
theorem d_CThings_addThing_49 : decode b_CThings_addThing 49 = .ok (.getfield 26, 3) := by decide +kernel
theorem d_CThings_addThing_52 : decode b_CThings_addThing 52 = .ok (.iload_n 2, 1) := by decide +kernel
theorem d_CThings_addThing_53 : decode b_CThings_addThing 53 = .ok (.iconst 0, 1) := by decide +kernel
theorem d_CThings_addThing_54 : decode b_CThings_addThing 54 = .ok (.invokevirtual 57, 3) := by decide +kernel
theorem d_CThings_addThing_57 : decode b_CThings_addThing 57 = .ok (.goto 4, 3) := by decide +kernel
theorem d_CThings_addThing_60 : decode b_CThings_addThing 60 = .ok (.iconst (-1), 1) := by decide +kernel
theorem d_CThings_addThing_61 : decode b_CThings_addThing 61 = .ok (.ireturn, 1) := by decide +kernel
theorem d_CThings_addThing_62 : decode b_CThings_addThing 62 = .ok (.iload_n 2, 1) := by decide +kernel
theorem d_CThings_addThing_63 : decode b_CThings_addThing 63 = .ok (.invokestatic 61, 3) := by decide +kernel
theorem d_CThings_addThing_66 : decode b_CThings_addThing 66 = .ok (.ifCond .eq 15, 3) := by decide +kernel
theorem d_CThings_addThing_69 : decode b_CThings_addThing 69 = .ok (.aload_n 0, 1) := by decide +kernel
theorem d_CThings_addThing_70 : decode b_CThings_addThing 70 = .ok (.getfield 30, 3) := by decide +kernel
theorem d_CThings_addThing_73 : decode b_CThings_addThing 73 = .ok (.iload_n 2, 1) := by decide +kernel
theorem d_CThings_addThing_74 : decode b_CThings_addThing 74 = .ok (.iconst 0, 1) := by decide +kernel
theorem d_CThings_addThing_75 : decode b_CThings_addThing 75 = .ok (.invokevirtual 57, 3) := by decide +kernel
theorem d_CThings_addThing_78 : decode b_CThings_addThing 78 = .ok (.goto 4, 3) := by decide +kernel
theorem d_CThings_addThing_81 : decode b_CThings_addThing 81 = .ok (.iconst (-1), 1) := by decide +kernel
theorem d_CThings_addThing_82 : decode b_CThings_addThing 82 = .ok (.ireturn, 1) := by decide +kernel
theorem d_CThings_addThing_83 : decode b_CThings_addThing 83 = .ok (.aload_n 0, 1) := by decide +kernel
theorem d_CThings_addThing_84 : decode b_CThings_addThing 84 = .ok (.getfield 33, 3) := by decide +kernel
theorem d_CThings_addThing_87 : decode b_CThings_addThing 87 = .ok (.iconst 0, 1) := by decide +kernel
theorem d_CThings_addThing_88 : decode b_CThings_addThing 88 = .ok (.iconst 0, 1) := by decide +kernel
theorem d_CThings_addThing_89 : decode b_CThings_addThing 89 = .ok (.invokevirtual 57, 3) := by decide +kernel
theorem d_CThings_addThing_92 : decode b_CThings_addThing 92 = .ok (.ireturn, 1) := by decide +kernel
theorem d_CThings_addThing_93 : decode b_CThings_addThing 93 = .ok (.iload_n 2, 1) := by decide +kernel
theorem d_CThings_addThing_94 : decode b_CThings_addThing 94 = .ok (.invokestatic 64, 3) := by decide +kernel
theorem d_CThings_addThing_97 : decode b_CThings_addThing 97 = .ok (.ifCond .eq 33, 3) := by decide +kernel
theorem d_CThings_addThing_100 : decode b_CThings_addThing 100 = .ok (.iload_n 3, 1) := by decide +kernel
theorem d_CThings_addThing_101 : decode b_CThings_addThing 101 = .ok (.ifCond .eq 8, 3) := by decide +kernel
theorem d_CThings_addThing_104 : decode b_CThings_addThing 104 = .ok (.iload_n 3, 1) := by decide +kernel
theorem d_CThings_addThing_105 : decode b_CThings_addThing 105 = .ok (.iconst 1, 1) := by decide +kernel
theorem d_CThings_addThing_106 : decode b_CThings_addThing 106 = .ok (.if_icmp .ne 24, 3) := by decide +kernel
theorem d_CThings_addThing_109 : decode b_CThings_addThing 109 = .ok (.aload_n 0, 1) := by decide +kernel
theorem d_CThings_addThing_110 : decode b_CThings_addThing 110 = .ok (.getfield 36, 3) := by decide +kernel
theorem d_CThings_addThing_113 : decode b_CThings_addThing 113 = .ok (.iload_n 2, 1) := by decide +kernel
theorem d_CThings_addThing_114 : decode b_CThings_addThing 114 = .ok (.iload_n 3, 1) := by decide +kernel
theorem d_CThings_addThing_115 : decode b_CThings_addThing 115 = .ok (.iconst 1, 1) := by decide +kernel
theorem d_CThings_addThing_116 : decode b_CThings_addThing 116 = .ok (.if_icmp .ne 7, 3) := by decide +kernel
theorem d_CThings_addThing_119 : decode b_CThings_addThing 119 = .ok (.iconst 1, 1) := by decide +kernel
theorem d_CThings_addThing_120 : decode b_CThings_addThing 120 = .ok (.goto 4, 3) := by decide +kernel
theorem d_CThings_addThing_123 : decode b_CThings_addThing 123 = .ok (.iconst 0, 1) := by decide +kernel
theorem d_CThings_addThing_124 : decode b_CThings_addThing 124 = .ok (.invokevirtual 57, 3) := by decide +kernel
theorem d_CThings_addThing_127 : decode b_CThings_addThing 127 = .ok (.goto 4, 3) := by decide +kernel
theorem d_CThings_addThing_130 : decode b_CThings_addThing 130 = .ok (.iconst (-1), 1) := by decide +kernel
theorem d_CThings_addThing_131 : decode b_CThings_addThing 131 = .ok (.ireturn, 1) := by decide +kernel
theorem d_CThings_addThing_132 : decode b_CThings_addThing 132 = .ok (.iload_n 2, 1) := by decide +kernel
theorem d_CThings_addThing_133 : decode b_CThings_addThing 133 = .ok (.invokestatic 61, 3) := by decide +kernel
theorem d_CThings_addThing_136 : decode b_CThings_addThing 136 = .ok (.ifCond .eq 15, 3) := by decide +kernel
theorem d_CThings_addThing_139 : decode b_CThings_addThing 139 = .ok (.aload_n 0, 1) := by decide +kernel
theorem d_CThings_addThing_140 : decode b_CThings_addThing 140 = .ok (.getfield 39, 3) := by decide +kernel
theorem d_CThings_addThing_143 : decode b_CThings_addThing 143 = .ok (.iload_n 2, 1) := by decide +kernel
theorem d_CThings_addThing_144 : decode b_CThings_addThing 144 = .ok (.iconst 0, 1) := by decide +kernel
theorem d_CThings_addThing_145 : decode b_CThings_addThing 145 = .ok (.invokevirtual 57, 3) := by decide +kernel
theorem d_CThings_addThing_148 : decode b_CThings_addThing 148 = .ok (.goto 4, 3) := by decide +kernel
theorem d_CThings_addThing_151 : decode b_CThings_addThing 151 = .ok (.iconst (-1), 1) := by decide +kernel
theorem d_CThings_addThing_152 : decode b_CThings_addThing 152 = .ok (.ireturn, 1) := by decide +kernel
theorem d_CThings_addThing_153 : decode b_CThings_addThing 153 = .ok (.aload_n 0, 1) := by decide +kernel
theorem d_CThings_addThing_154 : decode b_CThings_addThing 154 = .ok (.getfield 42, 3) := by decide +kernel
theorem d_CThings_addThing_157 : decode b_CThings_addThing 157 = .ok (.iconst 0, 1) := by decide +kernel
theorem d_CThings_addThing_158 : decode b_CThings_addThing 158 = .ok (.iconst 0, 1) := by decide +kernel
theorem d_CThings_addThing_159 : decode b_CThings_addThing 159 = .ok (.invokevirtual 57, 3) := by decide +kernel
theorem d_CThings_addThing_162 : decode b_CThings_addThing 162 = .ok (.ireturn, 1) := by decide +kernel
theorem d_CThings_addThing_163 : decode b_CThings_addThing 163 = .ok (.iconst (-1), 1) := by decide +kernel
theorem d_CThings_addThing_164 : decode b_CThings_addThing 164 = .ok (.ireturn, 1) := by decide +kernel
theorem d_CShelf_put_0 : decode b_CShelf_put 0 = .ok (.aload_n 0, 1) := by decide +kernel
theorem d_CShelf_put_1 : decode b_CShelf_put 1 = .ok (.getfield 19, 3) := by decide +kernel
theorem d_CShelf_put_4 : decode b_CShelf_put 4 = .ok (.ifCond .lt 27, 3) := by decide +kernel
theorem d_CShelf_put_7 : decode b_CShelf_put 7 = .ok (.aload_n 0, 1) := by decide +kernel
theorem d_CShelf_put_8 : decode b_CShelf_put 8 = .ok (.getfield 19, 3) := by decide +kernel
theorem d_CShelf_put_11 : decode b_CShelf_put 11 = .ok (.aload_n 0, 1) := by decide +kernel
theorem d_CShelf_put_12 : decode b_CShelf_put 12 = .ok (.getfield 9, 3) := by decide +kernel
theorem d_CShelf_put_15 : decode b_CShelf_put 15 = .ok (.arraylength, 1) := by decide +kernel
theorem d_CShelf_put_16 : decode b_CShelf_put 16 = .ok (.if_icmp .ge 15, 3) := by decide +kernel
theorem d_CShelf_put_19 : decode b_CShelf_put 19 = .ok (.aload_n 0, 1) := by decide +kernel
theorem d_CShelf_put_20 : decode b_CShelf_put 20 = .ok (.getfield 19, 3) := by decide +kernel
theorem d_CShelf_put_23 : decode b_CShelf_put 23 = .ok (.aload_n 0, 1) := by decide +kernel
theorem d_CShelf_put_24 : decode b_CShelf_put 24 = .ok (.getfield 15, 3) := by decide +kernel
theorem d_CShelf_put_27 : decode b_CShelf_put 27 = .ok (.arraylength, 1) := by decide +kernel
theorem d_CShelf_put_28 : decode b_CShelf_put 28 = .ok (.if_icmp .lt 5, 3) := by decide +kernel
theorem d_CShelf_put_31 : decode b_CShelf_put 31 = .ok (.iconst (-1), 1) := by decide +kernel
theorem d_CShelf_put_32 : decode b_CShelf_put 32 = .ok (.ireturn, 1) := by decide +kernel
theorem d_CShelf_put_33 : decode b_CShelf_put 33 = .ok (.aload_n 0, 1) := by decide +kernel
theorem d_CShelf_put_34 : decode b_CShelf_put 34 = .ok (.getfield 9, 3) := by decide +kernel
theorem d_CShelf_put_37 : decode b_CShelf_put 37 = .ok (.aload_n 0, 1) := by decide +kernel
theorem d_CShelf_put_38 : decode b_CShelf_put 38 = .ok (.getfield 19, 3) := by decide +kernel
theorem d_CShelf_put_41 : decode b_CShelf_put 41 = .ok (.iload_n 1, 1) := by decide +kernel
theorem d_CShelf_put_42 : decode b_CShelf_put 42 = .ok (.iastore, 1) := by decide +kernel
theorem d_CShelf_put_43 : decode b_CShelf_put 43 = .ok (.aload_n 0, 1) := by decide +kernel
theorem d_CShelf_put_44 : decode b_CShelf_put 44 = .ok (.getfield 15, 3) := by decide +kernel
theorem d_CShelf_put_47 : decode b_CShelf_put 47 = .ok (.aload_n 0, 1) := by decide +kernel
theorem d_CShelf_put_48 : decode b_CShelf_put 48 = .ok (.getfield 19, 3) := by decide +kernel
theorem d_CShelf_put_51 : decode b_CShelf_put 51 = .ok (.iload_n 2, 1) := by decide +kernel
theorem d_CShelf_put_52 : decode b_CShelf_put 52 = .ok (.bastore, 1) := by decide +kernel
theorem d_CShelf_put_53 : decode b_CShelf_put 53 = .ok (.aload_n 0, 1) := by decide +kernel
theorem d_CShelf_put_54 : decode b_CShelf_put 54 = .ok (.dup, 1) := by decide +kernel
theorem d_CShelf_put_55 : decode b_CShelf_put 55 = .ok (.getfield 19, 3) := by decide +kernel
theorem d_CShelf_put_58 : decode b_CShelf_put 58 = .ok (.iconst 1, 1) := by decide +kernel
theorem d_CShelf_put_59 : decode b_CShelf_put 59 = .ok (.iadd, 1) := by decide +kernel
theorem d_CShelf_put_60 : decode b_CShelf_put 60 = .ok (.putfield 19, 3) := by decide +kernel
theorem d_CShelf_put_63 : decode b_CShelf_put 63 = .ok (.aload_n 0, 1) := by decide +kernel
theorem d_CShelf_put_64 : decode b_CShelf_put 64 = .ok (.getfield 19, 3) := by decide +kernel
theorem d_CShelf_put_67 : decode b_CShelf_put 67 = .ok (.iconst 1, 1) := by decide +kernel
theorem d_CShelf_put_68 : decode b_CShelf_put 68 = .ok (.isub, 1) := by decide +kernel
theorem d_CShelf_put_69 : decode b_CShelf_put 69 = .ok (.ireturn, 1) := by decide +kernel
theorem d_CThings_hasType_0 : decode b_CThings_hasType 0 = .ok (.iload_n 1, 1) := by decide +kernel
theorem d_CThings_hasType_1 : decode b_CThings_hasType 1 = .ok (.ifCond .lt 15, 3) := by decide +kernel
theorem d_CThings_hasType_4 : decode b_CThings_hasType 4 = .ok (.iload_n 1, 1) := by decide +kernel
theorem d_CThings_hasType_5 : decode b_CThings_hasType 5 = .ok (.aload_n 0, 1) := by decide +kernel
theorem d_CThings_hasType_6 : decode b_CThings_hasType 6 = .ok (.getfield 45, 3) := by decide +kernel
theorem d_CThings_hasType_9 : decode b_CThings_hasType 9 = .ok (.if_icmp .ge 7, 3) := by decide +kernel
theorem d_CThings_hasType_12 : decode b_CThings_hasType 12 = .ok (.iconst 1, 1) := by decide +kernel
theorem d_CThings_hasType_13 : decode b_CThings_hasType 13 = .ok (.goto 4, 3) := by decide +kernel
theorem d_CThings_hasType_16 : decode b_CThings_hasType 16 = .ok (.iconst 0, 1) := by decide +kernel
theorem d_CThings_hasType_17 : decode b_CThings_hasType 17 = .ok (.ireturn, 1) := by decide +kernel
theorem d_CC_declare_0 : decode b_CC_declare 0 = .ok (.aload_n 0, 1) := by decide +kernel
theorem d_CC_declare_1 : decode b_CC_declare 1 = .ok (.getfield 10, 3) := by decide +kernel
theorem d_CC_declare_4 : decode b_CC_declare 4 = .ok (.getfield 45, 3) := by decide +kernel
theorem d_CC_declare_7 : decode b_CC_declare 7 = .ok (.iload_n 1, 1) := by decide +kernel
theorem d_CC_declare_8 : decode b_CC_declare 8 = .ok (.invokevirtual 49, 3) := by decide +kernel
theorem d_CC_declare_11 : decode b_CC_declare 11 = .ok (.ireturn, 1) := by decide +kernel
theorem d_CShelf_mark_0 : decode b_CShelf_mark 0 = .ok (.aload_n 0, 1) := by decide +kernel
theorem d_CShelf_mark_1 : decode b_CShelf_mark 1 = .ok (.iload_n 1, 1) := by decide +kernel
theorem d_CShelf_mark_2 : decode b_CShelf_mark 2 = .ok (.invokevirtual 23, 3) := by decide +kernel
theorem d_CShelf_mark_5 : decode b_CShelf_mark 5 = .ok (.ifCond .eq 12, 3) := by decide +kernel
theorem d_CShelf_mark_8 : decode b_CShelf_mark 8 = .ok (.iload_n 1, 1) := by decide +kernel
theorem d_CShelf_mark_9 : decode b_CShelf_mark 9 = .ok (.aload_n 0, 1) := by decide +kernel
theorem d_CShelf_mark_10 : decode b_CShelf_mark 10 = .ok (.getfield 15, 3) := by decide +kernel
theorem d_CShelf_mark_13 : decode b_CShelf_mark 13 = .ok (.arraylength, 1) := by decide +kernel
theorem d_CShelf_mark_14 : decode b_CShelf_mark 14 = .ok (.if_icmp .lt 5, 3) := by decide +kernel
theorem d_CShelf_mark_17 : decode b_CShelf_mark 17 = .ok (.iconst 0, 1) := by decide +kernel
theorem d_CShelf_mark_18 : decode b_CShelf_mark 18 = .ok (.ireturn, 1) := by decide +kernel
theorem d_CShelf_mark_19 : decode b_CShelf_mark 19 = .ok (.aload_n 0, 1) := by decide +kernel
theorem d_CShelf_mark_20 : decode b_CShelf_mark 20 = .ok (.getfield 15, 3) := by decide +kernel
theorem d_CShelf_mark_23 : decode b_CShelf_mark 23 = .ok (.iload_n 1, 1) := by decide +kernel
theorem d_CShelf_mark_24 : decode b_CShelf_mark 24 = .ok (.iconst 1, 1) := by decide +kernel
theorem d_CShelf_mark_25 : decode b_CShelf_mark 25 = .ok (.bastore, 1) := by decide +kernel
theorem d_CShelf_mark_26 : decode b_CShelf_mark 26 = .ok (.iconst 1, 1) := by decide +kernel
theorem d_CShelf_mark_27 : decode b_CShelf_mark 27 = .ok (.ireturn, 1) := by decide +kernel
theorem d_CShelf_has_0 : decode b_CShelf_has 0 = .ok (.iload_n 1, 1) := by decide +kernel
theorem d_CShelf_has_1 : decode b_CShelf_has 1 = .ok (.ifCond .lt 15, 3) := by decide +kernel
theorem d_CShelf_has_4 : decode b_CShelf_has 4 = .ok (.iload_n 1, 1) := by decide +kernel
theorem d_CShelf_has_5 : decode b_CShelf_has 5 = .ok (.aload_n 0, 1) := by decide +kernel
theorem d_CShelf_has_6 : decode b_CShelf_has 6 = .ok (.getfield 19, 3) := by decide +kernel
theorem d_CShelf_has_9 : decode b_CShelf_has 9 = .ok (.if_icmp .ge 7, 3) := by decide +kernel
theorem d_CShelf_has_12 : decode b_CShelf_has 12 = .ok (.iconst 1, 1) := by decide +kernel
theorem d_CShelf_has_13 : decode b_CShelf_has 13 = .ok (.goto 4, 3) := by decide +kernel
theorem d_CShelf_has_16 : decode b_CShelf_has 16 = .ok (.iconst 0, 1) := by decide +kernel
theorem d_CShelf_has_17 : decode b_CShelf_has 17 = .ok (.ireturn, 1) := by decide +kernel
theorem d_CC_begin_0 : decode b_CC_begin 0 = .ok (.aload_n 0, 1) := by decide +kernel
theorem d_CC_begin_1 : decode b_CC_begin 1 = .ok (.getfield 10, 3) := by decide +kernel
theorem d_CC_begin_4 : decode b_CC_begin 4 = .ok (.iload_n 1, 1) := by decide +kernel
theorem d_CC_begin_5 : decode b_CC_begin 5 = .ok (.invokevirtual 54, 3) := by decide +kernel
theorem d_CC_begin_8 : decode b_CC_begin 8 = .ok (.ifCond .ne 5, 3) := by decide +kernel
theorem d_CC_begin_11 : decode b_CC_begin 11 = .ok (.iconst 0, 1) := by decide +kernel
theorem d_CC_begin_12 : decode b_CC_begin 12 = .ok (.ireturn, 1) := by decide +kernel
theorem d_CC_begin_13 : decode b_CC_begin 13 = .ok (.aload_n 0, 1) := by decide +kernel
theorem d_CC_begin_14 : decode b_CC_begin 14 = .ok (.getfield 21, 3) := by decide +kernel
theorem d_CC_begin_17 : decode b_CC_begin 17 = .ok (.iload_n 1, 1) := by decide +kernel
theorem d_CC_begin_18 : decode b_CC_begin 18 = .ok (.invokevirtual 57, 3) := by decide +kernel
theorem d_CC_begin_21 : decode b_CC_begin 21 = .ok (.iconst 1, 1) := by decide +kernel
theorem d_CC_begin_22 : decode b_CC_begin 22 = .ok (.ireturn, 1) := by decide +kernel
theorem d_CCode_openBody_0 : decode b_CCode_openBody 0 = .ok (.aload_n 0, 1) := by decide +kernel
theorem d_CCode_openBody_1 : decode b_CCode_openBody 1 = .ok (.iload_n 1, 1) := by decide +kernel
theorem d_CCode_openBody_2 : decode b_CCode_openBody 2 = .ok (.iconst 0, 1) := by decide +kernel
theorem d_CCode_openBody_3 : decode b_CCode_openBody 3 = .ok (.invokevirtual 59, 3) := by decide +kernel
theorem d_CCode_openBody_6 : decode b_CCode_openBody 6 = .ok (.aload_n 0, 1) := by decide +kernel
theorem d_CCode_openBody_7 : decode b_CCode_openBody 7 = .ok (.getfield 26, 3) := by decide +kernel
theorem d_CCode_openBody_10 : decode b_CCode_openBody 10 = .ok (.getfield 63, 3) := by decide +kernel
theorem d_CCode_openBody_13 : decode b_CCode_openBody 13 = .ok (.iload_n 1, 1) := by decide +kernel
theorem d_CCode_openBody_14 : decode b_CCode_openBody 14 = .ok (.invokevirtual 69, 3) := by decide +kernel
theorem d_CCode_openBody_17 : decode b_CCode_openBody 17 = .ok (.istore_n 2, 1) := by decide +kernel
theorem d_CCode_openBody_18 : decode b_CCode_openBody 18 = .ok (.iconst 0, 1) := by decide +kernel
theorem d_CCode_openBody_19 : decode b_CCode_openBody 19 = .ok (.istore_n 3, 1) := by decide +kernel
theorem d_CCode_openBody_20 : decode b_CCode_openBody 20 = .ok (.iload_n 3, 1) := by decide +kernel
theorem d_CCode_openBody_21 : decode b_CCode_openBody 21 = .ok (.iload_n 2, 1) := by decide +kernel
theorem d_CCode_openBody_22 : decode b_CCode_openBody 22 = .ok (.if_icmp .ge 29, 3) := by decide +kernel
theorem d_CCode_openBody_25 : decode b_CCode_openBody 25 = .ok (.aload_n 0, 1) := by decide +kernel
theorem d_CCode_openBody_26 : decode b_CCode_openBody 26 = .ok (.getfield 12, 3) := by decide +kernel
theorem d_CCode_openBody_29 : decode b_CCode_openBody 29 = .ok (.aload_n 0, 1) := by decide +kernel
theorem d_CCode_openBody_30 : decode b_CCode_openBody 30 = .ok (.getfield 26, 3) := by decide +kernel
theorem d_CCode_openBody_33 : decode b_CCode_openBody 33 = .ok (.getfield 63, 3) := by decide +kernel
theorem d_CCode_openBody_36 : decode b_CCode_openBody 36 = .ok (.iload_n 1, 1) := by decide +kernel
theorem d_CCode_openBody_37 : decode b_CCode_openBody 37 = .ok (.iload_n 3, 1) := by decide +kernel
theorem d_CCode_openBody_38 : decode b_CCode_openBody 38 = .ok (.invokevirtual 75, 3) := by decide +kernel
theorem d_CCode_openBody_41 : decode b_CCode_openBody 41 = .ok (.lconst 1, 1) := by decide +kernel
theorem d_CCode_openBody_42 : decode b_CCode_openBody 42 = .ok (.invokevirtual 79, 3) := by decide +kernel
theorem d_CCode_openBody_45 : decode b_CCode_openBody 45 = .ok (.iinc 3 1, 3) := by decide +kernel
theorem d_CCode_openBody_48 : decode b_CCode_openBody 48 = .ok (.goto (-28), 3) := by decide +kernel
theorem d_CCode_openBody_51 : decode b_CCode_openBody 51 = .ok (.return_, 1) := by decide +kernel
theorem d_CCode_open_0 : decode b_CCode_open 0 = .ok (.aload_n 0, 1) := by decide +kernel
theorem d_CCode_open_1 : decode b_CCode_open 1 = .ok (.getfield 35, 3) := by decide +kernel
theorem d_CCode_open_4 : decode b_CCode_open 4 = .ok (.iload_n 1, 1) := by decide +kernel
theorem d_CCode_open_5 : decode b_CCode_open 5 = .ok (.invokevirtual 39, 3) := by decide +kernel
theorem d_CCode_open_8 : decode b_CCode_open 8 = .ok (.aload_n 0, 1) := by decide +kernel
theorem d_CCode_open_9 : decode b_CCode_open 9 = .ok (.getfield 12, 3) := by decide +kernel
theorem d_CCode_open_12 : decode b_CCode_open 12 = .ok (.invokevirtual 43, 3) := by decide +kernel
theorem d_CCode_open_15 : decode b_CCode_open 15 = .ok (.aload_n 0, 1) := by decide +kernel
theorem d_CCode_open_16 : decode b_CCode_open 16 = .ok (.iconst 0, 1) := by decide +kernel
theorem d_CCode_open_17 : decode b_CCode_open 17 = .ok (.putfield 46, 3) := by decide +kernel
theorem d_CCode_open_20 : decode b_CCode_open 20 = .ok (.aload_n 0, 1) := by decide +kernel
theorem d_CCode_open_21 : decode b_CCode_open 21 = .ok (.iconst 0, 1) := by decide +kernel
theorem d_CCode_open_22 : decode b_CCode_open 22 = .ok (.putfield 49, 3) := by decide +kernel
theorem d_CCode_open_25 : decode b_CCode_open 25 = .ok (.aload_n 0, 1) := by decide +kernel
theorem d_CCode_open_26 : decode b_CCode_open 26 = .ok (.iconst 0, 1) := by decide +kernel
theorem d_CCode_open_27 : decode b_CCode_open 27 = .ok (.putfield 52, 3) := by decide +kernel
theorem d_CCode_open_30 : decode b_CCode_open 30 = .ok (.aload_n 0, 1) := by decide +kernel
theorem d_CCode_open_31 : decode b_CCode_open 31 = .ok (.iload_n 2, 1) := by decide +kernel
theorem d_CCode_open_32 : decode b_CCode_open 32 = .ok (.putfield 56, 3) := by decide +kernel
theorem d_CCode_open_35 : decode b_CCode_open 35 = .ok (.aload_n 0, 1) := by decide +kernel
theorem d_CCode_open_36 : decode b_CCode_open 36 = .ok (.iconst 1, 1) := by decide +kernel
theorem d_CCode_open_37 : decode b_CCode_open 37 = .ok (.putfield 22, 3) := by decide +kernel
theorem d_CCode_open_40 : decode b_CCode_open 40 = .ok (.return_, 1) := by decide +kernel
theorem d_CStack_restart_0 : decode b_CStack_restart 0 = .ok (.aload_n 0, 1) := by decide +kernel
theorem d_CStack_restart_1 : decode b_CStack_restart 1 = .ok (.iconst 0, 1) := by decide +kernel
theorem d_CStack_restart_2 : decode b_CStack_restart 2 = .ok (.putfield 35, 3) := by decide +kernel
theorem d_CStack_restart_5 : decode b_CStack_restart 5 = .ok (.aload_n 0, 1) := by decide +kernel
theorem d_CStack_restart_6 : decode b_CStack_restart 6 = .ok (.iconst 0, 1) := by decide +kernel
theorem d_CStack_restart_7 : decode b_CStack_restart 7 = .ok (.putfield 39, 3) := by decide +kernel
theorem d_CStack_restart_10 : decode b_CStack_restart 10 = .ok (.aload_n 0, 1) := by decide +kernel
theorem d_CStack_restart_11 : decode b_CStack_restart 11 = .ok (.iconst 0, 1) := by decide +kernel
theorem d_CStack_restart_12 : decode b_CStack_restart 12 = .ok (.putfield 42, 3) := by decide +kernel
theorem d_CStack_restart_15 : decode b_CStack_restart 15 = .ok (.aload_n 0, 1) := by decide +kernel
theorem d_CStack_restart_16 : decode b_CStack_restart 16 = .ok (.iconst (-1), 1) := by decide +kernel
theorem d_CStack_restart_17 : decode b_CStack_restart 17 = .ok (.iload_n 1, 1) := by decide +kernel
theorem d_CStack_restart_18 : decode b_CStack_restart 18 = .ok (.invokevirtual 45, 3) := by decide +kernel
theorem d_CStack_restart_21 : decode b_CStack_restart 21 = .ok (.return_, 1) := by decide +kernel
theorem d_CStack_pushBlock_0 : decode b_CStack_pushBlock 0 = .ok (.aload_n 0, 1) := by decide +kernel
theorem d_CStack_pushBlock_1 : decode b_CStack_pushBlock 1 = .ok (.getfield 42, 3) := by decide +kernel
theorem d_CStack_pushBlock_4 : decode b_CStack_pushBlock 4 = .ok (.ifCond .eq 4, 3) := by decide +kernel
theorem d_CStack_pushBlock_7 : decode b_CStack_pushBlock 7 = .ok (.return_, 1) := by decide +kernel
theorem d_CStack_pushBlock_8 : decode b_CStack_pushBlock 8 = .ok (.aload_n 0, 1) := by decide +kernel
theorem d_CStack_pushBlock_9 : decode b_CStack_pushBlock 9 = .ok (.getfield 39, 3) := by decide +kernel
theorem d_CStack_pushBlock_12 : decode b_CStack_pushBlock 12 = .ok (.ifCond .lt 12, 3) := by decide +kernel
theorem d_CStack_pushBlock_15 : decode b_CStack_pushBlock 15 = .ok (.aload_n 0, 1) := by decide +kernel
theorem d_CStack_pushBlock_16 : decode b_CStack_pushBlock 16 = .ok (.getfield 39, 3) := by decide +kernel
theorem d_CStack_pushBlock_19 : decode b_CStack_pushBlock 19 = .ok (.bipush 60, 2) := by decide +kernel
theorem d_CStack_pushBlock_21 : decode b_CStack_pushBlock 21 = .ok (.if_icmp .lt 10, 3) := by decide +kernel
theorem d_CStack_pushBlock_24 : decode b_CStack_pushBlock 24 = .ok (.aload_n 0, 1) := by decide +kernel
theorem d_CStack_pushBlock_25 : decode b_CStack_pushBlock 25 = .ok (.bipush 15, 2) := by decide +kernel
theorem d_CStack_pushBlock_27 : decode b_CStack_pushBlock 27 = .ok (.putfield 42, 3) := by decide +kernel
theorem d_CStack_pushBlock_30 : decode b_CStack_pushBlock 30 = .ok (.return_, 1) := by decide +kernel
theorem d_CStack_pushBlock_31 : decode b_CStack_pushBlock 31 = .ok (.aload_n 0, 1) := by decide +kernel
theorem d_CStack_pushBlock_32 : decode b_CStack_pushBlock 32 = .ok (.getfield 15, 3) := by decide +kernel
theorem d_CStack_pushBlock_35 : decode b_CStack_pushBlock 35 = .ok (.aload_n 0, 1) := by decide +kernel
theorem d_CStack_pushBlock_36 : decode b_CStack_pushBlock 36 = .ok (.getfield 39, 3) := by decide +kernel
theorem d_CStack_pushBlock_39 : decode b_CStack_pushBlock 39 = .ok (.iload_n 2, 1) := by decide +kernel
theorem d_CStack_pushBlock_40 : decode b_CStack_pushBlock 40 = .ok (.iastore, 1) := by decide +kernel
theorem d_CStack_pushBlock_41 : decode b_CStack_pushBlock 41 = .ok (.aload_n 0, 1) := by decide +kernel
theorem d_CStack_pushBlock_42 : decode b_CStack_pushBlock 42 = .ok (.getfield 18, 3) := by decide +kernel
theorem d_CStack_pushBlock_45 : decode b_CStack_pushBlock 45 = .ok (.aload_n 0, 1) := by decide +kernel
theorem d_CStack_pushBlock_46 : decode b_CStack_pushBlock 46 = .ok (.getfield 39, 3) := by decide +kernel
theorem d_CStack_pushBlock_49 : decode b_CStack_pushBlock 49 = .ok (.aload_n 0, 1) := by decide +kernel
theorem d_CStack_pushBlock_50 : decode b_CStack_pushBlock 50 = .ok (.getfield 35, 3) := by decide +kernel
theorem d_CStack_pushBlock_53 : decode b_CStack_pushBlock 53 = .ok (.iastore, 1) := by decide +kernel
theorem d_CStack_pushBlock_54 : decode b_CStack_pushBlock 54 = .ok (.aload_n 0, 1) := by decide +kernel
theorem d_CStack_pushBlock_55 : decode b_CStack_pushBlock 55 = .ok (.getfield 21, 3) := by decide +kernel
theorem d_CStack_pushBlock_58 : decode b_CStack_pushBlock 58 = .ok (.aload_n 0, 1) := by decide +kernel
theorem d_CStack_pushBlock_59 : decode b_CStack_pushBlock 59 = .ok (.getfield 39, 3) := by decide +kernel
theorem d_CStack_pushBlock_62 : decode b_CStack_pushBlock 62 = .ok (.iload_n 1, 1) := by decide +kernel
theorem d_CStack_pushBlock_63 : decode b_CStack_pushBlock 63 = .ok (.iastore, 1) := by decide +kernel
theorem d_CStack_pushBlock_64 : decode b_CStack_pushBlock 64 = .ok (.aload_n 0, 1) := by decide +kernel
theorem d_CStack_pushBlock_65 : decode b_CStack_pushBlock 65 = .ok (.getfield 24, 3) := by decide +kernel
theorem d_CStack_pushBlock_68 : decode b_CStack_pushBlock 68 = .ok (.aload_n 0, 1) := by decide +kernel
theorem d_CStack_pushBlock_69 : decode b_CStack_pushBlock 69 = .ok (.getfield 39, 3) := by decide +kernel
theorem d_CStack_pushBlock_72 : decode b_CStack_pushBlock 72 = .ok (.iconst 1, 1) := by decide +kernel
theorem d_CStack_pushBlock_73 : decode b_CStack_pushBlock 73 = .ok (.bastore, 1) := by decide +kernel
theorem d_CStack_pushBlock_74 : decode b_CStack_pushBlock 74 = .ok (.aload_n 0, 1) := by decide +kernel
theorem d_CStack_pushBlock_75 : decode b_CStack_pushBlock 75 = .ok (.dup, 1) := by decide +kernel
theorem d_CStack_pushBlock_76 : decode b_CStack_pushBlock 76 = .ok (.getfield 39, 3) := by decide +kernel
theorem d_CStack_pushBlock_79 : decode b_CStack_pushBlock 79 = .ok (.iconst 1, 1) := by decide +kernel
theorem d_CStack_pushBlock_80 : decode b_CStack_pushBlock 80 = .ok (.iadd, 1) := by decide +kernel
theorem d_CStack_pushBlock_81 : decode b_CStack_pushBlock 81 = .ok (.putfield 39, 3) := by decide +kernel
theorem d_CStack_pushBlock_84 : decode b_CStack_pushBlock 84 = .ok (.return_, 1) := by decide +kernel
theorem d_CLocals_clear_0 : decode b_CLocals_clear 0 = .ok (.aload_n 0, 1) := by decide +kernel
theorem d_CLocals_clear_1 : decode b_CLocals_clear 1 = .ok (.iconst 0, 1) := by decide +kernel
theorem d_CLocals_clear_2 : decode b_CLocals_clear 2 = .ok (.putfield 19, 3) := by decide +kernel
theorem d_CLocals_clear_5 : decode b_CLocals_clear 5 = .ok (.aload_n 0, 1) := by decide +kernel
theorem d_CLocals_clear_6 : decode b_CLocals_clear 6 = .ok (.lconst 0, 1) := by decide +kernel
theorem d_CLocals_clear_7 : decode b_CLocals_clear 7 = .ok (.putfield 23, 3) := by decide +kernel
theorem d_CLocals_clear_10 : decode b_CLocals_clear 10 = .ok (.return_, 1) := by decide +kernel
theorem d_CRows_partOf_0 : decode b_CRows_partOf 0 = .ok (.iload_n 1, 1) := by decide +kernel
theorem d_CRows_partOf_1 : decode b_CRows_partOf 1 = .ok (.ifCond .ge 9, 3) := by decide +kernel
theorem d_CRows_partOf_4 : decode b_CRows_partOf 4 = .ok (.iload_n 1, 1) := by decide +kernel
theorem d_CRows_partOf_5 : decode b_CRows_partOf 5 = .ok (.sipush 128, 3) := by decide +kernel
theorem d_CRows_partOf_8 : decode b_CRows_partOf 8 = .ok (.iadd, 1) := by decide +kernel
theorem d_CRows_partOf_9 : decode b_CRows_partOf 9 = .ok (.ireturn, 1) := by decide +kernel
theorem d_CRows_partOf_10 : decode b_CRows_partOf 10 = .ok (.iload_n 1, 1) := by decide +kernel
theorem d_CRows_partOf_11 : decode b_CRows_partOf 11 = .ok (.bipush 40, 2) := by decide +kernel
theorem d_CRows_partOf_13 : decode b_CRows_partOf 13 = .ok (.if_icmp .ge 13, 3) := by decide +kernel
theorem d_CRows_partOf_16 : decode b_CRows_partOf 16 = .ok (.iload_n 2, 1) := by decide +kernel
theorem d_CRows_partOf_17 : decode b_CRows_partOf 17 = .ok (.ifCond .lt 9, 3) := by decide +kernel
theorem d_CRows_partOf_20 : decode b_CRows_partOf 20 = .ok (.iload_n 2, 1) := by decide +kernel
theorem d_CRows_partOf_21 : decode b_CRows_partOf 21 = .ok (.bipush 12, 2) := by decide +kernel
theorem d_CRows_partOf_23 : decode b_CRows_partOf 23 = .ok (.if_icmp .lt 5, 3) := by decide +kernel
theorem d_CRows_partOf_26 : decode b_CRows_partOf 26 = .ok (.iconst 0, 1) := by decide +kernel
theorem d_CRows_partOf_27 : decode b_CRows_partOf 27 = .ok (.ireturn, 1) := by decide +kernel
theorem d_CRows_partOf_28 : decode b_CRows_partOf 28 = .ok (.aload_n 0, 1) := by decide +kernel
theorem d_CRows_partOf_29 : decode b_CRows_partOf 29 = .ok (.getfield 15, 3) := by decide +kernel
theorem d_CRows_partOf_32 : decode b_CRows_partOf 32 = .ok (.iload_n 1, 1) := by decide +kernel
theorem d_CRows_partOf_33 : decode b_CRows_partOf 33 = .ok (.bipush 12, 2) := by decide +kernel
theorem d_CRows_partOf_35 : decode b_CRows_partOf 35 = .ok (.imul, 1) := by decide +kernel
theorem d_CRows_partOf_36 : decode b_CRows_partOf 36 = .ok (.iload_n 2, 1) := by decide +kernel
theorem d_CRows_partOf_37 : decode b_CRows_partOf 37 = .ok (.iadd, 1) := by decide +kernel
theorem d_CRows_partOf_38 : decode b_CRows_partOf 38 = .ok (.iaload, 1) := by decide +kernel
theorem d_CRows_partOf_39 : decode b_CRows_partOf 39 = .ok (.ireturn, 1) := by decide +kernel
theorem d_CLocals_append_0 : decode b_CLocals_append 0 = .ok (.aload_n 0, 1) := by decide +kernel
theorem d_CLocals_append_1 : decode b_CLocals_append 1 = .ok (.getfield 19, 3) := by decide +kernel
theorem d_CLocals_append_4 : decode b_CLocals_append 4 = .ok (.ifCond .lt 27, 3) := by decide +kernel
theorem d_CLocals_append_7 : decode b_CLocals_append 7 = .ok (.aload_n 0, 1) := by decide +kernel
theorem d_CLocals_append_8 : decode b_CLocals_append 8 = .ok (.getfield 19, 3) := by decide +kernel
theorem d_CLocals_append_11 : decode b_CLocals_append 11 = .ok (.aload_n 0, 1) := by decide +kernel
theorem d_CLocals_append_12 : decode b_CLocals_append 12 = .ok (.getfield 9, 3) := by decide +kernel
theorem d_CLocals_append_15 : decode b_CLocals_append 15 = .ok (.arraylength, 1) := by decide +kernel
theorem d_CLocals_append_16 : decode b_CLocals_append 16 = .ok (.if_icmp .ge 15, 3) := by decide +kernel
theorem d_CLocals_append_19 : decode b_CLocals_append 19 = .ok (.aload_n 0, 1) := by decide +kernel
theorem d_CLocals_append_20 : decode b_CLocals_append 20 = .ok (.getfield 19, 3) := by decide +kernel
theorem d_CLocals_append_23 : decode b_CLocals_append 23 = .ok (.aload_n 0, 1) := by decide +kernel
theorem d_CLocals_append_24 : decode b_CLocals_append 24 = .ok (.getfield 15, 3) := by decide +kernel
theorem d_CLocals_append_27 : decode b_CLocals_append 27 = .ok (.arraylength, 1) := by decide +kernel
theorem d_CLocals_append_28 : decode b_CLocals_append 28 = .ok (.if_icmp .lt 4, 3) := by decide +kernel
theorem d_CLocals_append_31 : decode b_CLocals_append 31 = .ok (.return_, 1) := by decide +kernel
theorem d_CLocals_append_32 : decode b_CLocals_append 32 = .ok (.aload_n 0, 1) := by decide +kernel
theorem d_CLocals_append_33 : decode b_CLocals_append 33 = .ok (.dup, 1) := by decide +kernel
theorem d_CLocals_append_34 : decode b_CLocals_append 34 = .ok (.getfield 23, 3) := by decide +kernel
theorem d_CLocals_append_37 : decode b_CLocals_append 37 = .ok (.lload_n 2, 1) := by decide +kernel
theorem d_CLocals_append_38 : decode b_CLocals_append 38 = .ok (.ladd, 1) := by decide +kernel
theorem d_CLocals_append_39 : decode b_CLocals_append 39 = .ok (.putfield 23, 3) := by decide +kernel
theorem d_CLocals_append_42 : decode b_CLocals_append 42 = .ok (.aload_n 0, 1) := by decide +kernel
theorem d_CLocals_append_43 : decode b_CLocals_append 43 = .ok (.getfield 9, 3) := by decide +kernel
theorem d_CLocals_append_46 : decode b_CLocals_append 46 = .ok (.aload_n 0, 1) := by decide +kernel
end
section
theorem d_CLocals_append_47 : decode b_CLocals_append 47 = .ok (.getfield 19, 3) := by decide +kernel
theorem d_CLocals_append_50 : decode b_CLocals_append 50 = .ok (.iload_n 1, 1) := by decide +kernel
theorem d_CLocals_append_51 : decode b_CLocals_append 51 = .ok (.iastore, 1) := by decide +kernel
theorem d_CLocals_append_52 : decode b_CLocals_append 52 = .ok (.aload_n 0, 1) := by decide +kernel
theorem d_CLocals_append_53 : decode b_CLocals_append 53 = .ok (.getfield 15, 3) := by decide +kernel
theorem d_CLocals_append_56 : decode b_CLocals_append 56 = .ok (.aload_n 0, 1) := by decide +kernel
theorem d_CLocals_append_57 : decode b_CLocals_append 57 = .ok (.getfield 19, 3) := by decide +kernel
theorem d_CLocals_append_60 : decode b_CLocals_append 60 = .ok (.aload_n 0, 1) := by decide +kernel
theorem d_CLocals_append_61 : decode b_CLocals_append 61 = .ok (.getfield 23, 3) := by decide +kernel
theorem d_CLocals_append_64 : decode b_CLocals_append 64 = .ok (.lastore, 1) := by decide +kernel
theorem d_CLocals_append_65 : decode b_CLocals_append 65 = .ok (.aload_n 0, 1) := by decide +kernel
theorem d_CLocals_append_66 : decode b_CLocals_append 66 = .ok (.dup, 1) := by decide +kernel
theorem d_CLocals_append_67 : decode b_CLocals_append 67 = .ok (.getfield 19, 3) := by decide +kernel
theorem d_CLocals_append_70 : decode b_CLocals_append 70 = .ok (.iconst 1, 1) := by decide +kernel
theorem d_CLocals_append_71 : decode b_CLocals_append 71 = .ok (.iadd, 1) := by decide +kernel
theorem d_CLocals_append_72 : decode b_CLocals_append 72 = .ok (.putfield 19, 3) := by decide +kernel
theorem d_CLocals_append_75 : decode b_CLocals_append 75 = .ok (.return_, 1) := by decide +kernel
theorem d_CC_constant_0 : decode b_CC_constant 0 = .ok (.iload_n 1, 1) := by decide +kernel
theorem d_CC_constant_1 : decode b_CC_constant 1 = .ok (.invokestatic 33, 3) := by decide +kernel
theorem d_CC_constant_4 : decode b_CC_constant 4 = .ok (.ifCond .eq 7, 3) := by decide +kernel
theorem d_CC_constant_7 : decode b_CC_constant 7 = .ok (.iload_n 2, 1) := by decide +kernel
theorem d_CC_constant_8 : decode b_CC_constant 8 = .ok (.ifCond .ge 5, 3) := by decide +kernel
theorem d_CC_constant_11 : decode b_CC_constant 11 = .ok (.iconst 0, 1) := by decide +kernel
theorem d_CC_constant_12 : decode b_CC_constant 12 = .ok (.ireturn, 1) := by decide +kernel
theorem d_CC_constant_13 : decode b_CC_constant 13 = .ok (.aload_n 0, 1) := by decide +kernel
theorem d_CC_constant_14 : decode b_CC_constant 14 = .ok (.getfield 21, 3) := by decide +kernel
theorem d_CC_constant_17 : decode b_CC_constant 17 = .ok (.iload_n 1, 1) := by decide +kernel
theorem d_CC_constant_18 : decode b_CC_constant 18 = .ok (.iload_n 2, 1) := by decide +kernel
theorem d_CC_constant_19 : decode b_CC_constant 19 = .ok (.invokevirtual 61, 3) := by decide +kernel
theorem d_CC_constant_22 : decode b_CC_constant 22 = .ok (.iconst 1, 1) := by decide +kernel
theorem d_CC_constant_23 : decode b_CC_constant 23 = .ok (.ireturn, 1) := by decide +kernel
theorem d_CCode_openConstant_0 : decode b_CCode_openConstant 0 = .ok (.aload_n 0, 1) := by decide +kernel
theorem d_CCode_openConstant_1 : decode b_CCode_openConstant 1 = .ok (.iload_n 1, 1) := by decide +kernel
theorem d_CCode_openConstant_2 : decode b_CCode_openConstant 2 = .ok (.sipush 128, 3) := by decide +kernel
theorem d_CCode_openConstant_5 : decode b_CCode_openConstant 5 = .ok (.isub, 1) := by decide +kernel
theorem d_CCode_openConstant_6 : decode b_CCode_openConstant 6 = .ok (.iconst 1, 1) := by decide +kernel
theorem d_CCode_openConstant_7 : decode b_CCode_openConstant 7 = .ok (.invokevirtual 59, 3) := by decide +kernel
theorem d_CCode_openConstant_10 : decode b_CCode_openConstant 10 = .ok (.aload_n 0, 1) := by decide +kernel
theorem d_CCode_openConstant_11 : decode b_CCode_openConstant 11 = .ok (.iload_n 2, 1) := by decide +kernel
theorem d_CCode_openConstant_12 : decode b_CCode_openConstant 12 = .ok (.putfield 83, 3) := by decide +kernel
theorem d_CCode_openConstant_15 : decode b_CCode_openConstant 15 = .ok (.return_, 1) := by decide +kernel
theorem d_CC_local_0 : decode b_CC_local 0 = .ok (.aload_n 0, 1) := by decide +kernel
theorem d_CC_local_1 : decode b_CC_local 1 = .ok (.getfield 21, 3) := by decide +kernel
theorem d_CC_local_4 : decode b_CC_local 4 = .ok (.iload_n 1, 1) := by decide +kernel
theorem d_CC_local_5 : decode b_CC_local 5 = .ok (.iload_n 2, 1) := by decide +kernel
theorem d_CC_local_6 : decode b_CC_local 6 = .ok (.invokevirtual 65, 3) := by decide +kernel
theorem d_CC_local_9 : decode b_CC_local 9 = .ok (.ireturn, 1) := by decide +kernel
theorem d_CCode_addLocals_0 : decode b_CCode_addLocals 0 = .ok (.aload_n 0, 1) := by decide +kernel
theorem d_CCode_addLocals_1 : decode b_CCode_addLocals 1 = .ok (.invokevirtual 86, 3) := by decide +kernel
theorem d_CCode_addLocals_4 : decode b_CCode_addLocals 4 = .ok (.ifCond .eq 33, 3) := by decide +kernel
theorem d_CCode_addLocals_7 : decode b_CCode_addLocals 7 = .ok (.aload_n 0, 1) := by decide +kernel
theorem d_CCode_addLocals_8 : decode b_CCode_addLocals 8 = .ok (.getfield 56, 3) := by decide +kernel
theorem d_CCode_addLocals_11 : decode b_CCode_addLocals 11 = .ok (.ifCond .ne 26, 3) := by decide +kernel
theorem d_CCode_addLocals_14 : decode b_CCode_addLocals 14 = .ok (.aload_n 0, 1) := by decide +kernel
theorem d_CCode_addLocals_15 : decode b_CCode_addLocals 15 = .ok (.getfield 52, 3) := by decide +kernel
theorem d_CCode_addLocals_18 : decode b_CCode_addLocals 18 = .ok (.ifCond .ne 19, 3) := by decide +kernel
theorem d_CCode_addLocals_21 : decode b_CCode_addLocals 21 = .ok (.iload_n 1, 1) := by decide +kernel
theorem d_CCode_addLocals_22 : decode b_CCode_addLocals 22 = .ok (.invokestatic 90, 3) := by decide +kernel
theorem d_CCode_addLocals_25 : decode b_CCode_addLocals 25 = .ok (.ifCond .eq 12, 3) := by decide +kernel
theorem d_CCode_addLocals_28 : decode b_CCode_addLocals 28 = .ok (.aload_n 0, 1) := by decide +kernel
theorem d_CCode_addLocals_29 : decode b_CCode_addLocals 29 = .ok (.getfield 49, 3) := by decide +kernel
theorem d_CCode_addLocals_32 : decode b_CCode_addLocals 32 = .ok (.bipush 40, 2) := by decide +kernel
theorem d_CCode_addLocals_34 : decode b_CCode_addLocals 34 = .ok (.if_icmp .lt 5, 3) := by decide +kernel
theorem d_CCode_addLocals_37 : decode b_CCode_addLocals 37 = .ok (.iconst 0, 1) := by decide +kernel
theorem d_CCode_addLocals_38 : decode b_CCode_addLocals 38 = .ok (.ireturn, 1) := by decide +kernel
theorem d_CCode_addLocals_39 : decode b_CCode_addLocals 39 = .ok (.aload_n 0, 1) := by decide +kernel
theorem d_CCode_addLocals_40 : decode b_CCode_addLocals 40 = .ok (.getfield 12, 3) := by decide +kernel
theorem d_CCode_addLocals_43 : decode b_CCode_addLocals 43 = .ok (.iload_n 1, 1) := by decide +kernel
theorem d_CCode_addLocals_44 : decode b_CCode_addLocals 44 = .ok (.iload_n 2, 1) := by decide +kernel
theorem d_CCode_addLocals_45 : decode b_CCode_addLocals 45 = .ok (.invokestatic 94, 3) := by decide +kernel
theorem d_CCode_addLocals_48 : decode b_CCode_addLocals 48 = .ok (.invokevirtual 79, 3) := by decide +kernel
theorem d_CCode_addLocals_51 : decode b_CCode_addLocals 51 = .ok (.aload_n 0, 1) := by decide +kernel
theorem d_CCode_addLocals_52 : decode b_CCode_addLocals 52 = .ok (.dup, 1) := by decide +kernel
theorem d_CCode_addLocals_53 : decode b_CCode_addLocals 53 = .ok (.getfield 49, 3) := by decide +kernel
theorem d_CCode_addLocals_56 : decode b_CCode_addLocals 56 = .ok (.iconst 1, 1) := by decide +kernel
theorem d_CCode_addLocals_57 : decode b_CCode_addLocals 57 = .ok (.iadd, 1) := by decide +kernel
theorem d_CCode_addLocals_58 : decode b_CCode_addLocals 58 = .ok (.putfield 49, 3) := by decide +kernel
theorem d_CCode_addLocals_61 : decode b_CCode_addLocals 61 = .ok (.iconst 1, 1) := by decide +kernel
theorem d_CCode_addLocals_62 : decode b_CCode_addLocals 62 = .ok (.ireturn, 1) := by decide +kernel
theorem d_CC_withoutSign_0 : decode b_CC_withoutSign 0 = .ok (.iload_n 0, 1) := by decide +kernel
theorem d_CC_withoutSign_1 : decode b_CC_withoutSign 1 = .ok (.i2l, 1) := by decide +kernel
theorem d_CC_withoutSign_2 : decode b_CC_withoutSign 2 = .ok (.ldc2_w 105, 3) := by decide +kernel
theorem d_CC_withoutSign_5 : decode b_CC_withoutSign 5 = .ok (.land, 1) := by decide +kernel
theorem d_CC_withoutSign_6 : decode b_CC_withoutSign 6 = .ok (.lreturn, 1) := by decide +kernel
theorem d_CC_label_0 : decode b_CC_label 0 = .ok (.aload_n 0, 1) := by decide +kernel
theorem d_CC_label_1 : decode b_CC_label 1 = .ok (.getfield 21, 3) := by decide +kernel
theorem d_CC_label_4 : decode b_CC_label 4 = .ok (.iload_n 1, 1) := by decide +kernel
theorem d_CC_label_5 : decode b_CC_label 5 = .ok (.invokevirtual 69, 3) := by decide +kernel
theorem d_CC_label_8 : decode b_CC_label 8 = .ok (.ireturn, 1) := by decide +kernel
theorem d_CCode_addLabel_0 : decode b_CCode_addLabel 0 = .ok (.aload_n 0, 1) := by decide +kernel
theorem d_CCode_addLabel_1 : decode b_CCode_addLabel 1 = .ok (.invokevirtual 86, 3) := by decide +kernel
theorem d_CCode_addLabel_4 : decode b_CCode_addLabel 4 = .ok (.ifCond .eq 22, 3) := by decide +kernel
theorem d_CCode_addLabel_7 : decode b_CCode_addLabel 7 = .ok (.aload_n 0, 1) := by decide +kernel
theorem d_CCode_addLabel_8 : decode b_CCode_addLabel 8 = .ok (.getfield 46, 3) := by decide +kernel
theorem d_CCode_addLabel_11 : decode b_CCode_addLabel 11 = .ok (.ifCond .lt 15, 3) := by decide +kernel
theorem d_CCode_addLabel_14 : decode b_CCode_addLabel 14 = .ok (.aload_n 0, 1) := by decide +kernel
theorem d_CCode_addLabel_15 : decode b_CCode_addLabel 15 = .ok (.getfield 46, 3) := by decide +kernel
theorem d_CCode_addLabel_18 : decode b_CCode_addLabel 18 = .ok (.aload_n 0, 1) := by decide +kernel
theorem d_CCode_addLabel_19 : decode b_CCode_addLabel 19 = .ok (.getfield 18, 3) := by decide +kernel
theorem d_CCode_addLabel_22 : decode b_CCode_addLabel 22 = .ok (.arraylength, 1) := by decide +kernel
theorem d_CCode_addLabel_23 : decode b_CCode_addLabel 23 = .ok (.if_icmp .lt 5, 3) := by decide +kernel
theorem d_CCode_addLabel_26 : decode b_CCode_addLabel 26 = .ok (.iconst (-1), 1) := by decide +kernel
theorem d_CCode_addLabel_27 : decode b_CCode_addLabel 27 = .ok (.ireturn, 1) := by decide +kernel
theorem d_CCode_addLabel_28 : decode b_CCode_addLabel 28 = .ok (.aload_n 0, 1) := by decide +kernel
theorem d_CCode_addLabel_29 : decode b_CCode_addLabel 29 = .ok (.getfield 18, 3) := by decide +kernel
theorem d_CCode_addLabel_32 : decode b_CCode_addLabel 32 = .ok (.aload_n 0, 1) := by decide +kernel
theorem d_CCode_addLabel_33 : decode b_CCode_addLabel 33 = .ok (.getfield 46, 3) := by decide +kernel
theorem d_CCode_addLabel_36 : decode b_CCode_addLabel 36 = .ok (.iload_n 1, 1) := by decide +kernel
theorem d_CCode_addLabel_37 : decode b_CCode_addLabel 37 = .ok (.iastore, 1) := by decide +kernel
theorem d_CCode_addLabel_38 : decode b_CCode_addLabel 38 = .ok (.aload_n 0, 1) := by decide +kernel
theorem d_CCode_addLabel_39 : decode b_CCode_addLabel 39 = .ok (.dup, 1) := by decide +kernel
theorem d_CCode_addLabel_40 : decode b_CCode_addLabel 40 = .ok (.getfield 46, 3) := by decide +kernel
theorem d_CCode_addLabel_43 : decode b_CCode_addLabel 43 = .ok (.iconst 1, 1) := by decide +kernel
theorem d_CCode_addLabel_44 : decode b_CCode_addLabel 44 = .ok (.iadd, 1) := by decide +kernel
theorem d_CCode_addLabel_45 : decode b_CCode_addLabel 45 = .ok (.putfield 46, 3) := by decide +kernel
theorem d_CCode_addLabel_48 : decode b_CCode_addLabel 48 = .ok (.aload_n 0, 1) := by decide +kernel
theorem d_CCode_addLabel_49 : decode b_CCode_addLabel 49 = .ok (.getfield 46, 3) := by decide +kernel
theorem d_CCode_addLabel_52 : decode b_CCode_addLabel 52 = .ok (.ireturn, 1) := by decide +kernel
theorem d_CC_step_0 : decode b_CC_step 0 = .ok (.aload_n 0, 1) := by decide +kernel
theorem d_CC_step_1 : decode b_CC_step 1 = .ok (.getfield 21, 3) := by decide +kernel
theorem d_CC_step_4 : decode b_CC_step 4 = .ok (.invokevirtual 29, 3) := by decide +kernel
theorem d_CC_step_7 : decode b_CC_step 7 = .ok (.ifCond .ne 5, 3) := by decide +kernel
theorem d_CC_step_10 : decode b_CC_step 10 = .ok (.iconst (-1), 1) := by decide +kernel
theorem d_CC_step_11 : decode b_CC_step 11 = .ok (.ireturn, 1) := by decide +kernel
theorem d_CC_step_12 : decode b_CC_step 12 = .ok (.aload_n 0, 1) := by decide +kernel
theorem d_CC_step_13 : decode b_CC_step 13 = .ok (.getfield 21, 3) := by decide +kernel
theorem d_CC_step_16 : decode b_CC_step 16 = .ok (.iload_n 1, 1) := by decide +kernel
theorem d_CC_step_17 : decode b_CC_step 17 = .ok (.iload_n 2, 1) := by decide +kernel
theorem d_CC_step_18 : decode b_CC_step 18 = .ok (.iload_n 3, 1) := by decide +kernel
theorem d_CC_step_19 : decode b_CC_step 19 = .ok (.invokevirtual 73, 3) := by decide +kernel
theorem d_CC_step_22 : decode b_CC_step 22 = .ok (.istore 4, 2) := by decide +kernel
theorem d_CC_step_24 : decode b_CC_step 24 = .ok (.iload 4, 2) := by decide +kernel
theorem d_CC_step_26 : decode b_CC_step 26 = .ok (.ifCond .ne 14, 3) := by decide +kernel
theorem d_CC_step_29 : decode b_CC_step 29 = .ok (.aload_n 0, 1) := by decide +kernel
theorem d_CC_step_30 : decode b_CC_step 30 = .ok (.getfield 21, 3) := by decide +kernel
theorem d_CC_step_33 : decode b_CC_step 33 = .ok (.iload_n 1, 1) := by decide +kernel
theorem d_CC_step_34 : decode b_CC_step 34 = .ok (.iload_n 2, 1) := by decide +kernel
theorem d_CC_step_35 : decode b_CC_step 35 = .ok (.invokevirtual 76, 3) := by decide +kernel
theorem d_CC_step_38 : decode b_CC_step 38 = .ok (.istore 4, 2) := by decide +kernel
theorem d_CC_step_40 : decode b_CC_step 40 = .ok (.aload_n 0, 1) := by decide +kernel
theorem d_CC_step_41 : decode b_CC_step 41 = .ok (.getfield 21, 3) := by decide +kernel
theorem d_CC_step_44 : decode b_CC_step 44 = .ok (.iload 4, 2) := by decide +kernel
theorem d_CC_step_46 : decode b_CC_step 46 = .ok (.invokevirtual 80, 3) := by decide +kernel
theorem d_CC_step_49 : decode b_CC_step 49 = .ok (.iload 4, 2) := by decide +kernel
theorem d_CC_step_51 : decode b_CC_step 51 = .ok (.ireturn, 1) := by decide +kernel
theorem d_CCode_faultAhead_0 : decode b_CCode_faultAhead 0 = .ok (.aload_n 0, 1) := by decide +kernel
theorem d_CCode_faultAhead_1 : decode b_CCode_faultAhead 1 = .ok (.iload_n 1, 1) := by decide +kernel
theorem d_CCode_faultAhead_2 : decode b_CCode_faultAhead 2 = .ok (.iload_n 2, 1) := by decide +kernel
theorem d_CCode_faultAhead_3 : decode b_CCode_faultAhead 3 = .ok (.invokevirtual 120, 3) := by decide +kernel
theorem d_CCode_faultAhead_6 : decode b_CCode_faultAhead 6 = .ok (.ifCond .eq 6, 3) := by decide +kernel
theorem d_CCode_faultAhead_9 : decode b_CCode_faultAhead 9 = .ok (.bipush 13, 2) := by decide +kernel
theorem d_CCode_faultAhead_11 : decode b_CCode_faultAhead 11 = .ok (.ireturn, 1) := by decide +kernel
theorem d_CCode_faultAhead_12 : decode b_CCode_faultAhead 12 = .ok (.aload_n 0, 1) := by decide +kernel
theorem d_CCode_faultAhead_13 : decode b_CCode_faultAhead 13 = .ok (.getfield 56, 3) := by decide +kernel
theorem d_CCode_faultAhead_16 : decode b_CCode_faultAhead 16 = .ok (.ifCond .eq 15, 3) := by decide +kernel
theorem d_CCode_faultAhead_19 : decode b_CCode_faultAhead 19 = .ok (.aload_n 0, 1) := by decide +kernel
theorem d_CCode_faultAhead_20 : decode b_CCode_faultAhead 20 = .ok (.iload_n 1, 1) := by decide +kernel
theorem d_CCode_faultAhead_21 : decode b_CCode_faultAhead 21 = .ok (.iload_n 2, 1) := by decide +kernel
theorem d_CCode_faultAhead_22 : decode b_CCode_faultAhead 22 = .ok (.invokevirtual 124, 3) := by decide +kernel
theorem d_CCode_faultAhead_25 : decode b_CCode_faultAhead 25 = .ok (.ifCond .ne 6, 3) := by decide +kernel
theorem d_CCode_faultAhead_28 : decode b_CCode_faultAhead 28 = .ok (.bipush 14, 2) := by decide +kernel
theorem d_CCode_faultAhead_30 : decode b_CCode_faultAhead 30 = .ok (.ireturn, 1) := by decide +kernel
theorem d_CCode_faultAhead_31 : decode b_CCode_faultAhead 31 = .ok (.aload_n 0, 1) := by decide +kernel
theorem d_CCode_faultAhead_32 : decode b_CCode_faultAhead 32 = .ok (.iload_n 1, 1) := by decide +kernel
theorem d_CCode_faultAhead_33 : decode b_CCode_faultAhead 33 = .ok (.iload_n 2, 1) := by decide +kernel
theorem d_CCode_faultAhead_34 : decode b_CCode_faultAhead 34 = .ok (.iload_n 3, 1) := by decide +kernel
theorem d_CCode_faultAhead_35 : decode b_CCode_faultAhead 35 = .ok (.invokevirtual 127, 3) := by decide +kernel
theorem d_CCode_faultAhead_38 : decode b_CCode_faultAhead 38 = .ok (.ifCond .eq 6, 3) := by decide +kernel
theorem d_CCode_faultAhead_41 : decode b_CCode_faultAhead 41 = .ok (.bipush 12, 2) := by decide +kernel
theorem d_CCode_faultAhead_43 : decode b_CCode_faultAhead 43 = .ok (.ireturn, 1) := by decide +kernel
theorem d_CCode_faultAhead_44 : decode b_CCode_faultAhead 44 = .ok (.aload_n 0, 1) := by decide +kernel
theorem d_CCode_faultAhead_45 : decode b_CCode_faultAhead 45 = .ok (.iload_n 1, 1) := by decide +kernel
theorem d_CCode_faultAhead_46 : decode b_CCode_faultAhead 46 = .ok (.iload_n 2, 1) := by decide +kernel
theorem d_CCode_faultAhead_47 : decode b_CCode_faultAhead 47 = .ok (.iload_n 3, 1) := by decide +kernel
theorem d_CCode_faultAhead_48 : decode b_CCode_faultAhead 48 = .ok (.invokevirtual 131, 3) := by decide +kernel
theorem d_CCode_faultAhead_51 : decode b_CCode_faultAhead 51 = .ok (.ireturn, 1) := by decide +kernel
theorem d_CCode_isMalformed_0 : decode b_CCode_isMalformed 0 = .ok (.iload_n 1, 1) := by decide +kernel
theorem d_CCode_isMalformed_1 : decode b_CCode_isMalformed 1 = .ok (.lookupswitch 90 #[(2, 51), (3, 51), (4, 51), (28, 64), (208, 77)], 51) := by decide +kernel
theorem d_CCode_isMalformed_52 : decode b_CCode_isMalformed 52 = .ok (.iload_n 2, 1) := by decide +kernel
theorem d_CCode_isMalformed_53 : decode b_CCode_isMalformed 53 = .ok (.invokestatic 135, 3) := by decide +kernel
theorem d_CCode_isMalformed_56 : decode b_CCode_isMalformed 56 = .ok (.ifCond .ne 7, 3) := by decide +kernel
theorem d_CCode_isMalformed_59 : decode b_CCode_isMalformed 59 = .ok (.iconst 1, 1) := by decide +kernel
theorem d_CCode_isMalformed_60 : decode b_CCode_isMalformed 60 = .ok (.goto 4, 3) := by decide +kernel
theorem d_CCode_isMalformed_63 : decode b_CCode_isMalformed 63 = .ok (.iconst 0, 1) := by decide +kernel
theorem d_CCode_isMalformed_64 : decode b_CCode_isMalformed 64 = .ok (.ireturn, 1) := by decide +kernel
theorem d_CCode_isMalformed_65 : decode b_CCode_isMalformed 65 = .ok (.iload_n 2, 1) := by decide +kernel
theorem d_CCode_isMalformed_66 : decode b_CCode_isMalformed 66 = .ok (.invokestatic 90, 3) := by decide +kernel
theorem d_CCode_isMalformed_69 : decode b_CCode_isMalformed 69 = .ok (.ifCond .ne 7, 3) := by decide +kernel
theorem d_CCode_isMalformed_72 : decode b_CCode_isMalformed 72 = .ok (.iconst 1, 1) := by decide +kernel
theorem d_CCode_isMalformed_73 : decode b_CCode_isMalformed 73 = .ok (.goto 4, 3) := by decide +kernel
theorem d_CCode_isMalformed_76 : decode b_CCode_isMalformed 76 = .ok (.iconst 0, 1) := by decide +kernel
theorem d_CCode_isMalformed_77 : decode b_CCode_isMalformed 77 = .ok (.ireturn, 1) := by decide +kernel
theorem d_CCode_isMalformed_78 : decode b_CCode_isMalformed 78 = .ok (.iload_n 2, 1) := by decide +kernel
theorem d_CCode_isMalformed_79 : decode b_CCode_isMalformed 79 = .ok (.invokestatic 138, 3) := by decide +kernel
theorem d_CCode_isMalformed_82 : decode b_CCode_isMalformed 82 = .ok (.ifCond .ne 7, 3) := by decide +kernel
theorem d_CCode_isMalformed_85 : decode b_CCode_isMalformed 85 = .ok (.iconst 1, 1) := by decide +kernel
theorem d_CCode_isMalformed_86 : decode b_CCode_isMalformed 86 = .ok (.goto 4, 3) := by decide +kernel
theorem d_CCode_isMalformed_89 : decode b_CCode_isMalformed 89 = .ok (.iconst 0, 1) := by decide +kernel
theorem d_CCode_isMalformed_90 : decode b_CCode_isMalformed 90 = .ok (.ireturn, 1) := by decide +kernel
theorem d_CCode_isMalformed_91 : decode b_CCode_isMalformed 91 = .ok (.iload_n 1, 1) := by decide +kernel
theorem d_CCode_isMalformed_92 : decode b_CCode_isMalformed 92 = .ok (.invokestatic 141, 3) := by decide +kernel
theorem d_CCode_isMalformed_95 : decode b_CCode_isMalformed 95 = .ok (.ifCond .ne 7, 3) := by decide +kernel
theorem d_CCode_isMalformed_98 : decode b_CCode_isMalformed 98 = .ok (.iconst 1, 1) := by decide +kernel
theorem d_CCode_isMalformed_99 : decode b_CCode_isMalformed 99 = .ok (.goto 4, 3) := by decide +kernel
theorem d_CCode_isMalformed_102 : decode b_CCode_isMalformed 102 = .ok (.iconst 0, 1) := by decide +kernel
theorem d_CCode_isMalformed_103 : decode b_CCode_isMalformed 103 = .ok (.ireturn, 1) := by decide +kernel
theorem d_CC_isInstruction_0 : decode b_CC_isInstruction 0 = .ok (.iconst 0, 1) := by decide +kernel
theorem d_CC_isInstruction_1 : decode b_CC_isInstruction 1 = .ok (.istore_n 1, 1) := by decide +kernel
theorem d_CC_isInstruction_2 : decode b_CC_isInstruction 2 = .ok (.iload_n 1, 1) := by decide +kernel
theorem d_CC_isInstruction_3 : decode b_CC_isInstruction 3 = .ok (.iconst 1, 1) := by decide +kernel
theorem d_CC_isInstruction_4 : decode b_CC_isInstruction 4 = .ok (.iadd, 1) := by decide +kernel
theorem d_CC_isInstruction_5 : decode b_CC_isInstruction 5 = .ok (.getstatic 107, 3) := by decide +kernel
theorem d_CC_isInstruction_8 : decode b_CC_isInstruction 8 = .ok (.arraylength, 1) := by decide +kernel
theorem d_CC_isInstruction_9 : decode b_CC_isInstruction 9 = .ok (.if_icmp .ge 31, 3) := by decide +kernel
theorem d_CC_isInstruction_12 : decode b_CC_isInstruction 12 = .ok (.iload_n 0, 1) := by decide +kernel
theorem d_CC_isInstruction_13 : decode b_CC_isInstruction 13 = .ok (.getstatic 107, 3) := by decide +kernel
theorem d_CC_isInstruction_16 : decode b_CC_isInstruction 16 = .ok (.iload_n 1, 1) := by decide +kernel
theorem d_CC_isInstruction_17 : decode b_CC_isInstruction 17 = .ok (.iaload, 1) := by decide +kernel
theorem d_CC_isInstruction_18 : decode b_CC_isInstruction 18 = .ok (.if_icmp .lt 16, 3) := by decide +kernel
theorem d_CC_isInstruction_21 : decode b_CC_isInstruction 21 = .ok (.iload_n 0, 1) := by decide +kernel
theorem d_CC_isInstruction_22 : decode b_CC_isInstruction 22 = .ok (.getstatic 107, 3) := by decide +kernel
theorem d_CC_isInstruction_25 : decode b_CC_isInstruction 25 = .ok (.iload_n 1, 1) := by decide +kernel
theorem d_CC_isInstruction_26 : decode b_CC_isInstruction 26 = .ok (.iconst 1, 1) := by decide +kernel
theorem d_CC_isInstruction_27 : decode b_CC_isInstruction 27 = .ok (.iadd, 1) := by decide +kernel
theorem d_CC_isInstruction_28 : decode b_CC_isInstruction 28 = .ok (.iaload, 1) := by decide +kernel
theorem d_CC_isInstruction_29 : decode b_CC_isInstruction 29 = .ok (.if_icmp .gt 5, 3) := by decide +kernel
theorem d_CC_isInstruction_32 : decode b_CC_isInstruction 32 = .ok (.iconst 1, 1) := by decide +kernel
theorem d_CC_isInstruction_33 : decode b_CC_isInstruction 33 = .ok (.ireturn, 1) := by decide +kernel
theorem d_CC_isInstruction_34 : decode b_CC_isInstruction 34 = .ok (.iinc 1 2, 3) := by decide +kernel
theorem d_CC_isInstruction_37 : decode b_CC_isInstruction 37 = .ok (.goto (-35), 3) := by decide +kernel
theorem d_CC_isInstruction_40 : decode b_CC_isInstruction 40 = .ok (.iconst 0, 1) := by decide +kernel
theorem d_CC_isInstruction_41 : decode b_CC_isInstruction 41 = .ok (.ireturn, 1) := by decide +kernel
theorem d_CC_isBlockType_0 : decode b_CC_isBlockType 0 = .ok (.iload_n 0, 1) := by decide +kernel
theorem d_CC_isBlockType_1 : decode b_CC_isBlockType 1 = .ok (.ifCond .ge 20, 3) := by decide +kernel
theorem d_CC_isBlockType_4 : decode b_CC_isBlockType 4 = .ok (.iload_n 0, 1) := by decide +kernel
theorem d_CC_isBlockType_5 : decode b_CC_isBlockType 5 = .ok (.bipush (-64), 2) := by decide +kernel
theorem d_CC_isBlockType_7 : decode b_CC_isBlockType 7 = .ok (.if_icmp .eq 14, 3) := by decide +kernel
theorem d_CC_isBlockType_10 : decode b_CC_isBlockType 10 = .ok (.iload_n 0, 1) := by decide +kernel
theorem d_CC_isBlockType_11 : decode b_CC_isBlockType 11 = .ok (.sipush 128, 3) := by decide +kernel
theorem d_CC_isBlockType_14 : decode b_CC_isBlockType 14 = .ok (.iadd, 1) := by decide +kernel
theorem d_CC_isBlockType_15 : decode b_CC_isBlockType 15 = .ok (.invokestatic 33, 3) := by decide +kernel
theorem d_CC_isBlockType_18 : decode b_CC_isBlockType 18 = .ok (.ifCond .eq 7, 3) := by decide +kernel
theorem d_CC_isBlockType_21 : decode b_CC_isBlockType 21 = .ok (.iconst 1, 1) := by decide +kernel
theorem d_CC_isBlockType_22 : decode b_CC_isBlockType 22 = .ok (.goto 4, 3) := by decide +kernel
theorem d_CC_isBlockType_25 : decode b_CC_isBlockType 25 = .ok (.iconst 0, 1) := by decide +kernel
theorem d_CC_isBlockType_26 : decode b_CC_isBlockType 26 = .ok (.ireturn, 1) := by decide +kernel
theorem d_CCode_mayStandInConstant_0 : decode b_CCode_mayStandInConstant 0 = .ok (.iload_n 1, 1) := by decide +kernel
theorem d_CCode_mayStandInConstant_1 : decode b_CCode_mayStandInConstant 1 = .ok (.bipush 35, 2) := by decide +kernel
theorem d_CCode_mayStandInConstant_3 : decode b_CCode_mayStandInConstant 3 = .ok (.if_icmp .ne 45, 3) := by decide +kernel
theorem d_CCode_mayStandInConstant_6 : decode b_CCode_mayStandInConstant 6 = .ok (.aload_n 0, 1) := by decide +kernel
theorem d_CCode_mayStandInConstant_7 : decode b_CCode_mayStandInConstant 7 = .ok (.getfield 26, 3) := by decide +kernel
theorem d_CCode_mayStandInConstant_10 : decode b_CCode_mayStandInConstant 10 = .ok (.getfield 144, 3) := by decide +kernel
theorem d_CCode_mayStandInConstant_13 : decode b_CCode_mayStandInConstant 13 = .ok (.iload_n 2, 1) := by decide +kernel
theorem d_CCode_mayStandInConstant_14 : decode b_CCode_mayStandInConstant 14 = .ok (.invokevirtual 148, 3) := by decide +kernel
theorem d_CCode_mayStandInConstant_17 : decode b_CCode_mayStandInConstant 17 = .ok (.ifCond .eq 29, 3) := by decide +kernel
theorem d_CCode_mayStandInConstant_20 : decode b_CCode_mayStandInConstant 20 = .ok (.iload_n 2, 1) := by decide +kernel
theorem d_CCode_mayStandInConstant_21 : decode b_CCode_mayStandInConstant 21 = .ok (.aload_n 0, 1) := by decide +kernel
theorem d_CCode_mayStandInConstant_22 : decode b_CCode_mayStandInConstant 22 = .ok (.getfield 83, 3) := by decide +kernel
theorem d_CCode_mayStandInConstant_25 : decode b_CCode_mayStandInConstant 25 = .ok (.if_icmp .ge 21, 3) := by decide +kernel
theorem d_CCode_mayStandInConstant_28 : decode b_CCode_mayStandInConstant 28 = .ok (.aload_n 0, 1) := by decide +kernel
theorem d_CCode_mayStandInConstant_29 : decode b_CCode_mayStandInConstant 29 = .ok (.getfield 26, 3) := by decide +kernel
theorem d_CCode_mayStandInConstant_32 : decode b_CCode_mayStandInConstant 32 = .ok (.getfield 144, 3) := by decide +kernel
theorem d_CCode_mayStandInConstant_35 : decode b_CCode_mayStandInConstant 35 = .ok (.iload_n 2, 1) := by decide +kernel
theorem d_CCode_mayStandInConstant_36 : decode b_CCode_mayStandInConstant 36 = .ok (.invokevirtual 153, 3) := by decide +kernel
theorem d_CCode_mayStandInConstant_39 : decode b_CCode_mayStandInConstant 39 = .ok (.ifCond .ne 7, 3) := by decide +kernel
theorem d_CCode_mayStandInConstant_42 : decode b_CCode_mayStandInConstant 42 = .ok (.iconst 1, 1) := by decide +kernel
theorem d_CCode_mayStandInConstant_43 : decode b_CCode_mayStandInConstant 43 = .ok (.goto 4, 3) := by decide +kernel
theorem d_CCode_mayStandInConstant_46 : decode b_CCode_mayStandInConstant 46 = .ok (.iconst 0, 1) := by decide +kernel
theorem d_CCode_mayStandInConstant_47 : decode b_CCode_mayStandInConstant 47 = .ok (.ireturn, 1) := by decide +kernel
theorem d_CCode_mayStandInConstant_48 : decode b_CCode_mayStandInConstant 48 = .ok (.iload_n 1, 1) := by decide +kernel
theorem d_CCode_mayStandInConstant_49 : decode b_CCode_mayStandInConstant 49 = .ok (.bipush 11, 2) := by decide +kernel
theorem d_CCode_mayStandInConstant_51 : decode b_CCode_mayStandInConstant 51 = .ok (.if_icmp .eq 29, 3) := by decide +kernel
theorem d_CCode_mayStandInConstant_54 : decode b_CCode_mayStandInConstant 54 = .ok (.iload_n 1, 1) := by decide +kernel
theorem d_CCode_mayStandInConstant_55 : decode b_CCode_mayStandInConstant 55 = .ok (.bipush 65, 2) := by decide +kernel
theorem d_CCode_mayStandInConstant_57 : decode b_CCode_mayStandInConstant 57 = .ok (.if_icmp .lt 9, 3) := by decide +kernel
theorem d_CCode_mayStandInConstant_60 : decode b_CCode_mayStandInConstant 60 = .ok (.iload_n 1, 1) := by decide +kernel
theorem d_CCode_mayStandInConstant_61 : decode b_CCode_mayStandInConstant 61 = .ok (.bipush 68, 2) := by decide +kernel
theorem d_CCode_mayStandInConstant_63 : decode b_CCode_mayStandInConstant 63 = .ok (.if_icmp .le 17, 3) := by decide +kernel
theorem d_CCode_mayStandInConstant_66 : decode b_CCode_mayStandInConstant 66 = .ok (.iload_n 1, 1) := by decide +kernel
theorem d_CCode_mayStandInConstant_67 : decode b_CCode_mayStandInConstant 67 = .ok (.sipush 208, 3) := by decide +kernel
theorem d_CCode_mayStandInConstant_70 : decode b_CCode_mayStandInConstant 70 = .ok (.if_icmp .eq 10, 3) := by decide +kernel
theorem d_CCode_mayStandInConstant_73 : decode b_CCode_mayStandInConstant 73 = .ok (.iload_n 1, 1) := by decide +kernel
theorem d_CCode_mayStandInConstant_74 : decode b_CCode_mayStandInConstant 74 = .ok (.sipush 210, 3) := by decide +kernel
theorem d_CCode_mayStandInConstant_77 : decode b_CCode_mayStandInConstant 77 = .ok (.if_icmp .ne 7, 3) := by decide +kernel
theorem d_CCode_mayStandInConstant_80 : decode b_CCode_mayStandInConstant 80 = .ok (.iconst 1, 1) := by decide +kernel
theorem d_CCode_mayStandInConstant_81 : decode b_CCode_mayStandInConstant 81 = .ok (.goto 4, 3) := by decide +kernel
theorem d_CCode_mayStandInConstant_84 : decode b_CCode_mayStandInConstant 84 = .ok (.iconst 0, 1) := by decide +kernel
theorem d_CCode_mayStandInConstant_85 : decode b_CCode_mayStandInConstant 85 = .ok (.ireturn, 1) := by decide +kernel
theorem d_CShelf_isMarked_0 : decode b_CShelf_isMarked 0 = .ok (.aload_n 0, 1) := by decide +kernel
theorem d_CShelf_isMarked_1 : decode b_CShelf_isMarked 1 = .ok (.iload_n 1, 1) := by decide +kernel
theorem d_CShelf_isMarked_2 : decode b_CShelf_isMarked 2 = .ok (.invokevirtual 23, 3) := by decide +kernel
theorem d_CShelf_isMarked_5 : decode b_CShelf_isMarked 5 = .ok (.ifCond .eq 25, 3) := by decide +kernel
theorem d_CShelf_isMarked_8 : decode b_CShelf_isMarked 8 = .ok (.iload_n 1, 1) := by decide +kernel
theorem d_CShelf_isMarked_9 : decode b_CShelf_isMarked 9 = .ok (.aload_n 0, 1) := by decide +kernel
theorem d_CShelf_isMarked_10 : decode b_CShelf_isMarked 10 = .ok (.getfield 15, 3) := by decide +kernel
theorem d_CShelf_isMarked_13 : decode b_CShelf_isMarked 13 = .ok (.arraylength, 1) := by decide +kernel
theorem d_CShelf_isMarked_14 : decode b_CShelf_isMarked 14 = .ok (.if_icmp .ge 16, 3) := by decide +kernel
theorem d_CShelf_isMarked_17 : decode b_CShelf_isMarked 17 = .ok (.aload_n 0, 1) := by decide +kernel
theorem d_CShelf_isMarked_18 : decode b_CShelf_isMarked 18 = .ok (.getfield 15, 3) := by decide +kernel
theorem d_CShelf_isMarked_21 : decode b_CShelf_isMarked 21 = .ok (.iload_n 1, 1) := by decide +kernel
theorem d_CShelf_isMarked_22 : decode b_CShelf_isMarked 22 = .ok (.baload, 1) := by decide +kernel
theorem d_CShelf_isMarked_23 : decode b_CShelf_isMarked 23 = .ok (.ifCond .eq 7, 3) := by decide +kernel
theorem d_CShelf_isMarked_26 : decode b_CShelf_isMarked 26 = .ok (.iconst 1, 1) := by decide +kernel
theorem d_CShelf_isMarked_27 : decode b_CShelf_isMarked 27 = .ok (.goto 4, 3) := by decide +kernel
theorem d_CShelf_isMarked_30 : decode b_CShelf_isMarked 30 = .ok (.iconst 0, 1) := by decide +kernel
theorem d_CShelf_isMarked_31 : decode b_CShelf_isMarked 31 = .ok (.ireturn, 1) := by decide +kernel
theorem d_CCode_namesWhatIsMissing_0 : decode b_CCode_namesWhatIsMissing 0 = .ok (.iload_n 1, 1) := by decide +kernel
theorem d_CCode_namesWhatIsMissing_1 : decode b_CCode_namesWhatIsMissing 1 = .ok (.lookupswitch 481 #[(2, 203), (3, 203), (4, 203), (12, 224), (13, 224), (14, 241), (16, 265), (17, 285), (32, 316), (33, 316), (34, 316), (35, 333), (36, 333), (37, 353), (38, 353), (210, 265), (264, 373), (265, 373), (268, 393), (269, 427), (270, 447), (271, 353), (272, 353), (273, 353)], 203) := by decide +kernel
theorem d_CCode_namesWhatIsMissing_204 : decode b_CCode_namesWhatIsMissing 204 = .ok (.iload_n 2, 1) := by decide +kernel
theorem d_CCode_namesWhatIsMissing_205 : decode b_CCode_namesWhatIsMissing 205 = .ok (.ifCond .lt 18, 3) := by decide +kernel
theorem d_CCode_namesWhatIsMissing_208 : decode b_CCode_namesWhatIsMissing 208 = .ok (.aload_n 0, 1) := by decide +kernel
theorem d_CCode_namesWhatIsMissing_209 : decode b_CCode_namesWhatIsMissing 209 = .ok (.getfield 26, 3) := by decide +kernel
theorem d_CCode_namesWhatIsMissing_212 : decode b_CCode_namesWhatIsMissing 212 = .ok (.iload_n 2, 1) := by decide +kernel
theorem d_CCode_namesWhatIsMissing_213 : decode b_CCode_namesWhatIsMissing 213 = .ok (.invokevirtual 156, 3) := by decide +kernel
theorem d_CCode_namesWhatIsMissing_216 : decode b_CCode_namesWhatIsMissing 216 = .ok (.ifCond .ne 7, 3) := by decide +kernel
theorem d_CCode_namesWhatIsMissing_219 : decode b_CCode_namesWhatIsMissing 219 = .ok (.iconst 1, 1) := by decide +kernel
theorem d_CCode_namesWhatIsMissing_220 : decode b_CCode_namesWhatIsMissing 220 = .ok (.goto 4, 3) := by decide +kernel
theorem d_CCode_namesWhatIsMissing_223 : decode b_CCode_namesWhatIsMissing 223 = .ok (.iconst 0, 1) := by decide +kernel
theorem d_CCode_namesWhatIsMissing_224 : decode b_CCode_namesWhatIsMissing 224 = .ok (.ireturn, 1) := by decide +kernel
theorem d_CCode_namesWhatIsMissing_225 : decode b_CCode_namesWhatIsMissing 225 = .ok (.aload_n 0, 1) := by decide +kernel
theorem d_CCode_namesWhatIsMissing_226 : decode b_CCode_namesWhatIsMissing 226 = .ok (.getfield 35, 3) := by decide +kernel
theorem d_CCode_namesWhatIsMissing_229 : decode b_CCode_namesWhatIsMissing 229 = .ok (.iload_n 2, 1) := by decide +kernel
theorem d_CCode_namesWhatIsMissing_230 : decode b_CCode_namesWhatIsMissing 230 = .ok (.invokevirtual 159, 3) := by decide +kernel
theorem d_CCode_namesWhatIsMissing_233 : decode b_CCode_namesWhatIsMissing 233 = .ok (.ifCond .ne 7, 3) := by decide +kernel
theorem d_CCode_namesWhatIsMissing_236 : decode b_CCode_namesWhatIsMissing 236 = .ok (.iconst 1, 1) := by decide +kernel
theorem d_CCode_namesWhatIsMissing_237 : decode b_CCode_namesWhatIsMissing 237 = .ok (.goto 4, 3) := by decide +kernel
theorem d_CCode_namesWhatIsMissing_240 : decode b_CCode_namesWhatIsMissing 240 = .ok (.iconst 0, 1) := by decide +kernel
theorem d_CCode_namesWhatIsMissing_241 : decode b_CCode_namesWhatIsMissing 241 = .ok (.ireturn, 1) := by decide +kernel
theorem d_CCode_namesWhatIsMissing_242 : decode b_CCode_namesWhatIsMissing 242 = .ok (.aload_n 0, 1) := by decide +kernel
theorem d_CCode_namesWhatIsMissing_243 : decode b_CCode_namesWhatIsMissing 243 = .ok (.getfield 35, 3) := by decide +kernel
theorem d_CCode_namesWhatIsMissing_246 : decode b_CCode_namesWhatIsMissing 246 = .ok (.iload_n 2, 1) := by decide +kernel
theorem d_CCode_namesWhatIsMissing_247 : decode b_CCode_namesWhatIsMissing 247 = .ok (.invokevirtual 159, 3) := by decide +kernel
theorem d_CCode_namesWhatIsMissing_250 : decode b_CCode_namesWhatIsMissing 250 = .ok (.ifCond .eq 10, 3) := by decide +kernel
theorem d_CCode_namesWhatIsMissing_253 : decode b_CCode_namesWhatIsMissing 253 = .ok (.aload_n 0, 1) := by decide +kernel
theorem d_CCode_namesWhatIsMissing_254 : decode b_CCode_namesWhatIsMissing 254 = .ok (.invokevirtual 162, 3) := by decide +kernel
theorem d_CCode_namesWhatIsMissing_257 : decode b_CCode_namesWhatIsMissing 257 = .ok (.ifCond .eq 7, 3) := by decide +kernel
theorem d_CCode_namesWhatIsMissing_260 : decode b_CCode_namesWhatIsMissing 260 = .ok (.iconst 1, 1) := by decide +kernel
theorem d_CCode_namesWhatIsMissing_261 : decode b_CCode_namesWhatIsMissing 261 = .ok (.goto 4, 3) := by decide +kernel
theorem d_CCode_namesWhatIsMissing_264 : decode b_CCode_namesWhatIsMissing 264 = .ok (.iconst 0, 1) := by decide +kernel
theorem d_CCode_namesWhatIsMissing_265 : decode b_CCode_namesWhatIsMissing 265 = .ok (.ireturn, 1) := by decide +kernel
theorem d_CCode_namesWhatIsMissing_266 : decode b_CCode_namesWhatIsMissing 266 = .ok (.aload_n 0, 1) := by decide +kernel
theorem d_CCode_namesWhatIsMissing_267 : decode b_CCode_namesWhatIsMissing 267 = .ok (.getfield 26, 3) := by decide +kernel
theorem d_CCode_namesWhatIsMissing_270 : decode b_CCode_namesWhatIsMissing 270 = .ok (.getfield 165, 3) := by decide +kernel
theorem d_CCode_namesWhatIsMissing_273 : decode b_CCode_namesWhatIsMissing 273 = .ok (.iload_n 2, 1) := by decide +kernel
theorem d_CCode_namesWhatIsMissing_274 : decode b_CCode_namesWhatIsMissing 274 = .ok (.invokevirtual 148, 3) := by decide +kernel
theorem d_CCode_namesWhatIsMissing_277 : decode b_CCode_namesWhatIsMissing 277 = .ok (.ifCond .ne 7, 3) := by decide +kernel
theorem d_CCode_namesWhatIsMissing_280 : decode b_CCode_namesWhatIsMissing 280 = .ok (.iconst 1, 1) := by decide +kernel
theorem d_CCode_namesWhatIsMissing_281 : decode b_CCode_namesWhatIsMissing 281 = .ok (.goto 4, 3) := by decide +kernel
theorem d_CCode_namesWhatIsMissing_284 : decode b_CCode_namesWhatIsMissing 284 = .ok (.iconst 0, 1) := by decide +kernel
theorem d_CCode_namesWhatIsMissing_285 : decode b_CCode_namesWhatIsMissing 285 = .ok (.ireturn, 1) := by decide +kernel
theorem d_CCode_namesWhatIsMissing_286 : decode b_CCode_namesWhatIsMissing 286 = .ok (.aload_n 0, 1) := by decide +kernel
theorem d_CCode_namesWhatIsMissing_287 : decode b_CCode_namesWhatIsMissing 287 = .ok (.getfield 26, 3) := by decide +kernel
theorem d_CCode_namesWhatIsMissing_290 : decode b_CCode_namesWhatIsMissing 290 = .ok (.iload_n 2, 1) := by decide +kernel
theorem d_CCode_namesWhatIsMissing_291 : decode b_CCode_namesWhatIsMissing 291 = .ok (.invokevirtual 156, 3) := by decide +kernel
theorem d_CCode_namesWhatIsMissing_294 : decode b_CCode_namesWhatIsMissing 294 = .ok (.ifCond .eq 17, 3) := by decide +kernel
theorem d_CCode_namesWhatIsMissing_297 : decode b_CCode_namesWhatIsMissing 297 = .ok (.aload_n 0, 1) := by decide +kernel
theorem d_CCode_namesWhatIsMissing_298 : decode b_CCode_namesWhatIsMissing 298 = .ok (.getfield 26, 3) := by decide +kernel
theorem d_CCode_namesWhatIsMissing_301 : decode b_CCode_namesWhatIsMissing 301 = .ok (.getfield 168, 3) := by decide +kernel
theorem d_CCode_namesWhatIsMissing_304 : decode b_CCode_namesWhatIsMissing 304 = .ok (.iload_n 3, 1) := by decide +kernel
theorem d_CCode_namesWhatIsMissing_305 : decode b_CCode_namesWhatIsMissing 305 = .ok (.invokevirtual 148, 3) := by decide +kernel
theorem d_CCode_namesWhatIsMissing_308 : decode b_CCode_namesWhatIsMissing 308 = .ok (.ifCond .ne 7, 3) := by decide +kernel
theorem d_CCode_namesWhatIsMissing_311 : decode b_CCode_namesWhatIsMissing 311 = .ok (.iconst 1, 1) := by decide +kernel
theorem d_CCode_namesWhatIsMissing_312 : decode b_CCode_namesWhatIsMissing 312 = .ok (.goto 4, 3) := by decide +kernel
theorem d_CCode_namesWhatIsMissing_315 : decode b_CCode_namesWhatIsMissing 315 = .ok (.iconst 0, 1) := by decide +kernel
theorem d_CCode_namesWhatIsMissing_316 : decode b_CCode_namesWhatIsMissing 316 = .ok (.ireturn, 1) := by decide +kernel
theorem d_CCode_namesWhatIsMissing_317 : decode b_CCode_namesWhatIsMissing 317 = .ok (.aload_n 0, 1) := by decide +kernel
theorem d_CCode_namesWhatIsMissing_318 : decode b_CCode_namesWhatIsMissing 318 = .ok (.getfield 12, 3) := by decide +kernel
theorem d_CCode_namesWhatIsMissing_321 : decode b_CCode_namesWhatIsMissing 321 = .ok (.iload_n 2, 1) := by decide +kernel
theorem d_CCode_namesWhatIsMissing_322 : decode b_CCode_namesWhatIsMissing 322 = .ok (.invokevirtual 171, 3) := by decide +kernel
theorem d_CCode_namesWhatIsMissing_325 : decode b_CCode_namesWhatIsMissing 325 = .ok (.ifCond .ne 7, 3) := by decide +kernel
theorem d_CCode_namesWhatIsMissing_328 : decode b_CCode_namesWhatIsMissing 328 = .ok (.iconst 1, 1) := by decide +kernel
theorem d_CCode_namesWhatIsMissing_329 : decode b_CCode_namesWhatIsMissing 329 = .ok (.goto 4, 3) := by decide +kernel
theorem d_CCode_namesWhatIsMissing_332 : decode b_CCode_namesWhatIsMissing 332 = .ok (.iconst 0, 1) := by decide +kernel
theorem d_CCode_namesWhatIsMissing_333 : decode b_CCode_namesWhatIsMissing 333 = .ok (.ireturn, 1) := by decide +kernel
theorem d_CCode_namesWhatIsMissing_334 : decode b_CCode_namesWhatIsMissing 334 = .ok (.aload_n 0, 1) := by decide +kernel
theorem d_CCode_namesWhatIsMissing_335 : decode b_CCode_namesWhatIsMissing 335 = .ok (.getfield 26, 3) := by decide +kernel
theorem d_CCode_namesWhatIsMissing_338 : decode b_CCode_namesWhatIsMissing 338 = .ok (.getfield 144, 3) := by decide +kernel
theorem d_CCode_namesWhatIsMissing_341 : decode b_CCode_namesWhatIsMissing 341 = .ok (.iload_n 2, 1) := by decide +kernel
theorem d_CCode_namesWhatIsMissing_342 : decode b_CCode_namesWhatIsMissing 342 = .ok (.invokevirtual 148, 3) := by decide +kernel
theorem d_CCode_namesWhatIsMissing_345 : decode b_CCode_namesWhatIsMissing 345 = .ok (.ifCond .ne 7, 3) := by decide +kernel
theorem d_CCode_namesWhatIsMissing_348 : decode b_CCode_namesWhatIsMissing 348 = .ok (.iconst 1, 1) := by decide +kernel
theorem d_CCode_namesWhatIsMissing_349 : decode b_CCode_namesWhatIsMissing 349 = .ok (.goto 4, 3) := by decide +kernel
theorem d_CCode_namesWhatIsMissing_352 : decode b_CCode_namesWhatIsMissing 352 = .ok (.iconst 0, 1) := by decide +kernel
theorem d_CCode_namesWhatIsMissing_353 : decode b_CCode_namesWhatIsMissing 353 = .ok (.ireturn, 1) := by decide +kernel
theorem d_CCode_namesWhatIsMissing_354 : decode b_CCode_namesWhatIsMissing 354 = .ok (.aload_n 0, 1) := by decide +kernel
theorem d_CCode_namesWhatIsMissing_355 : decode b_CCode_namesWhatIsMissing 355 = .ok (.getfield 26, 3) := by decide +kernel
theorem d_CCode_namesWhatIsMissing_358 : decode b_CCode_namesWhatIsMissing 358 = .ok (.getfield 168, 3) := by decide +kernel
theorem d_CCode_namesWhatIsMissing_361 : decode b_CCode_namesWhatIsMissing 361 = .ok (.iload_n 2, 1) := by decide +kernel
theorem d_CCode_namesWhatIsMissing_362 : decode b_CCode_namesWhatIsMissing 362 = .ok (.invokevirtual 148, 3) := by decide +kernel
theorem d_CCode_namesWhatIsMissing_365 : decode b_CCode_namesWhatIsMissing 365 = .ok (.ifCond .ne 7, 3) := by decide +kernel
theorem d_CCode_namesWhatIsMissing_368 : decode b_CCode_namesWhatIsMissing 368 = .ok (.iconst 1, 1) := by decide +kernel
theorem d_CCode_namesWhatIsMissing_369 : decode b_CCode_namesWhatIsMissing 369 = .ok (.goto 4, 3) := by decide +kernel
theorem d_CCode_namesWhatIsMissing_372 : decode b_CCode_namesWhatIsMissing 372 = .ok (.iconst 0, 1) := by decide +kernel
theorem d_CCode_namesWhatIsMissing_373 : decode b_CCode_namesWhatIsMissing 373 = .ok (.ireturn, 1) := by decide +kernel
theorem d_CCode_namesWhatIsMissing_374 : decode b_CCode_namesWhatIsMissing 374 = .ok (.aload_n 0, 1) := by decide +kernel
theorem d_CCode_namesWhatIsMissing_375 : decode b_CCode_namesWhatIsMissing 375 = .ok (.getfield 26, 3) := by decide +kernel
theorem d_CCode_namesWhatIsMissing_378 : decode b_CCode_namesWhatIsMissing 378 = .ok (.getfield 172, 3) := by decide +kernel
theorem d_CCode_namesWhatIsMissing_381 : decode b_CCode_namesWhatIsMissing 381 = .ok (.iload_n 2, 1) := by decide +kernel
theorem d_CCode_namesWhatIsMissing_382 : decode b_CCode_namesWhatIsMissing 382 = .ok (.invokevirtual 148, 3) := by decide +kernel
theorem d_CCode_namesWhatIsMissing_385 : decode b_CCode_namesWhatIsMissing 385 = .ok (.ifCond .ne 7, 3) := by decide +kernel
theorem d_CCode_namesWhatIsMissing_388 : decode b_CCode_namesWhatIsMissing 388 = .ok (.iconst 1, 1) := by decide +kernel
theorem d_CCode_namesWhatIsMissing_389 : decode b_CCode_namesWhatIsMissing 389 = .ok (.goto 4, 3) := by decide +kernel
theorem d_CCode_namesWhatIsMissing_392 : decode b_CCode_namesWhatIsMissing 392 = .ok (.iconst 0, 1) := by decide +kernel
theorem d_CCode_namesWhatIsMissing_393 : decode b_CCode_namesWhatIsMissing 393 = .ok (.ireturn, 1) := by decide +kernel
theorem d_CCode_namesWhatIsMissing_394 : decode b_CCode_namesWhatIsMissing 394 = .ok (.aload_n 0, 1) := by decide +kernel
theorem d_CCode_namesWhatIsMissing_395 : decode b_CCode_namesWhatIsMissing 395 = .ok (.getfield 26, 3) := by decide +kernel
theorem d_CCode_namesWhatIsMissing_398 : decode b_CCode_namesWhatIsMissing 398 = .ok (.getfield 175, 3) := by decide +kernel
theorem d_CCode_namesWhatIsMissing_401 : decode b_CCode_namesWhatIsMissing 401 = .ok (.iload_n 2, 1) := by decide +kernel
theorem d_CCode_namesWhatIsMissing_402 : decode b_CCode_namesWhatIsMissing 402 = .ok (.invokevirtual 148, 3) := by decide +kernel
theorem d_CCode_namesWhatIsMissing_405 : decode b_CCode_namesWhatIsMissing 405 = .ok (.ifCond .eq 17, 3) := by decide +kernel
theorem d_CCode_namesWhatIsMissing_408 : decode b_CCode_namesWhatIsMissing 408 = .ok (.aload_n 0, 1) := by decide +kernel
theorem d_CCode_namesWhatIsMissing_409 : decode b_CCode_namesWhatIsMissing 409 = .ok (.getfield 26, 3) := by decide +kernel
theorem d_CCode_namesWhatIsMissing_412 : decode b_CCode_namesWhatIsMissing 412 = .ok (.getfield 168, 3) := by decide +kernel
theorem d_CCode_namesWhatIsMissing_415 : decode b_CCode_namesWhatIsMissing 415 = .ok (.iload_n 3, 1) := by decide +kernel
theorem d_CCode_namesWhatIsMissing_416 : decode b_CCode_namesWhatIsMissing 416 = .ok (.invokevirtual 148, 3) := by decide +kernel
theorem d_CCode_namesWhatIsMissing_419 : decode b_CCode_namesWhatIsMissing 419 = .ok (.ifCond .ne 7, 3) := by decide +kernel
theorem d_CCode_namesWhatIsMissing_422 : decode b_CCode_namesWhatIsMissing 422 = .ok (.iconst 1, 1) := by decide +kernel
theorem d_CCode_namesWhatIsMissing_423 : decode b_CCode_namesWhatIsMissing 423 = .ok (.goto 4, 3) := by decide +kernel
theorem d_CCode_namesWhatIsMissing_426 : decode b_CCode_namesWhatIsMissing 426 = .ok (.iconst 0, 1) := by decide +kernel
theorem d_CCode_namesWhatIsMissing_427 : decode b_CCode_namesWhatIsMissing 427 = .ok (.ireturn, 1) := by decide +kernel
theorem d_CCode_namesWhatIsMissing_428 : decode b_CCode_namesWhatIsMissing 428 = .ok (.aload_n 0, 1) := by decide +kernel
theorem d_CCode_namesWhatIsMissing_429 : decode b_CCode_namesWhatIsMissing 429 = .ok (.getfield 26, 3) := by decide +kernel
theorem d_CCode_namesWhatIsMissing_432 : decode b_CCode_namesWhatIsMissing 432 = .ok (.getfield 175, 3) := by decide +kernel
theorem d_CCode_namesWhatIsMissing_435 : decode b_CCode_namesWhatIsMissing 435 = .ok (.iload_n 2, 1) := by decide +kernel
theorem d_CCode_namesWhatIsMissing_436 : decode b_CCode_namesWhatIsMissing 436 = .ok (.invokevirtual 148, 3) := by decide +kernel
theorem d_CCode_namesWhatIsMissing_439 : decode b_CCode_namesWhatIsMissing 439 = .ok (.ifCond .ne 7, 3) := by decide +kernel
theorem d_CCode_namesWhatIsMissing_442 : decode b_CCode_namesWhatIsMissing 442 = .ok (.iconst 1, 1) := by decide +kernel
theorem d_CCode_namesWhatIsMissing_443 : decode b_CCode_namesWhatIsMissing 443 = .ok (.goto 4, 3) := by decide +kernel
theorem d_CCode_namesWhatIsMissing_446 : decode b_CCode_namesWhatIsMissing 446 = .ok (.iconst 0, 1) := by decide +kernel
theorem d_CCode_namesWhatIsMissing_447 : decode b_CCode_namesWhatIsMissing 447 = .ok (.ireturn, 1) := by decide +kernel
theorem d_CCode_namesWhatIsMissing_448 : decode b_CCode_namesWhatIsMissing 448 = .ok (.aload_n 0, 1) := by decide +kernel
theorem d_CCode_namesWhatIsMissing_449 : decode b_CCode_namesWhatIsMissing 449 = .ok (.getfield 26, 3) := by decide +kernel
theorem d_CCode_namesWhatIsMissing_452 : decode b_CCode_namesWhatIsMissing 452 = .ok (.getfield 168, 3) := by decide +kernel
theorem d_CCode_namesWhatIsMissing_455 : decode b_CCode_namesWhatIsMissing 455 = .ok (.iload_n 2, 1) := by decide +kernel
theorem d_CCode_namesWhatIsMissing_456 : decode b_CCode_namesWhatIsMissing 456 = .ok (.invokevirtual 148, 3) := by decide +kernel
theorem d_CCode_namesWhatIsMissing_459 : decode b_CCode_namesWhatIsMissing 459 = .ok (.ifCond .eq 17, 3) := by decide +kernel
theorem d_CCode_namesWhatIsMissing_462 : decode b_CCode_namesWhatIsMissing 462 = .ok (.aload_n 0, 1) := by decide +kernel
theorem d_CCode_namesWhatIsMissing_463 : decode b_CCode_namesWhatIsMissing 463 = .ok (.getfield 26, 3) := by decide +kernel
theorem d_CCode_namesWhatIsMissing_466 : decode b_CCode_namesWhatIsMissing 466 = .ok (.getfield 168, 3) := by decide +kernel
theorem d_CCode_namesWhatIsMissing_469 : decode b_CCode_namesWhatIsMissing 469 = .ok (.iload_n 3, 1) := by decide +kernel
theorem d_CCode_namesWhatIsMissing_470 : decode b_CCode_namesWhatIsMissing 470 = .ok (.invokevirtual 148, 3) := by decide +kernel
theorem d_CCode_namesWhatIsMissing_473 : decode b_CCode_namesWhatIsMissing 473 = .ok (.ifCond .ne 7, 3) := by decide +kernel
theorem d_CCode_namesWhatIsMissing_476 : decode b_CCode_namesWhatIsMissing 476 = .ok (.iconst 1, 1) := by decide +kernel
theorem d_CCode_namesWhatIsMissing_477 : decode b_CCode_namesWhatIsMissing 477 = .ok (.goto 4, 3) := by decide +kernel
theorem d_CCode_namesWhatIsMissing_480 : decode b_CCode_namesWhatIsMissing 480 = .ok (.iconst 0, 1) := by decide +kernel
theorem d_CCode_namesWhatIsMissing_481 : decode b_CCode_namesWhatIsMissing 481 = .ok (.ireturn, 1) := by decide +kernel
theorem d_CCode_namesWhatIsMissing_482 : decode b_CCode_namesWhatIsMissing 482 = .ok (.iconst 0, 1) := by decide +kernel
theorem d_CCode_namesWhatIsMissing_483 : decode b_CCode_namesWhatIsMissing 483 = .ok (.ireturn, 1) := by decide +kernel
theorem d_CLocals_has_0 : decode b_CLocals_has 0 = .ok (.iload_n 1, 1) := by decide +kernel
theorem d_CLocals_has_1 : decode b_CLocals_has 1 = .ok (.invokestatic 27, 3) := by decide +kernel
theorem d_CLocals_has_4 : decode b_CLocals_has 4 = .ok (.aload_n 0, 1) := by decide +kernel
theorem d_CLocals_has_5 : decode b_CLocals_has 5 = .ok (.getfield 23, 3) := by decide +kernel
theorem d_CLocals_has_8 : decode b_CLocals_has 8 = .ok (.lcmp, 1) := by decide +kernel
theorem d_CLocals_has_9 : decode b_CLocals_has 9 = .ok (.ifCond .ge 7, 3) := by decide +kernel
theorem d_CLocals_has_12 : decode b_CLocals_has 12 = .ok (.iconst 1, 1) := by decide +kernel
theorem d_CLocals_has_13 : decode b_CLocals_has 13 = .ok (.goto 4, 3) := by decide +kernel
theorem d_CLocals_has_16 : decode b_CLocals_has 16 = .ok (.iconst 0, 1) := by decide +kernel
theorem d_CLocals_has_17 : decode b_CLocals_has 17 = .ok (.ireturn, 1) := by decide +kernel
theorem d_CStack_hasBlock_0 : decode b_CStack_hasBlock 0 = .ok (.iload_n 1, 1) := by decide +kernel
theorem d_CStack_hasBlock_1 : decode b_CStack_hasBlock 1 = .ok (.ifCond .lt 15, 3) := by decide +kernel
theorem d_CStack_hasBlock_4 : decode b_CStack_hasBlock 4 = .ok (.iload_n 1, 1) := by decide +kernel
theorem d_CStack_hasBlock_5 : decode b_CStack_hasBlock 5 = .ok (.aload_n 0, 1) := by decide +kernel
theorem d_CStack_hasBlock_6 : decode b_CStack_hasBlock 6 = .ok (.getfield 39, 3) := by decide +kernel
theorem d_CStack_hasBlock_9 : decode b_CStack_hasBlock 9 = .ok (.if_icmp .ge 7, 3) := by decide +kernel
theorem d_CStack_hasBlock_12 : decode b_CStack_hasBlock 12 = .ok (.iconst 1, 1) := by decide +kernel
theorem d_CStack_hasBlock_13 : decode b_CStack_hasBlock 13 = .ok (.goto 4, 3) := by decide +kernel
theorem d_CStack_hasBlock_16 : decode b_CStack_hasBlock 16 = .ok (.iconst 0, 1) := by decide +kernel
theorem d_CStack_hasBlock_17 : decode b_CStack_hasBlock 17 = .ok (.ireturn, 1) := by decide +kernel
theorem d_CCode_isLabelMissing_0 : decode b_CCode_isLabelMissing 0 = .ok (.iconst 0, 1) := by decide +kernel
theorem d_CCode_isLabelMissing_1 : decode b_CCode_isLabelMissing 1 = .ok (.istore_n 1, 1) := by decide +kernel
theorem d_CCode_isLabelMissing_2 : decode b_CCode_isLabelMissing 2 = .ok (.iload_n 1, 1) := by decide +kernel
theorem d_CCode_isLabelMissing_3 : decode b_CCode_isLabelMissing 3 = .ok (.aload_n 0, 1) := by decide +kernel
theorem d_CCode_isLabelMissing_4 : decode b_CCode_isLabelMissing 4 = .ok (.getfield 46, 3) := by decide +kernel
theorem d_CCode_isLabelMissing_7 : decode b_CCode_isLabelMissing 7 = .ok (.if_icmp .ge 36, 3) := by decide +kernel
theorem d_CCode_isLabelMissing_10 : decode b_CCode_isLabelMissing 10 = .ok (.iload_n 1, 1) := by decide +kernel
theorem d_CCode_isLabelMissing_11 : decode b_CCode_isLabelMissing 11 = .ok (.aload_n 0, 1) := by decide +kernel
theorem d_CCode_isLabelMissing_12 : decode b_CCode_isLabelMissing 12 = .ok (.getfield 18, 3) := by decide +kernel
theorem d_CCode_isLabelMissing_15 : decode b_CCode_isLabelMissing 15 = .ok (.arraylength, 1) := by decide +kernel
theorem d_CCode_isLabelMissing_16 : decode b_CCode_isLabelMissing 16 = .ok (.if_icmp .ge 27, 3) := by decide +kernel
theorem d_CCode_isLabelMissing_19 : decode b_CCode_isLabelMissing 19 = .ok (.aload_n 0, 1) := by decide +kernel
theorem d_CCode_isLabelMissing_20 : decode b_CCode_isLabelMissing 20 = .ok (.getfield 35, 3) := by decide +kernel
theorem d_CCode_isLabelMissing_23 : decode b_CCode_isLabelMissing 23 = .ok (.aload_n 0, 1) := by decide +kernel
theorem d_CCode_isLabelMissing_24 : decode b_CCode_isLabelMissing 24 = .ok (.getfield 18, 3) := by decide +kernel
theorem d_CCode_isLabelMissing_27 : decode b_CCode_isLabelMissing 27 = .ok (.iload_n 1, 1) := by decide +kernel
theorem d_CCode_isLabelMissing_28 : decode b_CCode_isLabelMissing 28 = .ok (.iaload, 1) := by decide +kernel
theorem d_CCode_isLabelMissing_29 : decode b_CCode_isLabelMissing 29 = .ok (.invokevirtual 159, 3) := by decide +kernel
theorem d_CCode_isLabelMissing_32 : decode b_CCode_isLabelMissing 32 = .ok (.ifCond .ne 5, 3) := by decide +kernel
theorem d_CCode_isLabelMissing_35 : decode b_CCode_isLabelMissing 35 = .ok (.iconst 1, 1) := by decide +kernel
theorem d_CCode_isLabelMissing_36 : decode b_CCode_isLabelMissing 36 = .ok (.ireturn, 1) := by decide +kernel
theorem d_CCode_isLabelMissing_37 : decode b_CCode_isLabelMissing 37 = .ok (.iinc 1 1, 3) := by decide +kernel
theorem d_CCode_isLabelMissing_40 : decode b_CCode_isLabelMissing 40 = .ok (.goto (-38), 3) := by decide +kernel
theorem d_CCode_isLabelMissing_43 : decode b_CCode_isLabelMissing 43 = .ok (.iconst 0, 1) := by decide +kernel
theorem d_CCode_isLabelMissing_44 : decode b_CCode_isLabelMissing 44 = .ok (.ireturn, 1) := by decide +kernel
theorem d_CCode_misfit_0 : decode b_CCode_misfit 0 = .ok (.iload_n 1, 1) := by decide +kernel
theorem d_CCode_misfit_1 : decode b_CCode_misfit 1 = .ok (.bipush 40, 2) := by decide +kernel
theorem d_CCode_misfit_3 : decode b_CCode_misfit 3 = .ok (.if_icmp .lt 16, 3) := by decide +kernel
theorem d_CCode_misfit_6 : decode b_CCode_misfit 6 = .ok (.iload_n 1, 1) := by decide +kernel
theorem d_CCode_misfit_7 : decode b_CCode_misfit 7 = .ok (.bipush 62, 2) := by decide +kernel
theorem d_CCode_misfit_9 : decode b_CCode_misfit 9 = .ok (.if_icmp .gt 10, 3) := by decide +kernel
theorem d_CCode_misfit_12 : decode b_CCode_misfit 12 = .ok (.aload_n 0, 1) := by decide +kernel
end
