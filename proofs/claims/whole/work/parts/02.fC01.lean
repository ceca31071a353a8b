def zf_CCStack_takeLabel_31 (N : Nat) (x1 : Int32) (u : zU) : Option (Unit × zU) :=
  zbd (zf_CCStack_labelRows_31 N x1 u) (fun r1 u2 =>
  if r1 = 2 then zbd (zf_CCStack_ofBlock_31_33 N x1 u2) (fun r5 u6 =>
    zbd (zf_CCStack_takeRow_31_2 N r5 u6) (fun r8 u9 =>
    some ((), u9)))
  else if r1 = 5 then zbd (zf_CCStack_ofBlock_31_33 N x1 u2) (fun r14 u15 =>
    zbd (zf_CCStack_takeRow_31_5 N r14 u15) (fun r17 u18 =>
    some ((), u18)))
  else none)
def zf_CCCode_branchByRow_26_b58 (N : Nat)  (x1 : Int32) (u : zU) : Option (Unit × zU) :=
  zbd (zf_CCStack_takeLabel_31 N x1 u) (fun r1 u2 =>
  zbd (zf_CCStack_die_31 N  u2) (fun r4 u5 =>
  some ((), u5)))
def zf_CCCode_branchByRow_26_b21 (N : Nat)  : Nat → Int32 → Int32 → Int32 → zU → Option (Unit × zU)
  | 0, _, _, _, _ => none
  | n + 1, x1, x2, x3, u =>
  if (gi u 7) ≤ x3 then
  zf_CCCode_branchByRow_26_b58 N  x1 u
  else
  if 20 ≤ x3 then
    zf_CCCode_branchByRow_26_b58 N  x1 u
    else
    zck (zin x3 20) (zbd (zf_CCStack_passLabel_31 N (ga u 17 x3) x2 u) (fun r4 u5 =>
      zf_CCCode_branchByRow_26_b21 N  n x1 x2 (x3 + 1) u5))
def zf_CCCode_branchByRow_26 (N : Nat) (x1 : Int32) (u : zU) : Option (Unit × zU) :=
  zbd (zf_CCStack_take_31 N 127 u) (fun r1 u2 =>
  zbd (zf_CCStack_labelSize_31 N x1 u2) (fun r4 u5 =>
  zf_CCCode_branchByRow_26_b21 N  N x1 r4 0 u5))
def zf_CCStack_giveLabel_31 (N : Nat) (x1 : Int32) (u : zU) : Option (Unit × zU) :=
  zbd (zf_CCStack_labelRows_31 N x1 u) (fun r1 u2 =>
  if r1 = 2 then zbd (zf_CCStack_ofBlock_31_33 N x1 u2) (fun r5 u6 =>
    zbd (zf_CCStack_giveRow_31_2 N r5 u6) (fun r8 u9 =>
    some ((), u9)))
  else if r1 = 5 then zbd (zf_CCStack_ofBlock_31_33 N x1 u2) (fun r14 u15 =>
    zbd (zf_CCStack_giveRow_31_5 N r14 u15) (fun r17 u18 =>
    some ((), u18)))
  else none)
def zf_CCCode_carryOutBranch_26_b148 (N : Nat)   (u : zU) : Option (Unit × zU) :=
  some ((), u)
def zf_CCCode_carryOutBranch_26 (N : Nat) (x1 : Int32) (x2 : Int32) (u : zU) : Option (Unit × zU) :=
  if x1 = 12 then zbd (zf_CCStack_takeLabel_31 N x2 u) (fun r2 u3 =>
    zbd (zf_CCStack_die_31 N  u3) (fun r5 u6 =>
    zf_CCCode_carryOutBranch_26_b148 N   u6))
  else if x1 = 13 then zbd (zf_CCStack_take_31 N 127 u) (fun r9 u10 =>
    zbd (zf_CCStack_takeLabel_31 N x2 u10) (fun r12 u13 =>
    zbd (zf_CCStack_giveLabel_31 N x2 u13) (fun r15 u16 =>
    zf_CCCode_carryOutBranch_26_b148 N   u16)))
  else if x1 = 14 then zbd (zf_CCCode_branchByRow_26 N x2 u) (fun r19 u20 =>
    zf_CCCode_carryOutBranch_26_b148 N   u20)
  else if x1 = 15 then zbd (zf_CCStack_takeOutermostResults_31 N  u) (fun r23 u24 =>
    zbd (zf_CCStack_die_31 N  u24) (fun r26 u27 =>
    zf_CCCode_carryOutBranch_26_b148 N   u27))
  else if x1 = 16 then zbd (zf_CCShelf_typeOf_8 N x2 u) (fun r30 u31 =>
    zbd (zf_CCCode_enterFunction_26 N r30 u31) (fun r33 u34 =>
    zf_CCCode_carryOutBranch_26_b148 N   u34))
  else if x1 = 17 then zbd (zf_CCStack_take_31 N 127 u) (fun r37 u38 =>
    zbd (zf_CCCode_enterFunction_26 N x2 u38) (fun r40 u41 =>
    zf_CCCode_carryOutBranch_26_b148 N   u41))
  else zf_CCCode_carryOutBranch_26_b148 N   u
def zf_CCShelf_typeOf_17_b27 (N : Nat)  (s0 : Int32) (u : zU) : Option (Int32 × zU) :=
  some (s0, u)
def zf_CCShelf_typeOf_17_b26 (N : Nat)   (u : zU) : Option (Int32 × zU) :=
  zf_CCShelf_typeOf_17_b27 N  0 u
def zf_CCShelf_typeOf_17 (N : Nat) (x1 : Int32) (u : zU) : Option (Int32 × zU) :=
  zbd (zf_CCShelf_has_17 N x1 u) (fun r1 u2 =>
  if r1 = 0 then
  zf_CCShelf_typeOf_17_b26 N   u2
  else
  if 40 ≤ x1 then
    zf_CCShelf_typeOf_17_b26 N   u2
    else
    zck (zin x1 40) (zf_CCShelf_typeOf_17_b27 N  (ga u2 10 x1) u2))
def zf_CCLocals_typeOf_27_b63 (N : Nat)   (u : zU) : Option (Int32 × zU) :=
  some (0, u)
def zf_CCLocals_typeOf_27_b8 (N : Nat)  : Nat → Int64 → Int32 → zU → Option (Int32 × zU)
  | 0, _, _, _ => none
  | n + 1, x2, x4, u =>
  if (gi u 13) ≤ x4 then
  zf_CCLocals_typeOf_27_b63 N   u
  else
  if 52 ≤ x4 then
    zf_CCLocals_typeOf_27_b63 N   u
    else
    if 52 ≤ x4 then
      zf_CCLocals_typeOf_27_b63 N   u
      else
      zck (zin x4 52) (if 0 ≤ (lg_cmp x2 (gb u 0 x4)) then
        zf_CCLocals_typeOf_27_b8 N  n x2 (x4 + 1) u
        else
        zck (zin x4 52) (some ((ga u 16 x4), u)))
def zf_CCLocals_typeOf_27 (N : Nat) (x1 : Int32) (u : zU) : Option (Int32 × zU) :=
  zbd (zf_CCC_withoutSign N x1 u) (fun r1 u2 =>
  zf_CCLocals_typeOf_27_b8 N  N r1 0 u2)
def zf_CCStack_choose_31_b65 (N : Nat)  (s0 : Int32) (u : zU) : Option (Unit × zU) :=
  zbd (zf_CCStack_give_31 N s0 u) (fun r1 u2 =>
  some ((), u2))
def zf_CCStack_choose_31_b55 (N : Nat)  (x1 : Int32) (x2 : Int32) (u : zU) : Option (Unit × zU) :=
  if x1 = 0 then
  zf_CCStack_choose_31_b65 N  x2 u
  else
  zf_CCStack_choose_31_b65 N  x1 u
def zf_CCStack_choose_31_b37 (N : Nat)  (x1 : Int32) (x2 : Int32) (u : zU) : Option (Unit × zU) :=
  if x1 = x2 then
  zf_CCStack_choose_31_b55 N  x1 x2 u
  else
  if x1 = 0 then
    zf_CCStack_choose_31_b55 N  x1 x2 u
    else
    if x2 = 0 then
      zf_CCStack_choose_31_b55 N  x1 x2 u
      else
      zbd (zf_CCStack_fail_31 N 1 u) (fun r4 u5 =>
        zf_CCStack_choose_31_b55 N  x1 x2 u5)
def zf_CCStack_choose_31_b31 (N : Nat)  (x1 : Int32) (x2 : Int32) (u : zU) : Option (Unit × zU) :=
  zbd (zf_CCStack_fail_31 N 7 u) (fun r1 u2 =>
  zf_CCStack_choose_31_b37 N  x1 x2 u2)
def zf_CCStack_choose_31 (N : Nat)  (u : zU) : Option (Unit × zU) :=
  zbd (zf_CCStack_take_31 N 127 u) (fun r1 u2 =>
  zbd (zf_CCStack_takeAny_31 N  u2) (fun r4 u5 =>
  zbd (zf_CCStack_takeAny_31 N  u5) (fun r7 u8 =>
  zbd (zf_CCC_isReferenceType N r4 u8) (fun r10 u11 =>
  if r10 = 0 then
  zbd (zf_CCC_isReferenceType N r7 u11) (fun r14 u15 =>
    if r14 = 0 then
    zf_CCStack_choose_31_b37 N  r4 r7 u15
    else
    zf_CCStack_choose_31_b31 N  r4 r7 u15)
  else
  zf_CCStack_choose_31_b31 N  r4 r7 u11))))
def zf_CCCode_carryOutVariable_26_b225 (N : Nat)   (u : zU) : Option (Unit × zU) :=
  some ((), u)
def zf_CCCode_carryOutVariable_26 (N : Nat) (x1 : Int32) (x2 : Int32) (u : zU) : Option (Unit × zU) :=
  if x1 = 26 then zbd (zf_CCStack_takeAny_31 N  u) (fun r2 u3 =>
    zf_CCCode_carryOutVariable_26_b225 N   u3)
  else if x1 = 27 then zbd (zf_CCStack_choose_31 N  u) (fun r6 u7 =>
    zf_CCCode_carryOutVariable_26_b225 N   u7)
  else if x1 = 28 then zbd (zf_CCStack_take_31 N 127 u) (fun r10 u11 =>
    zbd (zf_CCStack_takeTimes_31 N x2 2 u11) (fun r13 u14 =>
    zbd (zf_CCStack_give_31 N x2 u14) (fun r16 u17 =>
    zf_CCCode_carryOutVariable_26_b225 N   u17)))
  else if x1 = 29 then zf_CCCode_carryOutVariable_26_b225 N   u
  else if x1 = 30 then zf_CCCode_carryOutVariable_26_b225 N   u
  else if x1 = 31 then zf_CCCode_carryOutVariable_26_b225 N   u
  else if x1 = 32 then zbd (zf_CCLocals_typeOf_27 N x2 u) (fun r23 u24 =>
    zbd (zf_CCStack_give_31 N r23 u24) (fun r26 u27 =>
    zf_CCCode_carryOutVariable_26_b225 N   u27))
  else if x1 = 33 then zbd (zf_CCLocals_typeOf_27 N x2 u) (fun r30 u31 =>
    zbd (zf_CCStack_take_31 N r30 u31) (fun r33 u34 =>
    zf_CCCode_carryOutVariable_26_b225 N   u34))
  else if x1 = 34 then zbd (zf_CCLocals_typeOf_27 N x2 u) (fun r37 u38 =>
    zbd (zf_CCStack_take_31 N r37 u38) (fun r40 u41 =>
    zbd (zf_CCLocals_typeOf_27 N x2 u41) (fun r43 u44 =>
    zbd (zf_CCStack_give_31 N r43 u44) (fun r46 u47 =>
    zf_CCCode_carryOutVariable_26_b225 N   u47))))
  else if x1 = 35 then zbd (zf_CCShelf_typeOf_17 N x2 u) (fun r50 u51 =>
    zbd (zf_CCStack_give_31 N r50 u51) (fun r53 u54 =>
    zf_CCCode_carryOutVariable_26_b225 N   u54))
  else if x1 = 36 then zbd (zf_CCShelf_typeOf_17 N x2 u) (fun r57 u58 =>
    zbd (zf_CCStack_take_31 N r57 u58) (fun r60 u61 =>
    zf_CCCode_carryOutVariable_26_b225 N   u61))
  else zf_CCCode_carryOutVariable_26_b225 N   u
def zf_CCCode_carryOutAccess_26_b73 (N : Nat)   (u : zU) : Option (Unit × zU) :=
  some ((), u)
def zf_CCCode_carryOutAccess_26_b26 (N : Nat)  (x1 : Int32) (s0 : Int32) (u : zU) : Option (Unit × zU) :=
  if 54 ≤ x1 then
  zbd (zf_CCStack_take_31 N s0 u) (fun r2 u3 =>
    zbd (zf_CCStack_take_31 N 127 u3) (fun r5 u6 =>
    zf_CCCode_carryOutAccess_26_b73 N   u6))
  else
  zbd (zf_CCStack_take_31 N 127 u) (fun r8 u9 =>
    zbd (zf_CCStack_give_31 N s0 u9) (fun r11 u12 =>
    zf_CCCode_carryOutAccess_26_b73 N   u12))
def zf_CCCode_carryOutAccess_26_b25 (N : Nat)  (x1 : Int32) (u : zU) : Option (Unit × zU) :=
  zf_CCCode_carryOutAccess_26_b26 N  x1 0 u
def zf_CCCode_carryOutAccess_26 (N : Nat) (x1 : Int32) (u : zU) : Option (Unit × zU) :=
  if (x1 - 40) < 0 then
  zf_CCCode_carryOutAccess_26_b25 N  x1 u
  else
  if 23 ≤ (x1 - 40) then
    zf_CCCode_carryOutAccess_26_b25 N  x1 u
    else
    zck (zin (x1 - 40) 23) (zf_CCCode_carryOutAccess_26_b26 N  x1 (t_X_MOVED_TYPE.getD (x1 - 40).toNatClampNeg 0) u)
def zf_CCStack_takeReference_31_b22 (N : Nat)   (u : zU) : Option (Unit × zU) :=
  some ((), u)
def zf_CCStack_takeReference_31 (N : Nat)  (u : zU) : Option (Unit × zU) :=
  zbd (zf_CCStack_takeAny_31 N  u) (fun r1 u2 =>
  if r1 = 0 then
  zf_CCStack_takeReference_31_b22 N   u2
  else
  zbd (zf_CCC_isReferenceType N r1 u2) (fun r5 u6 =>
    if r5 = 0 then
    zbd (zf_CCStack_fail_31 N 7 u6) (fun r9 u10 =>
      zf_CCStack_takeReference_31_b22 N   u10)
    else
    zf_CCStack_takeReference_31_b22 N   u6))
def zf_CCCode_carryOutReference_26_b236 (N : Nat)   (u : zU) : Option (Unit × zU) :=
  some ((), u)
def zf_CCCode_carryOutReference_26 (N : Nat) (x1 : Int32) (x2 : Int32) (u : zU) : Option (Unit × zU) :=
  if x1 = 37 then zbd (zf_CCStack_take_31 N 127 u) (fun r2 u3 =>
    zbd (zf_CCShelf_typeOf_11 N x2 u3) (fun r5 u6 =>
    zbd (zf_CCStack_give_31 N r5 u6) (fun r8 u9 =>
    zf_CCCode_carryOutReference_26_b236 N   u9)))
  else if x1 = 38 then zbd (zf_CCShelf_typeOf_11 N x2 u) (fun r12 u13 =>
    zbd (zf_CCStack_take_31 N r12 u13) (fun r15 u16 =>
    zbd (zf_CCStack_take_31 N 127 u16) (fun r18 u19 =>
    zf_CCCode_carryOutReference_26_b236 N   u19)))
  else if x1 = 208 then zbd (zf_CCStack_give_31 N x2 u) (fun r22 u23 =>
    zf_CCCode_carryOutReference_26_b236 N   u23)
  else if x1 = 209 then zbd (zf_CCStack_takeReference_31 N  u) (fun r26 u27 =>
    zbd (zf_CCStack_give_31 N 127 u27) (fun r29 u30 =>
    zf_CCCode_carryOutReference_26_b236 N   u30))
  else if x1 = 271 then zbd (zf_CCStack_take_31 N 127 u) (fun r33 u34 =>
    zbd (zf_CCShelf_typeOf_11 N x2 u34) (fun r36 u37 =>
    zbd (zf_CCStack_take_31 N r36 u37) (fun r39 u40 =>
    zbd (zf_CCStack_give_31 N 127 u40) (fun r42 u43 =>
    zf_CCCode_carryOutReference_26_b236 N   u43))))
  else if x1 = 273 then zbd (zf_CCStack_take_31 N 127 u) (fun r46 u47 =>
    zbd (zf_CCShelf_typeOf_11 N x2 u47) (fun r49 u50 =>
    zbd (zf_CCStack_take_31 N r49 u50) (fun r52 u53 =>
    zbd (zf_CCStack_take_31 N 127 u53) (fun r55 u56 =>
    zf_CCCode_carryOutReference_26_b236 N   u56))))
  else zf_CCCode_carryOutReference_26_b236 N   u
def zf_CCCode_carryOut_26_b88 (N : Nat)   (u : zU) : Option (Int32 × zU) :=
  some ((gi u 16), u)
def zf_CCCode_carryOut_26_b82 (N : Nat)  (x1 : Int32) (x2 : Int32) (u : zU) : Option (Int32 × zU) :=
  zbd (zf_CCCode_carryOutReference_26 N x1 x2 u) (fun r1 u2 =>
  zf_CCCode_carryOut_26_b88 N   u2)
def zf_CCCode_carryOut_26 (N : Nat) (x1 : Int32) (x2 : Int32) (u : zU) : Option (Int32 × zU) :=
  zbd (zf_CCC_plainLine N x1 u) (fun r1 u2 =>
  if r1 < 0 then
  if 11 < x1 then
    if 17 < x1 then
      if 36 < x1 then
        if x1 < 40 then
          zf_CCCode_carryOut_26_b82 N  x1 x2 u2
          else
          if 62 < x1 then
            zf_CCCode_carryOut_26_b82 N  x1 x2 u2
            else
            zbd (zf_CCCode_carryOutAccess_26 N x1 u2) (fun r10 u11 =>
              zf_CCCode_carryOut_26_b88 N   u11)
        else
        zbd (zf_CCCode_carryOutVariable_26 N x1 x2 u2) (fun r13 u14 =>
          zf_CCCode_carryOut_26_b88 N   u14)
      else
      zbd (zf_CCCode_carryOutBranch_26 N x1 x2 u2) (fun r16 u17 =>
        zf_CCCode_carryOut_26_b88 N   u17)
    else
    zbd (zf_CCCode_carryOutBlock_26 N x1 x2 u2) (fun r19 u20 =>
      zf_CCCode_carryOut_26_b88 N   u20)
  else
  zbd (zf_CCCode_carryOutPlain_26 N r1 u2) (fun r22 u23 =>
    zf_CCCode_carryOut_26_b88 N   u23))
def zf_CCCode_finishInstruction_26_b37 (N : Nat)   (u : zU) : Option (Unit × zU) :=
  some ((), u)
def zf_CCCode_finishInstruction_26 (N : Nat) (x1 : Int32) (u : zU) : Option (Unit × zU) :=
  if x1 = 0 then
  if (gi u 15) = 0 then
    zf_CCCode_finishInstruction_26_b37 N   (si (si (si u 10 1) 7 0) 8 2)
    else
    zf_CCCode_finishInstruction_26_b37 N   (si (si u 10 1) 7 0)
  else
  zf_CCCode_finishInstruction_26_b37 N   (si (si (si u 10 1) 7 0) 8 0)
def zf_CCC_step_0_b40 (N : Nat)  (x4 : Int32) (u : zU) : Option (Int32 × zU) :=
  zbd (zf_CCCode_finishInstruction_26 N x4 u) (fun r1 u2 =>
  some (x4, u2))
def zf_CCC_step_0 (N : Nat) (x1 : Int32) (x2 : Int32) (x3 : Int32) (u : zU) : Option (Int32 × zU) :=
  zbd (zf_CCCode_isOpen_26 N  u) (fun r1 u2 =>
  if r1 = 0 then
  some ((-1), u2)
  else
  zbd (zf_CCCode_faultAhead_26 N x1 x2 x3 u2) (fun r5 u6 =>
    if r5 = 0 then
    zbd (zf_CCCode_carryOut_26 N x1 x2 u6) (fun r9 u10 =>
      zf_CCC_step_0_b40 N  r9 u10)
    else
    zf_CCC_step_0_b40 N  r5 u6))
def zf_CCC_state_0 (N : Nat)  (u : zU) : Option (Int32 × zU) :=
  some ((gi u 8), u)
def zf_CCStack_isLive_31_b26 (N : Nat)  (s0 : Int32) (u : zU) : Option (Int32 × zU) :=
  zck (zbz s0) (some (s0, u))
def zf_CCStack_isLive_31_b25 (N : Nat)   (u : zU) : Option (Int32 × zU) :=
  zf_CCStack_isLive_31_b26 N  0 u
def zf_CCStack_isLive_31 (N : Nat)  (u : zU) : Option (Int32 × zU) :=
  zbd (zf_CCStack_hasInnermost_31 N  u) (fun r1 u2 =>
  if r1 = 0 then
  zf_CCStack_isLive_31_b25 N   u2
  else
  zck (zin ((gi u2 15) - 1) 60) (if (ga u2 22 ((gi u2 15) - 1)) = 0 then
    zf_CCStack_isLive_31_b25 N   u2
    else
    zf_CCStack_isLive_31_b26 N  1 u2))
def zf_CCCode_figure_26_b82 (N : Nat)  (s0 : Int64) (u : zU) : Option (Int64 × zU) :=
  some (s0, u)
def zf_CCCode_figure_26 (N : Nat) (x1 : Int32) (u : zU) : Option (Int64 × zU) :=
  if x1 = 0 then some ((Int32.toInt64 (gi u 14)), u)
  else if x1 = 1 then some ((Int32.toInt64 (gi u 15)), u)
  else if x1 = 2 then zbd (zf_CCStack_height_31 N  u) (fun r8 u9 =>
    some ((Int32.toInt64 r8), u9))
  else if x1 = 3 then zbd (zf_CCStack_isLive_31 N  u) (fun r14 u15 =>
    if r14 = 0 then
    zf_CCCode_figure_26_b82 N  0 u15
    else
    zf_CCCode_figure_26_b82 N  1 u15)
  else if x1 = 4 then zbd (zf_CCStack_opener_31 N  u) (fun r19 u20 =>
    some ((Int32.toInt64 r19), u20))
  else if x1 = 5 then some ((gj u 0), u)
  else some ((-1), u)
def zf_CCC_look_0_b24 (N : Nat)  (s0 : Int64) (u : zU) : Option (Int64 × zU) :=
  some (s0, u)
def zf_CCC_look_0 (N : Nat) (x1 : Int32) (u : zU) : Option (Int64 × zU) :=
  zbd (zf_CCCode_isOpen_26 N  u) (fun r1 u2 =>
  if r1 = 0 then
  zf_CCC_look_0_b24 N  (-1) u2
  else
  zbd (zf_CCCode_figure_26 N x1 u2) (fun r5 u6 =>
    zf_CCC_look_0_b24 N  r5 u6))
def zf_CCStack_operandFromEnd_31_b24 (N : Nat)   (u : zU) : Option (Int32 × zU) :=
  some ((-1), u)
def zf_CCStack_operandFromEnd_31 (N : Nat) (x1 : Int32) (u : zU) : Option (Int32 × zU) :=
  if x1 < 0 then
  zf_CCStack_operandFromEnd_31_b24 N   u
  else
  if (gi u 14) ≤ x1 then
    zf_CCStack_operandFromEnd_31_b24 N   u
    else
    if (gi u 14) ≤ 200 then
      zck (zin (((gi u 14) - 1) - x1) 200) (some ((ga u 18 (((gi u 14) - 1) - x1)), u))
      else
      zf_CCStack_operandFromEnd_31_b24 N   u
def zf_CCC_operand_0_b25 (N : Nat)  (s0 : Int32) (u : zU) : Option (Int32 × zU) :=
  some (s0, u)
def zf_CCC_operand_0 (N : Nat) (x1 : Int32) (u : zU) : Option (Int32 × zU) :=
  zbd (zf_CCCode_isOpen_26 N  u) (fun r1 u2 =>
  if r1 = 0 then
  zf_CCC_operand_0_b25 N  (-1) u2
  else
  zbd (zf_CCStack_operandFromEnd_31 N x1 u2) (fun r5 u6 =>
    zf_CCC_operand_0_b25 N  r5 u6))
