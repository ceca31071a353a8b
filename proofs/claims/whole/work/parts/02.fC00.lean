def zf_CCThings_makeType_1 (N : Nat)  (u : zU) : Option (Int32 × zU) :=
  if (gi u 0) < 40 then
  some ((((gi u 0) + 1) - 1), (si u 0 ((gi u 0) + 1)))
  else
  some ((-1), u)
def zf_CCC_type_0 (N : Nat)  (u : zU) : Option (Int32 × zU) :=
  zbd (zf_CCThings_makeType_1 N  u) (fun r1 u2 =>
  some (r1, u2))
def zf_CCCode_isOpen_26_b13 (N : Nat)  (s0 : Int32) (u : zU) : Option (Int32 × zU) :=
  zck (zbz s0) (some (s0, u))
def zf_CCCode_isOpen_26 (N : Nat)  (u : zU) : Option (Int32 × zU) :=
  if (gi u 8) = 1 then
  zf_CCCode_isOpen_26_b13 N  1 u
  else
  zf_CCCode_isOpen_26_b13 N  0 u
def zf_CCC_isReferenceType_b17 (N : Nat)  (s0 : Int32) (u : zU) : Option (Int32 × zU) :=
  zck (zbz s0) (some (s0, u))
def zf_CCC_isReferenceType_b12 (N : Nat)   (u : zU) : Option (Int32 × zU) :=
  zf_CCC_isReferenceType_b17 N  1 u
def zf_CCC_isReferenceType (N : Nat) (x0 : Int32) (u : zU) : Option (Int32 × zU) :=
  if x0 = 112 then
  zf_CCC_isReferenceType_b12 N   u
  else
  if x0 = 111 then
    zf_CCC_isReferenceType_b12 N   u
    else
    zf_CCC_isReferenceType_b17 N  0 u
def zf_CCC_isValueType_b36 (N : Nat)  (s0 : Int32) (u : zU) : Option (Int32 × zU) :=
  zck (zbz s0) (some (s0, u))
def zf_CCC_isValueType_b31 (N : Nat)   (u : zU) : Option (Int32 × zU) :=
  zf_CCC_isValueType_b36 N  1 u
def zf_CCC_isValueType (N : Nat) (x0 : Int32) (u : zU) : Option (Int32 × zU) :=
  if x0 = 127 then
  zf_CCC_isValueType_b31 N   u
  else
  if x0 = 126 then
    zf_CCC_isValueType_b31 N   u
    else
    if x0 = 125 then
      zf_CCC_isValueType_b31 N   u
      else
      if x0 = 124 then
        zf_CCC_isValueType_b31 N   u
        else
        zbd (zf_CCC_isReferenceType N x0 u) (fun r5 u6 =>
          if r5 = 0 then
          zf_CCC_isValueType_b36 N  0 u6
          else
          zf_CCC_isValueType_b31 N   u6)
def zf_CCRows_sizeOf_5_b42 (N : Nat)  (s0 : Int32) (u : zU) : Option (Int32 × zU) :=
  some (s0, u)
def zf_CCRows_sizeOf_5_b22 (N : Nat)  (s0 : Int32) (u : zU) : Option (Int32 × zU) :=
  some (s0, u)
def zf_CCRows_sizeOf_5_b21 (N : Nat)   (u : zU) : Option (Int32 × zU) :=
  zf_CCRows_sizeOf_5_b22 N  0 u
def zf_CCRows_sizeOf_5 (N : Nat) (x1 : Int32) (u : zU) : Option (Int32 × zU) :=
  if 0 ≤ x1 then
  if 40 ≤ x1 then
    zf_CCRows_sizeOf_5_b42 N  0 u
    else
    zck (zin x1 40) (zf_CCRows_sizeOf_5_b42 N  (ga u 2 x1) u)
  else
  if (1 : Int32) = 0 then
    zf_CCRows_sizeOf_5_b21 N   u
    else
    if x1 = (-64) then
      zf_CCRows_sizeOf_5_b21 N   u
      else
      zf_CCRows_sizeOf_5_b22 N  1 u
def zf_CCRows_append_5_b45 (N : Nat)   (u : zU) : Option (Int32 × zU) :=
  some ((-1), u)
def zf_CCRows_append_5 (N : Nat) (x1 : Int32) (x2 : Int32) (u : zU) : Option (Int32 × zU) :=
  zbd (zf_CCRows_sizeOf_5 N x1 u) (fun r1 u2 =>
  if x1 < 0 then
  zf_CCRows_append_5_b45 N   u2
  else
  if 40 ≤ x1 then
    zf_CCRows_append_5_b45 N   u2
    else
    if 12 ≤ r1 then
      zf_CCRows_append_5_b45 N   u2
      else
      if ((x1 * 12) + r1) < 0 then
        zf_CCRows_append_5_b45 N   u2
        else
        if ((x1 * 12) + r1) < 480 then
          zck (zin ((x1 * 12) + r1) 480) (zck (zin x1 40) (some ((r1 + 1), (sa (sa u2 3 ((x1 * 12) + r1) x2) 2 x1 (r1 + 1)))))
          else
          zf_CCRows_append_5_b45 N   u2)
def zf_CCRows_sizeOf_2_b42 (N : Nat)  (s0 : Int32) (u : zU) : Option (Int32 × zU) :=
  some (s0, u)
def zf_CCRows_sizeOf_2_b22 (N : Nat)  (s0 : Int32) (u : zU) : Option (Int32 × zU) :=
  some (s0, u)
def zf_CCRows_sizeOf_2_b21 (N : Nat)   (u : zU) : Option (Int32 × zU) :=
  zf_CCRows_sizeOf_2_b22 N  0 u
def zf_CCRows_sizeOf_2 (N : Nat) (x1 : Int32) (u : zU) : Option (Int32 × zU) :=
  if 0 ≤ x1 then
  if 40 ≤ x1 then
    zf_CCRows_sizeOf_2_b42 N  0 u
    else
    zck (zin x1 40) (zf_CCRows_sizeOf_2_b42 N  (ga u 0 x1) u)
  else
  if (0 : Int32) = 0 then
    zf_CCRows_sizeOf_2_b21 N   u
    else
    if x1 = (-64) then
      zf_CCRows_sizeOf_2_b21 N   u
      else
      zf_CCRows_sizeOf_2_b22 N  1 u
def zf_CCRows_append_2_b45 (N : Nat)   (u : zU) : Option (Int32 × zU) :=
  some ((-1), u)
def zf_CCRows_append_2 (N : Nat) (x1 : Int32) (x2 : Int32) (u : zU) : Option (Int32 × zU) :=
  zbd (zf_CCRows_sizeOf_2 N x1 u) (fun r1 u2 =>
  if x1 < 0 then
  zf_CCRows_append_2_b45 N   u2
  else
  if 40 ≤ x1 then
    zf_CCRows_append_2_b45 N   u2
    else
    if 12 ≤ r1 then
      zf_CCRows_append_2_b45 N   u2
      else
      if ((x1 * 12) + r1) < 0 then
        zf_CCRows_append_2_b45 N   u2
        else
        if ((x1 * 12) + r1) < 480 then
          zck (zin ((x1 * 12) + r1) 480) (zck (zin x1 40) (some ((r1 + 1), (sa (sa u2 1 ((x1 * 12) + r1) x2) 0 x1 (r1 + 1)))))
          else
          zf_CCRows_append_2_b45 N   u2)
def zf_CCThings_extendLatestType_1 (N : Nat) (x1 : Int32) (x2 : Int32) (u : zU) : Option (Int32 × zU) :=
  if x1 = 0 then
  zbd (zf_CCRows_append_2 N ((gi u 0) - 1) x2 u) (fun r2 u3 =>
    some (r2, u3))
  else
  zbd (zf_CCRows_append_5 N ((gi u 0) - 1) x2 u) (fun r7 u8 =>
    some (r7, u8))
def zf_CCC_part_0_b17 (N : Nat)   (u : zU) : Option (Int32 × zU) :=
  some ((-1), u)
def zf_CCC_part_0 (N : Nat) (x1 : Int32) (x2 : Int32) (u : zU) : Option (Int32 × zU) :=
  zbd (zf_CCCode_isOpen_26 N  u) (fun r1 u2 =>
  if r1 = 0 then
  zbd (zf_CCC_isValueType N x2 u2) (fun r5 u6 =>
    if r5 = 0 then
    zf_CCC_part_0_b17 N   u6
    else
    zbd (zf_CCThings_extendLatestType_1 N x1 x2 u6) (fun r9 u10 =>
      some (r9, u10)))
  else
  zf_CCC_part_0_b17 N   u2)
def zf_CCShelf_put_23_b31 (N : Nat)   (u : zU) : Option (Int32 × zU) :=
  some ((-1), u)
def zf_CCShelf_put_23 (N : Nat) (x1 : Int32) (x2 : Int32) (u : zU) : Option (Int32 × zU) :=
  if (gi u 6) < 0 then
  zf_CCShelf_put_23_b31 N   u
  else
  if 40 ≤ (gi u 6) then
    zf_CCShelf_put_23_b31 N   u
    else
    if (gi u 6) < 40 then
      zck (zin (gi u 6) 40) (zck (zin (gi u 6) 40) (some ((((gi u 6) + 1) - 1), (si (sa (sa u 14 (gi u 6) x1) 15 (gi u 6) (vp_nar .boolean x2)) 6 ((gi u 6) + 1)))))
      else
      zf_CCShelf_put_23_b31 N   u
def zf_CCShelf_put_20_b31 (N : Nat)   (u : zU) : Option (Int32 × zU) :=
  some ((-1), u)
def zf_CCShelf_put_20 (N : Nat) (x1 : Int32) (x2 : Int32) (u : zU) : Option (Int32 × zU) :=
  if (gi u 5) < 0 then
  zf_CCShelf_put_20_b31 N   u
  else
  if 40 ≤ (gi u 5) then
    zf_CCShelf_put_20_b31 N   u
    else
    if (gi u 5) < 40 then
      zck (zin (gi u 5) 40) (zck (zin (gi u 5) 40) (some ((((gi u 5) + 1) - 1), (si (sa (sa u 12 (gi u 5) x1) 13 (gi u 5) (vp_nar .boolean x2)) 5 ((gi u 5) + 1)))))
      else
      zf_CCShelf_put_20_b31 N   u
def zf_CCShelf_put_17_b31 (N : Nat)   (u : zU) : Option (Int32 × zU) :=
  some ((-1), u)
def zf_CCShelf_put_17 (N : Nat) (x1 : Int32) (x2 : Int32) (u : zU) : Option (Int32 × zU) :=
  if (gi u 4) < 0 then
  zf_CCShelf_put_17_b31 N   u
  else
  if 40 ≤ (gi u 4) then
    zf_CCShelf_put_17_b31 N   u
    else
    if (gi u 4) < 40 then
      zck (zin (gi u 4) 40) (zck (zin (gi u 4) 40) (some ((((gi u 4) + 1) - 1), (si (sa (sa u 10 (gi u 4) x1) 11 (gi u 4) (vp_nar .boolean x2)) 4 ((gi u 4) + 1)))))
      else
      zf_CCShelf_put_17_b31 N   u
def zf_CCShelf_put_14_b31 (N : Nat)   (u : zU) : Option (Int32 × zU) :=
  some ((-1), u)
def zf_CCShelf_put_14 (N : Nat) (x1 : Int32) (x2 : Int32) (u : zU) : Option (Int32 × zU) :=
  if (gi u 3) < 0 then
  zf_CCShelf_put_14_b31 N   u
  else
  if 40 ≤ (gi u 3) then
    zf_CCShelf_put_14_b31 N   u
    else
    if (gi u 3) < 40 then
      zck (zin (gi u 3) 40) (zck (zin (gi u 3) 40) (some ((((gi u 3) + 1) - 1), (si (sa (sa u 8 (gi u 3) x1) 9 (gi u 3) (vp_nar .boolean x2)) 3 ((gi u 3) + 1)))))
      else
      zf_CCShelf_put_14_b31 N   u
def zf_CCShelf_put_11_b31 (N : Nat)   (u : zU) : Option (Int32 × zU) :=
  some ((-1), u)
def zf_CCShelf_put_11 (N : Nat) (x1 : Int32) (x2 : Int32) (u : zU) : Option (Int32 × zU) :=
  if (gi u 2) < 0 then
  zf_CCShelf_put_11_b31 N   u
  else
  if 40 ≤ (gi u 2) then
    zf_CCShelf_put_11_b31 N   u
    else
    if (gi u 2) < 40 then
      zck (zin (gi u 2) 40) (zck (zin (gi u 2) 40) (some ((((gi u 2) + 1) - 1), (si (sa (sa u 6 (gi u 2) x1) 7 (gi u 2) (vp_nar .boolean x2)) 2 ((gi u 2) + 1)))))
      else
      zf_CCShelf_put_11_b31 N   u
def zf_CCThings_hasType_1_b17 (N : Nat)  (s0 : Int32) (u : zU) : Option (Int32 × zU) :=
  zck (zbz s0) (some (s0, u))
def zf_CCThings_hasType_1_b16 (N : Nat)   (u : zU) : Option (Int32 × zU) :=
  zf_CCThings_hasType_1_b17 N  0 u
def zf_CCThings_hasType_1 (N : Nat) (x1 : Int32) (u : zU) : Option (Int32 × zU) :=
  if x1 < 0 then
  zf_CCThings_hasType_1_b16 N   u
  else
  if (gi u 0) ≤ x1 then
    zf_CCThings_hasType_1_b16 N   u
    else
    zf_CCThings_hasType_1_b17 N  1 u
def zf_CCShelf_put_8_b31 (N : Nat)   (u : zU) : Option (Int32 × zU) :=
  some ((-1), u)
def zf_CCShelf_put_8 (N : Nat) (x1 : Int32) (x2 : Int32) (u : zU) : Option (Int32 × zU) :=
  if (gi u 1) < 0 then
  zf_CCShelf_put_8_b31 N   u
  else
  if 40 ≤ (gi u 1) then
    zf_CCShelf_put_8_b31 N   u
    else
    if (gi u 1) < 40 then
      zck (zin (gi u 1) 40) (zck (zin (gi u 1) 40) (some ((((gi u 1) + 1) - 1), (si (sa (sa u 4 (gi u 1) x1) 5 (gi u 1) (vp_nar .boolean x2)) 1 ((gi u 1) + 1)))))
      else
      zf_CCShelf_put_8_b31 N   u
def zf_CCThings_addThing_1_b61 (N : Nat)  (s0 : Int32) (u : zU) : Option (Int32 × zU) :=
  some (s0, u)
def zf_CCThings_addThing_1_b82 (N : Nat)  (s0 : Int32) (u : zU) : Option (Int32 × zU) :=
  some (s0, u)
def zf_CCThings_addThing_1_b131 (N : Nat)  (s0 : Int32) (u : zU) : Option (Int32 × zU) :=
  some (s0, u)
def zf_CCThings_addThing_1_b130 (N : Nat)   (u : zU) : Option (Int32 × zU) :=
  zf_CCThings_addThing_1_b131 N  (-1) u
def zf_CCThings_addThing_1_b124 (N : Nat)  (s0 : Int32) (s1 : Int32) (u : zU) : Option (Int32 × zU) :=
  zbd (zf_CCShelf_put_17 N s1 s0 u) (fun r1 u2 =>
  zf_CCThings_addThing_1_b131 N  r1 u2)
def zf_CCThings_addThing_1_b109 (N : Nat)  (x2 : Int32) (x3 : Int32) (u : zU) : Option (Int32 × zU) :=
  if x3 = 1 then
  zf_CCThings_addThing_1_b124 N  1 x2 u
  else
  zf_CCThings_addThing_1_b124 N  0 x2 u
def zf_CCThings_addThing_1_b152 (N : Nat)  (s0 : Int32) (u : zU) : Option (Int32 × zU) :=
  some (s0, u)
def zf_CCThings_addThing_1 (N : Nat) (x1 : Int32) (x2 : Int32) (x3 : Int32) (u : zU) : Option (Int32 × zU) :=
  if x1 = 0 then zbd (zf_CCThings_hasType_1 N x2 u) (fun r2 u3 =>
    if r2 = 0 then
    zf_CCThings_addThing_1_b61 N  (-1) u3
    else
    zbd (zf_CCShelf_put_8 N x2 0 u3) (fun r6 u7 =>
      zf_CCThings_addThing_1_b61 N  r6 u7))
  else if x1 = 1 then zbd (zf_CCC_isReferenceType N x2 u) (fun r10 u11 =>
    if r10 = 0 then
    zf_CCThings_addThing_1_b82 N  (-1) u11
    else
    zbd (zf_CCShelf_put_11 N x2 0 u11) (fun r14 u15 =>
      zf_CCThings_addThing_1_b82 N  r14 u15))
  else if x1 = 2 then zbd (zf_CCShelf_put_14 N 0 0 u) (fun r18 u19 =>
    some (r18, u19))
  else if x1 = 3 then zbd (zf_CCC_isValueType N x2 u) (fun r24 u25 =>
    if r24 = 0 then
    zf_CCThings_addThing_1_b130 N   u25
    else
    if x3 = 0 then
      zf_CCThings_addThing_1_b109 N  x2 x3 u25
      else
      if x3 = 1 then
        zf_CCThings_addThing_1_b109 N  x2 x3 u25
        else
        zf_CCThings_addThing_1_b130 N   u25)
  else if x1 = 4 then zbd (zf_CCC_isReferenceType N x2 u) (fun r31 u32 =>
    if r31 = 0 then
    zf_CCThings_addThing_1_b152 N  (-1) u32
    else
    zbd (zf_CCShelf_put_20 N x2 0 u32) (fun r35 u36 =>
      zf_CCThings_addThing_1_b152 N  r35 u36))
  else if x1 = 5 then zbd (zf_CCShelf_put_23 N 0 0 u) (fun r39 u40 =>
    some (r39, u40))
  else some ((-1), u)
def zf_CCC_add_0 (N : Nat) (x1 : Int32) (x2 : Int32) (x3 : Int32) (u : zU) : Option (Int32 × zU) :=
  zbd (zf_CCThings_addThing_1 N x1 x2 x3 u) (fun r1 u2 =>
  some (r1, u2))
def zf_CCShelf_has_8_b17 (N : Nat)  (s0 : Int32) (u : zU) : Option (Int32 × zU) :=
  zck (zbz s0) (some (s0, u))
def zf_CCShelf_has_8_b16 (N : Nat)   (u : zU) : Option (Int32 × zU) :=
  zf_CCShelf_has_8_b17 N  0 u
def zf_CCShelf_has_8 (N : Nat) (x1 : Int32) (u : zU) : Option (Int32 × zU) :=
  if x1 < 0 then
  zf_CCShelf_has_8_b16 N   u
  else
  if (gi u 1) ≤ x1 then
    zf_CCShelf_has_8_b16 N   u
    else
    zf_CCShelf_has_8_b17 N  1 u
def zf_CCShelf_mark_8_b17 (N : Nat)   (u : zU) : Option (Int32 × zU) :=
  some (0, u)
def zf_CCShelf_mark_8 (N : Nat) (x1 : Int32) (u : zU) : Option (Int32 × zU) :=
  zbd (zf_CCShelf_has_8 N x1 u) (fun r1 u2 =>
  if r1 = 0 then
  zf_CCShelf_mark_8_b17 N   u2
  else
  if x1 < 40 then
    zck (zin x1 40) (some (1, (sa u2 5 x1 (vp_nar .boolean 1))))
    else
    zf_CCShelf_mark_8_b17 N   u2)
def zf_CCC_declare_0 (N : Nat) (x1 : Int32) (u : zU) : Option (Int32 × zU) :=
  zbd (zf_CCShelf_mark_8 N x1 u) (fun r1 u2 =>
  zck (zbz r1) (some (r1, u2)))
def zf_CCStack_pushBlock_31_b24 (N : Nat)   (u : zU) : Option (Unit × zU) :=
  some ((), (si u 16 15))
def zf_CCStack_pushBlock_31 (N : Nat) (x1 : Int32) (x2 : Int32) (u : zU) : Option (Unit × zU) :=
  if (gi u 16) = 0 then
  if (gi u 15) < 0 then
    zf_CCStack_pushBlock_31_b24 N   u
    else
    if (gi u 15) < 60 then
      zck (zin (gi u 15) 60) (zck (zin (gi u 15) 60) (zck (zin (gi u 15) 60) (zck (zin (gi u 15) 60) (some ((), (si (sa (sa (sa (sa u 19 (gi u 15) x2) 20 (gi u 15) (gi u 14)) 21 (gi u 15) x1) 22 (gi u 15) (vp_nar .boolean 1)) 15 ((gi u 15) + 1)))))))
      else
      zf_CCStack_pushBlock_31_b24 N   u
  else
  some ((), u)
def zf_CCStack_restart_31 (N : Nat) (x1 : Int32) (u : zU) : Option (Unit × zU) :=
  zbd (zf_CCStack_pushBlock_31 N (-1) x1 (si (si (si u 14 0) 15 0) 16 0)) (fun r1 u2 =>
  some ((), u2))
def zf_CCLocals_clear_27 (N : Nat)  (u : zU) : Option (Unit × zU) :=
  some ((), (sj (si u 13 0) 0 0))
def zf_CCCode_open_26 (N : Nat) (x1 : Int32) (x2 : Int32) (u : zU) : Option (Unit × zU) :=
  zbd (zf_CCStack_restart_31 N x1 u) (fun r1 u2 =>
  zbd (zf_CCLocals_clear_27 N  u2) (fun r4 u5 =>
  zck (zbz x2) (some ((), (si (si (si (si (si u5 7 0) 12 0) 10 0) 9 x2) 8 1)))))
def zf_CCRows_partOf_2_b26 (N : Nat)   (u : zU) : Option (Int32 × zU) :=
  some (0, u)
def zf_CCRows_partOf_2 (N : Nat) (x1 : Int32) (x2 : Int32) (u : zU) : Option (Int32 × zU) :=
  if 0 ≤ x1 then
  if 40 ≤ x1 then
    zf_CCRows_partOf_2_b26 N   u
    else
    if x2 < 0 then
      zf_CCRows_partOf_2_b26 N   u
      else
      if x2 < 12 then
        zck (zin ((x1 * 12) + x2) 480) (some ((ga u 1 ((x1 * 12) + x2)), u))
        else
        zf_CCRows_partOf_2_b26 N   u
  else
  some ((x1 + 128), u)
def zf_CCLocals_append_27_b31 (N : Nat)   (u : zU) : Option (Unit × zU) :=
  some ((), u)
def zf_CCLocals_append_27 (N : Nat) (x1 : Int32) (x2 : Int64) (u : zU) : Option (Unit × zU) :=
  if (gi u 13) < 0 then
  zf_CCLocals_append_27_b31 N   u
  else
  if 52 ≤ (gi u 13) then
    zf_CCLocals_append_27_b31 N   u
    else
    if (gi u 13) < 52 then
      zck (zin (gi u 13) 52) (zck (zin (gi u 13) 52) (some ((), (si (sb (sa (sj u 0 ((gj u 0) + x2)) 16 (gi u 13) x1) 0 (gi u 13) ((gj u 0) + x2)) 13 ((gi u 13) + 1)))))
      else
      zf_CCLocals_append_27_b31 N   u
def zf_CCCode_openBody_26_b20 (N : Nat)  : Nat → Int32 → Int32 → Int32 → zU → Option (Unit × zU)
  | 0, _, _, _, _ => none
  | n + 1, x1, x2, x3, u =>
  if x2 ≤ x3 then
  some ((), u)
  else
  zbd (zf_CCRows_partOf_2 N x1 x3 u) (fun r4 u5 =>
    zbd (zf_CCLocals_append_27 N r4 1 u5) (fun r7 u8 =>
    zf_CCCode_openBody_26_b20 N  n x1 x2 (x3 + 1) u8))
def zf_CCCode_openBody_26 (N : Nat) (x1 : Int32) (u : zU) : Option (Unit × zU) :=
  zbd (zf_CCCode_open_26 N x1 0 u) (fun r1 u2 =>
  zbd (zf_CCRows_sizeOf_2 N x1 u2) (fun r4 u5 =>
  zf_CCCode_openBody_26_b20 N  N x1 r4 0 u5))
def zf_CCC_begin_0 (N : Nat) (x1 : Int32) (u : zU) : Option (Int32 × zU) :=
  zbd (zf_CCThings_hasType_1 N x1 u) (fun r1 u2 =>
  if r1 = 0 then
  some (0, u2)
  else
  zbd (zf_CCCode_openBody_26 N x1 u2) (fun r5 u6 =>
    some (1, u6)))
def zf_CCCode_openConstant_26 (N : Nat) (x1 : Int32) (x2 : Int32) (u : zU) : Option (Unit × zU) :=
  zbd (zf_CCCode_open_26 N (x1 - 128) 1 u) (fun r1 u2 =>
  some ((), (si u2 11 x2)))
def zf_CCC_constant_0_b11 (N : Nat)   (u : zU) : Option (Int32 × zU) :=
  some (0, u)
def zf_CCC_constant_0 (N : Nat) (x1 : Int32) (x2 : Int32) (u : zU) : Option (Int32 × zU) :=
  zbd (zf_CCC_isValueType N x1 u) (fun r1 u2 =>
  if r1 = 0 then
  zf_CCC_constant_0_b11 N   u2
  else
  if 0 ≤ x2 then
    zbd (zf_CCCode_openConstant_26 N x1 x2 u2) (fun r6 u7 =>
      some (1, u7))
    else
    zf_CCC_constant_0_b11 N   u2)
def zf_CCC_withoutSign (N : Nat) (x0 : Int32) (u : zU) : Option (Int64 × zU) :=
  some (((Int32.toInt64 x0) &&& 4294967295), u)
def zf_CCCode_addLocals_26_b37 (N : Nat)   (u : zU) : Option (Int32 × zU) :=
  some (0, u)
def zf_CCCode_addLocals_26 (N : Nat) (x1 : Int32) (x2 : Int32) (u : zU) : Option (Int32 × zU) :=
  zbd (zf_CCCode_isOpen_26 N  u) (fun r1 u2 =>
  if r1 = 0 then
  zf_CCCode_addLocals_26_b37 N   u2
  else
  if (gi u2 9) = 0 then
    if (gi u2 10) = 0 then
      zbd (zf_CCC_isValueType N x1 u2) (fun r7 u8 =>
        if r7 = 0 then
        zf_CCCode_addLocals_26_b37 N   u8
        else
        if (gi u8 12) < 40 then
          zbd (zf_CCC_withoutSign N x2 u8) (fun r12 u13 =>
            zbd (zf_CCLocals_append_27 N x1 r12 u13) (fun r15 u16 =>
            some (1, (si u16 12 ((gi u16 12) + 1)))))
          else
          zf_CCCode_addLocals_26_b37 N   u8)
      else
      zf_CCCode_addLocals_26_b37 N   u2
    else
    zf_CCCode_addLocals_26_b37 N   u2)
def zf_CCC_local_0 (N : Nat) (x1 : Int32) (x2 : Int32) (u : zU) : Option (Int32 × zU) :=
  zbd (zf_CCCode_addLocals_26 N x1 x2 u) (fun r1 u2 =>
  zck (zbz r1) (some (r1, u2)))
def zf_CCCode_addLabel_26_b26 (N : Nat)   (u : zU) : Option (Int32 × zU) :=
  some ((-1), u)
def zf_CCCode_addLabel_26 (N : Nat) (x1 : Int32) (u : zU) : Option (Int32 × zU) :=
  zbd (zf_CCCode_isOpen_26 N  u) (fun r1 u2 =>
  if r1 = 0 then
  zf_CCCode_addLabel_26_b26 N   u2
  else
  if (gi u2 7) < 0 then
    zf_CCCode_addLabel_26_b26 N   u2
    else
    if (gi u2 7) < 20 then
      zck (zin (gi u2 7) 20) (some (((gi u2 7) + 1), (si (sa u2 17 (gi u2 7) x1) 7 ((gi u2 7) + 1))))
      else
      zf_CCCode_addLabel_26_b26 N   u2)
def zf_CCC_label_0 (N : Nat) (x1 : Int32) (u : zU) : Option (Int32 × zU) :=
  zbd (zf_CCCode_addLabel_26 N x1 u) (fun r1 u2 =>
  some (r1, u2))
def zf_CCC_isInstruction_b34 (N : Nat) (k2 : Int32 → Int32 → zU → Option (Int32 × zU)) (x0 : Int32) (x1 : Int32) (u : zU) : Option (Int32 × zU) :=
  k2 x0 (x1 + 2) u
def zf_CCC_isInstruction_b2 (N : Nat)  : Nat → Int32 → Int32 → zU → Option (Int32 × zU)
  | 0, _, _, _ => none
  | n + 1, x0, x1, u =>
  if 14 ≤ (x1 + 1) then
  some (0, u)
  else
  zck (zin x1 14) (if x0 < (t_X_INSTRUCTIONS.getD x1.toNatClampNeg 0) then
    zf_CCC_isInstruction_b34 N (zf_CCC_isInstruction_b2 N  n) x0 x1 u
    else
    zck (zin (x1 + 1) 14) (if (t_X_INSTRUCTIONS.getD (x1 + 1).toNatClampNeg 0) < x0 then
      zf_CCC_isInstruction_b34 N (zf_CCC_isInstruction_b2 N  n) x0 x1 u
      else
      some (1, u)))
def zf_CCC_isInstruction (N : Nat) (x0 : Int32) (u : zU) : Option (Int32 × zU) :=
  zf_CCC_isInstruction_b2 N  N x0 0 u
def zf_CCC_isBlockType_b26 (N : Nat)  (s0 : Int32) (u : zU) : Option (Int32 × zU) :=
  zck (zbz s0) (some (s0, u))
def zf_CCC_isBlockType_b21 (N : Nat)   (u : zU) : Option (Int32 × zU) :=
  zf_CCC_isBlockType_b26 N  1 u
def zf_CCC_isBlockType (N : Nat) (x0 : Int32) (u : zU) : Option (Int32 × zU) :=
  if 0 ≤ x0 then
  zf_CCC_isBlockType_b21 N   u
  else
  if x0 = (-64) then
    zf_CCC_isBlockType_b21 N   u
    else
    zbd (zf_CCC_isValueType N (x0 + 128) u) (fun r3 u4 =>
      if r3 = 0 then
      zf_CCC_isBlockType_b26 N  0 u4
      else
      zf_CCC_isBlockType_b21 N   u4)
def zf_CCCode_isMalformed_26_b64 (N : Nat)  (s0 : Int32) (u : zU) : Option (Int32 × zU) :=
  zck (zbz s0) (some (s0, u))
def zf_CCCode_isMalformed_26_b52 (N : Nat)  (x2 : Int32) (u : zU) : Option (Int32 × zU) :=
  zbd (zf_CCC_isBlockType N x2 u) (fun r1 u2 =>
  if r1 = 0 then
  zf_CCCode_isMalformed_26_b64 N  1 u2
  else
  zf_CCCode_isMalformed_26_b64 N  0 u2)
def zf_CCCode_isMalformed_26_b77 (N : Nat)  (s0 : Int32) (u : zU) : Option (Int32 × zU) :=
  zck (zbz s0) (some (s0, u))
def zf_CCCode_isMalformed_26_b90 (N : Nat)  (s0 : Int32) (u : zU) : Option (Int32 × zU) :=
  zck (zbz s0) (some (s0, u))
def zf_CCCode_isMalformed_26_b103 (N : Nat)  (s0 : Int32) (u : zU) : Option (Int32 × zU) :=
  zck (zbz s0) (some (s0, u))
def zf_CCCode_isMalformed_26 (N : Nat) (x1 : Int32) (x2 : Int32) (u : zU) : Option (Int32 × zU) :=
  if x1 = 2 then zf_CCCode_isMalformed_26_b52 N  x2 u
  else if x1 = 3 then zf_CCCode_isMalformed_26_b52 N  x2 u
  else if x1 = 4 then zf_CCCode_isMalformed_26_b52 N  x2 u
  else if x1 = 28 then zbd (zf_CCC_isValueType N x2 u) (fun r5 u6 =>
    if r5 = 0 then
    zf_CCCode_isMalformed_26_b77 N  1 u6
    else
    zf_CCCode_isMalformed_26_b77 N  0 u6)
  else if x1 = 208 then zbd (zf_CCC_isReferenceType N x2 u) (fun r10 u11 =>
    if r10 = 0 then
    zf_CCCode_isMalformed_26_b90 N  1 u11
    else
    zf_CCCode_isMalformed_26_b90 N  0 u11)
  else zbd (zf_CCC_isInstruction N x1 u) (fun r14 u15 =>
  if r14 = 0 then
  zf_CCCode_isMalformed_26_b103 N  1 u15
  else
  zf_CCCode_isMalformed_26_b103 N  0 u15)
def zf_CCShelf_has_17_b17 (N : Nat)  (s0 : Int32) (u : zU) : Option (Int32 × zU) :=
  zck (zbz s0) (some (s0, u))
def zf_CCShelf_has_17_b16 (N : Nat)   (u : zU) : Option (Int32 × zU) :=
  zf_CCShelf_has_17_b17 N  0 u
def zf_CCShelf_has_17 (N : Nat) (x1 : Int32) (u : zU) : Option (Int32 × zU) :=
  if x1 < 0 then
  zf_CCShelf_has_17_b16 N   u
  else
  if (gi u 4) ≤ x1 then
    zf_CCShelf_has_17_b16 N   u
    else
    zf_CCShelf_has_17_b17 N  1 u
def zf_CCShelf_isMarked_17_b31 (N : Nat)  (s0 : Int32) (u : zU) : Option (Int32 × zU) :=
  zck (zbz s0) (some (s0, u))
def zf_CCShelf_isMarked_17_b30 (N : Nat)   (u : zU) : Option (Int32 × zU) :=
  zf_CCShelf_isMarked_17_b31 N  0 u
def zf_CCShelf_isMarked_17 (N : Nat) (x1 : Int32) (u : zU) : Option (Int32 × zU) :=
  zbd (zf_CCShelf_has_17 N x1 u) (fun r1 u2 =>
  if r1 = 0 then
  zf_CCShelf_isMarked_17_b30 N   u2
  else
  if 40 ≤ x1 then
    zf_CCShelf_isMarked_17_b30 N   u2
    else
    zck (zin x1 40) (if (ga u2 11 x1) = 0 then
      zf_CCShelf_isMarked_17_b30 N   u2
      else
      zf_CCShelf_isMarked_17_b31 N  1 u2))
def zf_CCCode_mayStandInConstant_26_b85 (N : Nat)  (s0 : Int32) (u : zU) : Option (Int32 × zU) :=
  zck (zbz s0) (some (s0, u))
def zf_CCCode_mayStandInConstant_26_b80 (N : Nat)   (u : zU) : Option (Int32 × zU) :=
  zf_CCCode_mayStandInConstant_26_b85 N  1 u
def zf_CCCode_mayStandInConstant_26_b66 (N : Nat)  (x1 : Int32) (u : zU) : Option (Int32 × zU) :=
  if x1 = 208 then
  zf_CCCode_mayStandInConstant_26_b80 N   u
  else
  if x1 = 210 then
    zf_CCCode_mayStandInConstant_26_b80 N   u
    else
    zf_CCCode_mayStandInConstant_26_b85 N  0 u
def zf_CCCode_mayStandInConstant_26_b47 (N : Nat)  (s0 : Int32) (u : zU) : Option (Int32 × zU) :=
  zck (zbz s0) (some (s0, u))
def zf_CCCode_mayStandInConstant_26_b46 (N : Nat)   (u : zU) : Option (Int32 × zU) :=
  zf_CCCode_mayStandInConstant_26_b47 N  0 u
def zf_CCCode_mayStandInConstant_26 (N : Nat) (x1 : Int32) (x2 : Int32) (u : zU) : Option (Int32 × zU) :=
  if x1 = 35 then
  zbd (zf_CCShelf_has_17 N x2 u) (fun r5 u6 =>
    if r5 = 0 then
    zf_CCCode_mayStandInConstant_26_b46 N   u6
    else
    if (gi u6 11) ≤ x2 then
      zf_CCCode_mayStandInConstant_26_b46 N   u6
      else
      zbd (zf_CCShelf_isMarked_17 N x2 u6) (fun r10 u11 =>
        if r10 = 0 then
        zf_CCCode_mayStandInConstant_26_b47 N  1 u11
        else
        zf_CCCode_mayStandInConstant_26_b46 N   u11))
  else
  if x1 = 11 then
    zf_CCCode_mayStandInConstant_26_b80 N   u
    else
    if x1 < 65 then
      zf_CCCode_mayStandInConstant_26_b66 N  x1 u
      else
      if x1 ≤ 68 then
        zf_CCCode_mayStandInConstant_26_b80 N   u
        else
        zf_CCCode_mayStandInConstant_26_b66 N  x1 u
def zf_CCShelf_has_11_b17 (N : Nat)  (s0 : Int32) (u : zU) : Option (Int32 × zU) :=
  zck (zbz s0) (some (s0, u))
def zf_CCShelf_has_11_b16 (N : Nat)   (u : zU) : Option (Int32 × zU) :=
  zf_CCShelf_has_11_b17 N  0 u
def zf_CCShelf_has_11 (N : Nat) (x1 : Int32) (u : zU) : Option (Int32 × zU) :=
  if x1 < 0 then
  zf_CCShelf_has_11_b16 N   u
  else
  if (gi u 2) ≤ x1 then
    zf_CCShelf_has_11_b16 N   u
    else
    zf_CCShelf_has_11_b17 N  1 u
def zf_CCShelf_has_20_b17 (N : Nat)  (s0 : Int32) (u : zU) : Option (Int32 × zU) :=
  zck (zbz s0) (some (s0, u))
def zf_CCShelf_has_20_b16 (N : Nat)   (u : zU) : Option (Int32 × zU) :=
  zf_CCShelf_has_20_b17 N  0 u
def zf_CCShelf_has_20 (N : Nat) (x1 : Int32) (u : zU) : Option (Int32 × zU) :=
  if x1 < 0 then
  zf_CCShelf_has_20_b16 N   u
  else
  if (gi u 5) ≤ x1 then
    zf_CCShelf_has_20_b16 N   u
    else
    zf_CCShelf_has_20_b17 N  1 u
def zf_CCShelf_has_23_b17 (N : Nat)  (s0 : Int32) (u : zU) : Option (Int32 × zU) :=
  zck (zbz s0) (some (s0, u))
def zf_CCShelf_has_23_b16 (N : Nat)   (u : zU) : Option (Int32 × zU) :=
  zf_CCShelf_has_23_b17 N  0 u
def zf_CCShelf_has_23 (N : Nat) (x1 : Int32) (u : zU) : Option (Int32 × zU) :=
  if x1 < 0 then
  zf_CCShelf_has_23_b16 N   u
  else
  if (gi u 6) ≤ x1 then
    zf_CCShelf_has_23_b16 N   u
    else
    zf_CCShelf_has_23_b17 N  1 u
def zf_CCLocals_has_27_b17 (N : Nat)  (s0 : Int32) (u : zU) : Option (Int32 × zU) :=
  zck (zbz s0) (some (s0, u))
def zf_CCLocals_has_27 (N : Nat) (x1 : Int32) (u : zU) : Option (Int32 × zU) :=
  zbd (zf_CCC_withoutSign N x1 u) (fun r1 u2 =>
  if 0 ≤ (lg_cmp r1 (gj u2 0)) then
  zf_CCLocals_has_27_b17 N  0 u2
  else
  zf_CCLocals_has_27_b17 N  1 u2)
def zf_CCStack_hasBlock_31_b17 (N : Nat)  (s0 : Int32) (u : zU) : Option (Int32 × zU) :=
  zck (zbz s0) (some (s0, u))
def zf_CCStack_hasBlock_31_b16 (N : Nat)   (u : zU) : Option (Int32 × zU) :=
  zf_CCStack_hasBlock_31_b17 N  0 u
def zf_CCStack_hasBlock_31 (N : Nat) (x1 : Int32) (u : zU) : Option (Int32 × zU) :=
  if x1 < 0 then
  zf_CCStack_hasBlock_31_b16 N   u
  else
  if (gi u 15) ≤ x1 then
    zf_CCStack_hasBlock_31_b16 N   u
    else
    zf_CCStack_hasBlock_31_b17 N  1 u
def zf_CCCode_isLabelMissing_26_b43 (N : Nat)   (u : zU) : Option (Int32 × zU) :=
  some (0, u)
def zf_CCCode_isLabelMissing_26_b2 (N : Nat)  : Nat → Int32 → zU → Option (Int32 × zU)
  | 0, _, _ => none
  | n + 1, x1, u =>
  if (gi u 7) ≤ x1 then
  zf_CCCode_isLabelMissing_26_b43 N   u
  else
  if 20 ≤ x1 then
    zf_CCCode_isLabelMissing_26_b43 N   u
    else
    zck (zin x1 20) (zbd (zf_CCStack_hasBlock_31 N (ga u 17 x1) u) (fun r4 u5 =>
      if r4 = 0 then
      some (1, u5)
      else
      zf_CCCode_isLabelMissing_26_b2 N  n (x1 + 1) u5))
def zf_CCCode_isLabelMissing_26 (N : Nat)  (u : zU) : Option (Int32 × zU) :=
  zf_CCCode_isLabelMissing_26_b2 N  N 0 u
def zf_CCCode_namesWhatIsMissing_26_b224 (N : Nat)  (s0 : Int32) (u : zU) : Option (Int32 × zU) :=
  zck (zbz s0) (some (s0, u))
def zf_CCCode_namesWhatIsMissing_26_b223 (N : Nat)   (u : zU) : Option (Int32 × zU) :=
  zf_CCCode_namesWhatIsMissing_26_b224 N  0 u
def zf_CCCode_namesWhatIsMissing_26_b204 (N : Nat)  (x2 : Int32) (u : zU) : Option (Int32 × zU) :=
  if x2 < 0 then
  zf_CCCode_namesWhatIsMissing_26_b223 N   u
  else
  zbd (zf_CCThings_hasType_1 N x2 u) (fun r2 u3 =>
    if r2 = 0 then
    zf_CCCode_namesWhatIsMissing_26_b224 N  1 u3
    else
    zf_CCCode_namesWhatIsMissing_26_b223 N   u3)
def zf_CCCode_namesWhatIsMissing_26_b241 (N : Nat)  (s0 : Int32) (u : zU) : Option (Int32 × zU) :=
  zck (zbz s0) (some (s0, u))
def zf_CCCode_namesWhatIsMissing_26_b225 (N : Nat)  (x2 : Int32) (u : zU) : Option (Int32 × zU) :=
  zbd (zf_CCStack_hasBlock_31 N x2 u) (fun r1 u2 =>
  if r1 = 0 then
  zf_CCCode_namesWhatIsMissing_26_b241 N  1 u2
  else
  zf_CCCode_namesWhatIsMissing_26_b241 N  0 u2)
def zf_CCCode_namesWhatIsMissing_26_b265 (N : Nat)  (s0 : Int32) (u : zU) : Option (Int32 × zU) :=
  zck (zbz s0) (some (s0, u))
def zf_CCCode_namesWhatIsMissing_26_b260 (N : Nat)   (u : zU) : Option (Int32 × zU) :=
  zf_CCCode_namesWhatIsMissing_26_b265 N  1 u
def zf_CCCode_namesWhatIsMissing_26_b285 (N : Nat)  (s0 : Int32) (u : zU) : Option (Int32 × zU) :=
  zck (zbz s0) (some (s0, u))
def zf_CCCode_namesWhatIsMissing_26_b266 (N : Nat)  (x2 : Int32) (u : zU) : Option (Int32 × zU) :=
  zbd (zf_CCShelf_has_8 N x2 u) (fun r1 u2 =>
  if r1 = 0 then
  zf_CCCode_namesWhatIsMissing_26_b285 N  1 u2
  else
  zf_CCCode_namesWhatIsMissing_26_b285 N  0 u2)
def zf_CCCode_namesWhatIsMissing_26_b316 (N : Nat)  (s0 : Int32) (u : zU) : Option (Int32 × zU) :=
  zck (zbz s0) (some (s0, u))
def zf_CCCode_namesWhatIsMissing_26_b311 (N : Nat)   (u : zU) : Option (Int32 × zU) :=
  zf_CCCode_namesWhatIsMissing_26_b316 N  1 u
def zf_CCCode_namesWhatIsMissing_26_b333 (N : Nat)  (s0 : Int32) (u : zU) : Option (Int32 × zU) :=
  zck (zbz s0) (some (s0, u))
def zf_CCCode_namesWhatIsMissing_26_b317 (N : Nat)  (x2 : Int32) (u : zU) : Option (Int32 × zU) :=
  zbd (zf_CCLocals_has_27 N x2 u) (fun r1 u2 =>
  if r1 = 0 then
  zf_CCCode_namesWhatIsMissing_26_b333 N  1 u2
  else
  zf_CCCode_namesWhatIsMissing_26_b333 N  0 u2)
def zf_CCCode_namesWhatIsMissing_26_b353 (N : Nat)  (s0 : Int32) (u : zU) : Option (Int32 × zU) :=
  zck (zbz s0) (some (s0, u))
def zf_CCCode_namesWhatIsMissing_26_b334 (N : Nat)  (x2 : Int32) (u : zU) : Option (Int32 × zU) :=
  zbd (zf_CCShelf_has_17 N x2 u) (fun r1 u2 =>
  if r1 = 0 then
  zf_CCCode_namesWhatIsMissing_26_b353 N  1 u2
  else
  zf_CCCode_namesWhatIsMissing_26_b353 N  0 u2)
def zf_CCCode_namesWhatIsMissing_26_b373 (N : Nat)  (s0 : Int32) (u : zU) : Option (Int32 × zU) :=
  zck (zbz s0) (some (s0, u))
def zf_CCCode_namesWhatIsMissing_26_b354 (N : Nat)  (x2 : Int32) (u : zU) : Option (Int32 × zU) :=
  zbd (zf_CCShelf_has_11 N x2 u) (fun r1 u2 =>
  if r1 = 0 then
  zf_CCCode_namesWhatIsMissing_26_b373 N  1 u2
  else
  zf_CCCode_namesWhatIsMissing_26_b373 N  0 u2)
def zf_CCCode_namesWhatIsMissing_26_b393 (N : Nat)  (s0 : Int32) (u : zU) : Option (Int32 × zU) :=
  zck (zbz s0) (some (s0, u))
def zf_CCCode_namesWhatIsMissing_26_b374 (N : Nat)  (x2 : Int32) (u : zU) : Option (Int32 × zU) :=
  zbd (zf_CCShelf_has_23 N x2 u) (fun r1 u2 =>
  if r1 = 0 then
  zf_CCCode_namesWhatIsMissing_26_b393 N  1 u2
  else
  zf_CCCode_namesWhatIsMissing_26_b393 N  0 u2)
def zf_CCCode_namesWhatIsMissing_26_b427 (N : Nat)  (s0 : Int32) (u : zU) : Option (Int32 × zU) :=
  zck (zbz s0) (some (s0, u))
def zf_CCCode_namesWhatIsMissing_26_b422 (N : Nat)   (u : zU) : Option (Int32 × zU) :=
  zf_CCCode_namesWhatIsMissing_26_b427 N  1 u
def zf_CCCode_namesWhatIsMissing_26_b447 (N : Nat)  (s0 : Int32) (u : zU) : Option (Int32 × zU) :=
  zck (zbz s0) (some (s0, u))
def zf_CCCode_namesWhatIsMissing_26_b481 (N : Nat)  (s0 : Int32) (u : zU) : Option (Int32 × zU) :=
  zck (zbz s0) (some (s0, u))
def zf_CCCode_namesWhatIsMissing_26_b476 (N : Nat)   (u : zU) : Option (Int32 × zU) :=
  zf_CCCode_namesWhatIsMissing_26_b481 N  1 u
def zf_CCCode_namesWhatIsMissing_26 (N : Nat) (x1 : Int32) (x2 : Int32) (x3 : Int32) (u : zU) : Option (Int32 × zU) :=
  if x1 = 2 then zf_CCCode_namesWhatIsMissing_26_b204 N  x2 u
  else if x1 = 3 then zf_CCCode_namesWhatIsMissing_26_b204 N  x2 u
  else if x1 = 4 then zf_CCCode_namesWhatIsMissing_26_b204 N  x2 u
  else if x1 = 12 then zf_CCCode_namesWhatIsMissing_26_b225 N  x2 u
  else if x1 = 13 then zf_CCCode_namesWhatIsMissing_26_b225 N  x2 u
  else if x1 = 14 then zbd (zf_CCStack_hasBlock_31 N x2 u) (fun r7 u8 =>
    if r7 = 0 then
    zf_CCCode_namesWhatIsMissing_26_b260 N   u8
    else
    zbd (zf_CCCode_isLabelMissing_26 N  u8) (fun r11 u12 =>
      if r11 = 0 then
      zf_CCCode_namesWhatIsMissing_26_b265 N  0 u12
      else
      zf_CCCode_namesWhatIsMissing_26_b260 N   u12))
  else if x1 = 16 then zf_CCCode_namesWhatIsMissing_26_b266 N  x2 u
  else if x1 = 17 then zbd (zf_CCThings_hasType_1 N x2 u) (fun r17 u18 =>
    if r17 = 0 then
    zf_CCCode_namesWhatIsMissing_26_b311 N   u18
    else
    zbd (zf_CCShelf_has_11 N x3 u18) (fun r21 u22 =>
      if r21 = 0 then
      zf_CCCode_namesWhatIsMissing_26_b311 N   u22
      else
      zf_CCCode_namesWhatIsMissing_26_b316 N  0 u22))
  else if x1 = 32 then zf_CCCode_namesWhatIsMissing_26_b317 N  x2 u
  else if x1 = 33 then zf_CCCode_namesWhatIsMissing_26_b317 N  x2 u
  else if x1 = 34 then zf_CCCode_namesWhatIsMissing_26_b317 N  x2 u
  else if x1 = 35 then zf_CCCode_namesWhatIsMissing_26_b334 N  x2 u
  else if x1 = 36 then zf_CCCode_namesWhatIsMissing_26_b334 N  x2 u
  else if x1 = 37 then zf_CCCode_namesWhatIsMissing_26_b354 N  x2 u
  else if x1 = 38 then zf_CCCode_namesWhatIsMissing_26_b354 N  x2 u
  else if x1 = 210 then zf_CCCode_namesWhatIsMissing_26_b266 N  x2 u
  else if x1 = 264 then zf_CCCode_namesWhatIsMissing_26_b374 N  x2 u
  else if x1 = 265 then zf_CCCode_namesWhatIsMissing_26_b374 N  x2 u
  else if x1 = 268 then zbd (zf_CCShelf_has_20 N x2 u) (fun r36 u37 =>
    if r36 = 0 then
    zf_CCCode_namesWhatIsMissing_26_b422 N   u37
    else
    zbd (zf_CCShelf_has_11 N x3 u37) (fun r40 u41 =>
      if r40 = 0 then
      zf_CCCode_namesWhatIsMissing_26_b422 N   u41
      else
      zf_CCCode_namesWhatIsMissing_26_b427 N  0 u41))
  else if x1 = 269 then zbd (zf_CCShelf_has_20 N x2 u) (fun r45 u46 =>
    if r45 = 0 then
    zf_CCCode_namesWhatIsMissing_26_b447 N  1 u46
    else
    zf_CCCode_namesWhatIsMissing_26_b447 N  0 u46)
  else if x1 = 270 then zbd (zf_CCShelf_has_11 N x2 u) (fun r50 u51 =>
    if r50 = 0 then
    zf_CCCode_namesWhatIsMissing_26_b476 N   u51
    else
    zbd (zf_CCShelf_has_11 N x3 u51) (fun r54 u55 =>
      if r54 = 0 then
      zf_CCCode_namesWhatIsMissing_26_b476 N   u55
      else
      zf_CCCode_namesWhatIsMissing_26_b481 N  0 u55))
  else if x1 = 271 then zf_CCCode_namesWhatIsMissing_26_b354 N  x2 u
  else if x1 = 272 then zf_CCCode_namesWhatIsMissing_26_b354 N  x2 u
  else if x1 = 273 then zf_CCCode_namesWhatIsMissing_26_b354 N  x2 u
  else some (0, u)
def zf_CCShelf_has_14_b17 (N : Nat)  (s0 : Int32) (u : zU) : Option (Int32 × zU) :=
  zck (zbz s0) (some (s0, u))
def zf_CCShelf_has_14_b16 (N : Nat)   (u : zU) : Option (Int32 × zU) :=
  zf_CCShelf_has_14_b17 N  0 u
def zf_CCShelf_has_14 (N : Nat) (x1 : Int32) (u : zU) : Option (Int32 × zU) :=
  if x1 < 0 then
  zf_CCShelf_has_14_b16 N   u
  else
  if (gi u 3) ≤ x1 then
    zf_CCShelf_has_14_b16 N   u
    else
    zf_CCShelf_has_14_b17 N  1 u
def zf_CCThings_hasMemory_1 (N : Nat)  (u : zU) : Option (Int32 × zU) :=
  zbd (zf_CCShelf_has_14 N 0 u) (fun r1 u2 =>
  zck (zbz r1) (some (r1, u2)))
def zf_CCCode_accessFault_26_b77 (N : Nat)  (s0 : Int32) (u : zU) : Option (Int32 × zU) :=
  some (s0, u)
def zf_CCCode_accessFault_26_b64 (N : Nat)  (s0 : Int32) (u : zU) : Option (Int32 × zU) :=
  if s0 = 0 then
  zf_CCCode_accessFault_26_b77 N  10 u
  else
  zf_CCCode_accessFault_26_b77 N  0 u
def zf_CCCode_accessFault_26_b63 (N : Nat)   (u : zU) : Option (Int32 × zU) :=
  zf_CCCode_accessFault_26_b64 N  0 u
def zf_CCCode_accessFault_26_b39 (N : Nat)  (x2 : Int32) (s0 : Int32) (u : zU) : Option (Int32 × zU) :=
  if x2 < 0 then
  zf_CCCode_accessFault_26_b63 N   u
  else
  if 31 ≤ x2 then
    zf_CCCode_accessFault_26_b63 N   u
    else
    if s0 < (1 <<< (x2 &&& 31)) then
      zf_CCCode_accessFault_26_b63 N   u
      else
      zf_CCCode_accessFault_26_b64 N  1 u
def zf_CCCode_accessFault_26_b38 (N : Nat)  (x2 : Int32) (u : zU) : Option (Int32 × zU) :=
  zf_CCCode_accessFault_26_b39 N  x2 0 u
def zf_CCCode_accessFault_26 (N : Nat) (x1 : Int32) (x2 : Int32) (u : zU) : Option (Int32 × zU) :=
  zbd (zf_CCThings_hasMemory_1 N  u) (fun r1 u2 =>
  if r1 = 0 then
  some (9, u2)
  else
  if (x1 - 40) < 0 then
    zf_CCCode_accessFault_26_b38 N  x2 u2
    else
    if 23 ≤ (x1 - 40) then
      zf_CCCode_accessFault_26_b38 N  x2 u2
      else
      zck (zin (x1 - 40) 23) (zf_CCCode_accessFault_26_b39 N  x2 (t_X_MOVED_BYTES.getD (x1 - 40).toNatClampNeg 0) u2))
def zf_CCShelf_typeOf_11_b27 (N : Nat)  (s0 : Int32) (u : zU) : Option (Int32 × zU) :=
  some (s0, u)
def zf_CCShelf_typeOf_11_b26 (N : Nat)   (u : zU) : Option (Int32 × zU) :=
  zf_CCShelf_typeOf_11_b27 N  0 u
def zf_CCShelf_typeOf_11 (N : Nat) (x1 : Int32) (u : zU) : Option (Int32 × zU) :=
  zbd (zf_CCShelf_has_11 N x1 u) (fun r1 u2 =>
  if r1 = 0 then
  zf_CCShelf_typeOf_11_b26 N   u2
  else
  if 40 ≤ x1 then
    zf_CCShelf_typeOf_11_b26 N   u2
    else
    zck (zin x1 40) (zf_CCShelf_typeOf_11_b27 N  (ga u2 6 x1) u2))
def zf_CCShelf_typeOf_20_b27 (N : Nat)  (s0 : Int32) (u : zU) : Option (Int32 × zU) :=
  some (s0, u)
def zf_CCShelf_typeOf_20_b26 (N : Nat)   (u : zU) : Option (Int32 × zU) :=
  zf_CCShelf_typeOf_20_b27 N  0 u
def zf_CCShelf_typeOf_20 (N : Nat) (x1 : Int32) (u : zU) : Option (Int32 × zU) :=
  zbd (zf_CCShelf_has_20 N x1 u) (fun r1 u2 =>
  if r1 = 0 then
  zf_CCShelf_typeOf_20_b26 N   u2
  else
  if 40 ≤ x1 then
    zf_CCShelf_typeOf_20_b26 N   u2
    else
    zck (zin x1 40) (zf_CCShelf_typeOf_20_b27 N  (ga u2 12 x1) u2))
def zf_CCShelf_isMarked_8_b31 (N : Nat)  (s0 : Int32) (u : zU) : Option (Int32 × zU) :=
  zck (zbz s0) (some (s0, u))
def zf_CCShelf_isMarked_8_b30 (N : Nat)   (u : zU) : Option (Int32 × zU) :=
  zf_CCShelf_isMarked_8_b31 N  0 u
def zf_CCShelf_isMarked_8 (N : Nat) (x1 : Int32) (u : zU) : Option (Int32 × zU) :=
  zbd (zf_CCShelf_has_8 N x1 u) (fun r1 u2 =>
  if r1 = 0 then
  zf_CCShelf_isMarked_8_b30 N   u2
  else
  if 40 ≤ x1 then
    zf_CCShelf_isMarked_8_b30 N   u2
    else
    zck (zin x1 40) (if (ga u2 5 x1) = 0 then
      zf_CCShelf_isMarked_8_b30 N   u2
      else
      zf_CCShelf_isMarked_8_b31 N  1 u2))
def zf_CCCode_misfit_26_b134 (N : Nat)  (s0 : Int32) (u : zU) : Option (Int32 × zU) :=
  some (s0, u)
def zf_CCCode_misfit_26_b155 (N : Nat)  (s0 : Int32) (u : zU) : Option (Int32 × zU) :=
  some (s0, u)
def zf_CCCode_misfit_26_b172 (N : Nat)  (s0 : Int32) (u : zU) : Option (Int32 × zU) :=
  some (s0, u)
def zf_CCCode_misfit_26_b156 (N : Nat)   (u : zU) : Option (Int32 × zU) :=
  zbd (zf_CCThings_hasMemory_1 N  u) (fun r1 u2 =>
  if r1 = 0 then
  zf_CCCode_misfit_26_b172 N  9 u2
  else
  zf_CCCode_misfit_26_b172 N  0 u2)
def zf_CCCode_misfit_26_b193 (N : Nat)  (s0 : Int32) (u : zU) : Option (Int32 × zU) :=
  some (s0, u)
def zf_CCCode_misfit_26_b225 (N : Nat)  (s0 : Int32) (u : zU) : Option (Int32 × zU) :=
  some (s0, u)
def zf_CCCode_misfit_26_b257 (N : Nat)  (s0 : Int32) (u : zU) : Option (Int32 × zU) :=
  some (s0, u)
def zf_CCCode_misfit_26_b19 (N : Nat)  (x1 : Int32) (x2 : Int32) (x3 : Int32) (u : zU) : Option (Int32 × zU) :=
  if x1 = 17 then zbd (zf_CCShelf_typeOf_11 N x3 u) (fun r2 u3 =>
    if r2 = 112 then
    zf_CCCode_misfit_26_b134 N  0 u3
    else
    zf_CCCode_misfit_26_b134 N  6 u3)
  else if x1 = 36 then zbd (zf_CCShelf_isMarked_17 N x2 u) (fun r7 u8 =>
    if r7 = 0 then
    zf_CCCode_misfit_26_b155 N  8 u8
    else
    zf_CCCode_misfit_26_b155 N  0 u8)
  else if x1 = 63 then zf_CCCode_misfit_26_b156 N   u
  else if x1 = 64 then zf_CCCode_misfit_26_b156 N   u
  else if x1 = 210 then zbd (zf_CCShelf_isMarked_8 N x2 u) (fun r14 u15 =>
    if r14 = 0 then
    zf_CCCode_misfit_26_b193 N  11 u15
    else
    zf_CCCode_misfit_26_b193 N  0 u15)
  else if x1 = 264 then zf_CCCode_misfit_26_b156 N   u
  else if x1 = 266 then zf_CCCode_misfit_26_b156 N   u
  else if x1 = 267 then zf_CCCode_misfit_26_b156 N   u
  else if x1 = 268 then zbd (zf_CCShelf_typeOf_20 N x2 u) (fun r22 u23 =>
    zbd (zf_CCShelf_typeOf_11 N x3 u23) (fun r25 u26 =>
    if r22 = r25 then
    zf_CCCode_misfit_26_b225 N  0 u26
    else
    zf_CCCode_misfit_26_b225 N  6 u26))
  else if x1 = 270 then zbd (zf_CCShelf_typeOf_11 N x2 u) (fun r30 u31 =>
    zbd (zf_CCShelf_typeOf_11 N x3 u31) (fun r33 u34 =>
    if r30 = r33 then
    zf_CCCode_misfit_26_b257 N  0 u34
    else
    zf_CCCode_misfit_26_b257 N  6 u34))
  else some (0, u)
def zf_CCCode_misfit_26 (N : Nat) (x1 : Int32) (x2 : Int32) (x3 : Int32) (u : zU) : Option (Int32 × zU) :=
  if x1 < 40 then
  zf_CCCode_misfit_26_b19 N  x1 x2 x3 u
  else
  if 62 < x1 then
    zf_CCCode_misfit_26_b19 N  x1 x2 x3 u
    else
    zbd (zf_CCCode_accessFault_26 N x1 x2 u) (fun r3 u4 =>
      some (r3, u4))
def zf_CCCode_faultAhead_26_b31 (N : Nat)  (x1 : Int32) (x2 : Int32) (x3 : Int32) (u : zU) : Option (Int32 × zU) :=
  zbd (zf_CCCode_namesWhatIsMissing_26 N x1 x2 x3 u) (fun r1 u2 =>
  if r1 = 0 then
  zbd (zf_CCCode_misfit_26 N x1 x2 x3 u2) (fun r5 u6 =>
    some (r5, u6))
  else
  some (12, u2))
def zf_CCCode_faultAhead_26 (N : Nat) (x1 : Int32) (x2 : Int32) (x3 : Int32) (u : zU) : Option (Int32 × zU) :=
  zbd (zf_CCCode_isMalformed_26 N x1 x2 u) (fun r1 u2 =>
  if r1 = 0 then
  if (gi u2 9) = 0 then
    zf_CCCode_faultAhead_26_b31 N  x1 x2 x3 u2
    else
    zbd (zf_CCCode_mayStandInConstant_26 N x1 x2 u2) (fun r6 u7 =>
      if r6 = 0 then
      some (14, u7)
      else
      zf_CCCode_faultAhead_26_b31 N  x1 x2 x3 u7)
  else
  some (13, u2))
def zf_CCC_plainLine_b34 (N : Nat) (k2 : Int32 → Int32 → zU → Option (Int32 × zU)) (x0 : Int32) (x1 : Int32) (u : zU) : Option (Int32 × zU) :=
  k2 x0 (x1 + 5) u
def zf_CCC_plainLine_b2 (N : Nat)  : Nat → Int32 → Int32 → zU → Option (Int32 × zU)
  | 0, _, _, _ => none
  | n + 1, x0, x1, u =>
  if 235 ≤ (x1 + 4) then
  some ((-1), u)
  else
  zck (zin x1 235) (if x0 < (t_X_PLAIN.getD x1.toNatClampNeg 0) then
    zf_CCC_plainLine_b34 N (zf_CCC_plainLine_b2 N  n) x0 x1 u
    else
    zck (zin (x1 + 1) 235) (if (t_X_PLAIN.getD (x1 + 1).toNatClampNeg 0) < x0 then
      zf_CCC_plainLine_b34 N (zf_CCC_plainLine_b2 N  n) x0 x1 u
      else
      some (x1, u)))
def zf_CCC_plainLine (N : Nat) (x0 : Int32) (u : zU) : Option (Int32 × zU) :=
  zf_CCC_plainLine_b2 N  N x0 0 u
def zf_CCStack_takeAny_31_b31 (N : Nat)   (u : zU) : Option (Int32 × zU) :=
  some (0, u)
def zf_CCStack_takeAny_31_b82 (N : Nat)   (u : zU) : Option (Int32 × zU) :=
  some (0, u)
def zf_CCStack_takeAny_31_b68 (N : Nat)  (x1 : Int32) (u : zU) : Option (Int32 × zU) :=
  zck (zin x1 60) (if (ga u 22 x1) = 0 then
  zf_CCStack_takeAny_31_b82 N   u
  else
  zf_CCStack_takeAny_31_b82 N   (si u 16 1))
def zf_CCStack_takeAny_31 (N : Nat)  (u : zU) : Option (Int32 × zU) :=
  if (gi u 16) = 0 then
  if ((gi u 15) - 1) < 0 then
    zf_CCStack_takeAny_31_b31 N   u
    else
    if ((gi u 15) - 1) < 60 then
      zck (zin ((gi u 15) - 1) 60) (if ((gi u 14) - 1) < (ga u 20 ((gi u 15) - 1)) then
        zf_CCStack_takeAny_31_b68 N  ((gi u 15) - 1) u
        else
        if ((gi u 14) - 1) < 0 then
          zf_CCStack_takeAny_31_b68 N  ((gi u 15) - 1) u
          else
          if 200 ≤ ((gi u 14) - 1) then
            zf_CCStack_takeAny_31_b68 N  ((gi u 15) - 1) u
            else
            zck (zin ((gi u 14) - 1) 200) (some ((ga (si u 14 ((gi u 14) - 1)) 18 ((gi u 14) - 1)), (si u 14 ((gi u 14) - 1)))))
      else
      zf_CCStack_takeAny_31_b31 N   u
  else
  zf_CCStack_takeAny_31_b31 N   u
def zf_CCStack_fail_31_b12 (N : Nat)   (u : zU) : Option (Unit × zU) :=
  some ((), u)
def zf_CCStack_fail_31 (N : Nat) (x1 : Int32) (u : zU) : Option (Unit × zU) :=
  if (gi u 16) = 0 then
  zf_CCStack_fail_31_b12 N   (si u 16 x1)
  else
  zf_CCStack_fail_31_b12 N   u
def zf_CCStack_take_31_b19 (N : Nat)  (x2 : Int32) (u : zU) : Option (Int32 × zU) :=
  some (x2, u)
def zf_CCStack_take_31 (N : Nat) (x1 : Int32) (u : zU) : Option (Int32 × zU) :=
  zbd (zf_CCStack_takeAny_31 N  u) (fun r1 u2 =>
  if r1 = 0 then
  zf_CCStack_take_31_b19 N  r1 u2
  else
  if r1 = x1 then
    zf_CCStack_take_31_b19 N  r1 u2
    else
    zbd (zf_CCStack_fail_31 N 1 u2) (fun r6 u7 =>
      zf_CCStack_take_31_b19 N  r1 u7))
def zf_CCStack_takeTimes_31_b2 (N : Nat)  : Nat → Int32 → Int32 → Int32 → zU → Option (Unit × zU)
  | 0, _, _, _, _ => none
  | n + 1, x1, x2, x3, u =>
  if x2 ≤ x3 then
  some ((), u)
  else
  zbd (zf_CCStack_take_31 N x1 u) (fun r4 u5 =>
    zf_CCStack_takeTimes_31_b2 N  n x1 x2 (x3 + 1) u5)
def zf_CCStack_takeTimes_31 (N : Nat) (x1 : Int32) (x2 : Int32) (u : zU) : Option (Unit × zU) :=
  zf_CCStack_takeTimes_31_b2 N  N x1 x2 0 u
def zf_CCStack_give_31_b27 (N : Nat)   (u : zU) : Option (Unit × zU) :=
  some ((), (si u 16 15))
def zf_CCStack_give_31 (N : Nat) (x1 : Int32) (u : zU) : Option (Unit × zU) :=
  if (gi u 16) = 0 then
  if (gi u 14) < 0 then
    zf_CCStack_give_31_b27 N   u
    else
    if (gi u 14) < 200 then
      zck (zin (gi u 14) 200) (some ((), (si (sa u 18 (gi u 14) x1) 14 ((gi u 14) + 1))))
      else
      zf_CCStack_give_31_b27 N   u
  else
  some ((), u)
def zf_CCCode_carryOutPlain_26_b14 (N : Nat)   (u : zU) : Option (Unit × zU) :=
  some ((), u)
def zf_CCCode_carryOutPlain_26_b61 (N : Nat)   (u : zU) : Option (Unit × zU) :=
  some ((), u)
def zf_CCCode_carryOutPlain_26 (N : Nat) (x1 : Int32) (u : zU) : Option (Unit × zU) :=
  if x1 < 0 then
  zf_CCCode_carryOutPlain_26_b14 N   u
  else
  if (x1 + 4) < 235 then
    zck (zin (x1 + 3) 235) (zck (zin (x1 + 2) 235) (zbd (zf_CCStack_takeTimes_31 N (t_X_PLAIN.getD (x1 + 3).toNatClampNeg 0) (t_X_PLAIN.getD (x1 + 2).toNatClampNeg 0) u) (fun r8 u9 =>
      zck (zin (x1 + 4) 235) (if (t_X_PLAIN.getD (x1 + 4).toNatClampNeg 0) = (-1) then
      zf_CCCode_carryOutPlain_26_b61 N   u9
      else
      zck (zin (x1 + 4) 235) (zbd (zf_CCStack_give_31 N (t_X_PLAIN.getD (x1 + 4).toNatClampNeg 0) u9) (fun r16 u17 =>
        zf_CCCode_carryOutPlain_26_b61 N   u17))))))
    else
    zf_CCCode_carryOutPlain_26_b14 N   u
def zf_CCStack_ofBlock_31_33_b30 (N : Nat)  (s0 : Int32) (u : zU) : Option (Int32 × zU) :=
  some (s0, u)
def zf_CCStack_ofBlock_31_33_b29 (N : Nat)   (u : zU) : Option (Int32 × zU) :=
  zf_CCStack_ofBlock_31_33_b30 N  0 u
def zf_CCStack_ofBlock_31_33 (N : Nat) (x2 : Int32) (u : zU) : Option (Int32 × zU) :=
  if x2 < 0 then
  zf_CCStack_ofBlock_31_33_b29 N   u
  else
  if (((gi u 15) - 1) - x2) < 0 then
    zf_CCStack_ofBlock_31_33_b29 N   u
    else
    if 60 ≤ (((gi u 15) - 1) - x2) then
      zf_CCStack_ofBlock_31_33_b29 N   u
      else
      zck (zin (((gi u 15) - 1) - x2) 60) (zf_CCStack_ofBlock_31_33_b30 N  (ga u 19 (((gi u 15) - 1) - x2)) u)
def zf_CCRows_partOf_5_b26 (N : Nat)   (u : zU) : Option (Int32 × zU) :=
  some (0, u)
def zf_CCRows_partOf_5 (N : Nat) (x1 : Int32) (x2 : Int32) (u : zU) : Option (Int32 × zU) :=
  if 0 ≤ x1 then
  if 40 ≤ x1 then
    zf_CCRows_partOf_5_b26 N   u
    else
    if x2 < 0 then
      zf_CCRows_partOf_5_b26 N   u
      else
      if x2 < 12 then
        zck (zin ((x1 * 12) + x2) 480) (some ((ga u 3 ((x1 * 12) + x2)), u))
        else
        zf_CCRows_partOf_5_b26 N   u
  else
  some ((x1 + 128), u)
def zf_CCStack_takeRow_31_5_b8 (N : Nat)  : Nat → Int32 → Int32 → zU → Option (Unit × zU)
  | 0, _, _, _ => none
  | n + 1, x2, x3, u =>
  if x3 < 0 then
  some ((), u)
  else
  zbd (zf_CCRows_partOf_5 N x2 x3 u) (fun r4 u5 =>
    zbd (zf_CCStack_take_31 N r4 u5) (fun r7 u8 =>
    zf_CCStack_takeRow_31_5_b8 N  n x2 (x3 + (-1)) u8))
def zf_CCStack_takeRow_31_5 (N : Nat) (x2 : Int32) (u : zU) : Option (Unit × zU) :=
  zbd (zf_CCRows_sizeOf_5 N x2 u) (fun r1 u2 =>
  zf_CCStack_takeRow_31_5_b8 N  N x2 (r1 - 1) u2)
def zf_CCStack_ofBlock_31_34_b30 (N : Nat)  (s0 : Int32) (u : zU) : Option (Int32 × zU) :=
  some (s0, u)
def zf_CCStack_ofBlock_31_34_b29 (N : Nat)   (u : zU) : Option (Int32 × zU) :=
  zf_CCStack_ofBlock_31_34_b30 N  0 u
def zf_CCStack_ofBlock_31_34 (N : Nat) (x2 : Int32) (u : zU) : Option (Int32 × zU) :=
  if x2 < 0 then
  zf_CCStack_ofBlock_31_34_b29 N   u
  else
  if (((gi u 15) - 1) - x2) < 0 then
    zf_CCStack_ofBlock_31_34_b29 N   u
    else
    if 60 ≤ (((gi u 15) - 1) - x2) then
      zf_CCStack_ofBlock_31_34_b29 N   u
      else
      zck (zin (((gi u 15) - 1) - x2) 60) (zf_CCStack_ofBlock_31_34_b30 N  (ga u 20 (((gi u 15) - 1) - x2)) u)
def zf_CCStack_height_31 (N : Nat)  (u : zU) : Option (Int32 × zU) :=
  zbd (zf_CCStack_ofBlock_31_34 N 0 u) (fun r1 u2 =>
  some (r1, u2))
def zf_CCStack_expectNoMoreOperands_31_b16 (N : Nat)   (u : zU) : Option (Unit × zU) :=
  some ((), u)
def zf_CCStack_expectNoMoreOperands_31 (N : Nat)  (u : zU) : Option (Unit × zU) :=
  zbd (zf_CCStack_height_31 N  u) (fun r1 u2 =>
  if (gi u 14) ≤ r1 then
  zf_CCStack_expectNoMoreOperands_31_b16 N   u2
  else
  zbd (zf_CCStack_fail_31 N 3 u2) (fun r5 u6 =>
    zf_CCStack_expectNoMoreOperands_31_b16 N   u6))
def zf_CCStack_ofBlock_31_35_b30 (N : Nat)  (s0 : Int32) (u : zU) : Option (Int32 × zU) :=
  some (s0, u)
def zf_CCStack_ofBlock_31_35_b29 (N : Nat)   (u : zU) : Option (Int32 × zU) :=
  zf_CCStack_ofBlock_31_35_b30 N  0 u
def zf_CCStack_ofBlock_31_35 (N : Nat) (x2 : Int32) (u : zU) : Option (Int32 × zU) :=
  if x2 < 0 then
  zf_CCStack_ofBlock_31_35_b29 N   u
  else
  if (((gi u 15) - 1) - x2) < 0 then
    zf_CCStack_ofBlock_31_35_b29 N   u
    else
    if 60 ≤ (((gi u 15) - 1) - x2) then
      zf_CCStack_ofBlock_31_35_b29 N   u
      else
      zck (zin (((gi u 15) - 1) - x2) 60) (zf_CCStack_ofBlock_31_35_b30 N  (ga u 21 (((gi u 15) - 1) - x2)) u)
def zf_CCStack_opener_31 (N : Nat)  (u : zU) : Option (Int32 × zU) :=
  zbd (zf_CCStack_ofBlock_31_35 N 0 u) (fun r1 u2 =>
  some (r1, u2))
def zf_CCThings_hasLikeParametersAndResults_1_b25 (N : Nat)  : Nat → Int32 → Int32 → Int32 → zU → Option (Int32 × zU)
  | 0, _, _, _, _ => none
  | n + 1, x1, x2, x3, u =>
  if x2 ≤ x3 then
  some (1, u)
  else
  zbd (zf_CCRows_partOf_2 N x1 x3 u) (fun r4 u5 =>
    zbd (zf_CCRows_partOf_5 N x1 x3 u5) (fun r7 u8 =>
    if r4 = r7 then
    zf_CCThings_hasLikeParametersAndResults_1_b25 N  n x1 x2 (x3 + 1) u8
    else
    some (0, u8)))
def zf_CCThings_hasLikeParametersAndResults_1 (N : Nat) (x1 : Int32) (u : zU) : Option (Int32 × zU) :=
  zbd (zf_CCRows_sizeOf_2 N x1 u) (fun r1 u2 =>
  zbd (zf_CCRows_sizeOf_5 N x1 u2) (fun r4 u5 =>
  if r1 = r4 then
  zf_CCThings_hasLikeParametersAndResults_1_b25 N  N x1 r1 0 u5
  else
  some (0, u5)))
def zf_CCStack_hasInnermost_31_b21 (N : Nat)  (s0 : Int32) (u : zU) : Option (Int32 × zU) :=
  zck (zbz s0) (some (s0, u))
def zf_CCStack_hasInnermost_31_b20 (N : Nat)   (u : zU) : Option (Int32 × zU) :=
  zf_CCStack_hasInnermost_31_b21 N  0 u
def zf_CCStack_hasInnermost_31 (N : Nat)  (u : zU) : Option (Int32 × zU) :=
  if (gi u 15) ≤ 0 then
  zf_CCStack_hasInnermost_31_b20 N   u
  else
  if 60 < (gi u 15) then
    zf_CCStack_hasInnermost_31_b20 N   u
    else
    zf_CCStack_hasInnermost_31_b21 N  1 u
def zf_CCStack_giveRow_31_5_b9 (N : Nat)  : Nat → Int32 → Int32 → Int32 → zU → Option (Unit × zU)
  | 0, _, _, _, _ => none
  | n + 1, x2, x3, x4, u =>
  if x3 ≤ x4 then
  some ((), u)
  else
  zbd (zf_CCRows_partOf_5 N x2 x4 u) (fun r4 u5 =>
    zbd (zf_CCStack_give_31 N r4 u5) (fun r7 u8 =>
    zf_CCStack_giveRow_31_5_b9 N  n x2 x3 (x4 + 1) u8))
def zf_CCStack_giveRow_31_5 (N : Nat) (x2 : Int32) (u : zU) : Option (Unit × zU) :=
  zbd (zf_CCRows_sizeOf_5 N x2 u) (fun r1 u2 =>
  zf_CCStack_giveRow_31_5_b9 N  N x2 r1 0 u2)
def zf_CCStack_closeBlock_31_b64 (N : Nat)   (u : zU) : Option (Unit × zU) :=
  some ((), u)
def zf_CCStack_closeBlock_31_b94 (N : Nat)   (u : zU) : Option (Unit × zU) :=
  some ((), u)
def zf_CCStack_closeBlock_31_b50 (N : Nat)  (x1 : Int32) (u : zU) : Option (Unit × zU) :=
  if (gi u 16) = 0 then
  zbd (zf_CCStack_hasInnermost_31 N  u) (fun r2 u3 =>
    if r2 = 0 then
    zf_CCStack_closeBlock_31_b64 N   u3
    else
    if ((gi u3 15) - 1) ≤ 0 then
      zf_CCStack_closeBlock_31_b94 N   (si u3 15 ((gi u3 15) - 1))
      else
      zbd (zf_CCStack_giveRow_31_5 N x1 (si u3 15 ((gi u3 15) - 1))) (fun r7 u8 =>
        zf_CCStack_closeBlock_31_b94 N   u8))
  else
  zf_CCStack_closeBlock_31_b64 N   u
def zf_CCStack_closeBlock_31 (N : Nat)  (u : zU) : Option (Unit × zU) :=
  zbd (zf_CCStack_ofBlock_31_33 N 0 u) (fun r1 u2 =>
  zbd (zf_CCStack_takeRow_31_5 N r1 u2) (fun r4 u5 =>
  zbd (zf_CCStack_expectNoMoreOperands_31 N  u5) (fun r7 u8 =>
  zbd (zf_CCStack_opener_31 N  u8) (fun r10 u11 =>
  if r10 = 4 then
  zbd (zf_CCThings_hasLikeParametersAndResults_1 N r1 u11) (fun r14 u15 =>
    if r14 = 0 then
    zbd (zf_CCStack_fail_31 N 4 u15) (fun r18 u19 =>
      zf_CCStack_closeBlock_31_b50 N  r1 u19)
    else
    zf_CCStack_closeBlock_31_b50 N  r1 u15)
  else
  zf_CCStack_closeBlock_31_b50 N  r1 u11))))
def zf_CCStack_giveRow_31_2_b9 (N : Nat)  : Nat → Int32 → Int32 → Int32 → zU → Option (Unit × zU)
  | 0, _, _, _, _ => none
  | n + 1, x2, x3, x4, u =>
  if x3 ≤ x4 then
  some ((), u)
  else
  zbd (zf_CCRows_partOf_2 N x2 x4 u) (fun r4 u5 =>
    zbd (zf_CCStack_give_31 N r4 u5) (fun r7 u8 =>
    zf_CCStack_giveRow_31_2_b9 N  n x2 x3 (x4 + 1) u8))
def zf_CCStack_giveRow_31_2 (N : Nat) (x2 : Int32) (u : zU) : Option (Unit × zU) :=
  zbd (zf_CCRows_sizeOf_2 N x2 u) (fun r1 u2 =>
  zf_CCStack_giveRow_31_2_b9 N  N x2 r1 0 u2)
def zf_CCStack_turnToElse_31_b15 (N : Nat)   (u : zU) : Option (Unit × zU) :=
  zbd (zf_CCStack_fail_31 N 2 u) (fun r1 u2 =>
  some ((), u2))
def zf_CCStack_turnToElse_31 (N : Nat)  (u : zU) : Option (Unit × zU) :=
  zbd (zf_CCStack_hasInnermost_31 N  u) (fun r1 u2 =>
  if r1 = 0 then
  zf_CCStack_turnToElse_31_b15 N   u2
  else
  zbd (zf_CCStack_opener_31 N  u2) (fun r5 u6 =>
    if r5 = 4 then
    zbd (zf_CCStack_ofBlock_31_33 N 0 u6) (fun r9 u10 =>
      zbd (zf_CCStack_takeRow_31_5 N r9 u10) (fun r12 u13 =>
      zbd (zf_CCStack_expectNoMoreOperands_31 N  u13) (fun r15 u16 =>
      zck (zin ((gi u16 15) - 1) 60) (zck (zin ((gi u16 15) - 1) 60) (zbd (zf_CCStack_giveRow_31_2 N r9 (sa (sa u16 21 ((gi u16 15) - 1) 5) 22 ((gi u16 15) - 1) (vp_nar .boolean 1))) (fun r20 u21 =>
      some ((), u21)))))))
    else
    zf_CCStack_turnToElse_31_b15 N   u6))
def zf_CCStack_takeRow_31_2_b8 (N : Nat)  : Nat → Int32 → Int32 → zU → Option (Unit × zU)
  | 0, _, _, _ => none
  | n + 1, x2, x3, u =>
  if x3 < 0 then
  some ((), u)
  else
  zbd (zf_CCRows_partOf_2 N x2 x3 u) (fun r4 u5 =>
    zbd (zf_CCStack_take_31 N r4 u5) (fun r7 u8 =>
    zf_CCStack_takeRow_31_2_b8 N  n x2 (x3 + (-1)) u8))
def zf_CCStack_takeRow_31_2 (N : Nat) (x2 : Int32) (u : zU) : Option (Unit × zU) :=
  zbd (zf_CCRows_sizeOf_2 N x2 u) (fun r1 u2 =>
  zf_CCStack_takeRow_31_2_b8 N  N x2 (r1 - 1) u2)
def zf_CCStack_openBlock_31 (N : Nat) (x1 : Int32) (x2 : Int32) (u : zU) : Option (Unit × zU) :=
  zbd (zf_CCStack_takeRow_31_2 N x2 u) (fun r1 u2 =>
  zbd (zf_CCStack_pushBlock_31 N x1 x2 u2) (fun r4 u5 =>
  zbd (zf_CCStack_giveRow_31_2 N x2 u5) (fun r7 u8 =>
  some ((), u8))))
def zf_CCStack_die_31_b14 (N : Nat)   (u : zU) : Option (Unit × zU) :=
  some ((), u)
def zf_CCStack_die_31 (N : Nat)  (u : zU) : Option (Unit × zU) :=
  if (gi u 16) = 0 then
  zbd (zf_CCStack_hasInnermost_31 N  u) (fun r2 u3 =>
    if r2 = 0 then
    zf_CCStack_die_31_b14 N   u3
    else
    zck (zin ((gi u3 15) - 1) 60) (zck (zin ((gi u3 15) - 1) 60) (some ((), (sa (si u3 14 (ga u3 20 ((gi u3 15) - 1))) 22 ((gi u3 15) - 1) (vp_nar .boolean 0))))))
  else
  zf_CCStack_die_31_b14 N   u
def zf_CCCode_carryOutBlock_26_b128 (N : Nat)   (u : zU) : Option (Unit × zU) :=
  some ((), u)
def zf_CCCode_carryOutBlock_26_b74 (N : Nat)  (x1 : Int32) (x2 : Int32) (u : zU) : Option (Unit × zU) :=
  zbd (zf_CCStack_openBlock_31 N x1 x2 u) (fun r1 u2 =>
  zf_CCCode_carryOutBlock_26_b128 N   u2)
def zf_CCCode_carryOutBlock_26 (N : Nat) (x1 : Int32) (x2 : Int32) (u : zU) : Option (Unit × zU) :=
  if x1 = 0 then zbd (zf_CCStack_die_31 N  u) (fun r2 u3 =>
    zf_CCCode_carryOutBlock_26_b128 N   u3)
  else if x1 = 1 then zf_CCCode_carryOutBlock_26_b128 N   u
  else if x1 = 2 then zf_CCCode_carryOutBlock_26_b74 N  x1 x2 u
  else if x1 = 3 then zf_CCCode_carryOutBlock_26_b74 N  x1 x2 u
  else if x1 = 4 then zbd (zf_CCStack_take_31 N 127 u) (fun r9 u10 =>
    zbd (zf_CCStack_openBlock_31 N x1 x2 u10) (fun r12 u13 =>
    zf_CCCode_carryOutBlock_26_b128 N   u13))
  else if x1 = 5 then zbd (zf_CCStack_turnToElse_31 N  u) (fun r16 u17 =>
    zf_CCCode_carryOutBlock_26_b128 N   u17)
  else if x1 = 6 then zf_CCCode_carryOutBlock_26_b128 N   u
  else if x1 = 7 then zf_CCCode_carryOutBlock_26_b128 N   u
  else if x1 = 8 then zf_CCCode_carryOutBlock_26_b128 N   u
  else if x1 = 9 then zf_CCCode_carryOutBlock_26_b128 N   u
  else if x1 = 10 then zf_CCCode_carryOutBlock_26_b128 N   u
  else if x1 = 11 then zbd (zf_CCStack_closeBlock_31 N  u) (fun r25 u26 =>
    zf_CCCode_carryOutBlock_26_b128 N   u26)
  else zf_CCCode_carryOutBlock_26_b128 N   u
def zf_CCCode_enterFunction_26 (N : Nat) (x1 : Int32) (u : zU) : Option (Unit × zU) :=
  zbd (zf_CCStack_takeRow_31_2 N x1 u) (fun r1 u2 =>
  zbd (zf_CCStack_giveRow_31_5 N x1 u2) (fun r4 u5 =>
  some ((), u5)))
def zf_CCShelf_typeOf_8_b27 (N : Nat)  (s0 : Int32) (u : zU) : Option (Int32 × zU) :=
  some (s0, u)
def zf_CCShelf_typeOf_8_b26 (N : Nat)   (u : zU) : Option (Int32 × zU) :=
  zf_CCShelf_typeOf_8_b27 N  0 u
def zf_CCShelf_typeOf_8 (N : Nat) (x1 : Int32) (u : zU) : Option (Int32 × zU) :=
  zbd (zf_CCShelf_has_8 N x1 u) (fun r1 u2 =>
  if r1 = 0 then
  zf_CCShelf_typeOf_8_b26 N   u2
  else
  if 40 ≤ x1 then
    zf_CCShelf_typeOf_8_b26 N   u2
    else
    zck (zin x1 40) (zf_CCShelf_typeOf_8_b27 N  (ga u2 4 x1) u2))
def zf_CCStack_takeOutermostResults_31 (N : Nat)  (u : zU) : Option (Unit × zU) :=
  zbd (zf_CCStack_ofBlock_31_33 N ((gi u 15) - 1) u) (fun r1 u2 =>
  zbd (zf_CCStack_takeRow_31_5 N r1 u2) (fun r4 u5 =>
  some ((), u5)))
def zf_CCStack_labelRows_31 (N : Nat) (x1 : Int32) (u : zU) : Option (Nat × zU) :=
  zbd (zf_CCStack_ofBlock_31_35 N x1 u) (fun r1 u2 =>
  if r1 = 3 then
  some (2, u2)
  else
  some (5, u2))
def zf_CCStack_labelSize_31 (N : Nat) (x1 : Int32) (u : zU) : Option (Int32 × zU) :=
  zbd (zf_CCStack_labelRows_31 N x1 u) (fun r1 u2 =>
  if r1 = 2 then zbd (zf_CCStack_ofBlock_31_33 N x1 u2) (fun r5 u6 =>
    zbd (zf_CCRows_sizeOf_2 N r5 u6) (fun r8 u9 =>
    some (r8, u9)))
  else if r1 = 5 then zbd (zf_CCStack_ofBlock_31_33 N x1 u2) (fun r14 u15 =>
    zbd (zf_CCRows_sizeOf_5 N r14 u15) (fun r17 u18 =>
    some (r17, u18)))
  else none)
def zf_CCStack_passLabel_31_b41 (N : Nat)   (u : zU) : Option (Unit × zU) :=
  zbd (zf_CCStack_fail_31 N 5 u) (fun r1 u2 =>
  some ((), u2))
def zf_CCStack_passLabel_31_b86 (N : Nat)  : Nat → Int32 → Int32 → zU → Option (Unit × zU)
  | 0, _, _, _ => none
  | n + 1, x5, x6, u =>
  if x5 ≤ x6 then
  some ((), u)
  else
  zck (zin x6 12) (zbd (zf_CCStack_give_31 N (ga u 23 x6) u) (fun r5 u6 =>
    zf_CCStack_passLabel_31_b86 N  n x5 (x6 + 1) u6))
def zf_CCStack_passLabel_31_b83 (N : Nat)  (x5 : Int32) (u : zU) : Option (Unit × zU) :=
  zf_CCStack_passLabel_31_b86 N  N x5 0 u
def zf_CCStack_passLabel_31_b53a (N : Nat)  : Nat → Int32 → Int32 → Int32 → zU → Option (Unit × zU)
  | 0, _, _, _, _ => none
  | n + 1, x4, x5, x6, u =>
  if x6 < 0 then
  zf_CCStack_passLabel_31_b83 N  x5 u
  else
  zbd (zf_CCRows_partOf_2 N x4 x6 u) (fun r2 u3 =>
    zbd (zf_CCStack_take_31 N r2 u3) (fun r5 u6 =>
    zck (zin x6 12) (zf_CCStack_passLabel_31_b53a N  n x4 x5 (x6 + (-1)) (sa u6 23 x6 r5))))
def zf_CCStack_passLabel_31_b53b (N : Nat)  : Nat → Int32 → Int32 → Int32 → zU → Option (Unit × zU)
  | 0, _, _, _, _ => none
  | n + 1, x4, x5, x6, u =>
  if x6 < 0 then
  zf_CCStack_passLabel_31_b83 N  x5 u
  else
  zbd (zf_CCRows_partOf_5 N x4 x6 u) (fun r2 u3 =>
    zbd (zf_CCStack_take_31 N r2 u3) (fun r5 u6 =>
    zck (zin x6 12) (zf_CCStack_passLabel_31_b53b N  n x4 x5 (x6 + (-1)) (sa u6 23 x6 r5))))
def zf_CCStack_passLabel_31 (N : Nat) (x1 : Int32) (x2 : Int32) (u : zU) : Option (Unit × zU) :=
  zbd (zf_CCStack_labelRows_31 N x1 u) (fun r1 u2 =>
  if r1 = 2 then zbd (zf_CCStack_ofBlock_31_33 N x1 u2) (fun r5 u6 =>
    zbd (zf_CCRows_sizeOf_2 N r5 u6) (fun r8 u9 =>
    if r8 = x2 then
    if r8 ≤ 12 then
      zf_CCStack_passLabel_31_b53a N  N r5 r8 (r8 - 1) u9
      else
      zf_CCStack_passLabel_31_b41 N   u9
    else
    zf_CCStack_passLabel_31_b41 N   u9))
  else if r1 = 5 then zbd (zf_CCStack_ofBlock_31_33 N x1 u2) (fun r14 u15 =>
    zbd (zf_CCRows_sizeOf_5 N r14 u15) (fun r17 u18 =>
    if r17 = x2 then
    if r17 ≤ 12 then
      zf_CCStack_passLabel_31_b53b N  N r14 r17 (r17 - 1) u18
      else
      zf_CCStack_passLabel_31_b41 N   u18
    else
    zf_CCStack_passLabel_31_b41 N   u18))
  else none)
