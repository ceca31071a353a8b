def zf_MMC_type_0 (N : Nat)  (u : zU) : Option (Int32 × zU) :=
  if (gi u 0) = 40 then
  some ((-1), u)
  else
  some ((((gi u 0) + 1) - 1), (si u 0 ((gi u 0) + 1)))
def zf_MMC_isReference_b17 (N : Nat)  (s0 : Int32) (u : zU) : Option (Int32 × zU) :=
  zck (zbz s0) (some (s0, u))
def zf_MMC_isReference_b12 (N : Nat)   (u : zU) : Option (Int32 × zU) :=
  zf_MMC_isReference_b17 N  1 u
def zf_MMC_isReference (N : Nat) (x0 : Int32) (u : zU) : Option (Int32 × zU) :=
  if x0 = 112 then
  zf_MMC_isReference_b12 N   u
  else
  if x0 = 111 then
    zf_MMC_isReference_b12 N   u
    else
    zf_MMC_isReference_b17 N  0 u
def zf_MMC_isValue_b24 (N : Nat)  (s0 : Int32) (u : zU) : Option (Int32 × zU) :=
  zck (zbz s0) (some (s0, u))
def zf_MMC_isValue_b19 (N : Nat)   (u : zU) : Option (Int32 × zU) :=
  zf_MMC_isValue_b24 N  1 u
def zf_MMC_isValue_b12 (N : Nat)  (x0 : Int32) (u : zU) : Option (Int32 × zU) :=
  zbd (zf_MMC_isReference N x0 u) (fun r1 u2 =>
  if r1 = 0 then
  zf_MMC_isValue_b24 N  0 u2
  else
  zf_MMC_isValue_b19 N   u2)
def zf_MMC_isValue (N : Nat) (x0 : Int32) (u : zU) : Option (Int32 × zU) :=
  if x0 < 124 then
  zf_MMC_isValue_b12 N  x0 u
  else
  if x0 ≤ 127 then
    zf_MMC_isValue_b19 N   u
    else
    zf_MMC_isValue_b12 N  x0 u
def zf_MMC_part_0_b22 (N : Nat)   (u : zU) : Option (Int32 × zU) :=
  some ((-1), u)
def zf_MMC_part_0_b114 (N : Nat)  (x4 : Int32) (u : zU) : Option (Int32 × zU) :=
  some ((x4 + 1), u)
def zf_MMC_part_0_b50 (N : Nat)  (x1 : Int32) (x2 : Int32) (x3 : Int32) (s0 : Int32) (u : zU) : Option (Int32 × zU) :=
  if s0 = 12 then
  some ((-1), u)
  else
  if x1 = 0 then
    zck (zin ((12 * x3) + s0) 480) (zck (zin x3 40) (zck (zin x3 40) (zf_MMC_part_0_b114 N  s0 (sa (sa u 2 ((12 * x3) + s0) x2) 0 x3 ((ga (sa u 2 ((12 * x3) + s0) x2) 0 x3) + 1)))))
    else
    zck (zin ((12 * x3) + s0) 480) (zck (zin x3 40) (zck (zin x3 40) (zf_MMC_part_0_b114 N  s0 (sa (sa u 3 ((12 * x3) + s0) x2) 1 x3 ((ga (sa u 3 ((12 * x3) + s0) x2) 1 x3) + 1)))))
def zf_MMC_part_0 (N : Nat) (x1 : Int32) (x2 : Int32) (u : zU) : Option (Int32 × zU) :=
  if (gi u 0) = 0 then
  zf_MMC_part_0_b22 N   u
  else
  zbd (zf_MMC_isValue N x2 u) (fun r2 u3 =>
    if r2 = 0 then
    zf_MMC_part_0_b22 N   u3
    else
    if (gi u3 1) = 1 then
      zf_MMC_part_0_b22 N   u3
      else
      if x1 = 0 then
        zck (zin ((gi u3 0) - 1) 40) (zf_MMC_part_0_b50 N  x1 x2 ((gi u3 0) - 1) (ga u3 0 ((gi u3 0) - 1)) u3)
        else
        zck (zin ((gi u3 0) - 1) 40) (zf_MMC_part_0_b50 N  x1 x2 ((gi u3 0) - 1) (ga u3 1 ((gi u3 0) - 1)) u3))
def zf_MMC_add_0_b20 (N : Nat)   (u : zU) : Option (Int32 × zU) :=
  some ((-1), u)
def zf_MMC_add_0_b89 (N : Nat)  (x1 : Int32) (x2 : Int32) (x3 : Int32) (s0 : Int32) (u : zU) : Option (Int32 × zU) :=
  if s0 = 0 then
  some ((-1), u)
  else
  zck (zin x1 6) (zck (zin ((40 * x1) + (ga u 4 x1)) 240) (zck (zin x1 6) (zck (zin ((40 * x1) + (ga (sa u 5 ((40 * x1) + (ga u 4 x1)) x2) 4 x1)) 240) (zck (zin x1 6) (zck (zin x1 6) (zck (zin x1 6) (some (((ga (sa (sa (sa u 5 ((40 * x1) + (ga u 4 x1)) x2) 6 ((40 * x1) + (ga (sa u 5 ((40 * x1) + (ga u 4 x1)) x2) 4 x1)) x3) 4 x1 ((ga (sa (sa u 5 ((40 * x1) + (ga u 4 x1)) x2) 6 ((40 * x1) + (ga (sa u 5 ((40 * x1) + (ga u 4 x1)) x2) 4 x1)) x3) 4 x1) + 1)) 4 x1) - 1), (sa (sa (sa u 5 ((40 * x1) + (ga u 4 x1)) x2) 6 ((40 * x1) + (ga (sa u 5 ((40 * x1) + (ga u 4 x1)) x2) 4 x1)) x3) 4 x1 ((ga (sa (sa u 5 ((40 * x1) + (ga u 4 x1)) x2) 6 ((40 * x1) + (ga (sa u 5 ((40 * x1) + (ga u 4 x1)) x2) 4 x1)) x3) 4 x1) + 1))))))))))
def zf_MMC_add_0_b56 (N : Nat)  (x1 : Int32) (x2 : Int32) (x3 : Int32) (u : zU) : Option (Int32 × zU) :=
  zbd (zf_MMC_isReference N x2 u) (fun r1 u2 =>
  zf_MMC_add_0_b89 N  x1 x2 x3 r1 u2)
def zf_MMC_add_0_b84 (N : Nat)  (x1 : Int32) (x2 : Int32) (x3 : Int32) (u : zU) : Option (Int32 × zU) :=
  zf_MMC_add_0_b89 N  x1 x2 x3 1 u
def zf_MMC_add_0_b88 (N : Nat)  (x1 : Int32) (x2 : Int32) (x3 : Int32) (u : zU) : Option (Int32 × zU) :=
  zf_MMC_add_0_b89 N  x1 x2 x3 0 u
def zf_MMC_add_0_b42 (N : Nat)  (x1 : Int32) (x2 : Int32) (x3 : Int32) (u : zU) : Option (Int32 × zU) :=
  zf_MMC_add_0_b89 N  x1 x2 x3 0 u
def zf_MMC_add_0 (N : Nat) (x1 : Int32) (x2 : Int32) (x3 : Int32) (u : zU) : Option (Int32 × zU) :=
  if x1 < 0 then
  zf_MMC_add_0_b20 N   u
  else
  if 5 < x1 then
    zf_MMC_add_0_b20 N   u
    else
    zck (zin x1 6) (if (ga u 4 x1) = 40 then
      zf_MMC_add_0_b20 N   u
      else
      if x1 = 0 then
        if x2 < 0 then
          zf_MMC_add_0_b42 N  x1 x2 x3 u
          else
          if (gi u 0) ≤ x2 then
            zf_MMC_add_0_b42 N  x1 x2 x3 u
            else
            zf_MMC_add_0_b89 N  x1 x2 x3 1 u
        else
        if x1 = 1 then
          zf_MMC_add_0_b56 N  x1 x2 x3 u
          else
          if x1 = 4 then
            zf_MMC_add_0_b56 N  x1 x2 x3 u
            else
            if x1 = 3 then
              zbd (zf_MMC_isValue N x2 u) (fun r9 u10 =>
                if r9 = 0 then
                zf_MMC_add_0_b88 N  x1 x2 x3 u10
                else
                if x3 = 0 then
                  zf_MMC_add_0_b84 N  x1 x2 x3 u10
                  else
                  if x3 = 1 then
                    zf_MMC_add_0_b84 N  x1 x2 x3 u10
                    else
                    zf_MMC_add_0_b88 N  x1 x2 x3 u10)
              else
              zf_MMC_add_0_b84 N  x1 x2 x3 u)
def zf_MMC_declare_0_b14 (N : Nat)   (u : zU) : Option (Int32 × zU) :=
  some (0, u)
def zf_MMC_declare_0 (N : Nat) (x1 : Int32) (u : zU) : Option (Int32 × zU) :=
  if x1 < 0 then
  zf_MMC_declare_0_b14 N   u
  else
  zck (zin 0 6) (if x1 < (ga u 4 0) then
    zck (zin x1 40) (some (1, (sa u 7 x1 (vp_nar .boolean 1))))
    else
    zf_MMC_declare_0_b14 N   u)
def zf_MMC_beginCode_0 (N : Nat) (x1 : Int32) (u : zU) : Option (Unit × zU) :=
  zck (zbz x1) (zck (zin 0 62) (zck (zin 0 62) (zck (zin 0 62) (some ((), (sa (sa (sa (si (si (si (si (si (si (si (si u 2 x1) 3 0) 1 1) 6 0) 7 0) 8 0) 9 0) 10 1) 11 0 (-1)) 13 0 0) 14 0 (vp_nar .boolean 0)))))))
def zf_MMC_addRow_0 (N : Nat) (x1 : Int32) (x2 : Int64) (u : zU) : Option (Unit × zU) :=
  zck (zin (gi u 6) 60) (zck (zin (gi u 6) 60) (some ((), (si (sb (sa u 8 (gi u 6) x1) 0 (gi u 6) x2) 6 ((gi u 6) + 1)))))
def zf_MMC_begin_0_b12 (N : Nat)   (u : zU) : Option (Int32 × zU) :=
  some (0, u)
def zf_MMC_begin_0_b26 (N : Nat)  : Nat → Int32 → Int32 → zU → Option (Int32 × zU)
  | 0, _, _, _ => none
  | n + 1, x1, x2, u =>
  zck (zin x1 40) (if (ga u 0 x1) ≤ x2 then
  some (1, u)
  else
  zck (zin ((12 * x1) + x2) 480) (zbd (zf_MMC_addRow_0 N (ga u 2 ((12 * x1) + x2)) 1 u) (fun r6 u7 =>
    zf_MMC_begin_0_b26 N  n x1 (x2 + 1) u7)))
def zf_MMC_begin_0 (N : Nat) (x1 : Int32) (u : zU) : Option (Int32 × zU) :=
  if x1 < 0 then
  zf_MMC_begin_0_b12 N   u
  else
  if x1 < (gi u 0) then
    zbd (zf_MMC_beginCode_0 N 1 u) (fun r3 u4 =>
      zf_MMC_begin_0_b26 N  N x1 0 (si u4 4 x1))
    else
    zf_MMC_begin_0_b12 N   u
def zf_MMC_constant_0_b11 (N : Nat)   (u : zU) : Option (Int32 × zU) :=
  some (0, u)
def zf_MMC_constant_0 (N : Nat) (x1 : Int32) (x2 : Int32) (u : zU) : Option (Int32 × zU) :=
  zbd (zf_MMC_isValue N x1 u) (fun r1 u2 =>
  if r1 = 0 then
  zf_MMC_constant_0_b11 N   u2
  else
  if 0 ≤ x2 then
    zbd (zf_MMC_beginCode_0 N 0 u2) (fun r6 u7 =>
      some (1, (sj (si u7 5 x1) 0 (Int32.toInt64 x2))))
    else
    zf_MMC_constant_0_b11 N   u2)
def zf_MMC_local_0_b38 (N : Nat)   (u : zU) : Option (Int32 × zU) :=
  some (0, u)
def zf_MMC_local_0 (N : Nat) (x1 : Int32) (x2 : Int32) (u : zU) : Option (Int32 × zU) :=
  if (gi u 1) = 1 then
  if (gi u 2) = 0 then
    zf_MMC_local_0_b38 N   u
    else
    if (gi u 3) = 0 then
      zbd (zf_MMC_isValue N x1 u) (fun r4 u5 =>
        if r4 = 0 then
        zf_MMC_local_0_b38 N   u5
        else
        if (gi u5 7) = 40 then
          zf_MMC_local_0_b38 N   u5
          else
          zbd (zf_MMC_addRow_0 N x1 ((Int32.toInt64 x2) &&& 4294967295) u5) (fun r9 u10 =>
            some (1, (si u10 7 ((gi u10 7) + 1)))))
      else
      zf_MMC_local_0_b38 N   u
  else
  zf_MMC_local_0_b38 N   u
def zf_MMC_label_0_b17 (N : Nat)   (u : zU) : Option (Int32 × zU) :=
  some ((-1), u)
def zf_MMC_label_0 (N : Nat) (x1 : Int32) (u : zU) : Option (Int32 × zU) :=
  if (gi u 1) = 1 then
  if (gi u 8) = 20 then
    zf_MMC_label_0_b17 N   u
    else
    zck (zin (gi u 8) 20) (some (((gi u 8) + 1), (si (sa u 9 (gi u 8) x1) 8 ((gi u 8) + 1))))
  else
  zf_MMC_label_0_b17 N   u
def zf_MMC_isInstruction_b92 (N : Nat)  (s0 : Int32) (u : zU) : Option (Int32 × zU) :=
  zck (zbz s0) (some (s0, u))
def zf_MMC_isInstruction_b91 (N : Nat)   (u : zU) : Option (Int32 × zU) :=
  zf_MMC_isInstruction_b92 N  0 u
def zf_MMC_isInstruction_b87 (N : Nat)   (u : zU) : Option (Int32 × zU) :=
  zf_MMC_isInstruction_b92 N  1 u
def zf_MMC_isInstruction_b73 (N : Nat)  (x0 : Int32) (u : zU) : Option (Int32 × zU) :=
  if x0 < 256 then
  zf_MMC_isInstruction_b91 N   u
  else
  if 273 < x0 then
    zf_MMC_isInstruction_b91 N   u
    else
    zf_MMC_isInstruction_b87 N   u
def zf_MMC_isInstruction_b59 (N : Nat)  (x0 : Int32) (u : zU) : Option (Int32 × zU) :=
  if x0 < 208 then
  zf_MMC_isInstruction_b73 N  x0 u
  else
  if x0 ≤ 210 then
    zf_MMC_isInstruction_b87 N   u
    else
    zf_MMC_isInstruction_b73 N  x0 u
def zf_MMC_isInstruction_b46 (N : Nat)  (x0 : Int32) (u : zU) : Option (Int32 × zU) :=
  if x0 < 40 then
  zf_MMC_isInstruction_b59 N  x0 u
  else
  if x0 ≤ 196 then
    zf_MMC_isInstruction_b87 N   u
    else
    zf_MMC_isInstruction_b59 N  x0 u
def zf_MMC_isInstruction_b34 (N : Nat)  (x0 : Int32) (u : zU) : Option (Int32 × zU) :=
  if x0 < 32 then
  zf_MMC_isInstruction_b46 N  x0 u
  else
  if x0 ≤ 38 then
    zf_MMC_isInstruction_b87 N   u
    else
    zf_MMC_isInstruction_b46 N  x0 u
def zf_MMC_isInstruction_b22 (N : Nat)  (x0 : Int32) (u : zU) : Option (Int32 × zU) :=
  if x0 < 26 then
  zf_MMC_isInstruction_b34 N  x0 u
  else
  if x0 ≤ 28 then
    zf_MMC_isInstruction_b87 N   u
    else
    zf_MMC_isInstruction_b34 N  x0 u
def zf_MMC_isInstruction_b10 (N : Nat)  (x0 : Int32) (u : zU) : Option (Int32 × zU) :=
  if x0 < 11 then
  zf_MMC_isInstruction_b22 N  x0 u
  else
  if x0 ≤ 17 then
    zf_MMC_isInstruction_b87 N   u
    else
    zf_MMC_isInstruction_b22 N  x0 u
def zf_MMC_isInstruction (N : Nat) (x0 : Int32) (u : zU) : Option (Int32 × zU) :=
  if x0 < 0 then
  zf_MMC_isInstruction_b10 N  x0 u
  else
  if x0 < 6 then
    zf_MMC_isInstruction_b87 N   u
    else
    zf_MMC_isInstruction_b10 N  x0 u
def zf_MMC_isBlockType_b26 (N : Nat)  (s0 : Int32) (u : zU) : Option (Int32 × zU) :=
  zck (zbz s0) (some (s0, u))
def zf_MMC_isBlockType_b21 (N : Nat)   (u : zU) : Option (Int32 × zU) :=
  zf_MMC_isBlockType_b26 N  1 u
def zf_MMC_isBlockType (N : Nat) (x0 : Int32) (u : zU) : Option (Int32 × zU) :=
  if 0 ≤ x0 then
  zf_MMC_isBlockType_b21 N   u
  else
  if x0 = (-64) then
    zf_MMC_isBlockType_b21 N   u
    else
    zbd (zf_MMC_isValue N (x0 + 128) u) (fun r3 u4 =>
      if r3 = 0 then
      zf_MMC_isBlockType_b26 N  0 u4
      else
      zf_MMC_isBlockType_b21 N   u4)
def zf_MMC_isFormed_b56 (N : Nat)  (s0 : Int32) (u : zU) : Option (Int32 × zU) :=
  zck (zbz s0) (some (s0, u))
def zf_MMC_isFormed_b51 (N : Nat)   (u : zU) : Option (Int32 × zU) :=
  zf_MMC_isFormed_b56 N  1 u
def zf_MMC_isFormed_b24 (N : Nat)  (x0 : Int32) (x1 : Int32) (u : zU) : Option (Int32 × zU) :=
  if x0 = 28 then
  zbd (zf_MMC_isValue N x1 u) (fun r7 u8 =>
    zf_MMC_isFormed_b56 N  r7 u8)
  else
  if x0 = 208 then
    zbd (zf_MMC_isReference N x1 u) (fun r3 u4 =>
      if r3 = 0 then
      zf_MMC_isFormed_b56 N  0 u4
      else
      zf_MMC_isFormed_b51 N   u4)
    else
    zf_MMC_isFormed_b51 N   u
def zf_MMC_isFormed (N : Nat) (x0 : Int32) (x1 : Int32) (u : zU) : Option (Int32 × zU) :=
  zbd (zf_MMC_isInstruction N x0 u) (fun r1 u2 =>
  if r1 = 0 then
  some (0, u2)
  else
  if x0 ≤ 1 then
    zf_MMC_isFormed_b24 N  x0 x1 u2
    else
    if 5 ≤ x0 then
      zf_MMC_isFormed_b24 N  x0 x1 u2
      else
      zbd (zf_MMC_isBlockType N x1 u2) (fun r7 u8 =>
        zck (zbz r7) (some (r7, u8))))
def zf_MMC_stop_0_b16 (N : Nat)  (s0 : Int32) (u : zU) : Option (Unit × zU) :=
  some ((), (si u 11 s0))
def zf_MMC_stop_0 (N : Nat) (x1 : Int32) (u : zU) : Option (Unit × zU) :=
  if (gi u 11) = 0 then
  zf_MMC_stop_0_b16 N  x1 u
  else
  zf_MMC_stop_0_b16 N  (gi u 11) u
def zf_MMC_has_0_b22 (N : Nat)  (s0 : Int32) (u : zU) : Option (Int32 × zU) :=
  zck (zbz s0) (some (s0, u))
def zf_MMC_has_0 (N : Nat) (x1 : Int32) (x2 : Int32) (u : zU) : Option (Int32 × zU) :=
  zck (zin x1 6) (if 0 ≤ (lg_cmp ((Int32.toInt64 x2) &&& 4294967295) (Int32.toInt64 (ga u 4 x1))) then
  zf_MMC_has_0_b22 N  0 u
  else
  zf_MMC_has_0_b22 N  1 u)
def zf_MMC_mayBeConstant_0_b84 (N : Nat)  (s0 : Int32) (u : zU) : Option (Int32 × zU) :=
  zck (zbz s0) (some (s0, u))
def zf_MMC_mayBeConstant_0_b79 (N : Nat)   (u : zU) : Option (Int32 × zU) :=
  zf_MMC_mayBeConstant_0_b84 N  1 u
def zf_MMC_mayBeConstant_0_b65 (N : Nat)  (x1 : Int32) (u : zU) : Option (Int32 × zU) :=
  if x1 = 208 then
  zf_MMC_mayBeConstant_0_b79 N   u
  else
  if x1 = 210 then
    zf_MMC_mayBeConstant_0_b79 N   u
    else
    zf_MMC_mayBeConstant_0_b84 N  0 u
def zf_MMC_mayBeConstant_0_b46 (N : Nat)  (s0 : Int32) (u : zU) : Option (Int32 × zU) :=
  zck (zbz s0) (some (s0, u))
def zf_MMC_mayBeConstant_0_b45 (N : Nat)   (u : zU) : Option (Int32 × zU) :=
  zf_MMC_mayBeConstant_0_b46 N  0 u
def zf_MMC_mayBeConstant_0 (N : Nat) (x1 : Int32) (x2 : Int32) (u : zU) : Option (Int32 × zU) :=
  if x1 = 35 then
  zbd (zf_MMC_has_0 N 3 x2 u) (fun r5 u6 =>
    if r5 = 0 then
    zf_MMC_mayBeConstant_0_b45 N   u6
    else
    if 0 ≤ (lg_cmp ((Int32.toInt64 x2) &&& 4294967295) (gj u6 0)) then
      zf_MMC_mayBeConstant_0_b45 N   u6
      else
      zck (zin (120 + x2) 240) (if (ga u6 6 (120 + x2)) = 0 then
        zf_MMC_mayBeConstant_0_b46 N  1 u6
        else
        zf_MMC_mayBeConstant_0_b45 N   u6))
  else
  if x1 = 11 then
    zf_MMC_mayBeConstant_0_b79 N   u
    else
    if x1 < 65 then
      zf_MMC_mayBeConstant_0_b65 N  x1 u
      else
      if x1 ≤ 68 then
        zf_MMC_mayBeConstant_0_b79 N   u
        else
        zf_MMC_mayBeConstant_0_b65 N  x1 u
def zf_MMC_localType_0_b10 (N : Nat)  : Nat → Int64 → Int32 → zU → Option (Int32 × zU)
  | 0, _, _, _ => none
  | n + 1, x2, x4, u =>
  if (gi u 6) ≤ x4 then
  some ((-1), u)
  else
  zck (zin x4 60) (if 0 ≤ (lg_cmp x2 (gb u 0 x4)) then
    zck (zin x4 60) (zf_MMC_localType_0_b10 N  n (x2 - (gb u 0 x4)) (x4 + 1) u)
    else
    zck (zin x4 60) (some ((ga u 8 x4), u)))
def zf_MMC_localType_0 (N : Nat) (x1 : Int32) (u : zU) : Option (Int32 × zU) :=
  zf_MMC_localType_0_b10 N  N ((Int32.toInt64 x1) &&& 4294967295) 0 u
def zf_MMC_isLabel_0_b20 (N : Nat)  (s0 : Int32) (u : zU) : Option (Int32 × zU) :=
  zck (zbz s0) (some (s0, u))
def zf_MMC_isLabel_0 (N : Nat) (x1 : Int32) (u : zU) : Option (Int32 × zU) :=
  if 0 ≤ (lg_cmp ((Int32.toInt64 x1) &&& 4294967295) (Int32.toInt64 (gi u 10))) then
  zf_MMC_isLabel_0_b20 N  0 u
  else
  zf_MMC_isLabel_0_b20 N  1 u
def zf_MMC_isThere_0_b217 (N : Nat)  (s0 : Int32) (u : zU) : Option (Int32 × zU) :=
  zck (zbz s0) (some (s0, u))
def zf_MMC_isThere_0_b204 (N : Nat)  (x2 : Int32) (u : zU) : Option (Int32 × zU) :=
  if (gi u 0) ≤ x2 then
  zf_MMC_isThere_0_b217 N  0 u
  else
  zf_MMC_isThere_0_b217 N  1 u
def zf_MMC_isThere_0_b218 (N : Nat)  (x2 : Int32) (u : zU) : Option (Int32 × zU) :=
  zbd (zf_MMC_isLabel_0 N x2 u) (fun r1 u2 =>
  zck (zbz r1) (some (r1, u2)))
def zf_MMC_isThere_0_b267 (N : Nat) (k234 : Int32 → Int32 → zU → Option (Int32 × zU)) (x5 : Int32) (s0 : Int32) (u : zU) : Option (Int32 × zU) :=
  k234 s0 (x5 + 1) u
def zf_MMC_isThere_0_b266 (N : Nat) (k234 : Int32 → Int32 → zU → Option (Int32 × zU)) (x5 : Int32) (u : zU) : Option (Int32 × zU) :=
  zf_MMC_isThere_0_b267 N k234 x5 0 u
def zf_MMC_isThere_0_b234 (N : Nat)  : Nat → Int32 → Int32 → zU → Option (Int32 × zU)
  | 0, _, _, _ => none
  | n + 1, x4, x5, u =>
  if (gi u 8) ≤ x5 then
  zck (zbz x4) (some (x4, u))
  else
  if x4 = 0 then
    zf_MMC_isThere_0_b266 N (zf_MMC_isThere_0_b234 N  n) x5 u
    else
    zck (zin x5 20) (zbd (zf_MMC_isLabel_0 N (ga u 9 x5) u) (fun r7 u8 =>
      if r7 = 0 then
      zf_MMC_isThere_0_b266 N (zf_MMC_isThere_0_b234 N  n) x5 u8
      else
      zf_MMC_isThere_0_b267 N (zf_MMC_isThere_0_b234 N  n) x5 1 u8))
def zf_MMC_isThere_0_b278 (N : Nat)  (x2 : Int32) (u : zU) : Option (Int32 × zU) :=
  zbd (zf_MMC_has_0 N 0 x2 u) (fun r1 u2 =>
  zck (zbz r1) (some (r1, u2)))
def zf_MMC_isThere_0_b311 (N : Nat)  (s0 : Int32) (u : zU) : Option (Int32 × zU) :=
  zck (zbz s0) (some (s0, u))
def zf_MMC_isThere_0_b310 (N : Nat)   (u : zU) : Option (Int32 × zU) :=
  zf_MMC_isThere_0_b311 N  0 u
def zf_MMC_isThere_0_b326 (N : Nat)  (s0 : Int32) (u : zU) : Option (Int32 × zU) :=
  zck (zbz s0) (some (s0, u))
def zf_MMC_isThere_0_b312 (N : Nat)  (x2 : Int32) (u : zU) : Option (Int32 × zU) :=
  zbd (zf_MMC_localType_0 N x2 u) (fun r1 u2 =>
  if r1 = (-1) then
  zf_MMC_isThere_0_b326 N  0 u2
  else
  zf_MMC_isThere_0_b326 N  1 u2)
def zf_MMC_isThere_0_b327 (N : Nat)  (x2 : Int32) (u : zU) : Option (Int32 × zU) :=
  zbd (zf_MMC_has_0 N 3 x2 u) (fun r1 u2 =>
  zck (zbz r1) (some (r1, u2)))
def zf_MMC_isThere_0_b334 (N : Nat)  (x2 : Int32) (u : zU) : Option (Int32 × zU) :=
  zbd (zf_MMC_has_0 N 1 x2 u) (fun r1 u2 =>
  zck (zbz r1) (some (r1, u2)))
def zf_MMC_isThere_0_b341 (N : Nat)  (x2 : Int32) (u : zU) : Option (Int32 × zU) :=
  zbd (zf_MMC_has_0 N 5 x2 u) (fun r1 u2 =>
  zck (zbz r1) (some (r1, u2)))
def zf_MMC_isThere_0_b371 (N : Nat)  (s0 : Int32) (u : zU) : Option (Int32 × zU) :=
  zck (zbz s0) (some (s0, u))
def zf_MMC_isThere_0_b370 (N : Nat)   (u : zU) : Option (Int32 × zU) :=
  zf_MMC_isThere_0_b371 N  0 u
def zf_MMC_isThere_0_b402 (N : Nat)  (s0 : Int32) (u : zU) : Option (Int32 × zU) :=
  zck (zbz s0) (some (s0, u))
def zf_MMC_isThere_0_b401 (N : Nat)   (u : zU) : Option (Int32 × zU) :=
  zf_MMC_isThere_0_b402 N  0 u
def zf_MMC_isThere_0 (N : Nat) (x1 : Int32) (x2 : Int32) (x3 : Int32) (u : zU) : Option (Int32 × zU) :=
  if x1 = 2 then zf_MMC_isThere_0_b204 N  x2 u
  else if x1 = 3 then zf_MMC_isThere_0_b204 N  x2 u
  else if x1 = 4 then zf_MMC_isThere_0_b204 N  x2 u
  else if x1 = 12 then zf_MMC_isThere_0_b218 N  x2 u
  else if x1 = 13 then zf_MMC_isThere_0_b218 N  x2 u
  else if x1 = 14 then zbd (zf_MMC_isLabel_0 N x2 u) (fun r7 u8 =>
    zf_MMC_isThere_0_b234 N  N r7 0 u8)
  else if x1 = 16 then zf_MMC_isThere_0_b278 N  x2 u
  else if x1 = 17 then if x2 < 0 then
    zf_MMC_isThere_0_b310 N   u
    else
    if (gi u 0) ≤ x2 then
      zf_MMC_isThere_0_b310 N   u
      else
      zbd (zf_MMC_has_0 N 1 x3 u) (fun r14 u15 =>
        if r14 = 0 then
        zf_MMC_isThere_0_b310 N   u15
        else
        zf_MMC_isThere_0_b311 N  1 u15)
  else if x1 = 32 then zf_MMC_isThere_0_b312 N  x2 u
  else if x1 = 33 then zf_MMC_isThere_0_b312 N  x2 u
  else if x1 = 34 then zf_MMC_isThere_0_b312 N  x2 u
  else if x1 = 35 then zf_MMC_isThere_0_b327 N  x2 u
  else if x1 = 36 then zf_MMC_isThere_0_b327 N  x2 u
  else if x1 = 37 then zf_MMC_isThere_0_b334 N  x2 u
  else if x1 = 38 then zf_MMC_isThere_0_b334 N  x2 u
  else if x1 = 210 then zf_MMC_isThere_0_b278 N  x2 u
  else if x1 = 264 then zf_MMC_isThere_0_b341 N  x2 u
  else if x1 = 265 then zf_MMC_isThere_0_b341 N  x2 u
  else if x1 = 268 then zbd (zf_MMC_has_0 N 4 x2 u) (fun r29 u30 =>
    if r29 = 0 then
    zf_MMC_isThere_0_b370 N   u30
    else
    zbd (zf_MMC_has_0 N 1 x3 u30) (fun r33 u34 =>
      if r33 = 0 then
      zf_MMC_isThere_0_b370 N   u34
      else
      zf_MMC_isThere_0_b371 N  1 u34))
  else if x1 = 269 then zbd (zf_MMC_has_0 N 4 x2 u) (fun r38 u39 =>
    zck (zbz r38) (some (r38, u39)))
  else if x1 = 270 then zbd (zf_MMC_has_0 N 1 x2 u) (fun r45 u46 =>
    if r45 = 0 then
    zf_MMC_isThere_0_b401 N   u46
    else
    zbd (zf_MMC_has_0 N 1 x3 u46) (fun r49 u50 =>
      if r49 = 0 then
      zf_MMC_isThere_0_b401 N   u50
      else
      zf_MMC_isThere_0_b402 N  1 u50))
  else if x1 = 271 then zf_MMC_isThere_0_b334 N  x2 u
  else if x1 = 272 then zf_MMC_isThere_0_b334 N  x2 u
  else if x1 = 273 then zf_MMC_isThere_0_b334 N  x2 u
  else some (1, u)
def zf_MMC_attribute_0 (N : Nat) (x1 : Int32) (x2 : Int32) (u : zU) : Option (Int32 × zU) :=
  zck (zin ((40 * x1) + x2) 240) (some ((ga u 5 ((40 * x1) + x2)), u))
def zf_MMC_bytesOf_b24 (N : Nat)   (u : zU) : Option (Int32 × zU) :=
  some (8, u)
def zf_MMC_bytesOf_b69 (N : Nat)   (u : zU) : Option (Int32 × zU) :=
  some (4, u)
def zf_MMC_bytesOf_b112 (N : Nat)  (s0 : Int32) (u : zU) : Option (Int32 × zU) :=
  some (s0, u)
def zf_MMC_bytesOf_b107 (N : Nat)   (u : zU) : Option (Int32 × zU) :=
  zf_MMC_bytesOf_b112 N  2 u
def zf_MMC_bytesOf (N : Nat) (x0 : Int32) (u : zU) : Option (Int32 × zU) :=
  if x0 = 41 then
  zf_MMC_bytesOf_b24 N   u
  else
  if x0 = 43 then
    zf_MMC_bytesOf_b24 N   u
    else
    if x0 = 55 then
      zf_MMC_bytesOf_b24 N   u
      else
      if x0 = 57 then
        zf_MMC_bytesOf_b24 N   u
        else
        if x0 = 40 then
          zf_MMC_bytesOf_b69 N   u
          else
          if x0 = 42 then
            zf_MMC_bytesOf_b69 N   u
            else
            if x0 = 52 then
              zf_MMC_bytesOf_b69 N   u
              else
              if x0 = 53 then
                zf_MMC_bytesOf_b69 N   u
                else
                if x0 = 54 then
                  zf_MMC_bytesOf_b69 N   u
                  else
                  if x0 = 56 then
                    zf_MMC_bytesOf_b69 N   u
                    else
                    if x0 = 62 then
                      zf_MMC_bytesOf_b69 N   u
                      else
                      if x0 = 46 then
                        zf_MMC_bytesOf_b107 N   u
                        else
                        if x0 = 47 then
                          zf_MMC_bytesOf_b107 N   u
                          else
                          if x0 = 50 then
                            zf_MMC_bytesOf_b107 N   u
                            else
                            if x0 = 51 then
                              zf_MMC_bytesOf_b107 N   u
                              else
                              if x0 = 59 then
                                zf_MMC_bytesOf_b107 N   u
                                else
                                if x0 = 61 then
                                  zf_MMC_bytesOf_b107 N   u
                                  else
                                  zf_MMC_bytesOf_b112 N  1 u
def zf_MMC_require_0_b226 (N : Nat)   (u : zU) : Option (Unit × zU) :=
  some ((), u)
def zf_MMC_require_0_b198 (N : Nat)  (x1 : Int32) (x2 : Int32) (x3 : Int32) (u : zU) : Option (Unit × zU) :=
  if x1 = 270 then
  zbd (zf_MMC_attribute_0 N 1 x2 u) (fun r2 u3 =>
    zbd (zf_MMC_attribute_0 N 1 x3 u3) (fun r5 u6 =>
    if r2 = r5 then
    zf_MMC_require_0_b226 N   u6
    else
    zbd (zf_MMC_stop_0 N 6 u6) (fun r9 u10 =>
      zf_MMC_require_0_b226 N   u10)))
  else
  zf_MMC_require_0_b226 N   u
def zf_MMC_require_0_b170 (N : Nat)  (x1 : Int32) (x2 : Int32) (x3 : Int32) (u : zU) : Option (Unit × zU) :=
  if x1 = 268 then
  zbd (zf_MMC_attribute_0 N 4 x2 u) (fun r2 u3 =>
    zbd (zf_MMC_attribute_0 N 1 x3 u3) (fun r5 u6 =>
    if r2 = r5 then
    zf_MMC_require_0_b198 N  x1 x2 x3 u6
    else
    zbd (zf_MMC_stop_0 N 6 u6) (fun r9 u10 =>
      zf_MMC_require_0_b198 N  x1 x2 x3 u10)))
  else
  zf_MMC_require_0_b198 N  x1 x2 x3 u
def zf_MMC_require_0_b148 (N : Nat)  (x1 : Int32) (x2 : Int32) (x3 : Int32) (u : zU) : Option (Unit × zU) :=
  if x1 = 210 then
  zck (zin x2 40) (if (ga u 7 x2) = 0 then
    zbd (zf_MMC_stop_0 N 11 u) (fun r4 u5 =>
      zf_MMC_require_0_b170 N  x1 x2 x3 u5)
    else
    zf_MMC_require_0_b170 N  x1 x2 x3 u)
  else
  zf_MMC_require_0_b170 N  x1 x2 x3 u
def zf_MMC_require_0_b142 (N : Nat)  (x1 : Int32) (x2 : Int32) (x3 : Int32) (u : zU) : Option (Unit × zU) :=
  zbd (zf_MMC_stop_0 N 10 u) (fun r1 u2 =>
  zf_MMC_require_0_b148 N  x1 x2 x3 u2)
def zf_MMC_require_0_b107 (N : Nat)  (x1 : Int32) (x2 : Int32) (x3 : Int32) (u : zU) : Option (Unit × zU) :=
  if x1 < 40 then
  zf_MMC_require_0_b148 N  x1 x2 x3 u
  else
  if 62 < x1 then
    zf_MMC_require_0_b148 N  x1 x2 x3 u
    else
    if 0 < (lg_cmp ((Int32.toInt64 x2) &&& 4294967295) 3) then
      zf_MMC_require_0_b142 N  x1 x2 x3 u
      else
      zbd (zf_MMC_bytesOf N x1 u) (fun r4 u5 =>
        if (1 <<< (x2 &&& 31)) ≤ r4 then
        zf_MMC_require_0_b148 N  x1 x2 x3 u5
        else
        zf_MMC_require_0_b142 N  x1 x2 x3 u5)
def zf_MMC_require_0_b85 (N : Nat)  (x1 : Int32) (x2 : Int32) (x3 : Int32) (s0 : Int32) (u : zU) : Option (Unit × zU) :=
  if s0 = 0 then
  zf_MMC_require_0_b107 N  x1 x2 x3 u
  else
  zck (zin 2 6) (if (ga u 4 2) = 0 then
    zbd (zf_MMC_stop_0 N 9 u) (fun r4 u5 =>
      zf_MMC_require_0_b107 N  x1 x2 x3 u5)
    else
    zf_MMC_require_0_b107 N  x1 x2 x3 u)
def zf_MMC_require_0_b80 (N : Nat)  (x1 : Int32) (x2 : Int32) (x3 : Int32) (u : zU) : Option (Unit × zU) :=
  zf_MMC_require_0_b85 N  x1 x2 x3 1 u
def zf_MMC_require_0_b59 (N : Nat)  (x1 : Int32) (x2 : Int32) (x3 : Int32) (u : zU) : Option (Unit × zU) :=
  if x1 = 264 then
  zf_MMC_require_0_b80 N  x1 x2 x3 u
  else
  if x1 = 266 then
    zf_MMC_require_0_b80 N  x1 x2 x3 u
    else
    if x1 = 267 then
      zf_MMC_require_0_b80 N  x1 x2 x3 u
      else
      zf_MMC_require_0_b85 N  x1 x2 x3 0 u
def zf_MMC_require_0_b47 (N : Nat)  (x1 : Int32) (x2 : Int32) (x3 : Int32) (u : zU) : Option (Unit × zU) :=
  if x1 < 40 then
  zf_MMC_require_0_b59 N  x1 x2 x3 u
  else
  if x1 ≤ 64 then
    zf_MMC_require_0_b80 N  x1 x2 x3 u
    else
    zf_MMC_require_0_b59 N  x1 x2 x3 u
def zf_MMC_require_0_b23 (N : Nat)  (x1 : Int32) (x2 : Int32) (x3 : Int32) (u : zU) : Option (Unit × zU) :=
  if x1 = 36 then
  zck (zin (120 + x2) 240) (if (ga u 6 (120 + x2)) = 0 then
    zbd (zf_MMC_stop_0 N 8 u) (fun r4 u5 =>
      zf_MMC_require_0_b47 N  x1 x2 x3 u5)
    else
    zf_MMC_require_0_b47 N  x1 x2 x3 u)
  else
  zf_MMC_require_0_b47 N  x1 x2 x3 u
def zf_MMC_require_0 (N : Nat) (x1 : Int32) (x2 : Int32) (x3 : Int32) (u : zU) : Option (Unit × zU) :=
  if x1 = 17 then
  zbd (zf_MMC_attribute_0 N 1 x3 u) (fun r2 u3 =>
    if r2 = 112 then
    zf_MMC_require_0_b23 N  x1 x2 x3 u3
    else
    zbd (zf_MMC_stop_0 N 6 u3) (fun r6 u7 =>
      zf_MMC_require_0_b23 N  x1 x2 x3 u7))
  else
  zf_MMC_require_0_b23 N  x1 x2 x3 u
def zf_MMC_examine_0_b68 (N : Nat)   (u : zU) : Option (Unit × zU) :=
  some ((), u)
def zf_MMC_examine_0_b42 (N : Nat)  (x1 : Int32) (x2 : Int32) (x3 : Int32) (u : zU) : Option (Unit × zU) :=
  zbd (zf_MMC_isThere_0 N x1 x2 x3 u) (fun r1 u2 =>
  if r1 = 0 then
  zbd (zf_MMC_stop_0 N 12 u2) (fun r8 u9 =>
    zf_MMC_examine_0_b68 N   u9)
  else
  zbd (zf_MMC_require_0 N x1 x2 x3 u2) (fun r5 u6 =>
    zf_MMC_examine_0_b68 N   u6))
def zf_MMC_examine_0 (N : Nat) (x1 : Int32) (x2 : Int32) (x3 : Int32) (u : zU) : Option (Unit × zU) :=
  zbd (zf_MMC_isFormed N x1 x2 u) (fun r1 u2 =>
  if r1 = 0 then
  zbd (zf_MMC_stop_0 N 13 u2) (fun r13 u14 =>
    zf_MMC_examine_0_b68 N   u14)
  else
  if (gi u2 2) = 0 then
    zbd (zf_MMC_mayBeConstant_0 N x1 x2 u2) (fun r6 u7 =>
      if r6 = 0 then
      zbd (zf_MMC_stop_0 N 14 u7) (fun r10 u11 =>
        zf_MMC_examine_0_b68 N   u11)
      else
      zf_MMC_examine_0_b42 N  x1 x2 x3 u7)
    else
    zf_MMC_examine_0_b42 N  x1 x2 x3 u2)
def zf_MMC_wantNothing_0 (N : Nat)  (u : zU) : Option (Unit × zU) :=
  some ((), (si u 18 0))
def zf_MMC_wantOne_0 (N : Nat) (x1 : Int32) (u : zU) : Option (Unit × zU) :=
  zck (zin (gi u 18) 64) (some ((), (si (sa u 16 (gi u 18) x1) 18 ((gi u 18) + 1))))
def zf_MMC_wantParts_0_b61 (N : Nat) (k23 : Int32 → Int32 → Int32 → Int32 → zU → Option (Unit × zU)) (x1 : Int32) (x2 : Int32) (x3 : Int32) (x4 : Int32) (s0 : Int32) (u : zU) : Option (Unit × zU) :=
  zbd (zf_MMC_wantOne_0 N s0 u) (fun r1 u2 =>
  k23 x1 x2 x3 (x4 + 1) u2)
def zf_MMC_wantParts_0_b23 (N : Nat)  : Nat → Int32 → Int32 → Int32 → Int32 → zU → Option (Unit × zU)
  | 0, _, _, _, _, _ => none
  | n + 1, x1, x2, x3, x4, u =>
  if x3 ≤ x4 then
  some ((), u)
  else
  if x2 = 0 then
    zck (zin ((12 * x1) + x4) 480) (zf_MMC_wantParts_0_b61 N (zf_MMC_wantParts_0_b23 N  n) x1 x2 x3 x4 (ga u 2 ((12 * x1) + x4)) u)
    else
    zck (zin ((12 * x1) + x4) 480) (zf_MMC_wantParts_0_b61 N (zf_MMC_wantParts_0_b23 N  n) x1 x2 x3 x4 (ga u 3 ((12 * x1) + x4)) u)
def zf_MMC_wantParts_0_b19 (N : Nat)  (x1 : Int32) (x2 : Int32) (s0 : Int32) (u : zU) : Option (Unit × zU) :=
  zf_MMC_wantParts_0_b23 N  N x1 x2 s0 0 u
def zf_MMC_wantParts_0 (N : Nat) (x1 : Int32) (x2 : Int32) (u : zU) : Option (Unit × zU) :=
  if x2 = 0 then
  zck (zin x1 40) (zf_MMC_wantParts_0_b19 N  x1 x2 (ga u 0 x1) u)
  else
  zck (zin x1 40) (zf_MMC_wantParts_0_b19 N  x1 x2 (ga u 1 x1) u)
def zf_MMC_take_0_b96 (N : Nat)   (u : zU) : Option (Unit × zU) :=
  some ((), u)
def zf_MMC_take_0_b47 (N : Nat)   (u : zU) : Option (Unit × zU) :=
  some ((), u)
def zf_MMC_take_0 (N : Nat) (x1 : Int32) (u : zU) : Option (Unit × zU) :=
  if (gi u 11) ≤ 0 then
  zck (zin ((gi u 10) - 1) 62) (if (gi u 13) = (ga (si u 12 0) 13 ((gi u 10) - 1)) then
    zck (zin ((gi u 10) - 1) 62) (if (ga (si u 12 0) 14 ((gi u 10) - 1)) = 0 then
      zbd (zf_MMC_stop_0 N 1 (si u 12 0)) (fun r13 u14 =>
        zf_MMC_take_0_b47 N   u14)
      else
      zf_MMC_take_0_b47 N   (si u 12 0))
    else
    zck (zin ((gi u 13) - 1) 600) (if x1 = (-1) then
      zf_MMC_take_0_b96 N   (si (si (si u 12 0) 13 ((gi u 13) - 1)) 12 (ga (si (si u 12 0) 13 ((gi u 13) - 1)) 15 ((gi u 13) - 1)))
      else
      if (ga (si (si u 12 0) 13 ((gi u 13) - 1)) 15 ((gi u 13) - 1)) = 0 then
        zf_MMC_take_0_b96 N   (si (si (si u 12 0) 13 ((gi u 13) - 1)) 12 (ga (si (si u 12 0) 13 ((gi u 13) - 1)) 15 ((gi u 13) - 1)))
        else
        if (ga (si (si u 12 0) 13 ((gi u 13) - 1)) 15 ((gi u 13) - 1)) = x1 then
          zf_MMC_take_0_b96 N   (si (si (si u 12 0) 13 ((gi u 13) - 1)) 12 (ga (si (si u 12 0) 13 ((gi u 13) - 1)) 15 ((gi u 13) - 1)))
          else
          zbd (zf_MMC_stop_0 N 1 (si (si (si u 12 0) 13 ((gi u 13) - 1)) 12 (ga (si (si u 12 0) 13 ((gi u 13) - 1)) 15 ((gi u 13) - 1)))) (fun r8 u9 =>
            zf_MMC_take_0_b96 N   u9)))
  else
  some ((), u)
def zf_MMC_takeWanted_0_b7 (N : Nat)  : Nat → Int32 → zU → Option (Unit × zU)
  | 0, _, _ => none
  | n + 1, x1, u =>
  if x1 < 0 then
  some ((), u)
  else
  zck (zin x1 64) (zbd (zf_MMC_take_0 N (ga u 16 x1) u) (fun r5 u6 =>
    zf_MMC_takeWanted_0_b7 N  n (x1 + (-1)) u6))
def zf_MMC_takeWanted_0 (N : Nat)  (u : zU) : Option (Unit × zU) :=
  zf_MMC_takeWanted_0_b7 N  N ((gi u 18) - 1) u
def zf_MMC_give_0_b16 (N : Nat)  (x1 : Int32) (u : zU) : Option (Unit × zU) :=
  if (gi u 11) ≤ 0 then
  zck (zin (gi u 13) 600) (some ((), (si (sa u 15 (gi u 13) x1) 13 ((gi u 13) + 1))))
  else
  some ((), u)
def zf_MMC_give_0 (N : Nat) (x1 : Int32) (u : zU) : Option (Unit × zU) :=
  if (gi u 13) = 200 then
  zbd (zf_MMC_stop_0 N 15 u) (fun r2 u3 =>
    zf_MMC_give_0_b16 N  x1 u3)
  else
  zf_MMC_give_0_b16 N  x1 u
def zf_MMC_giveWanted_0_b2 (N : Nat)  : Nat → Int32 → zU → Option (Unit × zU)
  | 0, _, _ => none
  | n + 1, x1, u =>
  if (gi u 18) ≤ x1 then
  some ((), u)
  else
  zck (zin x1 64) (zbd (zf_MMC_give_0 N (ga u 16 x1) u) (fun r5 u6 =>
    zf_MMC_giveWanted_0_b2 N  n (x1 + 1) u6))
def zf_MMC_giveWanted_0 (N : Nat)  (u : zU) : Option (Unit × zU) :=
  zf_MMC_giveWanted_0_b2 N  N 0 u
def zf_MMC_call_0 (N : Nat) (x1 : Int32) (u : zU) : Option (Unit × zU) :=
  zbd (zf_MMC_wantParts_0 N x1 0 u) (fun r1 u2 =>
  zbd (zf_MMC_takeWanted_0 N  u2) (fun r4 u5 =>
  zbd (zf_MMC_wantNothing_0 N  u5) (fun r7 u8 =>
  zbd (zf_MMC_wantParts_0 N x1 1 u8) (fun r10 u11 =>
  zbd (zf_MMC_giveWanted_0 N  u11) (fun r13 u14 =>
  some ((), u14))))))
def zf_MMC_countOf_0_b81 (N : Nat)  (s0 : Int32) (u : zU) : Option (Int32 × zU) :=
  some (s0, u)
def zf_MMC_countOf_0_b80 (N : Nat)   (u : zU) : Option (Int32 × zU) :=
  zf_MMC_countOf_0_b81 N  0 u
def zf_MMC_countOf_0_b32 (N : Nat)  (s0 : Int32) (u : zU) : Option (Int32 × zU) :=
  some (s0, u)
def zf_MMC_countOf_0 (N : Nat) (x1 : Int32) (x2 : Int32) (u : zU) : Option (Int32 × zU) :=
  if x1 = 0 then
  if x2 = 0 then
    zf_MMC_countOf_0_b32 N  0 u
    else
    if (gi u 2) = 0 then
      zf_MMC_countOf_0_b32 N  1 u
      else
      zck (zin (gi u 4) 40) (zf_MMC_countOf_0_b32 N  (ga u 1 (gi u 4)) u)
  else
  zck (zin x1 62) (if (ga u 12 x1) < 0 then
    if x2 = 0 then
      zf_MMC_countOf_0_b80 N   u
      else
      if (ga u 12 x1) = (-64) then
        zf_MMC_countOf_0_b80 N   u
        else
        zf_MMC_countOf_0_b81 N  1 u
    else
    if x2 = 0 then
      zck (zin (ga u 12 x1) 40) (zf_MMC_countOf_0_b81 N  (ga u 0 (ga u 12 x1)) u)
      else
      zck (zin (ga u 12 x1) 40) (zf_MMC_countOf_0_b81 N  (ga u 1 (ga u 12 x1)) u))
def zf_MMC_partOf_0_b86 (N : Nat)  (s0 : Int32) (u : zU) : Option (Int32 × zU) :=
  some (s0, u)
def zf_MMC_partOf_0_b32 (N : Nat)  (s0 : Int32) (u : zU) : Option (Int32 × zU) :=
  some (s0, u)
def zf_MMC_partOf_0 (N : Nat) (x1 : Int32) (x2 : Int32) (x3 : Int32) (u : zU) : Option (Int32 × zU) :=
  if x1 = 0 then
  if (gi u 2) = 0 then
    zf_MMC_partOf_0_b32 N  (gi u 5) u
    else
    zck (zin ((12 * (gi u 4)) + x3) 480) (zf_MMC_partOf_0_b32 N  (ga u 3 ((12 * (gi u 4)) + x3)) u)
  else
  zck (zin x1 62) (if (ga u 12 x1) < 0 then
    zf_MMC_partOf_0_b86 N  ((ga u 12 x1) + 128) u
    else
    if x2 = 0 then
      zck (zin ((12 * (ga u 12 x1)) + x3) 480) (zf_MMC_partOf_0_b86 N  (ga u 2 ((12 * (ga u 12 x1)) + x3)) u)
      else
      zck (zin ((12 * (ga u 12 x1)) + x3) 480) (zf_MMC_partOf_0_b86 N  (ga u 3 ((12 * (ga u 12 x1)) + x3)) u))
def zf_MMC_wantBlock_0_b2 (N : Nat)  : Nat → Int32 → Int32 → Int32 → zU → Option (Unit × zU)
  | 0, _, _, _, _ => none
  | n + 1, x1, x2, x3, u =>
  zbd (zf_MMC_countOf_0 N x1 x2 u) (fun r1 u2 =>
  if r1 ≤ x3 then
  some ((), u2)
  else
  zbd (zf_MMC_partOf_0 N x1 x2 x3 u2) (fun r7 u8 =>
    zbd (zf_MMC_wantOne_0 N r7 u8) (fun r10 u11 =>
    zf_MMC_wantBlock_0_b2 N  n x1 x2 (x3 + 1) u11)))
def zf_MMC_wantBlock_0 (N : Nat) (x1 : Int32) (x2 : Int32) (u : zU) : Option (Unit × zU) :=
  zf_MMC_wantBlock_0_b2 N  N x1 x2 0 u
def zf_MMC_die_0 (N : Nat)  (u : zU) : Option (Unit × zU) :=
  if (gi u 11) ≤ 0 then
  zck (zin ((gi u 10) - 1) 62) (some ((), (si (si u 13 (ga u 13 ((gi u 10) - 1))) 14 1)))
  else
  some ((), u)
def zf_MMC_blockOf_0 (N : Nat) (x1 : Int32) (u : zU) : Option (Int32 × zU) :=
  some ((((gi u 10) - 1) - x1), u)
def zf_MMC_labelCount_0_b25 (N : Nat)  (s0 : Int32) (s1 : Int32) (u : zU) : Option (Int32 × zU) :=
  zbd (zf_MMC_countOf_0 N s1 s0 u) (fun r1 u2 =>
  some (r1, u2))
def zf_MMC_labelCount_0 (N : Nat) (x1 : Int32) (u : zU) : Option (Int32 × zU) :=
  zbd (zf_MMC_blockOf_0 N x1 u) (fun r1 u2 =>
  zbd (zf_MMC_blockOf_0 N x1 u2) (fun r4 u5 =>
  zck (zin r4 62) (if (ga u5 11 r4) = 3 then
  zf_MMC_labelCount_0_b25 N  0 r1 u5
  else
  zf_MMC_labelCount_0_b25 N  1 r1 u5)))
def zf_MMC_labelPart_0_b25 (N : Nat)  (x2 : Int32) (s0 : Int32) (s1 : Int32) (u : zU) : Option (Int32 × zU) :=
  zbd (zf_MMC_partOf_0 N s1 s0 x2 u) (fun r1 u2 =>
  some (r1, u2))
def zf_MMC_labelPart_0 (N : Nat) (x1 : Int32) (x2 : Int32) (u : zU) : Option (Int32 × zU) :=
  zbd (zf_MMC_blockOf_0 N x1 u) (fun r1 u2 =>
  zbd (zf_MMC_blockOf_0 N x1 u2) (fun r4 u5 =>
  zck (zin r4 62) (if (ga u5 11 r4) = 3 then
  zf_MMC_labelPart_0_b25 N  x2 0 r1 u5
  else
  zf_MMC_labelPart_0_b25 N  x2 1 r1 u5)))
def zf_MMC_wantLabel_0_b2 (N : Nat)  : Nat → Int32 → Int32 → zU → Option (Unit × zU)
  | 0, _, _, _ => none
  | n + 1, x1, x2, u =>
  zbd (zf_MMC_labelCount_0 N x1 u) (fun r1 u2 =>
  if r1 ≤ x2 then
  some ((), u2)
  else
  zbd (zf_MMC_labelPart_0 N x1 x2 u2) (fun r7 u8 =>
    zbd (zf_MMC_wantOne_0 N r7 u8) (fun r10 u11 =>
    zf_MMC_wantLabel_0_b2 N  n x1 (x2 + 1) u11)))
def zf_MMC_wantLabel_0 (N : Nat) (x1 : Int32) (u : zU) : Option (Unit × zU) :=
  zf_MMC_wantLabel_0_b2 N  N x1 0 u
def zf_MMC_table_0_b106 (N : Nat) (k14 : Int32 → Int32 → Int32 → zU → Option (Unit × zU)) : Nat → Int32 → Int32 → Int32 → Int32 → zU → Option (Unit × zU)
  | 0, _, _, _, _, _ => none
  | n + 1, x1, x2, x3, x4, u =>
  if (gi u 18) ≤ x4 then
  k14 x1 x2 (x3 + 1) u
  else
  zck (zin x4 16) (zbd (zf_MMC_give_0 N (ga u 17 x4) u) (fun r3 u4 =>
    zf_MMC_table_0_b106 N k14 n x1 x2 x3 (x4 + 1) u4))
def zf_MMC_table_0_b103 (N : Nat) (k14 : Int32 → Int32 → Int32 → zU → Option (Unit × zU)) (x1 : Int32) (x2 : Int32) (x3 : Int32) (u : zU) : Option (Unit × zU) :=
  zf_MMC_table_0_b106 N k14 N x1 x2 x3 0 u
def zf_MMC_table_0_b63 (N : Nat) (k14 : Int32 → Int32 → Int32 → zU → Option (Unit × zU)) : Nat → Int32 → Int32 → Int32 → Int32 → zU → Option (Unit × zU)
  | 0, _, _, _, _, _ => none
  | n + 1, x1, x2, x3, x4, u =>
  if x4 < 0 then
  zf_MMC_table_0_b103 N k14 x1 x2 x3 u
  else
  if (gi u 11) = 0 then
    zck (zin x4 64) (zbd (zf_MMC_take_0 N (ga u 16 x4) u) (fun r4 u5 =>
      zck (zin x4 16) (zf_MMC_table_0_b63 N k14 n x1 x2 x3 (x4 + (-1)) (sa u5 17 x4 (gi u5 12)))))
    else
    zf_MMC_table_0_b103 N k14 x1 x2 x3 u
def zf_MMC_table_0_b41 (N : Nat) (k14 : Int32 → Int32 → Int32 → zU → Option (Unit × zU)) (x1 : Int32) (x2 : Int32) (x3 : Int32) (u : zU) : Option (Unit × zU) :=
  zbd (zf_MMC_wantNothing_0 N  u) (fun r1 u2 =>
  zck (zin x3 20) (zbd (zf_MMC_wantLabel_0 N (ga u2 9 x3) u2) (fun r5 u6 =>
  zf_MMC_table_0_b63 N k14 N x1 x2 x3 ((gi u6 18) - 1) u6)))
def zf_MMC_table_0_b14 (N : Nat)  : Nat → Int32 → Int32 → Int32 → zU → Option (Unit × zU)
  | 0, _, _, _, _ => none
  | n + 1, x1, x2, x3, u =>
  if (gi u 8) ≤ x3 then
  zbd (zf_MMC_wantNothing_0 N  u) (fun r2 u3 =>
    zbd (zf_MMC_wantLabel_0 N x1 u3) (fun r5 u6 =>
    zbd (zf_MMC_takeWanted_0 N  u6) (fun r8 u9 =>
    zbd (zf_MMC_die_0 N  u9) (fun r11 u12 =>
    some ((), u12)))))
  else
  zck (zin x3 20) (zbd (zf_MMC_labelCount_0 N (ga u 9 x3) u) (fun r17 u18 =>
    if r17 = x2 then
    zf_MMC_table_0_b41 N (zf_MMC_table_0_b14 N  n) x1 x2 x3 u18
    else
    zbd (zf_MMC_stop_0 N 5 u18) (fun r21 u22 =>
      zf_MMC_table_0_b41 N (zf_MMC_table_0_b14 N  n) x1 x2 x3 u22)))
def zf_MMC_table_0 (N : Nat) (x1 : Int32) (u : zU) : Option (Unit × zU) :=
  zbd (zf_MMC_take_0 N 127 u) (fun r1 u2 =>
  zbd (zf_MMC_labelCount_0 N x1 u2) (fun r4 u5 =>
  zf_MMC_table_0_b14 N  N x1 r4 0 u5))
def zf_MMC_close_0_b45 (N : Nat)   (u : zU) : Option (Unit × zU) :=
  some ((), u)
def zf_MMC_close_0 (N : Nat)  (u : zU) : Option (Unit × zU) :=
  zbd (zf_MMC_wantBlock_0 N ((gi u 10) - 1) 1 u) (fun r1 u2 =>
  zbd (zf_MMC_takeWanted_0 N  u2) (fun r4 u5 =>
  if (gi u5 11) = 0 then
  zck (zin ((gi u5 10) - 1) 62) (if (gi u5 13) ≤ (ga u5 13 ((gi u5 10) - 1)) then
    zf_MMC_close_0_b45 N   u5
    else
    zbd (zf_MMC_stop_0 N 3 u5) (fun r10 u11 =>
      zf_MMC_close_0_b45 N   u11))
  else
  zf_MMC_close_0_b45 N   u5))
def zf_MMC_end_0_b113 (N : Nat)  (s0 : Int32) (u : zU) : Option (Unit × zU) :=
  zck (zbz s0) (some ((), (si u 16 s0)))
def zf_MMC_end_0_b96 (N : Nat)   (u : zU) : Option (Unit × zU) :=
  zbd (zf_MMC_giveWanted_0 N  u) (fun r1 u2 =>
  if (gi u2 11) = 0 then
  zf_MMC_end_0_b113 N  1 u2
  else
  zf_MMC_end_0_b113 N  0 u2)
def zf_MMC_end_0_b77 (N : Nat)  (x1 : Int32) (x2 : Int32) (u : zU) : Option (Unit × zU) :=
  zck (zin x1 62) (if (ga u 11 x1) = 4 then
  if x2 = 0 then
    zbd (zf_MMC_stop_0 N 4 u) (fun r4 u5 =>
      zf_MMC_end_0_b96 N   u5)
    else
    zf_MMC_end_0_b96 N   u
  else
  zf_MMC_end_0_b96 N   u)
def zf_MMC_end_0_b70 (N : Nat) (k34 : Int32 → Int32 → Int32 → zU → Option (Unit × zU)) (x1 : Int32) (x3 : Int32) (s0 : Int32) (u : zU) : Option (Unit × zU) :=
  k34 x1 s0 (x3 + 1) u
def zf_MMC_end_0_b34 (N : Nat)  : Nat → Int32 → Int32 → Int32 → zU → Option (Unit × zU)
  | 0, _, _, _, _ => none
  | n + 1, x1, x2, x3, u =>
  zbd (zf_MMC_countOf_0 N x1 1 u) (fun r1 u2 =>
  if r1 ≤ x3 then
  zf_MMC_end_0_b77 N  x1 x2 u2
  else
  if x2 = 0 then
    zf_MMC_end_0_b77 N  x1 x2 u2
    else
    zbd (zf_MMC_partOf_0 N x1 0 x3 u2) (fun r6 u7 =>
      zbd (zf_MMC_partOf_0 N x1 1 x3 u7) (fun r9 u10 =>
      if r6 = r9 then
      zf_MMC_end_0_b70 N (zf_MMC_end_0_b34 N  n) x1 x3 1 u10
      else
      zf_MMC_end_0_b70 N (zf_MMC_end_0_b34 N  n) x1 x3 0 u10)))
def zf_MMC_end_0_b31 (N : Nat)  (x1 : Int32) (s0 : Int32) (u : zU) : Option (Unit × zU) :=
  zf_MMC_end_0_b34 N  N x1 s0 0 u
def zf_MMC_end_0 (N : Nat)  (u : zU) : Option (Unit × zU) :=
  zbd (zf_MMC_close_0 N  u) (fun r1 u2 =>
  zbd (zf_MMC_countOf_0 N ((gi u2 10) - 1) 0 u2) (fun r4 u5 =>
  zbd (zf_MMC_countOf_0 N ((gi u2 10) - 1) 1 u5) (fun r7 u8 =>
  if r4 = r7 then
  zf_MMC_end_0_b31 N  ((gi u2 10) - 1) 1 u8
  else
  zf_MMC_end_0_b31 N  ((gi u2 10) - 1) 0 u8)))
def zf_MMC_choose_0_b56 (N : Nat)  (s0 : Int32) (u : zU) : Option (Unit × zU) :=
  zck (zbz s0) (some ((), (si u 17 s0)))
def zf_MMC_choose_0_b20 (N : Nat)   (u : zU) : Option (Unit × zU) :=
  zbd (zf_MMC_close_0 N  u) (fun r1 u2 =>
  zbd (zf_MMC_wantNothing_0 N  u2) (fun r4 u5 =>
  zbd (zf_MMC_wantBlock_0 N ((gi u5 10) - 1) 0 u5) (fun r7 u8 =>
  zbd (zf_MMC_giveWanted_0 N  u8) (fun r10 u11 =>
  if (gi u11 11) = 0 then
  zf_MMC_choose_0_b56 N  1 u11
  else
  zf_MMC_choose_0_b56 N  0 u11))))
def zf_MMC_choose_0 (N : Nat)  (u : zU) : Option (Unit × zU) :=
  zck (zin ((gi u 10) - 1) 62) (if (ga u 11 ((gi u 10) - 1)) = 4 then
  zf_MMC_choose_0_b20 N   u
  else
  zbd (zf_MMC_stop_0 N 2 u) (fun r3 u4 =>
    zf_MMC_choose_0_b20 N   u4))
def zf_MMC_open_0_b40 (N : Nat)  (x1 : Int32) (x2 : Int32) (u : zU) : Option (Unit × zU) :=
  if (gi u 11) ≤ 0 then
  zck (zin (gi u 10) 62) (zck (zin (gi u 10) 62) (zck (zin (gi u 10) 62) (zck (zin (gi u 10) 62) (zbd (zf_MMC_giveWanted_0 N  (sa (sa (sa (sa u 11 (gi u 10) x1) 12 (gi u 10) x2) 13 (gi u 10) (gi u 13)) 14 (gi u 10) (vp_nar .boolean 0))) (fun r6 u7 =>
    some ((), (si u7 15 1)))))))
  else
  some ((), u)
def zf_MMC_open_0_b21 (N : Nat)  (x1 : Int32) (x2 : Int32) (u : zU) : Option (Unit × zU) :=
  zbd (zf_MMC_takeWanted_0 N  u) (fun r1 u2 =>
  if (gi u2 10) = 60 then
  zbd (zf_MMC_stop_0 N 15 u2) (fun r5 u6 =>
    zf_MMC_open_0_b40 N  x1 x2 u6)
  else
  zf_MMC_open_0_b40 N  x1 x2 u2)
def zf_MMC_open_0_b11 (N : Nat)  (x1 : Int32) (x2 : Int32) (u : zU) : Option (Unit × zU) :=
  if x2 < 0 then
  zf_MMC_open_0_b21 N  x1 x2 u
  else
  zbd (zf_MMC_wantParts_0 N x2 0 u) (fun r2 u3 =>
    zf_MMC_open_0_b21 N  x1 x2 u3)
def zf_MMC_open_0 (N : Nat) (x1 : Int32) (x2 : Int32) (u : zU) : Option (Unit × zU) :=
  if x1 = 4 then
  zbd (zf_MMC_take_0 N 127 u) (fun r2 u3 =>
    zf_MMC_open_0_b11 N  x1 x2 u3)
  else
  zf_MMC_open_0_b11 N  x1 x2 u
def zf_MMC_control_0_b208 (N : Nat)   (u : zU) : Option (Unit × zU) :=
  some ((), u)
def zf_MMC_control_0_b98 (N : Nat)  (x1 : Int32) (x2 : Int32) (u : zU) : Option (Unit × zU) :=
  zbd (zf_MMC_open_0 N x1 x2 u) (fun r1 u2 =>
  zf_MMC_control_0_b208 N   u2)
def zf_MMC_control_0_b197 (N : Nat)  (x2 : Int32) (u : zU) : Option (Unit × zU) :=
  zbd (zf_MMC_take_0 N 127 u) (fun r1 u2 =>
  zbd (zf_MMC_call_0 N x2 u2) (fun r4 u5 =>
  zf_MMC_control_0_b208 N   u5))
def zf_MMC_control_0 (N : Nat) (x1 : Int32) (x2 : Int32) (x3 : Int32) (u : zU) : Option (Unit × zU) :=
  zbd (zf_MMC_wantNothing_0 N  u) (fun r1 u2 =>
  if x1 = 0 then zbd (zf_MMC_die_0 N  u2) (fun r5 u6 =>
    zf_MMC_control_0_b208 N   u6)
  else if x1 = 1 then zf_MMC_control_0_b208 N   u2
  else if x1 = 2 then zf_MMC_control_0_b98 N  x1 x2 u2
  else if x1 = 3 then zf_MMC_control_0_b98 N  x1 x2 u2
  else if x1 = 4 then zf_MMC_control_0_b98 N  x1 x2 u2
  else if x1 = 5 then zbd (zf_MMC_choose_0 N  u2) (fun r13 u14 =>
    zf_MMC_control_0_b208 N   u14)
  else if x1 = 6 then zf_MMC_control_0_b197 N  x2 u2
  else if x1 = 7 then zf_MMC_control_0_b197 N  x2 u2
  else if x1 = 8 then zf_MMC_control_0_b197 N  x2 u2
  else if x1 = 9 then zf_MMC_control_0_b197 N  x2 u2
  else if x1 = 10 then zf_MMC_control_0_b197 N  x2 u2
  else if x1 = 11 then zbd (zf_MMC_end_0 N  u2) (fun r22 u23 =>
    zf_MMC_control_0_b208 N   u23)
  else if x1 = 12 then zbd (zf_MMC_wantLabel_0 N x2 u2) (fun r26 u27 =>
    zbd (zf_MMC_takeWanted_0 N  u27) (fun r29 u30 =>
    zbd (zf_MMC_die_0 N  u30) (fun r32 u33 =>
    zf_MMC_control_0_b208 N   u33)))
  else if x1 = 13 then zbd (zf_MMC_take_0 N 127 u2) (fun r36 u37 =>
    zbd (zf_MMC_wantLabel_0 N x2 u37) (fun r39 u40 =>
    zbd (zf_MMC_takeWanted_0 N  u40) (fun r42 u43 =>
    zbd (zf_MMC_giveWanted_0 N  u43) (fun r45 u46 =>
    zf_MMC_control_0_b208 N   u46))))
  else if x1 = 14 then zbd (zf_MMC_table_0 N x2 u2) (fun r49 u50 =>
    zf_MMC_control_0_b208 N   u50)
  else if x1 = 15 then zbd (zf_MMC_wantBlock_0 N 0 1 u2) (fun r53 u54 =>
    zbd (zf_MMC_takeWanted_0 N  u54) (fun r56 u57 =>
    zbd (zf_MMC_die_0 N  u57) (fun r59 u60 =>
    zf_MMC_control_0_b208 N   u60)))
  else if x1 = 16 then zbd (zf_MMC_attribute_0 N 0 x2 u2) (fun r63 u64 =>
    zbd (zf_MMC_call_0 N r63 u64) (fun r66 u67 =>
    zf_MMC_control_0_b208 N   u67))
  else zf_MMC_control_0_b197 N  x2 u2)
def zf_MMC_one_0 (N : Nat) (x1 : Int32) (x2 : Int32) (u : zU) : Option (Unit × zU) :=
  zbd (zf_MMC_take_0 N x1 u) (fun r1 u2 =>
  zbd (zf_MMC_give_0 N x2 u2) (fun r4 u5 =>
  some ((), u5)))
def zf_MMC_takeTwo_0 (N : Nat) (x1 : Int32) (x2 : Int32) (u : zU) : Option (Unit × zU) :=
  zbd (zf_MMC_take_0 N x2 u) (fun r1 u2 =>
  zbd (zf_MMC_take_0 N x1 u2) (fun r4 u5 =>
  some ((), u5)))
def zf_MMC_two_0 (N : Nat) (x1 : Int32) (x2 : Int32) (u : zU) : Option (Unit × zU) :=
  zbd (zf_MMC_take_0 N x1 u) (fun r1 u2 =>
  zbd (zf_MMC_take_0 N x1 u2) (fun r4 u5 =>
  zbd (zf_MMC_give_0 N x2 u5) (fun r7 u8 =>
  some ((), u8))))
def zf_MMC_choice_0_b74 (N : Nat)  (s0 : Int32) (u : zU) : Option (Unit × zU) :=
  zbd (zf_MMC_give_0 N s0 u) (fun r1 u2 =>
  some ((), u2))
def zf_MMC_choice_0_b64 (N : Nat)  (x1 : Int32) (x2 : Int32) (u : zU) : Option (Unit × zU) :=
  if x1 = 0 then
  zf_MMC_choice_0_b74 N  x2 u
  else
  zf_MMC_choice_0_b74 N  x1 u
def zf_MMC_choice_0_b46 (N : Nat)  (x1 : Int32) (x2 : Int32) (u : zU) : Option (Unit × zU) :=
  if x1 = 0 then
  zf_MMC_choice_0_b64 N  x1 x2 u
  else
  if x2 = 0 then
    zf_MMC_choice_0_b64 N  x1 x2 u
    else
    if x1 = x2 then
      zf_MMC_choice_0_b64 N  x1 x2 u
      else
      zbd (zf_MMC_stop_0 N 1 u) (fun r4 u5 =>
        zf_MMC_choice_0_b64 N  x1 x2 u5)
def zf_MMC_choice_0_b40 (N : Nat)  (x1 : Int32) (x2 : Int32) (u : zU) : Option (Unit × zU) :=
  zbd (zf_MMC_stop_0 N 7 u) (fun r1 u2 =>
  zf_MMC_choice_0_b46 N  x1 x2 u2)
def zf_MMC_choice_0 (N : Nat)  (u : zU) : Option (Unit × zU) :=
  zbd (zf_MMC_take_0 N 127 u) (fun r1 u2 =>
  zbd (zf_MMC_take_0 N (-1) u2) (fun r4 u5 =>
  zbd (zf_MMC_take_0 N (-1) u5) (fun r7 u8 =>
  zbd (zf_MMC_isReference N (gi u5 12) u8) (fun r10 u11 =>
  if r10 = 0 then
  zbd (zf_MMC_isReference N (gi u8 12) u11) (fun r14 u15 =>
    if r14 = 0 then
    zf_MMC_choice_0_b46 N  (gi u5 12) (gi u8 12) u15
    else
    zf_MMC_choice_0_b40 N  (gi u5 12) (gi u8 12) u15)
  else
  zf_MMC_choice_0_b40 N  (gi u5 12) (gi u8 12) u11))))
def zf_MMC_named_0_b188 (N : Nat)   (u : zU) : Option (Unit × zU) :=
  some ((), u)
def zf_MMC_named_0_b176 (N : Nat)  (x2 : Int32) (u : zU) : Option (Unit × zU) :=
  zbd (zf_MMC_attribute_0 N 1 x2 u) (fun r1 u2 =>
  zbd (zf_MMC_takeTwo_0 N 127 r1 u2) (fun r4 u5 =>
  zf_MMC_named_0_b188 N   u5))
def zf_MMC_named_0 (N : Nat) (x1 : Int32) (x2 : Int32) (u : zU) : Option (Unit × zU) :=
  if x1 = 26 then zbd (zf_MMC_take_0 N (-1) u) (fun r2 u3 =>
    zf_MMC_named_0_b188 N   u3)
  else if x1 = 27 then zbd (zf_MMC_choice_0 N  u) (fun r6 u7 =>
    zf_MMC_named_0_b188 N   u7)
  else if x1 = 28 then zbd (zf_MMC_take_0 N 127 u) (fun r10 u11 =>
    zbd (zf_MMC_two_0 N x2 x2 u11) (fun r13 u14 =>
    zf_MMC_named_0_b188 N   u14))
  else if x1 = 29 then zf_MMC_named_0_b176 N  x2 u
  else if x1 = 30 then zf_MMC_named_0_b176 N  x2 u
  else if x1 = 31 then zf_MMC_named_0_b176 N  x2 u
  else if x1 = 32 then zbd (zf_MMC_localType_0 N x2 u) (fun r20 u21 =>
    zbd (zf_MMC_give_0 N r20 u21) (fun r23 u24 =>
    zf_MMC_named_0_b188 N   u24))
  else if x1 = 33 then zbd (zf_MMC_localType_0 N x2 u) (fun r27 u28 =>
    zbd (zf_MMC_take_0 N r27 u28) (fun r30 u31 =>
    zf_MMC_named_0_b188 N   u31))
  else if x1 = 34 then zbd (zf_MMC_localType_0 N x2 u) (fun r34 u35 =>
    zbd (zf_MMC_localType_0 N x2 u35) (fun r37 u38 =>
    zbd (zf_MMC_one_0 N r34 r37 u38) (fun r40 u41 =>
    zf_MMC_named_0_b188 N   u41)))
  else if x1 = 35 then zbd (zf_MMC_attribute_0 N 3 x2 u) (fun r44 u45 =>
    zbd (zf_MMC_give_0 N r44 u45) (fun r47 u48 =>
    zf_MMC_named_0_b188 N   u48))
  else if x1 = 36 then zbd (zf_MMC_attribute_0 N 3 x2 u) (fun r51 u52 =>
    zbd (zf_MMC_take_0 N r51 u52) (fun r54 u55 =>
    zf_MMC_named_0_b188 N   u55))
  else if x1 = 37 then zbd (zf_MMC_attribute_0 N 1 x2 u) (fun r58 u59 =>
    zbd (zf_MMC_one_0 N 127 r58 u59) (fun r61 u62 =>
    zf_MMC_named_0_b188 N   u62))
  else zf_MMC_named_0_b176 N  x2 u
def zf_MMC_memory_0_b195 (N : Nat)   (u : zU) : Option (Unit × zU) :=
  some ((), u)
def zf_MMC_memory_0_b192 (N : Nat)  (s0 : Int32) (u : zU) : Option (Unit × zU) :=
  zbd (zf_MMC_give_0 N s0 u) (fun r1 u2 =>
  zf_MMC_memory_0_b195 N   u2)
def zf_MMC_memory_0_b118 (N : Nat)  (s0 : Int32) (s1 : Int32) (u : zU) : Option (Unit × zU) :=
  zbd (zf_MMC_takeTwo_0 N s1 s0 u) (fun r1 u2 =>
  zf_MMC_memory_0_b195 N   u2)
def zf_MMC_memory_0_b89 (N : Nat)  (s0 : Int32) (u : zU) : Option (Unit × zU) :=
  zf_MMC_memory_0_b118 N  127 s0 u
def zf_MMC_memory_0_b56 (N : Nat)  (s0 : Int32) (s1 : Int32) (u : zU) : Option (Unit × zU) :=
  zbd (zf_MMC_one_0 N s1 s0 u) (fun r1 u2 =>
  zf_MMC_memory_0_b195 N   u2)
def zf_MMC_memory_0_b27 (N : Nat)  (s0 : Int32) (u : zU) : Option (Unit × zU) :=
  zf_MMC_memory_0_b56 N  127 s0 u
def zf_MMC_memory_0_b32 (N : Nat)  (x1 : Int32) (s0 : Int32) (u : zU) : Option (Unit × zU) :=
  if x1 = 42 then
  zf_MMC_memory_0_b56 N  125 s0 u
  else
  if x1 = 43 then
    zf_MMC_memory_0_b56 N  124 s0 u
    else
    zf_MMC_memory_0_b56 N  126 s0 u
def zf_MMC_memory_0 (N : Nat) (x1 : Int32) (u : zU) : Option (Unit × zU) :=
  if 54 ≤ x1 then
  if 63 ≤ x1 then
    if x1 = 63 then
      zbd (zf_MMC_give_0 N 127 u) (fun r11 u12 =>
        zf_MMC_memory_0_b195 N   u12)
      else
      if x1 = 64 then
        zbd (zf_MMC_one_0 N 127 127 u) (fun r8 u9 =>
          zf_MMC_memory_0_b195 N   u9)
        else
        if x1 = 65 then
          zf_MMC_memory_0_b192 N  127 u
          else
          if x1 = 66 then
            zf_MMC_memory_0_b192 N  126 u
            else
            if x1 = 67 then
              zf_MMC_memory_0_b192 N  125 u
              else
              zf_MMC_memory_0_b192 N  124 u
    else
    if x1 = 54 then
      zf_MMC_memory_0_b89 N  127 u
      else
      if x1 = 58 then
        zf_MMC_memory_0_b89 N  127 u
        else
        if x1 = 59 then
          zf_MMC_memory_0_b89 N  127 u
          else
          if x1 = 56 then
            zf_MMC_memory_0_b118 N  125 127 u
            else
            if x1 = 57 then
              zf_MMC_memory_0_b118 N  124 127 u
              else
              zf_MMC_memory_0_b118 N  126 127 u
  else
  if x1 = 40 then
    zf_MMC_memory_0_b27 N  127 u
    else
    if x1 < 44 then
      zf_MMC_memory_0_b32 N  x1 127 u
      else
      if 47 < x1 then
        zf_MMC_memory_0_b32 N  x1 127 u
        else
        zf_MMC_memory_0_b27 N  127 u
def zf_MMC_takeThree_0 (N : Nat)  (u : zU) : Option (Unit × zU) :=
  zbd (zf_MMC_take_0 N 127 u) (fun r1 u2 =>
  zbd (zf_MMC_take_0 N 127 u2) (fun r4 u5 =>
  zbd (zf_MMC_take_0 N 127 u5) (fun r7 u8 =>
  some ((), u8))))
def zf_MMC_other_0_b188 (N : Nat)   (u : zU) : Option (Unit × zU) :=
  some ((), u)
def zf_MMC_other_0_b112 (N : Nat)   (u : zU) : Option (Unit × zU) :=
  zbd (zf_MMC_give_0 N 127 u) (fun r1 u2 =>
  zf_MMC_other_0_b188 N   u2)
def zf_MMC_other_0_b130 (N : Nat)   (u : zU) : Option (Unit × zU) :=
  zf_MMC_other_0_b188 N   u
def zf_MMC_other_0 (N : Nat) (x1 : Int32) (x2 : Int32) (u : zU) : Option (Unit × zU) :=
  if x1 = 208 then zbd (zf_MMC_give_0 N x2 u) (fun r2 u3 =>
    zf_MMC_other_0_b188 N   u3)
  else if x1 = 209 then zbd (zf_MMC_take_0 N (-1) u) (fun r6 u7 =>
    if (gi u7 12) = 0 then
    zf_MMC_other_0_b112 N   u7
    else
    zbd (zf_MMC_isReference N (gi u7 12) u7) (fun r10 u11 =>
      if r10 = 0 then
      zbd (zf_MMC_stop_0 N 7 u11) (fun r14 u15 =>
        zf_MMC_other_0_b112 N   u15)
      else
      zf_MMC_other_0_b112 N   u11))
  else if x1 = 210 then zbd (zf_MMC_give_0 N 112 u) (fun r18 u19 =>
    zf_MMC_other_0_b188 N   u19)
  else if x1 = 265 then zf_MMC_other_0_b130 N   u
  else if x1 = 269 then zf_MMC_other_0_b130 N   u
  else if x1 = 271 then zbd (zf_MMC_attribute_0 N 1 x2 u) (fun r24 u25 =>
    zbd (zf_MMC_takeTwo_0 N r24 127 u25) (fun r27 u28 =>
    zbd (zf_MMC_give_0 N 127 u28) (fun r30 u31 =>
    zf_MMC_other_0_b188 N   u31)))
  else if x1 = 272 then zbd (zf_MMC_give_0 N 127 u) (fun r34 u35 =>
    zf_MMC_other_0_b188 N   u35)
  else if x1 = 273 then zbd (zf_MMC_take_0 N 127 u) (fun r38 u39 =>
    zbd (zf_MMC_attribute_0 N 1 x2 u39) (fun r41 u42 =>
    zbd (zf_MMC_takeTwo_0 N 127 r41 u42) (fun r44 u45 =>
    zf_MMC_other_0_b188 N   u45)))
  else zbd (zf_MMC_takeThree_0 N  u) (fun r47 u48 =>
  zf_MMC_other_0_b188 N   u48)
def zf_MMC_calculate_0_b19 (N : Nat)   (u : zU) : Option (Unit × zU) :=
  some ((), u)
def zf_MMC_calculate_0 (N : Nat) (x1 : Int32) (x2 : Int32) (u : zU) : Option (Unit × zU) :=
  if x1 = 0 then
  zbd (zf_MMC_two_0 N x2 x2 u) (fun r2 u3 =>
    zf_MMC_calculate_0_b19 N   u3)
  else
  zbd (zf_MMC_one_0 N x2 x2 u) (fun r5 u6 =>
    zf_MMC_calculate_0_b19 N   u6)
def zf_MMC_from_b404 (N : Nat)   (u : zU) : Option (Int32 × zU) :=
  some (126, u)
def zf_MMC_from_b407 (N : Nat)   (u : zU) : Option (Int32 × zU) :=
  some (125, u)
def zf_MMC_from_b410 (N : Nat)   (u : zU) : Option (Int32 × zU) :=
  some (124, u)
def zf_MMC_from_b413 (N : Nat)   (u : zU) : Option (Int32 × zU) :=
  some (127, u)
def zf_MMC_from (N : Nat) (x0 : Int32) (u : zU) : Option (Int32 × zU) :=
  if x0 = 167 then zf_MMC_from_b404 N   u
  else if x0 = 168 then zf_MMC_from_b407 N   u
  else if x0 = 169 then zf_MMC_from_b407 N   u
  else if x0 = 170 then zf_MMC_from_b410 N   u
  else if x0 = 171 then zf_MMC_from_b410 N   u
  else if x0 = 172 then zf_MMC_from_b413 N   u
  else if x0 = 173 then zf_MMC_from_b413 N   u
  else if x0 = 174 then zf_MMC_from_b407 N   u
  else if x0 = 175 then zf_MMC_from_b407 N   u
  else if x0 = 176 then zf_MMC_from_b410 N   u
  else if x0 = 177 then zf_MMC_from_b410 N   u
  else if x0 = 178 then zf_MMC_from_b413 N   u
  else if x0 = 179 then zf_MMC_from_b413 N   u
  else if x0 = 180 then zf_MMC_from_b404 N   u
  else if x0 = 181 then zf_MMC_from_b404 N   u
  else if x0 = 182 then zf_MMC_from_b410 N   u
  else if x0 = 183 then zf_MMC_from_b413 N   u
  else if x0 = 184 then zf_MMC_from_b413 N   u
  else if x0 = 185 then zf_MMC_from_b404 N   u
  else if x0 = 186 then zf_MMC_from_b404 N   u
  else if x0 = 187 then zf_MMC_from_b407 N   u
  else if x0 = 188 then zf_MMC_from_b407 N   u
  else if x0 = 189 then zf_MMC_from_b410 N   u
  else if x0 = 190 then zf_MMC_from_b413 N   u
  else if x0 = 191 then zf_MMC_from_b404 N   u
  else if x0 = 192 then zf_MMC_from_b413 N   u
  else if x0 = 193 then zf_MMC_from_b413 N   u
  else if x0 = 194 then zf_MMC_from_b404 N   u
  else if x0 = 195 then zf_MMC_from_b404 N   u
  else if x0 = 196 then zf_MMC_from_b404 N   u
  else if x0 = 197 then zf_MMC_from_b413 N   u
  else if x0 = 198 then zf_MMC_from_b413 N   u
  else if x0 = 199 then zf_MMC_from_b413 N   u
  else if x0 = 200 then zf_MMC_from_b413 N   u
  else if x0 = 201 then zf_MMC_from_b413 N   u
  else if x0 = 202 then zf_MMC_from_b413 N   u
  else if x0 = 203 then zf_MMC_from_b413 N   u
  else if x0 = 204 then zf_MMC_from_b413 N   u
  else if x0 = 205 then zf_MMC_from_b413 N   u
  else if x0 = 206 then zf_MMC_from_b413 N   u
  else if x0 = 207 then zf_MMC_from_b413 N   u
  else if x0 = 208 then zf_MMC_from_b413 N   u
  else if x0 = 209 then zf_MMC_from_b413 N   u
  else if x0 = 210 then zf_MMC_from_b413 N   u
  else if x0 = 211 then zf_MMC_from_b413 N   u
  else if x0 = 212 then zf_MMC_from_b413 N   u
  else if x0 = 213 then zf_MMC_from_b413 N   u
  else if x0 = 214 then zf_MMC_from_b413 N   u
  else if x0 = 215 then zf_MMC_from_b413 N   u
  else if x0 = 216 then zf_MMC_from_b413 N   u
  else if x0 = 217 then zf_MMC_from_b413 N   u
  else if x0 = 218 then zf_MMC_from_b413 N   u
  else if x0 = 219 then zf_MMC_from_b413 N   u
  else if x0 = 220 then zf_MMC_from_b413 N   u
  else if x0 = 221 then zf_MMC_from_b413 N   u
  else if x0 = 222 then zf_MMC_from_b413 N   u
  else if x0 = 223 then zf_MMC_from_b413 N   u
  else if x0 = 224 then zf_MMC_from_b413 N   u
  else if x0 = 225 then zf_MMC_from_b413 N   u
  else if x0 = 226 then zf_MMC_from_b413 N   u
  else if x0 = 227 then zf_MMC_from_b413 N   u
  else if x0 = 228 then zf_MMC_from_b413 N   u
  else if x0 = 229 then zf_MMC_from_b413 N   u
  else if x0 = 230 then zf_MMC_from_b413 N   u
  else if x0 = 231 then zf_MMC_from_b413 N   u
  else if x0 = 232 then zf_MMC_from_b413 N   u
  else if x0 = 233 then zf_MMC_from_b413 N   u
  else if x0 = 234 then zf_MMC_from_b413 N   u
  else if x0 = 235 then zf_MMC_from_b413 N   u
  else if x0 = 236 then zf_MMC_from_b413 N   u
  else if x0 = 237 then zf_MMC_from_b413 N   u
  else if x0 = 238 then zf_MMC_from_b413 N   u
  else if x0 = 239 then zf_MMC_from_b413 N   u
  else if x0 = 240 then zf_MMC_from_b413 N   u
  else if x0 = 241 then zf_MMC_from_b413 N   u
  else if x0 = 242 then zf_MMC_from_b413 N   u
  else if x0 = 243 then zf_MMC_from_b413 N   u
  else if x0 = 244 then zf_MMC_from_b413 N   u
  else if x0 = 245 then zf_MMC_from_b413 N   u
  else if x0 = 246 then zf_MMC_from_b413 N   u
  else if x0 = 247 then zf_MMC_from_b413 N   u
  else if x0 = 248 then zf_MMC_from_b413 N   u
  else if x0 = 249 then zf_MMC_from_b413 N   u
  else if x0 = 250 then zf_MMC_from_b413 N   u
  else if x0 = 251 then zf_MMC_from_b413 N   u
  else if x0 = 252 then zf_MMC_from_b413 N   u
  else if x0 = 253 then zf_MMC_from_b413 N   u
  else if x0 = 254 then zf_MMC_from_b413 N   u
  else if x0 = 255 then zf_MMC_from_b413 N   u
  else if x0 = 256 then zf_MMC_from_b407 N   u
  else if x0 = 257 then zf_MMC_from_b407 N   u
  else if x0 = 258 then zf_MMC_from_b410 N   u
  else if x0 = 259 then zf_MMC_from_b410 N   u
  else if x0 = 260 then zf_MMC_from_b407 N   u
  else if x0 = 261 then zf_MMC_from_b407 N   u
  else if x0 = 262 then zf_MMC_from_b410 N   u
  else if x0 = 263 then zf_MMC_from_b410 N   u
  else zf_MMC_from_b413 N   u
