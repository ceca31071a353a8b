def zf_MMC_to_b384 (N : Nat)   (u : zU) : Option (Int32 × zU) :=
  some (126, u)
def zf_MMC_to_b387 (N : Nat)   (u : zU) : Option (Int32 × zU) :=
  some (125, u)
def zf_MMC_to_b390 (N : Nat)   (u : zU) : Option (Int32 × zU) :=
  some (124, u)
def zf_MMC_to_b393 (N : Nat)   (u : zU) : Option (Int32 × zU) :=
  some (127, u)
def zf_MMC_to (N : Nat) (x0 : Int32) (u : zU) : Option (Int32 × zU) :=
  if x0 = 172 then zf_MMC_to_b384 N   u
  else if x0 = 173 then zf_MMC_to_b384 N   u
  else if x0 = 174 then zf_MMC_to_b384 N   u
  else if x0 = 175 then zf_MMC_to_b384 N   u
  else if x0 = 176 then zf_MMC_to_b384 N   u
  else if x0 = 177 then zf_MMC_to_b384 N   u
  else if x0 = 178 then zf_MMC_to_b387 N   u
  else if x0 = 179 then zf_MMC_to_b387 N   u
  else if x0 = 180 then zf_MMC_to_b387 N   u
  else if x0 = 181 then zf_MMC_to_b387 N   u
  else if x0 = 182 then zf_MMC_to_b387 N   u
  else if x0 = 183 then zf_MMC_to_b390 N   u
  else if x0 = 184 then zf_MMC_to_b390 N   u
  else if x0 = 185 then zf_MMC_to_b390 N   u
  else if x0 = 186 then zf_MMC_to_b390 N   u
  else if x0 = 187 then zf_MMC_to_b390 N   u
  else if x0 = 188 then zf_MMC_to_b393 N   u
  else if x0 = 189 then zf_MMC_to_b384 N   u
  else if x0 = 190 then zf_MMC_to_b387 N   u
  else if x0 = 191 then zf_MMC_to_b390 N   u
  else if x0 = 192 then zf_MMC_to_b393 N   u
  else if x0 = 193 then zf_MMC_to_b393 N   u
  else if x0 = 194 then zf_MMC_to_b384 N   u
  else if x0 = 195 then zf_MMC_to_b384 N   u
  else if x0 = 196 then zf_MMC_to_b384 N   u
  else if x0 = 197 then zf_MMC_to_b393 N   u
  else if x0 = 198 then zf_MMC_to_b393 N   u
  else if x0 = 199 then zf_MMC_to_b393 N   u
  else if x0 = 200 then zf_MMC_to_b393 N   u
  else if x0 = 201 then zf_MMC_to_b393 N   u
  else if x0 = 202 then zf_MMC_to_b393 N   u
  else if x0 = 203 then zf_MMC_to_b393 N   u
  else if x0 = 204 then zf_MMC_to_b393 N   u
  else if x0 = 205 then zf_MMC_to_b393 N   u
  else if x0 = 206 then zf_MMC_to_b393 N   u
  else if x0 = 207 then zf_MMC_to_b393 N   u
  else if x0 = 208 then zf_MMC_to_b393 N   u
  else if x0 = 209 then zf_MMC_to_b393 N   u
  else if x0 = 210 then zf_MMC_to_b393 N   u
  else if x0 = 211 then zf_MMC_to_b393 N   u
  else if x0 = 212 then zf_MMC_to_b393 N   u
  else if x0 = 213 then zf_MMC_to_b393 N   u
  else if x0 = 214 then zf_MMC_to_b393 N   u
  else if x0 = 215 then zf_MMC_to_b393 N   u
  else if x0 = 216 then zf_MMC_to_b393 N   u
  else if x0 = 217 then zf_MMC_to_b393 N   u
  else if x0 = 218 then zf_MMC_to_b393 N   u
  else if x0 = 219 then zf_MMC_to_b393 N   u
  else if x0 = 220 then zf_MMC_to_b393 N   u
  else if x0 = 221 then zf_MMC_to_b393 N   u
  else if x0 = 222 then zf_MMC_to_b393 N   u
  else if x0 = 223 then zf_MMC_to_b393 N   u
  else if x0 = 224 then zf_MMC_to_b393 N   u
  else if x0 = 225 then zf_MMC_to_b393 N   u
  else if x0 = 226 then zf_MMC_to_b393 N   u
  else if x0 = 227 then zf_MMC_to_b393 N   u
  else if x0 = 228 then zf_MMC_to_b393 N   u
  else if x0 = 229 then zf_MMC_to_b393 N   u
  else if x0 = 230 then zf_MMC_to_b393 N   u
  else if x0 = 231 then zf_MMC_to_b393 N   u
  else if x0 = 232 then zf_MMC_to_b393 N   u
  else if x0 = 233 then zf_MMC_to_b393 N   u
  else if x0 = 234 then zf_MMC_to_b393 N   u
  else if x0 = 235 then zf_MMC_to_b393 N   u
  else if x0 = 236 then zf_MMC_to_b393 N   u
  else if x0 = 237 then zf_MMC_to_b393 N   u
  else if x0 = 238 then zf_MMC_to_b393 N   u
  else if x0 = 239 then zf_MMC_to_b393 N   u
  else if x0 = 240 then zf_MMC_to_b393 N   u
  else if x0 = 241 then zf_MMC_to_b393 N   u
  else if x0 = 242 then zf_MMC_to_b393 N   u
  else if x0 = 243 then zf_MMC_to_b393 N   u
  else if x0 = 244 then zf_MMC_to_b393 N   u
  else if x0 = 245 then zf_MMC_to_b393 N   u
  else if x0 = 246 then zf_MMC_to_b393 N   u
  else if x0 = 247 then zf_MMC_to_b393 N   u
  else if x0 = 248 then zf_MMC_to_b393 N   u
  else if x0 = 249 then zf_MMC_to_b393 N   u
  else if x0 = 250 then zf_MMC_to_b393 N   u
  else if x0 = 251 then zf_MMC_to_b393 N   u
  else if x0 = 252 then zf_MMC_to_b393 N   u
  else if x0 = 253 then zf_MMC_to_b393 N   u
  else if x0 = 254 then zf_MMC_to_b393 N   u
  else if x0 = 255 then zf_MMC_to_b393 N   u
  else if x0 = 256 then zf_MMC_to_b393 N   u
  else if x0 = 257 then zf_MMC_to_b393 N   u
  else if x0 = 258 then zf_MMC_to_b393 N   u
  else if x0 = 259 then zf_MMC_to_b393 N   u
  else if x0 = 260 then zf_MMC_to_b384 N   u
  else if x0 = 261 then zf_MMC_to_b384 N   u
  else if x0 = 262 then zf_MMC_to_b384 N   u
  else if x0 = 263 then zf_MMC_to_b384 N   u
  else zf_MMC_to_b393 N   u
def zf_MMC_number_0_b223 (N : Nat)   (u : zU) : Option (Unit × zU) :=
  some ((), u)
def zf_MMC_number_0_b203 (N : Nat)  (s0 : Int32) (u : zU) : Option (Unit × zU) :=
  zbd (zf_MMC_calculate_0 N s0 124 u) (fun r1 u2 =>
  zf_MMC_number_0_b223 N   u2)
def zf_MMC_number_0_b175 (N : Nat)  (s0 : Int32) (u : zU) : Option (Unit × zU) :=
  zbd (zf_MMC_calculate_0 N s0 125 u) (fun r1 u2 =>
  zf_MMC_number_0_b223 N   u2)
def zf_MMC_number_0_b147 (N : Nat)  (s0 : Int32) (u : zU) : Option (Unit × zU) :=
  zbd (zf_MMC_calculate_0 N s0 126 u) (fun r1 u2 =>
  zf_MMC_number_0_b223 N   u2)
def zf_MMC_number_0_b120 (N : Nat)  (s0 : Int32) (u : zU) : Option (Unit × zU) :=
  zbd (zf_MMC_calculate_0 N s0 127 u) (fun r1 u2 =>
  zf_MMC_number_0_b223 N   u2)
def zf_MMC_number_0 (N : Nat) (x1 : Int32) (u : zU) : Option (Unit × zU) :=
  if x1 = 69 then
  zbd (zf_MMC_one_0 N 127 127 u) (fun r39 u40 =>
    zf_MMC_number_0_b223 N   u40)
  else
  if 80 ≤ x1 then
    if x1 = 80 then
      zbd (zf_MMC_one_0 N 126 127 u) (fun r33 u34 =>
        zf_MMC_number_0_b223 N   u34)
      else
      if 91 ≤ x1 then
        if 97 ≤ x1 then
          if 103 ≤ x1 then
            if 121 ≤ x1 then
              if 139 ≤ x1 then
                if 153 ≤ x1 then
                  if 167 ≤ x1 then
                    zbd (zf_MMC_from N x1 u) (fun r11 u12 =>
                      zbd (zf_MMC_to N x1 u12) (fun r14 u15 =>
                      zbd (zf_MMC_one_0 N r11 r14 u15) (fun r17 u18 =>
                      zf_MMC_number_0_b223 N   u18)))
                    else
                    if 160 ≤ x1 then
                      zf_MMC_number_0_b203 N  0 u
                      else
                      zf_MMC_number_0_b203 N  1 u
                  else
                  if 146 ≤ x1 then
                    zf_MMC_number_0_b175 N  0 u
                    else
                    zf_MMC_number_0_b175 N  1 u
                else
                if 124 ≤ x1 then
                  zf_MMC_number_0_b147 N  0 u
                  else
                  zf_MMC_number_0_b147 N  1 u
              else
              if 106 ≤ x1 then
                zf_MMC_number_0_b120 N  0 u
                else
                zf_MMC_number_0_b120 N  1 u
            else
            zbd (zf_MMC_two_0 N 124 127 u) (fun r24 u25 =>
              zf_MMC_number_0_b223 N   u25)
          else
          zbd (zf_MMC_two_0 N 125 127 u) (fun r27 u28 =>
            zf_MMC_number_0_b223 N   u28)
        else
        zbd (zf_MMC_two_0 N 126 127 u) (fun r30 u31 =>
          zf_MMC_number_0_b223 N   u31)
    else
    zbd (zf_MMC_two_0 N 127 127 u) (fun r36 u37 =>
      zf_MMC_number_0_b223 N   u37)
def zf_MMC_perform_0_b80 (N : Nat)   (u : zU) : Option (Unit × zU) :=
  some ((), u)
def zf_MMC_perform_0_b66 (N : Nat)  (x1 : Int32) (u : zU) : Option (Unit × zU) :=
  zbd (zf_MMC_number_0 N x1 u) (fun r1 u2 =>
  zf_MMC_perform_0_b80 N   u2)
def zf_MMC_perform_0_b74 (N : Nat)  (x1 : Int32) (x2 : Int32) (u : zU) : Option (Unit × zU) :=
  zbd (zf_MMC_other_0 N x1 x2 u) (fun r1 u2 =>
  zf_MMC_perform_0_b80 N   u2)
def zf_MMC_perform_0 (N : Nat) (x1 : Int32) (x2 : Int32) (x3 : Int32) (u : zU) : Option (Unit × zU) :=
  if 18 ≤ x1 then
  if 39 ≤ x1 then
    if 69 ≤ x1 then
      if x1 < 197 then
        zf_MMC_perform_0_b66 N  x1 u
        else
        if x1 ≤ 255 then
          zf_MMC_perform_0_b74 N  x1 x2 u
          else
          if 264 ≤ x1 then
            zf_MMC_perform_0_b74 N  x1 x2 u
            else
            zf_MMC_perform_0_b66 N  x1 u
      else
      zbd (zf_MMC_memory_0 N x1 u) (fun r7 u8 =>
        zf_MMC_perform_0_b80 N   u8)
    else
    zbd (zf_MMC_named_0 N x1 x2 u) (fun r10 u11 =>
      zf_MMC_perform_0_b80 N   u11)
  else
  zbd (zf_MMC_control_0 N x1 x2 x3 u) (fun r13 u14 =>
    zf_MMC_perform_0_b80 N   u14)
def zf_MMC_step_0_b255 (N : Nat)   (u : zU) : Option (Int32 × zU) :=
  some (0, u)
def zf_MMC_step_0_b243 (N : Nat)   (u : zU) : Option (Int32 × zU) :=
  if (gi u 10) = 0 then
  zf_MMC_step_0_b255 N   (si u 1 2)
  else
  zf_MMC_step_0_b255 N   u
def zf_MMC_step_0_b226 (N : Nat)   (u : zU) : Option (Int32 × zU) :=
  if (gi u 16) = 0 then
  zf_MMC_step_0_b243 N   u
  else
  zf_MMC_step_0_b243 N   (si u 10 ((gi u 10) - 1))
def zf_MMC_step_0_b203 (N : Nat)  (x4 : Int32) (u : zU) : Option (Int32 × zU) :=
  if (gi u 17) = 0 then
  zf_MMC_step_0_b226 N   u
  else
  zck (zin x4 62) (zck (zin x4 62) (zf_MMC_step_0_b226 N   (sa (sa u 11 x4 5) 14 x4 (vp_nar .boolean 0))))
def zf_MMC_step_0_b186 (N : Nat)  (x4 : Int32) (u : zU) : Option (Int32 × zU) :=
  if (gi u 15) = 0 then
  zf_MMC_step_0_b203 N  x4 u
  else
  zf_MMC_step_0_b203 N  x4 (si u 10 ((gi u 10) + 1))
def zf_MMC_step_0_b134 (N : Nat)  : Nat → Int32 → zU → Option (Int32 × zU)
  | 0, _, _ => none
  | n + 1, x4, u =>
  if (gi u 13) ≤ x4 then
  if (gi u 14) = 0 then
    zf_MMC_step_0_b186 N  ((gi u 10) - 1) u
    else
    zck (zin ((gi u 10) - 1) 62) (zf_MMC_step_0_b186 N  ((gi u 10) - 1) (sa u 14 ((gi u 10) - 1) (vp_nar .boolean 1)))
  else
  zck (zin x4 600) (zck (zin x4 260) (zf_MMC_step_0_b134 N  n (x4 + 1) (sa u 10 x4 (ga u 15 x4))))
def zf_MMC_step_0_b96 (N : Nat)   (u : zU) : Option (Int32 × zU) :=
  if (gi u 11) ≤ 0 then
  zf_MMC_step_0_b134 N  N 0 (si (si (si u 3 1) 8 0) 9 (gi u 13))
  else
  some ((gi u 11), (si u 1 0))
def zf_MMC_step_0_b26 (N : Nat)  : Nat → Int32 → Int32 → Int32 → Int32 → zU → Option (Int32 × zU)
  | 0, _, _, _, _, _ => none
  | n + 1, x1, x2, x3, x4, u =>
  if (gi u 9) ≤ x4 then
  zbd (zf_MMC_examine_0 N x1 x2 x3 (si (si (si (si u 14 0) 15 0) 16 0) 17 0)) (fun r2 u3 =>
    if (gi u3 11) = 0 then
    zbd (zf_MMC_perform_0 N x1 x2 x3 u3) (fun r6 u7 =>
      zf_MMC_step_0_b96 N   u7)
    else
    zf_MMC_step_0_b96 N   u3)
  else
  zck (zin x4 260) (zck (zin x4 600) (zf_MMC_step_0_b26 N  n x1 x2 x3 (x4 + 1) (sa u 15 x4 (ga u 10 x4))))
def zf_MMC_step_0 (N : Nat) (x1 : Int32) (x2 : Int32) (x3 : Int32) (u : zU) : Option (Int32 × zU) :=
  if (gi u 1) = 1 then
  zf_MMC_step_0_b26 N  N x1 x2 x3 0 (si (si u 11 0) 13 (gi u 9))
  else
  some ((-1), u)
def zf_MMC_state_0 (N : Nat)  (u : zU) : Option (Int32 × zU) :=
  some ((gi u 1), u)
def zf_MMC_look_0_b17 (N : Nat)   (u : zU) : Option (Int64 × zU) :=
  some ((-1), u)
def zf_MMC_look_0_b136 (N : Nat)  (s0 : Int64) (u : zU) : Option (Int64 × zU) :=
  some (s0, u)
def zf_MMC_look_0_b33 (N : Nat)  : Nat → Int32 → Int32 → Int64 → Int32 → zU → Option (Int64 × zU)
  | 0, _, _, _, _, _ => none
  | n + 1, x1, x2, x3, x5, u =>
  if (gi u 6) ≤ x5 then
  if x1 = 0 then
    zf_MMC_look_0_b136 N  (Int32.toInt64 (gi u 9)) u
    else
    if x1 = 1 then
      zf_MMC_look_0_b136 N  (Int32.toInt64 (gi u 10)) u
      else
      if x1 = 2 then
        zck (zin x2 62) (zf_MMC_look_0_b136 N  (Int32.toInt64 (ga u 13 x2)) u)
        else
        if x1 = 3 then
          zck (zin x2 62) (if (ga u 14 x2) = 0 then
            zf_MMC_look_0_b136 N  1 u
            else
            zf_MMC_look_0_b136 N  0 u)
          else
          if x1 = 4 then
            zck (zin x2 62) (zf_MMC_look_0_b136 N  (Int32.toInt64 (ga u 11 x2)) u)
            else
            zf_MMC_look_0_b136 N  x3 u
  else
  zck (zin x5 60) (zf_MMC_look_0_b33 N  n x1 x2 (x3 + (gb u 0 x5)) (x5 + 1) u)
def zf_MMC_look_0 (N : Nat) (x1 : Int32) (u : zU) : Option (Int64 × zU) :=
  if (gi u 1) = 1 then
  if x1 < 0 then
    zf_MMC_look_0_b17 N   u
    else
    if x1 ≤ 5 then
      zf_MMC_look_0_b33 N  N x1 ((gi u 10) - 1) 0 0 u
      else
      zf_MMC_look_0_b17 N   u
  else
  zf_MMC_look_0_b17 N   u
def zf_MMC_operand_0_b37 (N : Nat)  (s0 : Int32) (u : zU) : Option (Int32 × zU) :=
  some (s0, u)
def zf_MMC_operand_0_b20 (N : Nat)   (u : zU) : Option (Int32 × zU) :=
  zf_MMC_operand_0_b37 N  (-1) u
def zf_MMC_operand_0 (N : Nat) (x1 : Int32) (u : zU) : Option (Int32 × zU) :=
  if (gi u 1) = 1 then
  if x1 < 0 then
    zf_MMC_operand_0_b20 N   u
    else
    if x1 < (gi u 9) then
      zck (zin (((gi u 9) - 1) - x1) 260) (zf_MMC_operand_0_b37 N  (ga u 10 (((gi u 9) - 1) - x1)) u)
      else
      zf_MMC_operand_0_b20 N   u
  else
  zf_MMC_operand_0_b20 N   u
