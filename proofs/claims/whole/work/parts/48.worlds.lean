def wC (a : Nat → Nat) (z : zZ) (u : zU) : va_W := [(a 0, .inr (0, [.ref (a 1), .ref (a 26)])),
  (a 1, .inr (6, [.ref (a 2), .ref (a 5), .ref (a 8), .ref (a 11), .ref (a 14), .ref (a 17), .ref (a 20), .ref (a 23), .int (gi u 0)])),
  (a 2, .inr (3, [.int 0, .ref (a 3), .ref (a 4)])),
  (a 3, .inl (z.1, 40, .inl (u.2.2.1 0))),
  (a 4, .inl (z.1, 480, .inl (u.2.2.1 1))),
  (a 5, .inr (3, [.int 1, .ref (a 6), .ref (a 7)])),
  (a 6, .inl (z.1, 40, .inl (u.2.2.1 2))),
  (a 7, .inl (z.1, 480, .inl (u.2.2.1 3))),
  (a 8, .inr (4, [.ref (a 9), .ref (a 10), .int (gi u 1)])),
  (a 9, .inl (z.1, 40, .inl (u.2.2.1 4))),
  (a 10, .inl (z.2.1, 40, .inl (u.2.2.1 5))),
  (a 11, .inr (4, [.ref (a 12), .ref (a 13), .int (gi u 2)])),
  (a 12, .inl (z.1, 40, .inl (u.2.2.1 6))),
  (a 13, .inl (z.2.1, 40, .inl (u.2.2.1 7))),
  (a 14, .inr (4, [.ref (a 15), .ref (a 16), .int (gi u 3)])),
  (a 15, .inl (z.1, 40, .inl (u.2.2.1 8))),
  (a 16, .inl (z.2.1, 40, .inl (u.2.2.1 9))),
  (a 17, .inr (4, [.ref (a 18), .ref (a 19), .int (gi u 4)])),
  (a 18, .inl (z.1, 40, .inl (u.2.2.1 10))),
  (a 19, .inl (z.2.1, 40, .inl (u.2.2.1 11))),
  (a 20, .inr (4, [.ref (a 21), .ref (a 22), .int (gi u 5)])),
  (a 21, .inl (z.1, 40, .inl (u.2.2.1 12))),
  (a 22, .inl (z.2.1, 40, .inl (u.2.2.1 13))),
  (a 23, .inr (4, [.ref (a 24), .ref (a 25), .int (gi u 6)])),
  (a 24, .inl (z.1, 40, .inl (u.2.2.1 14))),
  (a 25, .inl (z.2.1, 40, .inl (u.2.2.1 15))),
  (a 26, .inr (1, [.ref (a 1), .ref (a 31), .ref (a 27), .ref (a 30), .int (gi u 7), .int (gi u 8), .int (gi u 9), .int (gi u 10), .int (gi u 11), .int (gi u 12)])),
  (a 27, .inr (2, [.ref (a 28), .ref (a 29), .int (gi u 13), .long (gj u 0)])),
  (a 28, .inl (z.1, 52, .inl (u.2.2.1 16))),
  (a 29, .inl (z.2.2, 52, .inr (.inl (u.2.2.2 0)))),
  (a 30, .inl (z.1, 20, .inl (u.2.2.1 17))),
  (a 31, .inr (5, [.ref (a 1), .ref (a 32), .ref (a 33), .ref (a 34), .ref (a 35), .ref (a 36), .ref (a 37), .int (gi u 14), .int (gi u 15), .int (gi u 16)])),
  (a 32, .inl (z.1, 200, .inl (u.2.2.1 18))),
  (a 33, .inl (z.1, 60, .inl (u.2.2.1 19))),
  (a 34, .inl (z.1, 60, .inl (u.2.2.1 20))),
  (a 35, .inl (z.1, 60, .inl (u.2.2.1 21))),
  (a 36, .inl (z.2.1, 60, .inl (u.2.2.1 22))),
  (a 37, .inl (z.1, 12, .inl (u.2.2.1 23)))]
theorem wC_at_0 (a : Nat → Nat) (z : zZ) (u : zU) : (wC a z u)[0]? = some (a 0, .inr (0, [.ref (a 1), .ref (a 26)])) := rfl
theorem wC_at_1 (a : Nat → Nat) (z : zZ) (u : zU) : (wC a z u)[1]? = some (a 1, .inr (6, [.ref (a 2), .ref (a 5), .ref (a 8), .ref (a 11), .ref (a 14), .ref (a 17), .ref (a 20), .ref (a 23), .int (gi u 0)])) := rfl
theorem wC_at_2 (a : Nat → Nat) (z : zZ) (u : zU) : (wC a z u)[2]? = some (a 2, .inr (3, [.int 0, .ref (a 3), .ref (a 4)])) := rfl
theorem wC_at_3 (a : Nat → Nat) (z : zZ) (u : zU) : (wC a z u)[3]? = some (a 3, .inl (z.1, 40, .inl (u.2.2.1 0))) := rfl
theorem wC_at_4 (a : Nat → Nat) (z : zZ) (u : zU) : (wC a z u)[4]? = some (a 4, .inl (z.1, 480, .inl (u.2.2.1 1))) := rfl
theorem wC_at_5 (a : Nat → Nat) (z : zZ) (u : zU) : (wC a z u)[5]? = some (a 5, .inr (3, [.int 1, .ref (a 6), .ref (a 7)])) := rfl
theorem wC_at_6 (a : Nat → Nat) (z : zZ) (u : zU) : (wC a z u)[6]? = some (a 6, .inl (z.1, 40, .inl (u.2.2.1 2))) := rfl
theorem wC_at_7 (a : Nat → Nat) (z : zZ) (u : zU) : (wC a z u)[7]? = some (a 7, .inl (z.1, 480, .inl (u.2.2.1 3))) := rfl
theorem wC_at_8 (a : Nat → Nat) (z : zZ) (u : zU) : (wC a z u)[8]? = some (a 8, .inr (4, [.ref (a 9), .ref (a 10), .int (gi u 1)])) := rfl
theorem wC_at_9 (a : Nat → Nat) (z : zZ) (u : zU) : (wC a z u)[9]? = some (a 9, .inl (z.1, 40, .inl (u.2.2.1 4))) := rfl
theorem wC_at_10 (a : Nat → Nat) (z : zZ) (u : zU) : (wC a z u)[10]? = some (a 10, .inl (z.2.1, 40, .inl (u.2.2.1 5))) := rfl
theorem wC_at_11 (a : Nat → Nat) (z : zZ) (u : zU) : (wC a z u)[11]? = some (a 11, .inr (4, [.ref (a 12), .ref (a 13), .int (gi u 2)])) := rfl
theorem wC_at_12 (a : Nat → Nat) (z : zZ) (u : zU) : (wC a z u)[12]? = some (a 12, .inl (z.1, 40, .inl (u.2.2.1 6))) := rfl
theorem wC_at_13 (a : Nat → Nat) (z : zZ) (u : zU) : (wC a z u)[13]? = some (a 13, .inl (z.2.1, 40, .inl (u.2.2.1 7))) := rfl
theorem wC_at_14 (a : Nat → Nat) (z : zZ) (u : zU) : (wC a z u)[14]? = some (a 14, .inr (4, [.ref (a 15), .ref (a 16), .int (gi u 3)])) := rfl
theorem wC_at_15 (a : Nat → Nat) (z : zZ) (u : zU) : (wC a z u)[15]? = some (a 15, .inl (z.1, 40, .inl (u.2.2.1 8))) := rfl
theorem wC_at_16 (a : Nat → Nat) (z : zZ) (u : zU) : (wC a z u)[16]? = some (a 16, .inl (z.2.1, 40, .inl (u.2.2.1 9))) := rfl
theorem wC_at_17 (a : Nat → Nat) (z : zZ) (u : zU) : (wC a z u)[17]? = some (a 17, .inr (4, [.ref (a 18), .ref (a 19), .int (gi u 4)])) := rfl
theorem wC_at_18 (a : Nat → Nat) (z : zZ) (u : zU) : (wC a z u)[18]? = some (a 18, .inl (z.1, 40, .inl (u.2.2.1 10))) := rfl
theorem wC_at_19 (a : Nat → Nat) (z : zZ) (u : zU) : (wC a z u)[19]? = some (a 19, .inl (z.2.1, 40, .inl (u.2.2.1 11))) := rfl
theorem wC_at_20 (a : Nat → Nat) (z : zZ) (u : zU) : (wC a z u)[20]? = some (a 20, .inr (4, [.ref (a 21), .ref (a 22), .int (gi u 5)])) := rfl
theorem wC_at_21 (a : Nat → Nat) (z : zZ) (u : zU) : (wC a z u)[21]? = some (a 21, .inl (z.1, 40, .inl (u.2.2.1 12))) := rfl
theorem wC_at_22 (a : Nat → Nat) (z : zZ) (u : zU) : (wC a z u)[22]? = some (a 22, .inl (z.2.1, 40, .inl (u.2.2.1 13))) := rfl
theorem wC_at_23 (a : Nat → Nat) (z : zZ) (u : zU) : (wC a z u)[23]? = some (a 23, .inr (4, [.ref (a 24), .ref (a 25), .int (gi u 6)])) := rfl
theorem wC_at_24 (a : Nat → Nat) (z : zZ) (u : zU) : (wC a z u)[24]? = some (a 24, .inl (z.1, 40, .inl (u.2.2.1 14))) := rfl
theorem wC_at_25 (a : Nat → Nat) (z : zZ) (u : zU) : (wC a z u)[25]? = some (a 25, .inl (z.2.1, 40, .inl (u.2.2.1 15))) := rfl
theorem wC_at_26 (a : Nat → Nat) (z : zZ) (u : zU) : (wC a z u)[26]? = some (a 26, .inr (1, [.ref (a 1), .ref (a 31), .ref (a 27), .ref (a 30), .int (gi u 7), .int (gi u 8), .int (gi u 9), .int (gi u 10), .int (gi u 11), .int (gi u 12)])) := rfl
theorem wC_at_27 (a : Nat → Nat) (z : zZ) (u : zU) : (wC a z u)[27]? = some (a 27, .inr (2, [.ref (a 28), .ref (a 29), .int (gi u 13), .long (gj u 0)])) := rfl
theorem wC_at_28 (a : Nat → Nat) (z : zZ) (u : zU) : (wC a z u)[28]? = some (a 28, .inl (z.1, 52, .inl (u.2.2.1 16))) := rfl
theorem wC_at_29 (a : Nat → Nat) (z : zZ) (u : zU) : (wC a z u)[29]? = some (a 29, .inl (z.2.2, 52, .inr (.inl (u.2.2.2 0)))) := rfl
theorem wC_at_30 (a : Nat → Nat) (z : zZ) (u : zU) : (wC a z u)[30]? = some (a 30, .inl (z.1, 20, .inl (u.2.2.1 17))) := rfl
theorem wC_at_31 (a : Nat → Nat) (z : zZ) (u : zU) : (wC a z u)[31]? = some (a 31, .inr (5, [.ref (a 1), .ref (a 32), .ref (a 33), .ref (a 34), .ref (a 35), .ref (a 36), .ref (a 37), .int (gi u 14), .int (gi u 15), .int (gi u 16)])) := rfl
theorem wC_at_32 (a : Nat → Nat) (z : zZ) (u : zU) : (wC a z u)[32]? = some (a 32, .inl (z.1, 200, .inl (u.2.2.1 18))) := rfl
theorem wC_at_33 (a : Nat → Nat) (z : zZ) (u : zU) : (wC a z u)[33]? = some (a 33, .inl (z.1, 60, .inl (u.2.2.1 19))) := rfl
theorem wC_at_34 (a : Nat → Nat) (z : zZ) (u : zU) : (wC a z u)[34]? = some (a 34, .inl (z.1, 60, .inl (u.2.2.1 20))) := rfl
theorem wC_at_35 (a : Nat → Nat) (z : zZ) (u : zU) : (wC a z u)[35]? = some (a 35, .inl (z.1, 60, .inl (u.2.2.1 21))) := rfl
theorem wC_at_36 (a : Nat → Nat) (z : zZ) (u : zU) : (wC a z u)[36]? = some (a 36, .inl (z.2.1, 60, .inl (u.2.2.1 22))) := rfl
theorem wC_at_37 (a : Nat → Nat) (z : zZ) (u : zU) : (wC a z u)[37]? = some (a 37, .inl (z.1, 12, .inl (u.2.2.1 23))) := rfl
theorem wC_si_0 (a : Nat → Nat) (z : zZ) (u : zU) (x : Int32) : (wC a z u).set 1 (a 1, .inr (6, [.ref (a 2), .ref (a 5), .ref (a 8), .ref (a 11), .ref (a 14), .ref (a 17), .ref (a 20), .ref (a 23), .int (gi u 0)].set 8 (.int x))) = wC a z (si u 0 x) := rfl
theorem wC_sa_0 (a : Nat → Nat) (z : zZ) (u : zU) (i x : Int32) : (wC a z u).set 3 (a 3, .inl (z.1, 40, .inl (upd (u.2.2.1 0) i.toNatClampNeg x))) = wC a z (sa u 0 i x) := rfl
theorem wC_sa_1 (a : Nat → Nat) (z : zZ) (u : zU) (i x : Int32) : (wC a z u).set 4 (a 4, .inl (z.1, 480, .inl (upd (u.2.2.1 1) i.toNatClampNeg x))) = wC a z (sa u 1 i x) := rfl
theorem wC_sa_2 (a : Nat → Nat) (z : zZ) (u : zU) (i x : Int32) : (wC a z u).set 6 (a 6, .inl (z.1, 40, .inl (upd (u.2.2.1 2) i.toNatClampNeg x))) = wC a z (sa u 2 i x) := rfl
theorem wC_sa_3 (a : Nat → Nat) (z : zZ) (u : zU) (i x : Int32) : (wC a z u).set 7 (a 7, .inl (z.1, 480, .inl (upd (u.2.2.1 3) i.toNatClampNeg x))) = wC a z (sa u 3 i x) := rfl
theorem wC_si_1 (a : Nat → Nat) (z : zZ) (u : zU) (x : Int32) : (wC a z u).set 8 (a 8, .inr (4, [.ref (a 9), .ref (a 10), .int (gi u 1)].set 2 (.int x))) = wC a z (si u 1 x) := rfl
theorem wC_sa_4 (a : Nat → Nat) (z : zZ) (u : zU) (i x : Int32) : (wC a z u).set 9 (a 9, .inl (z.1, 40, .inl (upd (u.2.2.1 4) i.toNatClampNeg x))) = wC a z (sa u 4 i x) := rfl
theorem wC_sa_5 (a : Nat → Nat) (z : zZ) (u : zU) (i x : Int32) : (wC a z u).set 10 (a 10, .inl (z.2.1, 40, .inl (upd (u.2.2.1 5) i.toNatClampNeg x))) = wC a z (sa u 5 i x) := rfl
theorem wC_si_2 (a : Nat → Nat) (z : zZ) (u : zU) (x : Int32) : (wC a z u).set 11 (a 11, .inr (4, [.ref (a 12), .ref (a 13), .int (gi u 2)].set 2 (.int x))) = wC a z (si u 2 x) := rfl
theorem wC_sa_6 (a : Nat → Nat) (z : zZ) (u : zU) (i x : Int32) : (wC a z u).set 12 (a 12, .inl (z.1, 40, .inl (upd (u.2.2.1 6) i.toNatClampNeg x))) = wC a z (sa u 6 i x) := rfl
theorem wC_sa_7 (a : Nat → Nat) (z : zZ) (u : zU) (i x : Int32) : (wC a z u).set 13 (a 13, .inl (z.2.1, 40, .inl (upd (u.2.2.1 7) i.toNatClampNeg x))) = wC a z (sa u 7 i x) := rfl
theorem wC_si_3 (a : Nat → Nat) (z : zZ) (u : zU) (x : Int32) : (wC a z u).set 14 (a 14, .inr (4, [.ref (a 15), .ref (a 16), .int (gi u 3)].set 2 (.int x))) = wC a z (si u 3 x) := rfl
theorem wC_sa_8 (a : Nat → Nat) (z : zZ) (u : zU) (i x : Int32) : (wC a z u).set 15 (a 15, .inl (z.1, 40, .inl (upd (u.2.2.1 8) i.toNatClampNeg x))) = wC a z (sa u 8 i x) := rfl
theorem wC_sa_9 (a : Nat → Nat) (z : zZ) (u : zU) (i x : Int32) : (wC a z u).set 16 (a 16, .inl (z.2.1, 40, .inl (upd (u.2.2.1 9) i.toNatClampNeg x))) = wC a z (sa u 9 i x) := rfl
theorem wC_si_4 (a : Nat → Nat) (z : zZ) (u : zU) (x : Int32) : (wC a z u).set 17 (a 17, .inr (4, [.ref (a 18), .ref (a 19), .int (gi u 4)].set 2 (.int x))) = wC a z (si u 4 x) := rfl
theorem wC_sa_10 (a : Nat → Nat) (z : zZ) (u : zU) (i x : Int32) : (wC a z u).set 18 (a 18, .inl (z.1, 40, .inl (upd (u.2.2.1 10) i.toNatClampNeg x))) = wC a z (sa u 10 i x) := rfl
theorem wC_sa_11 (a : Nat → Nat) (z : zZ) (u : zU) (i x : Int32) : (wC a z u).set 19 (a 19, .inl (z.2.1, 40, .inl (upd (u.2.2.1 11) i.toNatClampNeg x))) = wC a z (sa u 11 i x) := rfl
theorem wC_si_5 (a : Nat → Nat) (z : zZ) (u : zU) (x : Int32) : (wC a z u).set 20 (a 20, .inr (4, [.ref (a 21), .ref (a 22), .int (gi u 5)].set 2 (.int x))) = wC a z (si u 5 x) := rfl
theorem wC_sa_12 (a : Nat → Nat) (z : zZ) (u : zU) (i x : Int32) : (wC a z u).set 21 (a 21, .inl (z.1, 40, .inl (upd (u.2.2.1 12) i.toNatClampNeg x))) = wC a z (sa u 12 i x) := rfl
theorem wC_sa_13 (a : Nat → Nat) (z : zZ) (u : zU) (i x : Int32) : (wC a z u).set 22 (a 22, .inl (z.2.1, 40, .inl (upd (u.2.2.1 13) i.toNatClampNeg x))) = wC a z (sa u 13 i x) := rfl
theorem wC_si_6 (a : Nat → Nat) (z : zZ) (u : zU) (x : Int32) : (wC a z u).set 23 (a 23, .inr (4, [.ref (a 24), .ref (a 25), .int (gi u 6)].set 2 (.int x))) = wC a z (si u 6 x) := rfl
theorem wC_sa_14 (a : Nat → Nat) (z : zZ) (u : zU) (i x : Int32) : (wC a z u).set 24 (a 24, .inl (z.1, 40, .inl (upd (u.2.2.1 14) i.toNatClampNeg x))) = wC a z (sa u 14 i x) := rfl
theorem wC_sa_15 (a : Nat → Nat) (z : zZ) (u : zU) (i x : Int32) : (wC a z u).set 25 (a 25, .inl (z.2.1, 40, .inl (upd (u.2.2.1 15) i.toNatClampNeg x))) = wC a z (sa u 15 i x) := rfl
theorem wC_si_7 (a : Nat → Nat) (z : zZ) (u : zU) (x : Int32) : (wC a z u).set 26 (a 26, .inr (1, [.ref (a 1), .ref (a 31), .ref (a 27), .ref (a 30), .int (gi u 7), .int (gi u 8), .int (gi u 9), .int (gi u 10), .int (gi u 11), .int (gi u 12)].set 4 (.int x))) = wC a z (si u 7 x) := rfl
theorem wC_si_8 (a : Nat → Nat) (z : zZ) (u : zU) (x : Int32) : (wC a z u).set 26 (a 26, .inr (1, [.ref (a 1), .ref (a 31), .ref (a 27), .ref (a 30), .int (gi u 7), .int (gi u 8), .int (gi u 9), .int (gi u 10), .int (gi u 11), .int (gi u 12)].set 5 (.int x))) = wC a z (si u 8 x) := rfl
theorem wC_si_9 (a : Nat → Nat) (z : zZ) (u : zU) (x : Int32) : (wC a z u).set 26 (a 26, .inr (1, [.ref (a 1), .ref (a 31), .ref (a 27), .ref (a 30), .int (gi u 7), .int (gi u 8), .int (gi u 9), .int (gi u 10), .int (gi u 11), .int (gi u 12)].set 6 (.int x))) = wC a z (si u 9 x) := rfl
theorem wC_si_10 (a : Nat → Nat) (z : zZ) (u : zU) (x : Int32) : (wC a z u).set 26 (a 26, .inr (1, [.ref (a 1), .ref (a 31), .ref (a 27), .ref (a 30), .int (gi u 7), .int (gi u 8), .int (gi u 9), .int (gi u 10), .int (gi u 11), .int (gi u 12)].set 7 (.int x))) = wC a z (si u 10 x) := rfl
theorem wC_si_11 (a : Nat → Nat) (z : zZ) (u : zU) (x : Int32) : (wC a z u).set 26 (a 26, .inr (1, [.ref (a 1), .ref (a 31), .ref (a 27), .ref (a 30), .int (gi u 7), .int (gi u 8), .int (gi u 9), .int (gi u 10), .int (gi u 11), .int (gi u 12)].set 8 (.int x))) = wC a z (si u 11 x) := rfl
theorem wC_si_12 (a : Nat → Nat) (z : zZ) (u : zU) (x : Int32) : (wC a z u).set 26 (a 26, .inr (1, [.ref (a 1), .ref (a 31), .ref (a 27), .ref (a 30), .int (gi u 7), .int (gi u 8), .int (gi u 9), .int (gi u 10), .int (gi u 11), .int (gi u 12)].set 9 (.int x))) = wC a z (si u 12 x) := rfl
theorem wC_si_13 (a : Nat → Nat) (z : zZ) (u : zU) (x : Int32) : (wC a z u).set 27 (a 27, .inr (2, [.ref (a 28), .ref (a 29), .int (gi u 13), .long (gj u 0)].set 2 (.int x))) = wC a z (si u 13 x) := rfl
theorem wC_sj_0 (a : Nat → Nat) (z : zZ) (u : zU) (x : Int64) : (wC a z u).set 27 (a 27, .inr (2, [.ref (a 28), .ref (a 29), .int (gi u 13), .long (gj u 0)].set 3 (.long x))) = wC a z (sj u 0 x) := rfl
theorem wC_sa_16 (a : Nat → Nat) (z : zZ) (u : zU) (i x : Int32) : (wC a z u).set 28 (a 28, .inl (z.1, 52, .inl (upd (u.2.2.1 16) i.toNatClampNeg x))) = wC a z (sa u 16 i x) := rfl
theorem wC_sb_0 (a : Nat → Nat) (z : zZ) (u : zU) (i : Int32) (x : Int64) : (wC a z u).set 29 (a 29, .inl (z.2.2, 52, .inr (.inl (vp_updL (u.2.2.2 0) i.toNatClampNeg x)))) = wC a z (sb u 0 i x) := rfl
theorem wC_sa_17 (a : Nat → Nat) (z : zZ) (u : zU) (i x : Int32) : (wC a z u).set 30 (a 30, .inl (z.1, 20, .inl (upd (u.2.2.1 17) i.toNatClampNeg x))) = wC a z (sa u 17 i x) := rfl
theorem wC_si_14 (a : Nat → Nat) (z : zZ) (u : zU) (x : Int32) : (wC a z u).set 31 (a 31, .inr (5, [.ref (a 1), .ref (a 32), .ref (a 33), .ref (a 34), .ref (a 35), .ref (a 36), .ref (a 37), .int (gi u 14), .int (gi u 15), .int (gi u 16)].set 7 (.int x))) = wC a z (si u 14 x) := rfl
theorem wC_si_15 (a : Nat → Nat) (z : zZ) (u : zU) (x : Int32) : (wC a z u).set 31 (a 31, .inr (5, [.ref (a 1), .ref (a 32), .ref (a 33), .ref (a 34), .ref (a 35), .ref (a 36), .ref (a 37), .int (gi u 14), .int (gi u 15), .int (gi u 16)].set 8 (.int x))) = wC a z (si u 15 x) := rfl
theorem wC_si_16 (a : Nat → Nat) (z : zZ) (u : zU) (x : Int32) : (wC a z u).set 31 (a 31, .inr (5, [.ref (a 1), .ref (a 32), .ref (a 33), .ref (a 34), .ref (a 35), .ref (a 36), .ref (a 37), .int (gi u 14), .int (gi u 15), .int (gi u 16)].set 9 (.int x))) = wC a z (si u 16 x) := rfl
theorem wC_sa_18 (a : Nat → Nat) (z : zZ) (u : zU) (i x : Int32) : (wC a z u).set 32 (a 32, .inl (z.1, 200, .inl (upd (u.2.2.1 18) i.toNatClampNeg x))) = wC a z (sa u 18 i x) := rfl
theorem wC_sa_19 (a : Nat → Nat) (z : zZ) (u : zU) (i x : Int32) : (wC a z u).set 33 (a 33, .inl (z.1, 60, .inl (upd (u.2.2.1 19) i.toNatClampNeg x))) = wC a z (sa u 19 i x) := rfl
theorem wC_sa_20 (a : Nat → Nat) (z : zZ) (u : zU) (i x : Int32) : (wC a z u).set 34 (a 34, .inl (z.1, 60, .inl (upd (u.2.2.1 20) i.toNatClampNeg x))) = wC a z (sa u 20 i x) := rfl
theorem wC_sa_21 (a : Nat → Nat) (z : zZ) (u : zU) (i x : Int32) : (wC a z u).set 35 (a 35, .inl (z.1, 60, .inl (upd (u.2.2.1 21) i.toNatClampNeg x))) = wC a z (sa u 21 i x) := rfl
theorem wC_sa_22 (a : Nat → Nat) (z : zZ) (u : zU) (i x : Int32) : (wC a z u).set 36 (a 36, .inl (z.2.1, 60, .inl (upd (u.2.2.1 22) i.toNatClampNeg x))) = wC a z (sa u 22 i x) := rfl
theorem wC_sa_23 (a : Nat → Nat) (z : zZ) (u : zU) (i x : Int32) : (wC a z u).set 37 (a 37, .inl (z.1, 12, .inl (upd (u.2.2.1 23) i.toNatClampNeg x))) = wC a z (sa u 23 i x) := rfl
def wM (a : Nat → Nat) (z : zZ) (u : zU) : va_W := [(a 0, .inr (7, [.int (gi u 0), .ref (a 1), .ref (a 2), .ref (a 3), .ref (a 4), .ref (a 5), .ref (a 6), .ref (a 7), .ref (a 8), .int (gi u 1), .int (gi u 2), .int (gi u 3), .int (gi u 4), .int (gi u 5), .long (gj u 0), .int (gi u 6), .int (gi u 7), .ref (a 9), .ref (a 10), .int (gi u 8), .ref (a 11), .int (gi u 9), .int (gi u 10), .ref (a 12), .ref (a 13), .ref (a 14), .ref (a 15), .ref (a 16), .int (gi u 11), .int (gi u 12), .int (gi u 13), .ref (a 17), .int (gi u 14), .int (gi u 15), .int (gi u 16), .int (gi u 17), .ref (a 18), .int (gi u 18), .ref (a 19)])),
  (a 1, .inl (z.1, 40, .inl (u.2.2.1 0))),
  (a 2, .inl (z.1, 40, .inl (u.2.2.1 1))),
  (a 3, .inl (z.1, 480, .inl (u.2.2.1 2))),
  (a 4, .inl (z.1, 480, .inl (u.2.2.1 3))),
  (a 5, .inl (z.1, 6, .inl (u.2.2.1 4))),
  (a 6, .inl (z.1, 240, .inl (u.2.2.1 5))),
  (a 7, .inl (z.1, 240, .inl (u.2.2.1 6))),
  (a 8, .inl (z.2.1, 40, .inl (u.2.2.1 7))),
  (a 9, .inl (z.1, 60, .inl (u.2.2.1 8))),
  (a 10, .inl (z.2.2, 60, .inr (.inl (u.2.2.2 0)))),
  (a 11, .inl (z.1, 20, .inl (u.2.2.1 9))),
  (a 12, .inl (z.1, 260, .inl (u.2.2.1 10))),
  (a 13, .inl (z.1, 62, .inl (u.2.2.1 11))),
  (a 14, .inl (z.1, 62, .inl (u.2.2.1 12))),
  (a 15, .inl (z.1, 62, .inl (u.2.2.1 13))),
  (a 16, .inl (z.2.1, 62, .inl (u.2.2.1 14))),
  (a 17, .inl (z.1, 600, .inl (u.2.2.1 15))),
  (a 18, .inl (z.1, 64, .inl (u.2.2.1 16))),
  (a 19, .inl (z.1, 16, .inl (u.2.2.1 17)))]
theorem wM_at_0 (a : Nat → Nat) (z : zZ) (u : zU) : (wM a z u)[0]? = some (a 0, .inr (7, [.int (gi u 0), .ref (a 1), .ref (a 2), .ref (a 3), .ref (a 4), .ref (a 5), .ref (a 6), .ref (a 7), .ref (a 8), .int (gi u 1), .int (gi u 2), .int (gi u 3), .int (gi u 4), .int (gi u 5), .long (gj u 0), .int (gi u 6), .int (gi u 7), .ref (a 9), .ref (a 10), .int (gi u 8), .ref (a 11), .int (gi u 9), .int (gi u 10), .ref (a 12), .ref (a 13), .ref (a 14), .ref (a 15), .ref (a 16), .int (gi u 11), .int (gi u 12), .int (gi u 13), .ref (a 17), .int (gi u 14), .int (gi u 15), .int (gi u 16), .int (gi u 17), .ref (a 18), .int (gi u 18), .ref (a 19)])) := rfl
theorem wM_at_1 (a : Nat → Nat) (z : zZ) (u : zU) : (wM a z u)[1]? = some (a 1, .inl (z.1, 40, .inl (u.2.2.1 0))) := rfl
theorem wM_at_2 (a : Nat → Nat) (z : zZ) (u : zU) : (wM a z u)[2]? = some (a 2, .inl (z.1, 40, .inl (u.2.2.1 1))) := rfl
theorem wM_at_3 (a : Nat → Nat) (z : zZ) (u : zU) : (wM a z u)[3]? = some (a 3, .inl (z.1, 480, .inl (u.2.2.1 2))) := rfl
theorem wM_at_4 (a : Nat → Nat) (z : zZ) (u : zU) : (wM a z u)[4]? = some (a 4, .inl (z.1, 480, .inl (u.2.2.1 3))) := rfl
theorem wM_at_5 (a : Nat → Nat) (z : zZ) (u : zU) : (wM a z u)[5]? = some (a 5, .inl (z.1, 6, .inl (u.2.2.1 4))) := rfl
theorem wM_at_6 (a : Nat → Nat) (z : zZ) (u : zU) : (wM a z u)[6]? = some (a 6, .inl (z.1, 240, .inl (u.2.2.1 5))) := rfl
theorem wM_at_7 (a : Nat → Nat) (z : zZ) (u : zU) : (wM a z u)[7]? = some (a 7, .inl (z.1, 240, .inl (u.2.2.1 6))) := rfl
theorem wM_at_8 (a : Nat → Nat) (z : zZ) (u : zU) : (wM a z u)[8]? = some (a 8, .inl (z.2.1, 40, .inl (u.2.2.1 7))) := rfl
theorem wM_at_9 (a : Nat → Nat) (z : zZ) (u : zU) : (wM a z u)[9]? = some (a 9, .inl (z.1, 60, .inl (u.2.2.1 8))) := rfl
theorem wM_at_10 (a : Nat → Nat) (z : zZ) (u : zU) : (wM a z u)[10]? = some (a 10, .inl (z.2.2, 60, .inr (.inl (u.2.2.2 0)))) := rfl
theorem wM_at_11 (a : Nat → Nat) (z : zZ) (u : zU) : (wM a z u)[11]? = some (a 11, .inl (z.1, 20, .inl (u.2.2.1 9))) := rfl
theorem wM_at_12 (a : Nat → Nat) (z : zZ) (u : zU) : (wM a z u)[12]? = some (a 12, .inl (z.1, 260, .inl (u.2.2.1 10))) := rfl
theorem wM_at_13 (a : Nat → Nat) (z : zZ) (u : zU) : (wM a z u)[13]? = some (a 13, .inl (z.1, 62, .inl (u.2.2.1 11))) := rfl
theorem wM_at_14 (a : Nat → Nat) (z : zZ) (u : zU) : (wM a z u)[14]? = some (a 14, .inl (z.1, 62, .inl (u.2.2.1 12))) := rfl
theorem wM_at_15 (a : Nat → Nat) (z : zZ) (u : zU) : (wM a z u)[15]? = some (a 15, .inl (z.1, 62, .inl (u.2.2.1 13))) := rfl
theorem wM_at_16 (a : Nat → Nat) (z : zZ) (u : zU) : (wM a z u)[16]? = some (a 16, .inl (z.2.1, 62, .inl (u.2.2.1 14))) := rfl
theorem wM_at_17 (a : Nat → Nat) (z : zZ) (u : zU) : (wM a z u)[17]? = some (a 17, .inl (z.1, 600, .inl (u.2.2.1 15))) := rfl
theorem wM_at_18 (a : Nat → Nat) (z : zZ) (u : zU) : (wM a z u)[18]? = some (a 18, .inl (z.1, 64, .inl (u.2.2.1 16))) := rfl
theorem wM_at_19 (a : Nat → Nat) (z : zZ) (u : zU) : (wM a z u)[19]? = some (a 19, .inl (z.1, 16, .inl (u.2.2.1 17))) := rfl
theorem wM_si_0 (a : Nat → Nat) (z : zZ) (u : zU) (x : Int32) : (wM a z u).set 0 (a 0, .inr (7, [.int (gi u 0), .ref (a 1), .ref (a 2), .ref (a 3), .ref (a 4), .ref (a 5), .ref (a 6), .ref (a 7), .ref (a 8), .int (gi u 1), .int (gi u 2), .int (gi u 3), .int (gi u 4), .int (gi u 5), .long (gj u 0), .int (gi u 6), .int (gi u 7), .ref (a 9), .ref (a 10), .int (gi u 8), .ref (a 11), .int (gi u 9), .int (gi u 10), .ref (a 12), .ref (a 13), .ref (a 14), .ref (a 15), .ref (a 16), .int (gi u 11), .int (gi u 12), .int (gi u 13), .ref (a 17), .int (gi u 14), .int (gi u 15), .int (gi u 16), .int (gi u 17), .ref (a 18), .int (gi u 18), .ref (a 19)].set 0 (.int x))) = wM a z (si u 0 x) := rfl
theorem wM_si_1 (a : Nat → Nat) (z : zZ) (u : zU) (x : Int32) : (wM a z u).set 0 (a 0, .inr (7, [.int (gi u 0), .ref (a 1), .ref (a 2), .ref (a 3), .ref (a 4), .ref (a 5), .ref (a 6), .ref (a 7), .ref (a 8), .int (gi u 1), .int (gi u 2), .int (gi u 3), .int (gi u 4), .int (gi u 5), .long (gj u 0), .int (gi u 6), .int (gi u 7), .ref (a 9), .ref (a 10), .int (gi u 8), .ref (a 11), .int (gi u 9), .int (gi u 10), .ref (a 12), .ref (a 13), .ref (a 14), .ref (a 15), .ref (a 16), .int (gi u 11), .int (gi u 12), .int (gi u 13), .ref (a 17), .int (gi u 14), .int (gi u 15), .int (gi u 16), .int (gi u 17), .ref (a 18), .int (gi u 18), .ref (a 19)].set 9 (.int x))) = wM a z (si u 1 x) := rfl
theorem wM_si_2 (a : Nat → Nat) (z : zZ) (u : zU) (x : Int32) : (wM a z u).set 0 (a 0, .inr (7, [.int (gi u 0), .ref (a 1), .ref (a 2), .ref (a 3), .ref (a 4), .ref (a 5), .ref (a 6), .ref (a 7), .ref (a 8), .int (gi u 1), .int (gi u 2), .int (gi u 3), .int (gi u 4), .int (gi u 5), .long (gj u 0), .int (gi u 6), .int (gi u 7), .ref (a 9), .ref (a 10), .int (gi u 8), .ref (a 11), .int (gi u 9), .int (gi u 10), .ref (a 12), .ref (a 13), .ref (a 14), .ref (a 15), .ref (a 16), .int (gi u 11), .int (gi u 12), .int (gi u 13), .ref (a 17), .int (gi u 14), .int (gi u 15), .int (gi u 16), .int (gi u 17), .ref (a 18), .int (gi u 18), .ref (a 19)].set 10 (.int x))) = wM a z (si u 2 x) := rfl
theorem wM_si_3 (a : Nat → Nat) (z : zZ) (u : zU) (x : Int32) : (wM a z u).set 0 (a 0, .inr (7, [.int (gi u 0), .ref (a 1), .ref (a 2), .ref (a 3), .ref (a 4), .ref (a 5), .ref (a 6), .ref (a 7), .ref (a 8), .int (gi u 1), .int (gi u 2), .int (gi u 3), .int (gi u 4), .int (gi u 5), .long (gj u 0), .int (gi u 6), .int (gi u 7), .ref (a 9), .ref (a 10), .int (gi u 8), .ref (a 11), .int (gi u 9), .int (gi u 10), .ref (a 12), .ref (a 13), .ref (a 14), .ref (a 15), .ref (a 16), .int (gi u 11), .int (gi u 12), .int (gi u 13), .ref (a 17), .int (gi u 14), .int (gi u 15), .int (gi u 16), .int (gi u 17), .ref (a 18), .int (gi u 18), .ref (a 19)].set 11 (.int x))) = wM a z (si u 3 x) := rfl
theorem wM_si_4 (a : Nat → Nat) (z : zZ) (u : zU) (x : Int32) : (wM a z u).set 0 (a 0, .inr (7, [.int (gi u 0), .ref (a 1), .ref (a 2), .ref (a 3), .ref (a 4), .ref (a 5), .ref (a 6), .ref (a 7), .ref (a 8), .int (gi u 1), .int (gi u 2), .int (gi u 3), .int (gi u 4), .int (gi u 5), .long (gj u 0), .int (gi u 6), .int (gi u 7), .ref (a 9), .ref (a 10), .int (gi u 8), .ref (a 11), .int (gi u 9), .int (gi u 10), .ref (a 12), .ref (a 13), .ref (a 14), .ref (a 15), .ref (a 16), .int (gi u 11), .int (gi u 12), .int (gi u 13), .ref (a 17), .int (gi u 14), .int (gi u 15), .int (gi u 16), .int (gi u 17), .ref (a 18), .int (gi u 18), .ref (a 19)].set 12 (.int x))) = wM a z (si u 4 x) := rfl
theorem wM_si_5 (a : Nat → Nat) (z : zZ) (u : zU) (x : Int32) : (wM a z u).set 0 (a 0, .inr (7, [.int (gi u 0), .ref (a 1), .ref (a 2), .ref (a 3), .ref (a 4), .ref (a 5), .ref (a 6), .ref (a 7), .ref (a 8), .int (gi u 1), .int (gi u 2), .int (gi u 3), .int (gi u 4), .int (gi u 5), .long (gj u 0), .int (gi u 6), .int (gi u 7), .ref (a 9), .ref (a 10), .int (gi u 8), .ref (a 11), .int (gi u 9), .int (gi u 10), .ref (a 12), .ref (a 13), .ref (a 14), .ref (a 15), .ref (a 16), .int (gi u 11), .int (gi u 12), .int (gi u 13), .ref (a 17), .int (gi u 14), .int (gi u 15), .int (gi u 16), .int (gi u 17), .ref (a 18), .int (gi u 18), .ref (a 19)].set 13 (.int x))) = wM a z (si u 5 x) := rfl
theorem wM_sj_0 (a : Nat → Nat) (z : zZ) (u : zU) (x : Int64) : (wM a z u).set 0 (a 0, .inr (7, [.int (gi u 0), .ref (a 1), .ref (a 2), .ref (a 3), .ref (a 4), .ref (a 5), .ref (a 6), .ref (a 7), .ref (a 8), .int (gi u 1), .int (gi u 2), .int (gi u 3), .int (gi u 4), .int (gi u 5), .long (gj u 0), .int (gi u 6), .int (gi u 7), .ref (a 9), .ref (a 10), .int (gi u 8), .ref (a 11), .int (gi u 9), .int (gi u 10), .ref (a 12), .ref (a 13), .ref (a 14), .ref (a 15), .ref (a 16), .int (gi u 11), .int (gi u 12), .int (gi u 13), .ref (a 17), .int (gi u 14), .int (gi u 15), .int (gi u 16), .int (gi u 17), .ref (a 18), .int (gi u 18), .ref (a 19)].set 14 (.long x))) = wM a z (sj u 0 x) := rfl
theorem wM_si_6 (a : Nat → Nat) (z : zZ) (u : zU) (x : Int32) : (wM a z u).set 0 (a 0, .inr (7, [.int (gi u 0), .ref (a 1), .ref (a 2), .ref (a 3), .ref (a 4), .ref (a 5), .ref (a 6), .ref (a 7), .ref (a 8), .int (gi u 1), .int (gi u 2), .int (gi u 3), .int (gi u 4), .int (gi u 5), .long (gj u 0), .int (gi u 6), .int (gi u 7), .ref (a 9), .ref (a 10), .int (gi u 8), .ref (a 11), .int (gi u 9), .int (gi u 10), .ref (a 12), .ref (a 13), .ref (a 14), .ref (a 15), .ref (a 16), .int (gi u 11), .int (gi u 12), .int (gi u 13), .ref (a 17), .int (gi u 14), .int (gi u 15), .int (gi u 16), .int (gi u 17), .ref (a 18), .int (gi u 18), .ref (a 19)].set 15 (.int x))) = wM a z (si u 6 x) := rfl
theorem wM_si_7 (a : Nat → Nat) (z : zZ) (u : zU) (x : Int32) : (wM a z u).set 0 (a 0, .inr (7, [.int (gi u 0), .ref (a 1), .ref (a 2), .ref (a 3), .ref (a 4), .ref (a 5), .ref (a 6), .ref (a 7), .ref (a 8), .int (gi u 1), .int (gi u 2), .int (gi u 3), .int (gi u 4), .int (gi u 5), .long (gj u 0), .int (gi u 6), .int (gi u 7), .ref (a 9), .ref (a 10), .int (gi u 8), .ref (a 11), .int (gi u 9), .int (gi u 10), .ref (a 12), .ref (a 13), .ref (a 14), .ref (a 15), .ref (a 16), .int (gi u 11), .int (gi u 12), .int (gi u 13), .ref (a 17), .int (gi u 14), .int (gi u 15), .int (gi u 16), .int (gi u 17), .ref (a 18), .int (gi u 18), .ref (a 19)].set 16 (.int x))) = wM a z (si u 7 x) := rfl
theorem wM_si_8 (a : Nat → Nat) (z : zZ) (u : zU) (x : Int32) : (wM a z u).set 0 (a 0, .inr (7, [.int (gi u 0), .ref (a 1), .ref (a 2), .ref (a 3), .ref (a 4), .ref (a 5), .ref (a 6), .ref (a 7), .ref (a 8), .int (gi u 1), .int (gi u 2), .int (gi u 3), .int (gi u 4), .int (gi u 5), .long (gj u 0), .int (gi u 6), .int (gi u 7), .ref (a 9), .ref (a 10), .int (gi u 8), .ref (a 11), .int (gi u 9), .int (gi u 10), .ref (a 12), .ref (a 13), .ref (a 14), .ref (a 15), .ref (a 16), .int (gi u 11), .int (gi u 12), .int (gi u 13), .ref (a 17), .int (gi u 14), .int (gi u 15), .int (gi u 16), .int (gi u 17), .ref (a 18), .int (gi u 18), .ref (a 19)].set 19 (.int x))) = wM a z (si u 8 x) := rfl
theorem wM_si_9 (a : Nat → Nat) (z : zZ) (u : zU) (x : Int32) : (wM a z u).set 0 (a 0, .inr (7, [.int (gi u 0), .ref (a 1), .ref (a 2), .ref (a 3), .ref (a 4), .ref (a 5), .ref (a 6), .ref (a 7), .ref (a 8), .int (gi u 1), .int (gi u 2), .int (gi u 3), .int (gi u 4), .int (gi u 5), .long (gj u 0), .int (gi u 6), .int (gi u 7), .ref (a 9), .ref (a 10), .int (gi u 8), .ref (a 11), .int (gi u 9), .int (gi u 10), .ref (a 12), .ref (a 13), .ref (a 14), .ref (a 15), .ref (a 16), .int (gi u 11), .int (gi u 12), .int (gi u 13), .ref (a 17), .int (gi u 14), .int (gi u 15), .int (gi u 16), .int (gi u 17), .ref (a 18), .int (gi u 18), .ref (a 19)].set 21 (.int x))) = wM a z (si u 9 x) := rfl
theorem wM_si_10 (a : Nat → Nat) (z : zZ) (u : zU) (x : Int32) : (wM a z u).set 0 (a 0, .inr (7, [.int (gi u 0), .ref (a 1), .ref (a 2), .ref (a 3), .ref (a 4), .ref (a 5), .ref (a 6), .ref (a 7), .ref (a 8), .int (gi u 1), .int (gi u 2), .int (gi u 3), .int (gi u 4), .int (gi u 5), .long (gj u 0), .int (gi u 6), .int (gi u 7), .ref (a 9), .ref (a 10), .int (gi u 8), .ref (a 11), .int (gi u 9), .int (gi u 10), .ref (a 12), .ref (a 13), .ref (a 14), .ref (a 15), .ref (a 16), .int (gi u 11), .int (gi u 12), .int (gi u 13), .ref (a 17), .int (gi u 14), .int (gi u 15), .int (gi u 16), .int (gi u 17), .ref (a 18), .int (gi u 18), .ref (a 19)].set 22 (.int x))) = wM a z (si u 10 x) := rfl
theorem wM_si_11 (a : Nat → Nat) (z : zZ) (u : zU) (x : Int32) : (wM a z u).set 0 (a 0, .inr (7, [.int (gi u 0), .ref (a 1), .ref (a 2), .ref (a 3), .ref (a 4), .ref (a 5), .ref (a 6), .ref (a 7), .ref (a 8), .int (gi u 1), .int (gi u 2), .int (gi u 3), .int (gi u 4), .int (gi u 5), .long (gj u 0), .int (gi u 6), .int (gi u 7), .ref (a 9), .ref (a 10), .int (gi u 8), .ref (a 11), .int (gi u 9), .int (gi u 10), .ref (a 12), .ref (a 13), .ref (a 14), .ref (a 15), .ref (a 16), .int (gi u 11), .int (gi u 12), .int (gi u 13), .ref (a 17), .int (gi u 14), .int (gi u 15), .int (gi u 16), .int (gi u 17), .ref (a 18), .int (gi u 18), .ref (a 19)].set 28 (.int x))) = wM a z (si u 11 x) := rfl
theorem wM_si_12 (a : Nat → Nat) (z : zZ) (u : zU) (x : Int32) : (wM a z u).set 0 (a 0, .inr (7, [.int (gi u 0), .ref (a 1), .ref (a 2), .ref (a 3), .ref (a 4), .ref (a 5), .ref (a 6), .ref (a 7), .ref (a 8), .int (gi u 1), .int (gi u 2), .int (gi u 3), .int (gi u 4), .int (gi u 5), .long (gj u 0), .int (gi u 6), .int (gi u 7), .ref (a 9), .ref (a 10), .int (gi u 8), .ref (a 11), .int (gi u 9), .int (gi u 10), .ref (a 12), .ref (a 13), .ref (a 14), .ref (a 15), .ref (a 16), .int (gi u 11), .int (gi u 12), .int (gi u 13), .ref (a 17), .int (gi u 14), .int (gi u 15), .int (gi u 16), .int (gi u 17), .ref (a 18), .int (gi u 18), .ref (a 19)].set 29 (.int x))) = wM a z (si u 12 x) := rfl
theorem wM_si_13 (a : Nat → Nat) (z : zZ) (u : zU) (x : Int32) : (wM a z u).set 0 (a 0, .inr (7, [.int (gi u 0), .ref (a 1), .ref (a 2), .ref (a 3), .ref (a 4), .ref (a 5), .ref (a 6), .ref (a 7), .ref (a 8), .int (gi u 1), .int (gi u 2), .int (gi u 3), .int (gi u 4), .int (gi u 5), .long (gj u 0), .int (gi u 6), .int (gi u 7), .ref (a 9), .ref (a 10), .int (gi u 8), .ref (a 11), .int (gi u 9), .int (gi u 10), .ref (a 12), .ref (a 13), .ref (a 14), .ref (a 15), .ref (a 16), .int (gi u 11), .int (gi u 12), .int (gi u 13), .ref (a 17), .int (gi u 14), .int (gi u 15), .int (gi u 16), .int (gi u 17), .ref (a 18), .int (gi u 18), .ref (a 19)].set 30 (.int x))) = wM a z (si u 13 x) := rfl
theorem wM_si_14 (a : Nat → Nat) (z : zZ) (u : zU) (x : Int32) : (wM a z u).set 0 (a 0, .inr (7, [.int (gi u 0), .ref (a 1), .ref (a 2), .ref (a 3), .ref (a 4), .ref (a 5), .ref (a 6), .ref (a 7), .ref (a 8), .int (gi u 1), .int (gi u 2), .int (gi u 3), .int (gi u 4), .int (gi u 5), .long (gj u 0), .int (gi u 6), .int (gi u 7), .ref (a 9), .ref (a 10), .int (gi u 8), .ref (a 11), .int (gi u 9), .int (gi u 10), .ref (a 12), .ref (a 13), .ref (a 14), .ref (a 15), .ref (a 16), .int (gi u 11), .int (gi u 12), .int (gi u 13), .ref (a 17), .int (gi u 14), .int (gi u 15), .int (gi u 16), .int (gi u 17), .ref (a 18), .int (gi u 18), .ref (a 19)].set 32 (.int x))) = wM a z (si u 14 x) := rfl
theorem wM_si_15 (a : Nat → Nat) (z : zZ) (u : zU) (x : Int32) : (wM a z u).set 0 (a 0, .inr (7, [.int (gi u 0), .ref (a 1), .ref (a 2), .ref (a 3), .ref (a 4), .ref (a 5), .ref (a 6), .ref (a 7), .ref (a 8), .int (gi u 1), .int (gi u 2), .int (gi u 3), .int (gi u 4), .int (gi u 5), .long (gj u 0), .int (gi u 6), .int (gi u 7), .ref (a 9), .ref (a 10), .int (gi u 8), .ref (a 11), .int (gi u 9), .int (gi u 10), .ref (a 12), .ref (a 13), .ref (a 14), .ref (a 15), .ref (a 16), .int (gi u 11), .int (gi u 12), .int (gi u 13), .ref (a 17), .int (gi u 14), .int (gi u 15), .int (gi u 16), .int (gi u 17), .ref (a 18), .int (gi u 18), .ref (a 19)].set 33 (.int x))) = wM a z (si u 15 x) := rfl
theorem wM_si_16 (a : Nat → Nat) (z : zZ) (u : zU) (x : Int32) : (wM a z u).set 0 (a 0, .inr (7, [.int (gi u 0), .ref (a 1), .ref (a 2), .ref (a 3), .ref (a 4), .ref (a 5), .ref (a 6), .ref (a 7), .ref (a 8), .int (gi u 1), .int (gi u 2), .int (gi u 3), .int (gi u 4), .int (gi u 5), .long (gj u 0), .int (gi u 6), .int (gi u 7), .ref (a 9), .ref (a 10), .int (gi u 8), .ref (a 11), .int (gi u 9), .int (gi u 10), .ref (a 12), .ref (a 13), .ref (a 14), .ref (a 15), .ref (a 16), .int (gi u 11), .int (gi u 12), .int (gi u 13), .ref (a 17), .int (gi u 14), .int (gi u 15), .int (gi u 16), .int (gi u 17), .ref (a 18), .int (gi u 18), .ref (a 19)].set 34 (.int x))) = wM a z (si u 16 x) := rfl
theorem wM_si_17 (a : Nat → Nat) (z : zZ) (u : zU) (x : Int32) : (wM a z u).set 0 (a 0, .inr (7, [.int (gi u 0), .ref (a 1), .ref (a 2), .ref (a 3), .ref (a 4), .ref (a 5), .ref (a 6), .ref (a 7), .ref (a 8), .int (gi u 1), .int (gi u 2), .int (gi u 3), .int (gi u 4), .int (gi u 5), .long (gj u 0), .int (gi u 6), .int (gi u 7), .ref (a 9), .ref (a 10), .int (gi u 8), .ref (a 11), .int (gi u 9), .int (gi u 10), .ref (a 12), .ref (a 13), .ref (a 14), .ref (a 15), .ref (a 16), .int (gi u 11), .int (gi u 12), .int (gi u 13), .ref (a 17), .int (gi u 14), .int (gi u 15), .int (gi u 16), .int (gi u 17), .ref (a 18), .int (gi u 18), .ref (a 19)].set 35 (.int x))) = wM a z (si u 17 x) := rfl
theorem wM_si_18 (a : Nat → Nat) (z : zZ) (u : zU) (x : Int32) : (wM a z u).set 0 (a 0, .inr (7, [.int (gi u 0), .ref (a 1), .ref (a 2), .ref (a 3), .ref (a 4), .ref (a 5), .ref (a 6), .ref (a 7), .ref (a 8), .int (gi u 1), .int (gi u 2), .int (gi u 3), .int (gi u 4), .int (gi u 5), .long (gj u 0), .int (gi u 6), .int (gi u 7), .ref (a 9), .ref (a 10), .int (gi u 8), .ref (a 11), .int (gi u 9), .int (gi u 10), .ref (a 12), .ref (a 13), .ref (a 14), .ref (a 15), .ref (a 16), .int (gi u 11), .int (gi u 12), .int (gi u 13), .ref (a 17), .int (gi u 14), .int (gi u 15), .int (gi u 16), .int (gi u 17), .ref (a 18), .int (gi u 18), .ref (a 19)].set 37 (.int x))) = wM a z (si u 18 x) := rfl
theorem wM_sa_0 (a : Nat → Nat) (z : zZ) (u : zU) (i x : Int32) : (wM a z u).set 1 (a 1, .inl (z.1, 40, .inl (upd (u.2.2.1 0) i.toNatClampNeg x))) = wM a z (sa u 0 i x) := rfl
theorem wM_sa_1 (a : Nat → Nat) (z : zZ) (u : zU) (i x : Int32) : (wM a z u).set 2 (a 2, .inl (z.1, 40, .inl (upd (u.2.2.1 1) i.toNatClampNeg x))) = wM a z (sa u 1 i x) := rfl
theorem wM_sa_2 (a : Nat → Nat) (z : zZ) (u : zU) (i x : Int32) : (wM a z u).set 3 (a 3, .inl (z.1, 480, .inl (upd (u.2.2.1 2) i.toNatClampNeg x))) = wM a z (sa u 2 i x) := rfl
theorem wM_sa_3 (a : Nat → Nat) (z : zZ) (u : zU) (i x : Int32) : (wM a z u).set 4 (a 4, .inl (z.1, 480, .inl (upd (u.2.2.1 3) i.toNatClampNeg x))) = wM a z (sa u 3 i x) := rfl
theorem wM_sa_4 (a : Nat → Nat) (z : zZ) (u : zU) (i x : Int32) : (wM a z u).set 5 (a 5, .inl (z.1, 6, .inl (upd (u.2.2.1 4) i.toNatClampNeg x))) = wM a z (sa u 4 i x) := rfl
theorem wM_sa_5 (a : Nat → Nat) (z : zZ) (u : zU) (i x : Int32) : (wM a z u).set 6 (a 6, .inl (z.1, 240, .inl (upd (u.2.2.1 5) i.toNatClampNeg x))) = wM a z (sa u 5 i x) := rfl
theorem wM_sa_6 (a : Nat → Nat) (z : zZ) (u : zU) (i x : Int32) : (wM a z u).set 7 (a 7, .inl (z.1, 240, .inl (upd (u.2.2.1 6) i.toNatClampNeg x))) = wM a z (sa u 6 i x) := rfl
theorem wM_sa_7 (a : Nat → Nat) (z : zZ) (u : zU) (i x : Int32) : (wM a z u).set 8 (a 8, .inl (z.2.1, 40, .inl (upd (u.2.2.1 7) i.toNatClampNeg x))) = wM a z (sa u 7 i x) := rfl
theorem wM_sa_8 (a : Nat → Nat) (z : zZ) (u : zU) (i x : Int32) : (wM a z u).set 9 (a 9, .inl (z.1, 60, .inl (upd (u.2.2.1 8) i.toNatClampNeg x))) = wM a z (sa u 8 i x) := rfl
theorem wM_sb_0 (a : Nat → Nat) (z : zZ) (u : zU) (i : Int32) (x : Int64) : (wM a z u).set 10 (a 10, .inl (z.2.2, 60, .inr (.inl (vp_updL (u.2.2.2 0) i.toNatClampNeg x)))) = wM a z (sb u 0 i x) := rfl
theorem wM_sa_9 (a : Nat → Nat) (z : zZ) (u : zU) (i x : Int32) : (wM a z u).set 11 (a 11, .inl (z.1, 20, .inl (upd (u.2.2.1 9) i.toNatClampNeg x))) = wM a z (sa u 9 i x) := rfl
theorem wM_sa_10 (a : Nat → Nat) (z : zZ) (u : zU) (i x : Int32) : (wM a z u).set 12 (a 12, .inl (z.1, 260, .inl (upd (u.2.2.1 10) i.toNatClampNeg x))) = wM a z (sa u 10 i x) := rfl
theorem wM_sa_11 (a : Nat → Nat) (z : zZ) (u : zU) (i x : Int32) : (wM a z u).set 13 (a 13, .inl (z.1, 62, .inl (upd (u.2.2.1 11) i.toNatClampNeg x))) = wM a z (sa u 11 i x) := rfl
theorem wM_sa_12 (a : Nat → Nat) (z : zZ) (u : zU) (i x : Int32) : (wM a z u).set 14 (a 14, .inl (z.1, 62, .inl (upd (u.2.2.1 12) i.toNatClampNeg x))) = wM a z (sa u 12 i x) := rfl
theorem wM_sa_13 (a : Nat → Nat) (z : zZ) (u : zU) (i x : Int32) : (wM a z u).set 15 (a 15, .inl (z.1, 62, .inl (upd (u.2.2.1 13) i.toNatClampNeg x))) = wM a z (sa u 13 i x) := rfl
theorem wM_sa_14 (a : Nat → Nat) (z : zZ) (u : zU) (i x : Int32) : (wM a z u).set 16 (a 16, .inl (z.2.1, 62, .inl (upd (u.2.2.1 14) i.toNatClampNeg x))) = wM a z (sa u 14 i x) := rfl
theorem wM_sa_15 (a : Nat → Nat) (z : zZ) (u : zU) (i x : Int32) : (wM a z u).set 17 (a 17, .inl (z.1, 600, .inl (upd (u.2.2.1 15) i.toNatClampNeg x))) = wM a z (sa u 15 i x) := rfl
theorem wM_sa_16 (a : Nat → Nat) (z : zZ) (u : zU) (i x : Int32) : (wM a z u).set 18 (a 18, .inl (z.1, 64, .inl (upd (u.2.2.1 16) i.toNatClampNeg x))) = wM a z (sa u 16 i x) := rfl
theorem wM_sa_17 (a : Nat → Nat) (z : zZ) (u : zU) (i x : Int32) : (wM a z u).set 19 (a 19, .inl (z.1, 16, .inl (upd (u.2.2.1 17) i.toNatClampNeg x))) = wM a z (sa u 17 i x) := rfl
