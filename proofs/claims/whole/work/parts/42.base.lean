/-! base: worlds, contracts, rows -/
theorem znar {v : Int32} (h : zbz v) : narrow .boolean (.int v) = .int v := by rcases h with rfl | rfl <;> decide
theorem zfit {v : Int32} (h : zbz v) : fits .boolean (.int v) = true := by rcases h with rfl | rfl <;> decide
/-- the good words of the tables -/
def zT : List Cond := lw_tbl.filter goodWord
def zisN : Cond → Bool
  | .fieldLinkNest .. => true
  | .methodLinkNest .. => true
  | _ => false
def zN : List Cond := lw_tbl.filter zisN
theorem zT_in {w : Cond} (i : Nat) (h : lw_tbl[i]? = some w) (g : goodWord w = true) : w ∈ zT := List.mem_filter.mpr ⟨List.mem_of_getElem? h, g⟩
theorem zN_in {w : Cond} (i : Nat) (h : lw_tbl[i]? = some w) (g : zisN w = true) : w ∈ zN := List.mem_filter.mpr ⟨List.mem_of_getElem? h, g⟩
def zNok (U : State) : Prop := ∀ w ∈ zN, va_Nw w U
theorem zNok_warm {s U : State} (hW : s.WarmedH U.vm) (h : zNok s) : zNok U := by
  intro w hw
  have h1 := h w hw
  have h2 : zisN w = true := (List.mem_filter.mp hw).2
  cases w <;> first | (simp [zisN] at h2; done) | exact va_Nw.warmF hW h1 | exact va_Nw.warmM hW h1
theorem zNok_same {s U : State} (hv : s.vm = U.vm) (h : zNok s) : zNok U := by
  intro w hw
  have h1 := h w hw
  have h2 : zisN w = true := (List.mem_filter.mp hw).2
  cases w <;> first | (simp [zisN] at h2; done) | exact va_Nw.same rfl hv h1
/-- the static tables: class, name, what it holds -/
def zSt (st : List (String × String × List Int32)) (A : Nat → Prop) (U : State) (H : Heap) : Prop := ∀ q ∈ st, ∃ t : Nat, va_Z q.1 q.2.1 "[I" (.ref t) A U H ∧ va_T .int t q.2.2.length (fun j => .int (q.2.2.getD j 0)) A U H
theorem zSt_to {st : List (String × String × List Int32)} {A B : Nat → Prop} {s U : State} {H H1 : Heap} (h : zSt st A s H) (hq : ∀ a : Nat, a < H.size → ¬ A a → H1[a]? = H[a]?) (hvm : s.vm.Alike U.vm) (hAB : ∀ q, B q → A q) : zSt st B U H1 := by
  intro q hx
  obtain ⟨t, h1, h2⟩ := h q hx
  exact ⟨t, ((h1.kept hq).moved hvm).narrow hAB, ((h2.kept hq).moved hvm).narrow hAB⟩
def bx (p : Program) (s : State) (m : MethodId) (args : Array Value) (c : Code) (cc : ByteArray) (nL : Nat) (own : String) (A : Nat → Prop) (D : va_G) (z : zZ) : Prop :=
  p.tables.exec = Jvm.exec ∧ c.code = cc ∧ c.maxLocals = nL ∧ s.vm.findClass own = some m.cls ∧ (∀ w ∈ zT, w.before args s = true) ∧ va_K D zcl (zty z) s ∧ zNok s ∧ zSt zst A s s.heap ∧ ∀ q : Nat, s.heap.size ≤ q → A q
def iw (D : va_G) (A : Nat → Prop) (s : State) (w : va_W) (H : Heap) (locs : List Loc) : Prop := va_P D zcl w H ∧ va_D A w ∧ va_S A s.heap H locs
def zPre (D : va_G) (z : zZ) (w : va_W) (U : State) : Prop := va_P D zcl w U.heap ∧ va_K D zcl (zty z) U ∧ va_D (fun _ => True) w ∧ zNok U ∧ zSt zst (va_A w U.heap.size) U U.heap
theorem zPre_blind {D : va_G} {z : zZ} {w : va_W} {sz : Nat} (av : List Value) : FrameBlind (va_Pc av (fun U => U.heap.size = sz ∧ zPre D z w U)) := by
  intro a U g mk q
  obtain ⟨q0, q1, qP, qK, qD, qN, qS⟩ := q
  exact ⟨q0, q1, qP, va_K.moved (u := U) (U := U.calling g mk a) (Vm.Alike.refl U.vm) qK, qD, zNok_same (s := U) (U := U.calling g mk a) rfl qN, zSt_to (s := U) (U := U.calling g mk a) qS (fun _ _ _ => rfl) (Vm.Alike.refl U.vm) (fun _ h => h)⟩
section ZB
variable {p : Program} {l : Launch} {e : Env} {R : Room} {s : State} {m : MethodId} {args : Array Value} {below : List Frame} {meth : Method} {c : Code} {H : Heap} {locs : List Loc} {cells slots : Nat} {Q : State → Prop}
variable {cc : ByteArray} {nL : Nat} {own : String} {A : Nat → Prop} {D : va_G} {z : zZ} {w w' : va_W} {pc : Nat} {ls : Array Slot} {rest : List Value}
theorem iw_free (B : bx p s m args c cc nL own A D z) (hI : iw D A s w H locs) : ∀ q, va_A w H.size q → A q := by
  obtain ⟨-, -, -, -, -, -, -, -, hA⟩ := B
  obtain ⟨-, hD, hS⟩ := hI
  intro q h
  rcases h with ⟨k, e0, h⟩ | h
  · exact hD.2 k (q, e0) h
  · exact hA q (Nat.le_trans hS.1 h)
theorem zPre_call (B : bx p s m args c cc nL own A D z) (hI : iw D A s w H locs) (av : List Value) : ∀ U : State, U.heap = H → s.WarmedH U.vm → va_Pc av (fun U => U.heap.size = H.size ∧ zPre D z w U) av.toArray U := by
  have hF := iw_free B hI
  obtain ⟨-, -, -, -, -, hK, hN, hZ, hA⟩ := B
  obtain ⟨hP, hD, hS⟩ := hI
  intro U hU hW
  subst hU
  exact ⟨rfl, rfl, hP, va_K.moved hW.alike hK, hD.weaken (fun _ _ _ _ => trivial), zNok_warm hW hN, zSt_to hZ hS.2.1 hW.alike hF⟩
theorem zGood {x y : Cond} (h : y ∈ zT) : ∀ w ∈ (y :: zT), w ∈ (x :: zT) ∧ ((w.onTables && w.keeps) = true ∨ ∃ ty, w = .arrayClass ty) := by
  intro w hw
  have h1 : w ∈ zT := by rcases List.mem_cons.mp hw with rfl | h2; exact h; exact h2
  exact ⟨List.mem_cons_of_mem _ h1, good_of_word (List.mem_filter.mp h1).2⟩
theorem zGoodT {y : Cond} (h : y ∈ zT) : GoodIn zT (y :: zT) := by
  intro w hw
  have h1 : w ∈ zT := by rcases List.mem_cons.mp hw with rfl | h2; exact h; exact h2
  exact ⟨h1, good_of_word (List.mem_filter.mp h1).2⟩
theorem rx_get (B : bx p s m args c cc nL own A D z) (hI : iw D A s w H locs) {C : String} {T : u_T} {N ci index a : Nat} (hcl : zcl[ci]? = some (C, T, N)) (hin : ∀ w ∈ u_ws C T N, w ∈ zT) (q0 : Nat) {fs : List Value} (he : w[q0]? = some (a, .inr (ci, fs))) (k : Nat) (hk : k < N) {c1 n1 d1 : String} {f1 : Bool} (hT : T k = (c1, n1, d1, f1)) (hl : Cond.fieldLink own index c1 n1 d1 ∈ zT) {v : Value} (hv : fs[k]? = some v) (hdg : decode cc pc = .ok (.getfield index, 3))
    (kk : W p l e R s m args below meth c H locs cells slots Q (F0 m (pc + 3) ls (v :: rest))) : W p l e R s m args below meth c H locs cells slots Q (F0 m pc ls (.ref a :: rest)) := by
  obtain ⟨hx, hb, hml, hown, hts, hK, hN, hZ, hA⟩ := B
  exact va_get (D := D) (cl := zcl) hx hb hts hin hown hK hI.1 q0 he hcl k hk (by rw [hT]; exact hts _ hl) (fun _ h => h) hv hdg kk
theorem rx_getN (B : bx p s m args c cc nL own A D z) (hI : iw D A s w H locs) {C host : String} {T : u_T} {N ci index a : Nat} (hcl : zcl[ci]? = some (C, T, N)) (hin : ∀ w ∈ u_ws C T N, w ∈ zT) (q0 : Nat) {fs : List Value} (he : w[q0]? = some (a, .inr (ci, fs))) (k : Nat) (hk : k < N) {c1 n1 d1 : String} {f1 : Bool} (hT : T k = (c1, n1, d1, f1)) (hl : Cond.fieldLinkNest own index c1 n1 d1 host ∈ zN) {v : Value} (hv : fs[k]? = some v) (hdg : decode cc pc = .ok (.getfield index, 3))
    (kk : W p l e R s m args below meth c H locs cells slots Q (F0 m (pc + 3) ls (v :: rest))) : W p l e R s m args below meth c H locs cells slots Q (F0 m pc ls (.ref a :: rest)) := by
  obtain ⟨hx, hb, hml, hown, hts, hK, hN, hZ, hA⟩ := B
  exact va_getN (D := D) (cl := zcl) hx hb hts hin hown hK hI.1 q0 he hcl k hk (by rw [hT]; exact va_Nw.use rfl (hN _ hl)) (fun _ h => h) hv hdg kk
theorem rx_put (B : bx p s m args c cc nL own A D z) (hI : iw D A s w H locs) {C : String} {T : u_T} {N ci index a : Nat} (hcl : zcl[ci]? = some (C, T, N)) (hin : ∀ w ∈ u_ws C T N, w ∈ zT) {ty0 : Nat → FieldType} (hty : ∀ k, k < N → parseFieldDescriptor (T k).2.2.1 = some (ty0 k)) (hnm : ∀ a, a < N → ∀ b, b < N → a ≠ b → (T a).2.1 ≠ (T b).2.1) (q0 : Nat) {fs : List Value} (he : w[q0]? = some (a, .inr (ci, fs))) (k : Nat) (hk : k < N) {c1 n1 d1 : String} {f1 : Bool} (hT : T k = (c1, n1, d1, f1)) (hl : Cond.fieldLink own index c1 n1 d1 ∈ zT) (hfin : f1 = false) {ty : FieldType} {v : Value} (hd : parseFieldDescriptor d1 = some ty) (hn : narrow ty v = v) (hfit : fits ty v = true) (hlen : k < fs.length) (hw : w.set q0 (a, .inr (ci, fs.set k v)) = w') (hdg : decode cc pc = .ok (.putfield index, 3))
    (kk : ∀ (H1 : Heap) (locs1 : List Loc), iw D A s w' H1 locs1 → W p l e R s m args below meth c H1 locs1 cells slots Q (F0 m (pc + 3) ls rest)) : W p l e R s m args below meth c H locs cells slots Q (F0 m pc ls (v :: .ref a :: rest)) := by
  obtain ⟨hx, hb, hml, hown, hts, hK, hN, hZ, hA⟩ := B
  subst hw
  exact va_put (D := D) (cl := zcl) hx hb hts hin ty0 hty hnm hown hK hI.1 hI.2.1 hI.2.2 q0 he hcl k hk (by rw [hT]; exact hts _ hl) (fun _ h => h) (by rw [hT]; exact hfin) (by rw [hT]; exact hd) hn hfit hlen hdg (fun H1 locs1 h1 h2 h3 => kk H1 locs1 ⟨h1, h2, h3⟩)
theorem rx_putN (B : bx p s m args c cc nL own A D z) (hI : iw D A s w H locs) {C host : String} {T : u_T} {N ci index a : Nat} (hcl : zcl[ci]? = some (C, T, N)) (hin : ∀ w ∈ u_ws C T N, w ∈ zT) {ty0 : Nat → FieldType} (hty : ∀ k, k < N → parseFieldDescriptor (T k).2.2.1 = some (ty0 k)) (hnm : ∀ a, a < N → ∀ b, b < N → a ≠ b → (T a).2.1 ≠ (T b).2.1) (q0 : Nat) {fs : List Value} (he : w[q0]? = some (a, .inr (ci, fs))) (k : Nat) (hk : k < N) {c1 n1 d1 : String} {f1 : Bool} (hT : T k = (c1, n1, d1, f1)) (hl : Cond.fieldLinkNest own index c1 n1 d1 host ∈ zN) (hfin : f1 = false) {ty : FieldType} {v : Value} (hd : parseFieldDescriptor d1 = some ty) (hn : narrow ty v = v) (hfit : fits ty v = true) (hlen : k < fs.length) (hw : w.set q0 (a, .inr (ci, fs.set k v)) = w') (hdg : decode cc pc = .ok (.putfield index, 3))
    (kk : ∀ (H1 : Heap) (locs1 : List Loc), iw D A s w' H1 locs1 → W p l e R s m args below meth c H1 locs1 cells slots Q (F0 m (pc + 3) ls rest)) : W p l e R s m args below meth c H locs cells slots Q (F0 m pc ls (v :: .ref a :: rest)) := by
  obtain ⟨hx, hb, hml, hown, hts, hK, hN, hZ, hA⟩ := B
  subst hw
  exact va_putN (D := D) (cl := zcl) hx hb hts hin ty0 hty hnm hown hK hI.1 hI.2.1 hI.2.2 q0 he hcl k hk (by rw [hT]; exact va_Nw.use rfl (hN _ hl)) (fun _ h => h) (by rw [hT]; exact hfin) (by rw [hT]; exact hd) hn hfit hlen hdg (fun H1 locs1 h1 h2 h3 => kk H1 locs1 ⟨h1, h2, h3⟩)
theorem rx_iald (B : bx p s m args c cc nL own A D z) (hI : iw D A s w H locs) (q0 : Nat) {a n : Nat} {f : Nat → Int32} (ha : w[q0]? = some (a, .inl (z.1, n, .inl f))) {i : Int32} (hin : zin i n) (hdg : decode cc pc = .ok (.iaload, 1))
    (kk : W p l e R s m args below meth c H locs cells slots Q (F0 m (pc + 1) ls (.int (f i.toNatClampNeg) :: rest))) : W p l e R s m args below meth c H locs cells slots Q (F0 m pc ls (.int i :: .ref a :: rest)) := by
  obtain ⟨hx, hb, hml, hown, hts, hK, hN, hZ, hA⟩ := B
  exact va_iald (D := D) (cl := zcl) hx hb hK hI.1 q0 0 ha rfl hin hdg kk
theorem rx_zald (B : bx p s m args c cc nL own A D z) (hI : iw D A s w H locs) (q0 : Nat) {a n : Nat} {f : Nat → Int32} (ha : w[q0]? = some (a, .inl (z.2.1, n, .inl f))) {i : Int32} (hin : zin i n) (hdg : decode cc pc = .ok (.baload, 1))
    (kk : W p l e R s m args below meth c H locs cells slots Q (F0 m (pc + 1) ls (.int (f i.toNatClampNeg) :: rest))) : W p l e R s m args below meth c H locs cells slots Q (F0 m pc ls (.int i :: .ref a :: rest)) := by
  obtain ⟨hx, hb, hml, hown, hts, hK, hN, hZ, hA⟩ := B
  exact va_zald (D := D) (cl := zcl) hx hb hK hI.1 q0 1 ha rfl hin hdg kk
theorem rx_lald (B : bx p s m args c cc nL own A D z) (hI : iw D A s w H locs) (q0 : Nat) {a n : Nat} {f : Nat → Int64} (ha : w[q0]? = some (a, .inl (z.2.2, n, .inr (.inl f)))) {i : Int32} (hin : zin i n) (hdg : decode cc pc = .ok (.laload, 1))
    (kk : W p l e R s m args below meth c H locs cells slots Q (F0 m (pc + 1) ls (.long (f i.toNatClampNeg) :: rest))) : W p l e R s m args below meth c H locs cells slots Q (F0 m pc ls (.int i :: .ref a :: rest)) := by
  obtain ⟨hx, hb, hml, hown, hts, hK, hN, hZ, hA⟩ := B
  exact va_lald (D := D) (cl := zcl) hx hb hK hI.1 q0 2 ha rfl hin hdg kk
theorem rx_iast (B : bx p s m args c cc nL own A D z) (hI : iw D A s w H locs) (q0 : Nat) {a n : Nat} {f : Nat → Int32} (ha : w[q0]? = some (a, .inl (z.1, n, .inl f))) {i : Int32} {x : Int32} (hin : zin i n) (hw : w.set q0 (a, .inl (z.1, n, .inl (upd f i.toNatClampNeg x))) = w') (hdg : decode cc pc = .ok (.iastore, 1))
    (kk : ∀ (H1 : Heap) (locs1 : List Loc), iw D A s w' H1 locs1 → W p l e R s m args below meth c H1 locs1 cells slots Q (F0 m (pc + 1) ls rest)) : W p l e R s m args below meth c H locs cells slots Q (F0 m pc ls (.int x :: .int i :: .ref a :: rest)) := by
  obtain ⟨hx, hb, hml, hown, hts, hK, hN, hZ, hA⟩ := B
  subst hw
  exact va_iast (D := D) (cl := zcl) hx hb hK hI.1 hI.2.1 hI.2.2 q0 0 ha rfl hin hdg (fun H1 locs1 h1 h2 h3 => kk H1 locs1 ⟨h1, h2, h3⟩)
theorem rx_zast (B : bx p s m args c cc nL own A D z) (hI : iw D A s w H locs) (q0 : Nat) {a n : Nat} {f : Nat → Int32} (ha : w[q0]? = some (a, .inl (z.2.1, n, .inl f))) {i : Int32} {x : Int32} (hin : zin i n) (hw : w.set q0 (a, .inl (z.2.1, n, .inl (upd f i.toNatClampNeg (vp_nar .boolean x)))) = w') (hdg : decode cc pc = .ok (.bastore, 1))
    (kk : ∀ (H1 : Heap) (locs1 : List Loc), iw D A s w' H1 locs1 → W p l e R s m args below meth c H1 locs1 cells slots Q (F0 m (pc + 1) ls rest)) : W p l e R s m args below meth c H locs cells slots Q (F0 m pc ls (.int x :: .int i :: .ref a :: rest)) := by
  obtain ⟨hx, hb, hml, hown, hts, hK, hN, hZ, hA⟩ := B
  subst hw
  exact va_zast (D := D) (cl := zcl) hx hb hK hI.1 hI.2.1 hI.2.2 q0 1 ha rfl hin hdg (fun H1 locs1 h1 h2 h3 => kk H1 locs1 ⟨h1, h2, h3⟩)
theorem rx_last (B : bx p s m args c cc nL own A D z) (hI : iw D A s w H locs) (q0 : Nat) {a n : Nat} {f : Nat → Int64} (ha : w[q0]? = some (a, .inl (z.2.2, n, .inr (.inl f)))) {i : Int32} {x : Int64} (hin : zin i n) (hw : w.set q0 (a, .inl (z.2.2, n, .inr (.inl (vp_updL f i.toNatClampNeg x)))) = w') (hdg : decode cc pc = .ok (.lastore, 1))
    (kk : ∀ (H1 : Heap) (locs1 : List Loc), iw D A s w' H1 locs1 → W p l e R s m args below meth c H1 locs1 cells slots Q (F0 m (pc + 1) ls rest)) : W p l e R s m args below meth c H locs cells slots Q (F0 m pc ls (.long x :: .int i :: .ref a :: rest)) := by
  obtain ⟨hx, hb, hml, hown, hts, hK, hN, hZ, hA⟩ := B
  subst hw
  exact va_last (D := D) (cl := zcl) hx hb hK hI.1 hI.2.1 hI.2.2 q0 2 ha rfl hin hdg (fun H1 locs1 h1 h2 h3 => kk H1 locs1 ⟨h1, h2, h3⟩)
theorem rx_alen (B : bx p s m args c cc nL own A D z) (hI : iw D A s w H locs) (q0 t0 : Nat) {a : Nat} {cA : ClassId} {x : vp_A} (ha : w[q0]? = some (a, .inl (cA, x))) {ty : FieldType} (ht : (zty z)[t0]? = some (cA, ty)) {v : Int32} (hv : Int32.ofNat x.1 = v) (hdg : decode cc pc = .ok (.arraylength, 1))
    (kk : W p l e R s m args below meth c H locs cells slots Q (F0 m (pc + 1) ls (.int v :: rest))) : W p l e R s m args below meth c H locs cells slots Q (F0 m pc ls (.ref a :: rest)) := by
  obtain ⟨hx, hb, hml, hown, hts, hK, hN, hZ, hA⟩ := B
  exact va_alen (D := D) (cl := zcl) hx hb hK hI.1 q0 t0 ha ht hv hdg kk
theorem rx_gets (B : bx p s m args c cc nL own A D z) (hI : iw D A s w H locs) (j : Nat) {C n : String} {vs : List Int32} (hj : zst[j]? = some (C, n, vs)) {index : Nat} (hl : Cond.fieldLink own index C n "[I" ∈ zT) (hdg : decode cc pc = .ok (.getstatic index, 3))
    (kk : ∀ t : Nat, va_T .int t vs.length (fun j => .int (vs.getD j 0)) A s s.heap → W p l e R s m args below meth c H locs cells slots Q (F0 m (pc + 3) ls (.ref t :: rest))) : W p l e R s m args below meth c H locs cells slots Q (F0 m pc ls rest) := by
  obtain ⟨hx, hb, hml, hown, hts, hK, hN, hZ, hA⟩ := B
  obtain ⟨t, h1, h2⟩ := hZ _ (List.mem_of_getElem? hj)
  exact va_gets hx hb h1 hI.2.2 hown (hts _ hl) (fun _ h => h) hdg (kk t h2)
theorem rx_getsN (B : bx p s m args c cc nL own A D z) (hI : iw D A s w H locs) (j : Nat) {C n : String} {vs : List Int32} (hj : zst[j]? = some (C, n, vs)) {index : Nat} {host : String} (hl : Cond.fieldLinkNest own index C n "[I" host ∈ zN) (hdg : decode cc pc = .ok (.getstatic index, 3))
    (kk : ∀ t : Nat, va_T .int t vs.length (fun j => .int (vs.getD j 0)) A s s.heap → W p l e R s m args below meth c H locs cells slots Q (F0 m (pc + 3) ls (.ref t :: rest))) : W p l e R s m args below meth c H locs cells slots Q (F0 m pc ls rest) := by
  obtain ⟨hx, hb, hml, hown, hts, hK, hN, hZ, hA⟩ := B
  obtain ⟨t, h1, h2⟩ := hZ _ (List.mem_of_getElem? hj)
  exact va_getsN hx hb h1 hI.2.2 hown (va_Nw.use rfl (hN _ hl)) (fun _ h => h) hdg (kk t h2)
theorem rx_ti (B : bx p s m args c cc nL own A D z) (hI : iw D A s w H locs) {t n : Nat} {vs : List Int32} (hT : va_T .int t vs.length (fun j => .int (vs.getD j 0)) A s s.heap) (hn : vs.length = n) {i : Int32} (hin : zin i n) (hdg : decode cc pc = .ok (.iaload, 1))
    (kk : W p l e R s m args below meth c H locs cells slots Q (F0 m (pc + 1) ls (.int (vs.getD i.toNatClampNeg 0) :: rest))) : W p l e R s m args below meth c H locs cells slots Q (F0 m pc ls (.int i :: .ref t :: rest)) := by
  subst hn
  exact va_ti B.1 B.2.1 hT hI.2.2 hin rfl hdg kk
theorem rx_tlen (B : bx p s m args c cc nL own A D z) (hI : iw D A s w H locs) {t : Nat} {vs : List Int32} (hT : va_T .int t vs.length (fun j => .int (vs.getD j 0)) A s s.heap) {v : Int32} (hv : Int32.ofNat vs.length = v) (hdg : decode cc pc = .ok (.arraylength, 1))
    (kk : W p l e R s m args below meth c H locs cells slots Q (F0 m (pc + 1) ls (.int v :: rest))) : W p l e R s m args below meth c H locs cells slots Q (F0 m pc ls (.ref t :: rest)) := va_tlen B.1 B.2.1 hT hI.2.2 hv hdg kk
end ZB
/-- a contract: world before, world behind -/
def zMet (l : Launch) (D : va_G) (z : zZ) (y : MethodName) (cw : Cond) (rm : Room) (av : List Value) (w : va_W) (Qa : (Nat → Prop) → Array Value → State → Outcome → State → Prop) : Prop :=
  ∀ sz : Nat, Met l y (cw :: zT) rm (va_Pc av (fun U => U.heap.size = sz ∧ zPre D z w U)) (Qa (va_A w sz)) 0 0 (va_A w sz)
def zQi (D : va_G) (r : Int32) (w' : va_W) (A : Nat → Prop) : Array Value → State → Outcome → State → Prop := va_Qi (fun r1 (_ : Unit) => r1 = r) (fun _ t => va_P D zcl w' t.heap ∧ va_D A w') A
def zQl (D : va_G) (r : Int64) (w' : va_W) (A : Nat → Prop) : Array Value → State → Outcome → State → Prop := va_Ql (fun r1 (_ : Unit) => r1 = r) (fun _ t => va_P D zcl w' t.heap ∧ va_D A w') A
def zQv (D : va_G) (w' : va_W) (A : Nat → Prop) : Array Value → State → Outcome → State → Prop := va_Qv (fun (_ : Unit) => True) (fun _ t => va_P D zcl w' t.heap ∧ va_D A w') A
def zQr (D : va_G) (r : Nat) (w' : va_W) (A : Nat → Prop) : Array Value → State → Outcome → State → Prop := va_Qr (fun (_ : Unit) => True) (fun _ a t => a = r ∧ va_P D zcl w' t.heap ∧ va_D A w') A
section ZC
variable {p : Program} {l : Launch} {e : Env} {R : Room} {s : State} {m : MethodId} {args : Array Value} {below : List Frame} {meth : Method} {c : Code} {H : Heap} {locs : List Loc} {cells slots : Nat} {Q : State → Prop}
variable {cc bytes : ByteArray} {nL maxL n index : Nat} {ret : Option FieldType} {own C host : String} {A : Nat → Prop} {D : va_G} {z : zZ} {w w' : va_W} {pc : Nat} {ls : Array Slot} {As rest st0 : List Value} {y : MethodName} {rm : Room} {b : Nat}
theorem rx_Vi (B : bx p s m args c cc nL own A D z) (hI : iw D A s w H locs) (hl : ls.size = nL) {r : Int32} (hM : zMet l D z y (.code y bytes maxL ret) rm (.ref b :: As) w (zQi D r w')) (h1 : Cond.methodLink own index y ∈ zT) (h2 : Cond.instanceMethod y ∈ zT) (h3 : Cond.selects C y y ∈ zT) (h4 : Cond.initialized C ∈ zT) (h5 : Cond.code y bytes maxL ret ∈ zT) (hd : y.cls = C ∧ y.cls ≠ "java/lang/invoke/MethodHandle" ∧ y.cls ≠ "java/lang/invoke/VarHandle" ∧ (parseMethodDescriptor y.desc).map (fun d => d.parameters.length) = some n) (q0 : Nat) {ci : Nat} {fs : List Value} {T : u_T} {N : Nat} (he : w[q0]? = some (b, .inr (ci, fs))) (hcl : zcl[ci]? = some (C, T, N)) (hn : As.length = n) (hst : st0 = As.reverse ++ .ref b :: rest) (hrest : (rest.map fun v => v.category).sum ≤ 8) (hdg : decode cc pc = .ok (.invokevirtual index, 3)) (hR : rm.frames + 1 ≤ R.frames ∧ 8 + (maxL + 11) + rm.locals ≤ R.locals) (hrc : rm.cells = 0) (hrs : rm.slots = 0) (hcs : cells ≤ R.cells ∧ slots ≤ R.slots)
    (kk : ∀ (H1 : Heap) (locs1 : List Loc), iw D A s w' H1 locs1 → W p l e R s m args below meth c H1 locs1 cells slots Q (F0 m (pc + 3) ls (.int r :: rest))) : W p l e R s m args below meth c H locs cells slots Q (F0 m pc ls st0) := by
  have hFc := iw_free B hI
  obtain ⟨hx, hb, hml, hown, hts, hK, hN, hZ, hA⟩ := id B
  refine va_calli (va_runV (As := As) (rest := rest) ⟨hx, hb, hml, hown, hts⟩ (hM H.size) (cwV n hts (fun w hw => by
      have h9 : w ∈ zT := by
        rcases List.mem_append.mp hw with hw | hw
        · simp only [List.mem_cons, List.mem_nil_iff, or_false] at hw
          rcases hw with rfl | rfl | rfl | rfl <;> assumption
        · rcases List.mem_cons.mp hw with rfl | hw
          · exact h5
          · exact hw
      exact ⟨h9, good_of_word (List.mem_filter.mp h9).2⟩) rfl hrc hrs hd hR) ⟨zPre_blind _, va_recv hK hI.1 hcl he, zPre_call B hI _⟩ rfl hn hl hst (lv_room hrest) hdg ⟨hcs.1, hcs.2⟩) hI.2.2 (fun q _ h => hFc q h) hFc (fun r1 u t H1 locs1 ht hvm hw hB hz1 hk1 hS1 => ?_)
  subst hw
  obtain ⟨hP1, hD1⟩ := hB
  rw [ht] at hP1
  exact kk H1 locs1 ⟨hP1, hD1.weaken (fun _ q _ h => hFc q.1 h), hS1⟩
theorem rx_Vl (B : bx p s m args c cc nL own A D z) (hI : iw D A s w H locs) (hl : ls.size = nL) {r : Int64} (hM : zMet l D z y (.code y bytes maxL ret) rm (.ref b :: As) w (zQl D r w')) (h1 : Cond.methodLink own index y ∈ zT) (h2 : Cond.instanceMethod y ∈ zT) (h3 : Cond.selects C y y ∈ zT) (h4 : Cond.initialized C ∈ zT) (h5 : Cond.code y bytes maxL ret ∈ zT) (hd : y.cls = C ∧ y.cls ≠ "java/lang/invoke/MethodHandle" ∧ y.cls ≠ "java/lang/invoke/VarHandle" ∧ (parseMethodDescriptor y.desc).map (fun d => d.parameters.length) = some n) (q0 : Nat) {ci : Nat} {fs : List Value} {T : u_T} {N : Nat} (he : w[q0]? = some (b, .inr (ci, fs))) (hcl : zcl[ci]? = some (C, T, N)) (hn : As.length = n) (hst : st0 = As.reverse ++ .ref b :: rest) (hrest : (rest.map fun v => v.category).sum ≤ 8) (hdg : decode cc pc = .ok (.invokevirtual index, 3)) (hR : rm.frames + 1 ≤ R.frames ∧ 8 + (maxL + 11) + rm.locals ≤ R.locals) (hrc : rm.cells = 0) (hrs : rm.slots = 0) (hcs : cells ≤ R.cells ∧ slots ≤ R.slots)
    (kk : ∀ (H1 : Heap) (locs1 : List Loc), iw D A s w' H1 locs1 → W p l e R s m args below meth c H1 locs1 cells slots Q (F0 m (pc + 3) ls (.long r :: rest))) : W p l e R s m args below meth c H locs cells slots Q (F0 m pc ls st0) := by
  have hFc := iw_free B hI
  obtain ⟨hx, hb, hml, hown, hts, hK, hN, hZ, hA⟩ := id B
  refine va_calll (va_runV (As := As) (rest := rest) ⟨hx, hb, hml, hown, hts⟩ (hM H.size) (cwV n hts (fun w hw => by
      have h9 : w ∈ zT := by
        rcases List.mem_append.mp hw with hw | hw
        · simp only [List.mem_cons, List.mem_nil_iff, or_false] at hw
          rcases hw with rfl | rfl | rfl | rfl <;> assumption
        · rcases List.mem_cons.mp hw with rfl | hw
          · exact h5
          · exact hw
      exact ⟨h9, good_of_word (List.mem_filter.mp h9).2⟩) rfl hrc hrs hd hR) ⟨zPre_blind _, va_recv hK hI.1 hcl he, zPre_call B hI _⟩ rfl hn hl hst (lv_room hrest) hdg ⟨hcs.1, hcs.2⟩) hI.2.2 (fun q _ h => hFc q h) hFc (fun r1 u t H1 locs1 ht hvm hw hB hz1 hk1 hS1 => ?_)
  subst hw
  obtain ⟨hP1, hD1⟩ := hB
  rw [ht] at hP1
  exact kk H1 locs1 ⟨hP1, hD1.weaken (fun _ q _ h => hFc q.1 h), hS1⟩
theorem rx_Vv (B : bx p s m args c cc nL own A D z) (hI : iw D A s w H locs) (hl : ls.size = nL)  (hM : zMet l D z y (.code y bytes maxL ret) rm (.ref b :: As) w (zQv D w')) (h1 : Cond.methodLink own index y ∈ zT) (h2 : Cond.instanceMethod y ∈ zT) (h3 : Cond.selects C y y ∈ zT) (h4 : Cond.initialized C ∈ zT) (h5 : Cond.code y bytes maxL ret ∈ zT) (hd : y.cls = C ∧ y.cls ≠ "java/lang/invoke/MethodHandle" ∧ y.cls ≠ "java/lang/invoke/VarHandle" ∧ (parseMethodDescriptor y.desc).map (fun d => d.parameters.length) = some n) (q0 : Nat) {ci : Nat} {fs : List Value} {T : u_T} {N : Nat} (he : w[q0]? = some (b, .inr (ci, fs))) (hcl : zcl[ci]? = some (C, T, N)) (hn : As.length = n) (hst : st0 = As.reverse ++ .ref b :: rest) (hrest : (rest.map fun v => v.category).sum ≤ 8) (hdg : decode cc pc = .ok (.invokevirtual index, 3)) (hR : rm.frames + 1 ≤ R.frames ∧ 8 + (maxL + 11) + rm.locals ≤ R.locals) (hrc : rm.cells = 0) (hrs : rm.slots = 0) (hcs : cells ≤ R.cells ∧ slots ≤ R.slots)
    (kk : ∀ (H1 : Heap) (locs1 : List Loc), iw D A s w' H1 locs1 → W p l e R s m args below meth c H1 locs1 cells slots Q (F0 m (pc + 3) ls (rest))) : W p l e R s m args below meth c H locs cells slots Q (F0 m pc ls st0) := by
  have hFc := iw_free B hI
  obtain ⟨hx, hb, hml, hown, hts, hK, hN, hZ, hA⟩ := id B
  refine va_callv (va_runV (As := As) (rest := rest) ⟨hx, hb, hml, hown, hts⟩ (hM H.size) (cwV n hts (fun w hw => by
      have h9 : w ∈ zT := by
        rcases List.mem_append.mp hw with hw | hw
        · simp only [List.mem_cons, List.mem_nil_iff, or_false] at hw
          rcases hw with rfl | rfl | rfl | rfl <;> assumption
        · rcases List.mem_cons.mp hw with rfl | hw
          · exact h5
          · exact hw
      exact ⟨h9, good_of_word (List.mem_filter.mp h9).2⟩) rfl hrc hrs hd hR) ⟨zPre_blind _, va_recv hK hI.1 hcl he, zPre_call B hI _⟩ rfl hn hl hst (lv_room hrest) hdg ⟨hcs.1, hcs.2⟩) hI.2.2 (fun q _ h => hFc q h) hFc (fun u t H1 locs1 ht hvm hw hB hz1 hk1 hS1 => ?_)
  obtain ⟨hP1, hD1⟩ := hB
  rw [ht] at hP1
  exact kk H1 locs1 ⟨hP1, hD1.weaken (fun _ q _ h => hFc q.1 h), hS1⟩
theorem rx_Vr (B : bx p s m args c cc nL own A D z) (hI : iw D A s w H locs) (hl : ls.size = nL) {r : Nat} (hM : zMet l D z y (.code y bytes maxL ret) rm (.ref b :: As) w (zQr D r w')) (h1 : Cond.methodLink own index y ∈ zT) (h2 : Cond.instanceMethod y ∈ zT) (h3 : Cond.selects C y y ∈ zT) (h4 : Cond.initialized C ∈ zT) (h5 : Cond.code y bytes maxL ret ∈ zT) (hd : y.cls = C ∧ y.cls ≠ "java/lang/invoke/MethodHandle" ∧ y.cls ≠ "java/lang/invoke/VarHandle" ∧ (parseMethodDescriptor y.desc).map (fun d => d.parameters.length) = some n) (q0 : Nat) {ci : Nat} {fs : List Value} {T : u_T} {N : Nat} (he : w[q0]? = some (b, .inr (ci, fs))) (hcl : zcl[ci]? = some (C, T, N)) (hn : As.length = n) (hst : st0 = As.reverse ++ .ref b :: rest) (hrest : (rest.map fun v => v.category).sum ≤ 8) (hdg : decode cc pc = .ok (.invokevirtual index, 3)) (hR : rm.frames + 1 ≤ R.frames ∧ 8 + (maxL + 11) + rm.locals ≤ R.locals) (hrc : rm.cells = 0) (hrs : rm.slots = 0) (hcs : cells ≤ R.cells ∧ slots ≤ R.slots)
    (kk : ∀ (H1 : Heap) (locs1 : List Loc), iw D A s w' H1 locs1 → W p l e R s m args below meth c H1 locs1 cells slots Q (F0 m (pc + 3) ls (.ref r :: rest))) : W p l e R s m args below meth c H locs cells slots Q (F0 m pc ls st0) := by
  have hFc := iw_free B hI
  obtain ⟨hx, hb, hml, hown, hts, hK, hN, hZ, hA⟩ := id B
  refine va_callr (va_runV (As := As) (rest := rest) ⟨hx, hb, hml, hown, hts⟩ (hM H.size) (cwV n hts (fun w hw => by
      have h9 : w ∈ zT := by
        rcases List.mem_append.mp hw with hw | hw
        · simp only [List.mem_cons, List.mem_nil_iff, or_false] at hw
          rcases hw with rfl | rfl | rfl | rfl <;> assumption
        · rcases List.mem_cons.mp hw with rfl | hw
          · exact h5
          · exact hw
      exact ⟨h9, good_of_word (List.mem_filter.mp h9).2⟩) rfl hrc hrs hd hR) ⟨zPre_blind _, va_recv hK hI.1 hcl he, zPre_call B hI _⟩ rfl hn hl hst (lv_room hrest) hdg ⟨hcs.1, hcs.2⟩) hI.2.2 (fun q _ h => hFc q h) hFc (fun u r1 t H1 locs1 ht hvm hw hB hz1 hk1 hS1 => ?_)
  obtain ⟨e9, hP1, hD1⟩ := hB
  subst e9
  rw [ht] at hP1
  exact kk H1 locs1 ⟨hP1, hD1.weaken (fun _ q _ h => hFc q.1 h), hS1⟩
theorem rx_Ni (B : bx p s m args c cc nL own A D z) (hI : iw D A s w H locs) (hl : ls.size = nL) {r : Int32} (hM : zMet l D z y (.code y bytes maxL ret) rm (.ref b :: As) w (zQi D r w')) (h1 : Cond.methodLinkNest own index y host ∈ zN) (h2 : Cond.instanceMethod y ∈ zT) (h3 : Cond.selects C y y ∈ zT) (h4 : Cond.initialized y.cls ∈ zT) (h5 : Cond.code y bytes maxL ret ∈ zT) (hd : y.cls ≠ "java/lang/invoke/MethodHandle" ∧ y.cls ≠ "java/lang/invoke/VarHandle" ∧ (parseMethodDescriptor y.desc).map (fun d => d.parameters.length) = some n) (q0 : Nat) {ci : Nat} {fs : List Value} {T : u_T} {N : Nat} (he : w[q0]? = some (b, .inr (ci, fs))) (hcl : zcl[ci]? = some (C, T, N)) (hn : As.length = n) (hst : st0 = As.reverse ++ .ref b :: rest) (hrest : (rest.map fun v => v.category).sum ≤ 8) (hdg : decode cc pc = .ok (.invokevirtual index, 3)) (hR : rm.frames + 1 ≤ R.frames ∧ 8 + (maxL + 11) + rm.locals ≤ R.locals) (hrc : rm.cells = 0) (hrs : rm.slots = 0) (hcs : cells ≤ R.cells ∧ slots ≤ R.slots)
    (kk : ∀ (H1 : Heap) (locs1 : List Loc), iw D A s w' H1 locs1 → W p l e R s m args below meth c H1 locs1 cells slots Q (F0 m (pc + 3) ls (.int r :: rest))) : W p l e R s m args below meth c H locs cells slots Q (F0 m pc ls st0) := by
  have hFc := iw_free B hI
  obtain ⟨hx, hb, hml, hown, hts, hK, hN, hZ, hA⟩ := id B
  refine va_calli (va_runVN (As := As) (rest := rest) ⟨hx, hb, hml, hown, hts⟩ (hM H.size) ⟨va_cnB n hts (zGoodT h5) rfl hrc hrs (hN _ h1) (hts _ h4) hd hR, hts _ h2, hts _ h3⟩ ⟨zPre_blind _, va_recv hK hI.1 hcl he, zPre_call B hI _⟩ rfl hn hl hst (lv_room hrest) hdg ⟨hcs.1, hcs.2⟩) hI.2.2 (fun q _ h => hFc q h) hFc (fun r1 u t H1 locs1 ht hvm hw hB hz1 hk1 hS1 => ?_)
  subst hw
  obtain ⟨hP1, hD1⟩ := hB
  rw [ht] at hP1
  exact kk H1 locs1 ⟨hP1, hD1.weaken (fun _ q _ h => hFc q.1 h), hS1⟩
theorem rx_Nl (B : bx p s m args c cc nL own A D z) (hI : iw D A s w H locs) (hl : ls.size = nL) {r : Int64} (hM : zMet l D z y (.code y bytes maxL ret) rm (.ref b :: As) w (zQl D r w')) (h1 : Cond.methodLinkNest own index y host ∈ zN) (h2 : Cond.instanceMethod y ∈ zT) (h3 : Cond.selects C y y ∈ zT) (h4 : Cond.initialized y.cls ∈ zT) (h5 : Cond.code y bytes maxL ret ∈ zT) (hd : y.cls ≠ "java/lang/invoke/MethodHandle" ∧ y.cls ≠ "java/lang/invoke/VarHandle" ∧ (parseMethodDescriptor y.desc).map (fun d => d.parameters.length) = some n) (q0 : Nat) {ci : Nat} {fs : List Value} {T : u_T} {N : Nat} (he : w[q0]? = some (b, .inr (ci, fs))) (hcl : zcl[ci]? = some (C, T, N)) (hn : As.length = n) (hst : st0 = As.reverse ++ .ref b :: rest) (hrest : (rest.map fun v => v.category).sum ≤ 8) (hdg : decode cc pc = .ok (.invokevirtual index, 3)) (hR : rm.frames + 1 ≤ R.frames ∧ 8 + (maxL + 11) + rm.locals ≤ R.locals) (hrc : rm.cells = 0) (hrs : rm.slots = 0) (hcs : cells ≤ R.cells ∧ slots ≤ R.slots)
    (kk : ∀ (H1 : Heap) (locs1 : List Loc), iw D A s w' H1 locs1 → W p l e R s m args below meth c H1 locs1 cells slots Q (F0 m (pc + 3) ls (.long r :: rest))) : W p l e R s m args below meth c H locs cells slots Q (F0 m pc ls st0) := by
  have hFc := iw_free B hI
  obtain ⟨hx, hb, hml, hown, hts, hK, hN, hZ, hA⟩ := id B
  refine va_calll (va_runVN (As := As) (rest := rest) ⟨hx, hb, hml, hown, hts⟩ (hM H.size) ⟨va_cnB n hts (zGoodT h5) rfl hrc hrs (hN _ h1) (hts _ h4) hd hR, hts _ h2, hts _ h3⟩ ⟨zPre_blind _, va_recv hK hI.1 hcl he, zPre_call B hI _⟩ rfl hn hl hst (lv_room hrest) hdg ⟨hcs.1, hcs.2⟩) hI.2.2 (fun q _ h => hFc q h) hFc (fun r1 u t H1 locs1 ht hvm hw hB hz1 hk1 hS1 => ?_)
  subst hw
  obtain ⟨hP1, hD1⟩ := hB
  rw [ht] at hP1
  exact kk H1 locs1 ⟨hP1, hD1.weaken (fun _ q _ h => hFc q.1 h), hS1⟩
theorem rx_Nv (B : bx p s m args c cc nL own A D z) (hI : iw D A s w H locs) (hl : ls.size = nL)  (hM : zMet l D z y (.code y bytes maxL ret) rm (.ref b :: As) w (zQv D w')) (h1 : Cond.methodLinkNest own index y host ∈ zN) (h2 : Cond.instanceMethod y ∈ zT) (h3 : Cond.selects C y y ∈ zT) (h4 : Cond.initialized y.cls ∈ zT) (h5 : Cond.code y bytes maxL ret ∈ zT) (hd : y.cls ≠ "java/lang/invoke/MethodHandle" ∧ y.cls ≠ "java/lang/invoke/VarHandle" ∧ (parseMethodDescriptor y.desc).map (fun d => d.parameters.length) = some n) (q0 : Nat) {ci : Nat} {fs : List Value} {T : u_T} {N : Nat} (he : w[q0]? = some (b, .inr (ci, fs))) (hcl : zcl[ci]? = some (C, T, N)) (hn : As.length = n) (hst : st0 = As.reverse ++ .ref b :: rest) (hrest : (rest.map fun v => v.category).sum ≤ 8) (hdg : decode cc pc = .ok (.invokevirtual index, 3)) (hR : rm.frames + 1 ≤ R.frames ∧ 8 + (maxL + 11) + rm.locals ≤ R.locals) (hrc : rm.cells = 0) (hrs : rm.slots = 0) (hcs : cells ≤ R.cells ∧ slots ≤ R.slots)
    (kk : ∀ (H1 : Heap) (locs1 : List Loc), iw D A s w' H1 locs1 → W p l e R s m args below meth c H1 locs1 cells slots Q (F0 m (pc + 3) ls (rest))) : W p l e R s m args below meth c H locs cells slots Q (F0 m pc ls st0) := by
  have hFc := iw_free B hI
  obtain ⟨hx, hb, hml, hown, hts, hK, hN, hZ, hA⟩ := id B
  refine va_callv (va_runVN (As := As) (rest := rest) ⟨hx, hb, hml, hown, hts⟩ (hM H.size) ⟨va_cnB n hts (zGoodT h5) rfl hrc hrs (hN _ h1) (hts _ h4) hd hR, hts _ h2, hts _ h3⟩ ⟨zPre_blind _, va_recv hK hI.1 hcl he, zPre_call B hI _⟩ rfl hn hl hst (lv_room hrest) hdg ⟨hcs.1, hcs.2⟩) hI.2.2 (fun q _ h => hFc q h) hFc (fun u t H1 locs1 ht hvm hw hB hz1 hk1 hS1 => ?_)
  obtain ⟨hP1, hD1⟩ := hB
  rw [ht] at hP1
  exact kk H1 locs1 ⟨hP1, hD1.weaken (fun _ q _ h => hFc q.1 h), hS1⟩
theorem rx_Nr (B : bx p s m args c cc nL own A D z) (hI : iw D A s w H locs) (hl : ls.size = nL) {r : Nat} (hM : zMet l D z y (.code y bytes maxL ret) rm (.ref b :: As) w (zQr D r w')) (h1 : Cond.methodLinkNest own index y host ∈ zN) (h2 : Cond.instanceMethod y ∈ zT) (h3 : Cond.selects C y y ∈ zT) (h4 : Cond.initialized y.cls ∈ zT) (h5 : Cond.code y bytes maxL ret ∈ zT) (hd : y.cls ≠ "java/lang/invoke/MethodHandle" ∧ y.cls ≠ "java/lang/invoke/VarHandle" ∧ (parseMethodDescriptor y.desc).map (fun d => d.parameters.length) = some n) (q0 : Nat) {ci : Nat} {fs : List Value} {T : u_T} {N : Nat} (he : w[q0]? = some (b, .inr (ci, fs))) (hcl : zcl[ci]? = some (C, T, N)) (hn : As.length = n) (hst : st0 = As.reverse ++ .ref b :: rest) (hrest : (rest.map fun v => v.category).sum ≤ 8) (hdg : decode cc pc = .ok (.invokevirtual index, 3)) (hR : rm.frames + 1 ≤ R.frames ∧ 8 + (maxL + 11) + rm.locals ≤ R.locals) (hrc : rm.cells = 0) (hrs : rm.slots = 0) (hcs : cells ≤ R.cells ∧ slots ≤ R.slots)
    (kk : ∀ (H1 : Heap) (locs1 : List Loc), iw D A s w' H1 locs1 → W p l e R s m args below meth c H1 locs1 cells slots Q (F0 m (pc + 3) ls (.ref r :: rest))) : W p l e R s m args below meth c H locs cells slots Q (F0 m pc ls st0) := by
  have hFc := iw_free B hI
  obtain ⟨hx, hb, hml, hown, hts, hK, hN, hZ, hA⟩ := id B
  refine va_callr (va_runVN (As := As) (rest := rest) ⟨hx, hb, hml, hown, hts⟩ (hM H.size) ⟨va_cnB n hts (zGoodT h5) rfl hrc hrs (hN _ h1) (hts _ h4) hd hR, hts _ h2, hts _ h3⟩ ⟨zPre_blind _, va_recv hK hI.1 hcl he, zPre_call B hI _⟩ rfl hn hl hst (lv_room hrest) hdg ⟨hcs.1, hcs.2⟩) hI.2.2 (fun q _ h => hFc q h) hFc (fun u r1 t H1 locs1 ht hvm hw hB hz1 hk1 hS1 => ?_)
  obtain ⟨e9, hP1, hD1⟩ := hB
  subst e9
  rw [ht] at hP1
  exact kk H1 locs1 ⟨hP1, hD1.weaken (fun _ q _ h => hFc q.1 h), hS1⟩
theorem rx_Si (B : bx p s m args c cc nL own A D z) (hI : iw D A s w H locs) (hl : ls.size = nL) {r : Int32} (hM : zMet l D z y (.code y bytes maxL ret) rm As w (zQi D r w')) (h1 : Cond.methodLink own index y ∈ zT) (h2 : Cond.static y ∈ zT) (h4 : Cond.initialized y.cls ∈ zT) (h5 : Cond.code y bytes maxL ret ∈ zT) (hd : y.cls ≠ "java/lang/invoke/MethodHandle" ∧ y.cls ≠ "java/lang/invoke/VarHandle" ∧ (parseMethodDescriptor y.desc).map (fun d => d.parameters.length) = some n) (hn : As.length = n) (hst : st0 = As.reverse ++ rest) (hrest : (rest.map fun v => v.category).sum ≤ 8) (hdg : decode cc pc = .ok (.invokestatic index, 3)) (hR : rm.frames + 1 ≤ R.frames ∧ 8 + (maxL + 11) + rm.locals ≤ R.locals) (hrc : rm.cells = 0) (hrs : rm.slots = 0) (hcs : cells ≤ R.cells ∧ slots ≤ R.slots)
    (kk : ∀ (H1 : Heap) (locs1 : List Loc), iw D A s w' H1 locs1 → W p l e R s m args below meth c H1 locs1 cells slots Q (F0 m (pc + 3) ls (.int r :: rest))) : W p l e R s m args below meth c H locs cells slots Q (F0 m pc ls st0) := by
  have hFc := iw_free B hI
  obtain ⟨hx, hb, hml, hown, hts, hK, hN, hZ, hA⟩ := id B
  refine va_calli (va_runS (As := As) (rest := rest) ⟨hx, hb, hml, hown, hts⟩ (hM H.size) ⟨callB_of n hts (zGoodT h5) rfl hrc hrs (hts _ h4) (hts _ h1) hd hR, hts _ h2⟩ ⟨zPre_blind _, zPre_call B hI _⟩ rfl hn hl hst (lv_room hrest) hdg ⟨hcs.1, hcs.2⟩) hI.2.2 (fun q _ h => hFc q h) hFc (fun r1 u t H1 locs1 ht hvm hw hB hz1 hk1 hS1 => ?_)
  subst hw
  obtain ⟨hP1, hD1⟩ := hB
  rw [ht] at hP1
  exact kk H1 locs1 ⟨hP1, hD1.weaken (fun _ q _ h => hFc q.1 h), hS1⟩
theorem rx_Sl (B : bx p s m args c cc nL own A D z) (hI : iw D A s w H locs) (hl : ls.size = nL) {r : Int64} (hM : zMet l D z y (.code y bytes maxL ret) rm As w (zQl D r w')) (h1 : Cond.methodLink own index y ∈ zT) (h2 : Cond.static y ∈ zT) (h4 : Cond.initialized y.cls ∈ zT) (h5 : Cond.code y bytes maxL ret ∈ zT) (hd : y.cls ≠ "java/lang/invoke/MethodHandle" ∧ y.cls ≠ "java/lang/invoke/VarHandle" ∧ (parseMethodDescriptor y.desc).map (fun d => d.parameters.length) = some n) (hn : As.length = n) (hst : st0 = As.reverse ++ rest) (hrest : (rest.map fun v => v.category).sum ≤ 8) (hdg : decode cc pc = .ok (.invokestatic index, 3)) (hR : rm.frames + 1 ≤ R.frames ∧ 8 + (maxL + 11) + rm.locals ≤ R.locals) (hrc : rm.cells = 0) (hrs : rm.slots = 0) (hcs : cells ≤ R.cells ∧ slots ≤ R.slots)
    (kk : ∀ (H1 : Heap) (locs1 : List Loc), iw D A s w' H1 locs1 → W p l e R s m args below meth c H1 locs1 cells slots Q (F0 m (pc + 3) ls (.long r :: rest))) : W p l e R s m args below meth c H locs cells slots Q (F0 m pc ls st0) := by
  have hFc := iw_free B hI
  obtain ⟨hx, hb, hml, hown, hts, hK, hN, hZ, hA⟩ := id B
  refine va_calll (va_runS (As := As) (rest := rest) ⟨hx, hb, hml, hown, hts⟩ (hM H.size) ⟨callB_of n hts (zGoodT h5) rfl hrc hrs (hts _ h4) (hts _ h1) hd hR, hts _ h2⟩ ⟨zPre_blind _, zPre_call B hI _⟩ rfl hn hl hst (lv_room hrest) hdg ⟨hcs.1, hcs.2⟩) hI.2.2 (fun q _ h => hFc q h) hFc (fun r1 u t H1 locs1 ht hvm hw hB hz1 hk1 hS1 => ?_)
  subst hw
  obtain ⟨hP1, hD1⟩ := hB
  rw [ht] at hP1
  exact kk H1 locs1 ⟨hP1, hD1.weaken (fun _ q _ h => hFc q.1 h), hS1⟩
theorem rx_Sv (B : bx p s m args c cc nL own A D z) (hI : iw D A s w H locs) (hl : ls.size = nL)  (hM : zMet l D z y (.code y bytes maxL ret) rm As w (zQv D w')) (h1 : Cond.methodLink own index y ∈ zT) (h2 : Cond.static y ∈ zT) (h4 : Cond.initialized y.cls ∈ zT) (h5 : Cond.code y bytes maxL ret ∈ zT) (hd : y.cls ≠ "java/lang/invoke/MethodHandle" ∧ y.cls ≠ "java/lang/invoke/VarHandle" ∧ (parseMethodDescriptor y.desc).map (fun d => d.parameters.length) = some n) (hn : As.length = n) (hst : st0 = As.reverse ++ rest) (hrest : (rest.map fun v => v.category).sum ≤ 8) (hdg : decode cc pc = .ok (.invokestatic index, 3)) (hR : rm.frames + 1 ≤ R.frames ∧ 8 + (maxL + 11) + rm.locals ≤ R.locals) (hrc : rm.cells = 0) (hrs : rm.slots = 0) (hcs : cells ≤ R.cells ∧ slots ≤ R.slots)
    (kk : ∀ (H1 : Heap) (locs1 : List Loc), iw D A s w' H1 locs1 → W p l e R s m args below meth c H1 locs1 cells slots Q (F0 m (pc + 3) ls (rest))) : W p l e R s m args below meth c H locs cells slots Q (F0 m pc ls st0) := by
  have hFc := iw_free B hI
  obtain ⟨hx, hb, hml, hown, hts, hK, hN, hZ, hA⟩ := id B
  refine va_callv (va_runS (As := As) (rest := rest) ⟨hx, hb, hml, hown, hts⟩ (hM H.size) ⟨callB_of n hts (zGoodT h5) rfl hrc hrs (hts _ h4) (hts _ h1) hd hR, hts _ h2⟩ ⟨zPre_blind _, zPre_call B hI _⟩ rfl hn hl hst (lv_room hrest) hdg ⟨hcs.1, hcs.2⟩) hI.2.2 (fun q _ h => hFc q h) hFc (fun u t H1 locs1 ht hvm hw hB hz1 hk1 hS1 => ?_)
  obtain ⟨hP1, hD1⟩ := hB
  rw [ht] at hP1
  exact kk H1 locs1 ⟨hP1, hD1.weaken (fun _ q _ h => hFc q.1 h), hS1⟩
theorem rx_Sr (B : bx p s m args c cc nL own A D z) (hI : iw D A s w H locs) (hl : ls.size = nL) {r : Nat} (hM : zMet l D z y (.code y bytes maxL ret) rm As w (zQr D r w')) (h1 : Cond.methodLink own index y ∈ zT) (h2 : Cond.static y ∈ zT) (h4 : Cond.initialized y.cls ∈ zT) (h5 : Cond.code y bytes maxL ret ∈ zT) (hd : y.cls ≠ "java/lang/invoke/MethodHandle" ∧ y.cls ≠ "java/lang/invoke/VarHandle" ∧ (parseMethodDescriptor y.desc).map (fun d => d.parameters.length) = some n) (hn : As.length = n) (hst : st0 = As.reverse ++ rest) (hrest : (rest.map fun v => v.category).sum ≤ 8) (hdg : decode cc pc = .ok (.invokestatic index, 3)) (hR : rm.frames + 1 ≤ R.frames ∧ 8 + (maxL + 11) + rm.locals ≤ R.locals) (hrc : rm.cells = 0) (hrs : rm.slots = 0) (hcs : cells ≤ R.cells ∧ slots ≤ R.slots)
    (kk : ∀ (H1 : Heap) (locs1 : List Loc), iw D A s w' H1 locs1 → W p l e R s m args below meth c H1 locs1 cells slots Q (F0 m (pc + 3) ls (.ref r :: rest))) : W p l e R s m args below meth c H locs cells slots Q (F0 m pc ls st0) := by
  have hFc := iw_free B hI
  obtain ⟨hx, hb, hml, hown, hts, hK, hN, hZ, hA⟩ := id B
  refine va_callr (va_runS (As := As) (rest := rest) ⟨hx, hb, hml, hown, hts⟩ (hM H.size) ⟨callB_of n hts (zGoodT h5) rfl hrc hrs (hts _ h4) (hts _ h1) hd hR, hts _ h2⟩ ⟨zPre_blind _, zPre_call B hI _⟩ rfl hn hl hst (lv_room hrest) hdg ⟨hcs.1, hcs.2⟩) hI.2.2 (fun q _ h => hFc q h) hFc (fun u r1 t H1 locs1 ht hvm hw hB hz1 hk1 hS1 => ?_)
  obtain ⟨e9, hP1, hD1⟩ := hB
  subst e9
  rw [ht] at hP1
  exact kk H1 locs1 ⟨hP1, hD1.weaken (fun _ q _ h => hFc q.1 h), hS1⟩
theorem rx_Mi (B : bx p s m args c cc nL own A D z) (hI : iw D A s w H locs) (hl : ls.size = nL) {r : Int32} (hM : zMet l D z y (.code y bytes maxL ret) rm As w (zQi D r w')) (h1 : Cond.methodLinkNest own index y host ∈ zN) (h2 : Cond.static y ∈ zT) (h4 : Cond.initialized y.cls ∈ zT) (h5 : Cond.code y bytes maxL ret ∈ zT) (hd : y.cls ≠ "java/lang/invoke/MethodHandle" ∧ y.cls ≠ "java/lang/invoke/VarHandle" ∧ (parseMethodDescriptor y.desc).map (fun d => d.parameters.length) = some n) (hn : As.length = n) (hst : st0 = As.reverse ++ rest) (hrest : (rest.map fun v => v.category).sum ≤ 8) (hdg : decode cc pc = .ok (.invokestatic index, 3)) (hR : rm.frames + 1 ≤ R.frames ∧ 8 + (maxL + 11) + rm.locals ≤ R.locals) (hrc : rm.cells = 0) (hrs : rm.slots = 0) (hcs : cells ≤ R.cells ∧ slots ≤ R.slots)
    (kk : ∀ (H1 : Heap) (locs1 : List Loc), iw D A s w' H1 locs1 → W p l e R s m args below meth c H1 locs1 cells slots Q (F0 m (pc + 3) ls (.int r :: rest))) : W p l e R s m args below meth c H locs cells slots Q (F0 m pc ls st0) := by
  have hFc := iw_free B hI
  obtain ⟨hx, hb, hml, hown, hts, hK, hN, hZ, hA⟩ := id B
  refine va_calli (va_runSN (As := As) (rest := rest) ⟨hx, hb, hml, hown, hts⟩ (hM H.size) ⟨va_cnB n hts (zGoodT h5) rfl hrc hrs (hN _ h1) (hts _ h4) hd hR, hts _ h2, trivial⟩ ⟨zPre_blind _, zPre_call B hI _⟩ rfl hn hl hst (lv_room hrest) hdg ⟨hcs.1, hcs.2⟩) hI.2.2 (fun q _ h => hFc q h) hFc (fun r1 u t H1 locs1 ht hvm hw hB hz1 hk1 hS1 => ?_)
  subst hw
  obtain ⟨hP1, hD1⟩ := hB
  rw [ht] at hP1
  exact kk H1 locs1 ⟨hP1, hD1.weaken (fun _ q _ h => hFc q.1 h), hS1⟩
theorem rx_Ml (B : bx p s m args c cc nL own A D z) (hI : iw D A s w H locs) (hl : ls.size = nL) {r : Int64} (hM : zMet l D z y (.code y bytes maxL ret) rm As w (zQl D r w')) (h1 : Cond.methodLinkNest own index y host ∈ zN) (h2 : Cond.static y ∈ zT) (h4 : Cond.initialized y.cls ∈ zT) (h5 : Cond.code y bytes maxL ret ∈ zT) (hd : y.cls ≠ "java/lang/invoke/MethodHandle" ∧ y.cls ≠ "java/lang/invoke/VarHandle" ∧ (parseMethodDescriptor y.desc).map (fun d => d.parameters.length) = some n) (hn : As.length = n) (hst : st0 = As.reverse ++ rest) (hrest : (rest.map fun v => v.category).sum ≤ 8) (hdg : decode cc pc = .ok (.invokestatic index, 3)) (hR : rm.frames + 1 ≤ R.frames ∧ 8 + (maxL + 11) + rm.locals ≤ R.locals) (hrc : rm.cells = 0) (hrs : rm.slots = 0) (hcs : cells ≤ R.cells ∧ slots ≤ R.slots)
    (kk : ∀ (H1 : Heap) (locs1 : List Loc), iw D A s w' H1 locs1 → W p l e R s m args below meth c H1 locs1 cells slots Q (F0 m (pc + 3) ls (.long r :: rest))) : W p l e R s m args below meth c H locs cells slots Q (F0 m pc ls st0) := by
  have hFc := iw_free B hI
  obtain ⟨hx, hb, hml, hown, hts, hK, hN, hZ, hA⟩ := id B
  refine va_calll (va_runSN (As := As) (rest := rest) ⟨hx, hb, hml, hown, hts⟩ (hM H.size) ⟨va_cnB n hts (zGoodT h5) rfl hrc hrs (hN _ h1) (hts _ h4) hd hR, hts _ h2, trivial⟩ ⟨zPre_blind _, zPre_call B hI _⟩ rfl hn hl hst (lv_room hrest) hdg ⟨hcs.1, hcs.2⟩) hI.2.2 (fun q _ h => hFc q h) hFc (fun r1 u t H1 locs1 ht hvm hw hB hz1 hk1 hS1 => ?_)
  subst hw
  obtain ⟨hP1, hD1⟩ := hB
  rw [ht] at hP1
  exact kk H1 locs1 ⟨hP1, hD1.weaken (fun _ q _ h => hFc q.1 h), hS1⟩
theorem rx_Mv (B : bx p s m args c cc nL own A D z) (hI : iw D A s w H locs) (hl : ls.size = nL)  (hM : zMet l D z y (.code y bytes maxL ret) rm As w (zQv D w')) (h1 : Cond.methodLinkNest own index y host ∈ zN) (h2 : Cond.static y ∈ zT) (h4 : Cond.initialized y.cls ∈ zT) (h5 : Cond.code y bytes maxL ret ∈ zT) (hd : y.cls ≠ "java/lang/invoke/MethodHandle" ∧ y.cls ≠ "java/lang/invoke/VarHandle" ∧ (parseMethodDescriptor y.desc).map (fun d => d.parameters.length) = some n) (hn : As.length = n) (hst : st0 = As.reverse ++ rest) (hrest : (rest.map fun v => v.category).sum ≤ 8) (hdg : decode cc pc = .ok (.invokestatic index, 3)) (hR : rm.frames + 1 ≤ R.frames ∧ 8 + (maxL + 11) + rm.locals ≤ R.locals) (hrc : rm.cells = 0) (hrs : rm.slots = 0) (hcs : cells ≤ R.cells ∧ slots ≤ R.slots)
    (kk : ∀ (H1 : Heap) (locs1 : List Loc), iw D A s w' H1 locs1 → W p l e R s m args below meth c H1 locs1 cells slots Q (F0 m (pc + 3) ls (rest))) : W p l e R s m args below meth c H locs cells slots Q (F0 m pc ls st0) := by
  have hFc := iw_free B hI
  obtain ⟨hx, hb, hml, hown, hts, hK, hN, hZ, hA⟩ := id B
  refine va_callv (va_runSN (As := As) (rest := rest) ⟨hx, hb, hml, hown, hts⟩ (hM H.size) ⟨va_cnB n hts (zGoodT h5) rfl hrc hrs (hN _ h1) (hts _ h4) hd hR, hts _ h2, trivial⟩ ⟨zPre_blind _, zPre_call B hI _⟩ rfl hn hl hst (lv_room hrest) hdg ⟨hcs.1, hcs.2⟩) hI.2.2 (fun q _ h => hFc q h) hFc (fun u t H1 locs1 ht hvm hw hB hz1 hk1 hS1 => ?_)
  obtain ⟨hP1, hD1⟩ := hB
  rw [ht] at hP1
  exact kk H1 locs1 ⟨hP1, hD1.weaken (fun _ q _ h => hFc q.1 h), hS1⟩
theorem rx_Mr (B : bx p s m args c cc nL own A D z) (hI : iw D A s w H locs) (hl : ls.size = nL) {r : Nat} (hM : zMet l D z y (.code y bytes maxL ret) rm As w (zQr D r w')) (h1 : Cond.methodLinkNest own index y host ∈ zN) (h2 : Cond.static y ∈ zT) (h4 : Cond.initialized y.cls ∈ zT) (h5 : Cond.code y bytes maxL ret ∈ zT) (hd : y.cls ≠ "java/lang/invoke/MethodHandle" ∧ y.cls ≠ "java/lang/invoke/VarHandle" ∧ (parseMethodDescriptor y.desc).map (fun d => d.parameters.length) = some n) (hn : As.length = n) (hst : st0 = As.reverse ++ rest) (hrest : (rest.map fun v => v.category).sum ≤ 8) (hdg : decode cc pc = .ok (.invokestatic index, 3)) (hR : rm.frames + 1 ≤ R.frames ∧ 8 + (maxL + 11) + rm.locals ≤ R.locals) (hrc : rm.cells = 0) (hrs : rm.slots = 0) (hcs : cells ≤ R.cells ∧ slots ≤ R.slots)
    (kk : ∀ (H1 : Heap) (locs1 : List Loc), iw D A s w' H1 locs1 → W p l e R s m args below meth c H1 locs1 cells slots Q (F0 m (pc + 3) ls (.ref r :: rest))) : W p l e R s m args below meth c H locs cells slots Q (F0 m pc ls st0) := by
  have hFc := iw_free B hI
  obtain ⟨hx, hb, hml, hown, hts, hK, hN, hZ, hA⟩ := id B
  refine va_callr (va_runSN (As := As) (rest := rest) ⟨hx, hb, hml, hown, hts⟩ (hM H.size) ⟨va_cnB n hts (zGoodT h5) rfl hrc hrs (hN _ h1) (hts _ h4) hd hR, hts _ h2, trivial⟩ ⟨zPre_blind _, zPre_call B hI _⟩ rfl hn hl hst (lv_room hrest) hdg ⟨hcs.1, hcs.2⟩) hI.2.2 (fun q _ h => hFc q h) hFc (fun u r1 t H1 locs1 ht hvm hw hB hz1 hk1 hS1 => ?_)
  obtain ⟨e9, hP1, hD1⟩ := hB
  subst e9
  rw [ht] at hP1
  exact kk H1 locs1 ⟨hP1, hD1.weaken (fun _ q _ h => hFc q.1 h), hS1⟩
end ZC
theorem zM_i {l : Launch} {D : va_G} {z : zZ} {y : MethodName} {cc : ByteArray} {maxL : Nat} {ret : Option FieldType} {rm : Room} {own : String} (av : List Value) (w : va_W) (r : Int32) (w' : va_W) (hy : plainName y.cls = true) (ho : y.cls = own) (hsz : (lg_sl av).length ≤ maxL)
    (body : ∀ (p : Program) (e : Env) (s : State) (m : MethodId) (args : Array Value) (below : List Frame) (meth : Method) (c : Code) (A : Nat → Prop) (ls : Array Slot), bx p s m args c cc maxL own A D z → meth.sig.returnType = ret → meth.locks = false → iw D A s w s.heap [] → lv_has ls maxL (lv_args 0 av) → W p l e rm s m args below meth c s.heap [] 0 0 (MQ below (zQi D r w' A) args s 0 0 A) (F0 m 0 ls [])) : zMet l D z y (.code y cc maxL ret) rm av w (zQi D r w') := by
  intro sz
  refine Met.ofW (cc := cc) (maxL := maxL) (ret := ret) hy rfl ?_
  intro p e s m args below meth c s₁ B hml hv
  obtain ⟨rfl, hsz0, hP, hK, hD0, hN, hZ⟩ := hv
  subst ho
  subst hsz0
  have hl := lv_entry av (n := maxL) hsz
  rw [lg_entry_eq]
  exact body p e s m _ below meth c _ _ ⟨B.exec, B.bytes, hml, findClass_of_methodNamed B.named, fun w hw => atoms_spec (ws := _ :: zT) B.pre w (List.mem_cons_of_mem _ hw), hK, hN, hZ, fun q h => Or.inr h⟩ B.returns B.notSynchronized ⟨hP, hD0.self, va_S.rf⟩ hl
theorem zM_l {l : Launch} {D : va_G} {z : zZ} {y : MethodName} {cc : ByteArray} {maxL : Nat} {ret : Option FieldType} {rm : Room} {own : String} (av : List Value) (w : va_W) (r : Int64) (w' : va_W) (hy : plainName y.cls = true) (ho : y.cls = own) (hsz : (lg_sl av).length ≤ maxL)
    (body : ∀ (p : Program) (e : Env) (s : State) (m : MethodId) (args : Array Value) (below : List Frame) (meth : Method) (c : Code) (A : Nat → Prop) (ls : Array Slot), bx p s m args c cc maxL own A D z → meth.sig.returnType = ret → meth.locks = false → iw D A s w s.heap [] → lv_has ls maxL (lv_args 0 av) → W p l e rm s m args below meth c s.heap [] 0 0 (MQ below (zQl D r w' A) args s 0 0 A) (F0 m 0 ls [])) : zMet l D z y (.code y cc maxL ret) rm av w (zQl D r w') := by
  intro sz
  refine Met.ofW (cc := cc) (maxL := maxL) (ret := ret) hy rfl ?_
  intro p e s m args below meth c s₁ B hml hv
  obtain ⟨rfl, hsz0, hP, hK, hD0, hN, hZ⟩ := hv
  subst ho
  subst hsz0
  have hl := lv_entry av (n := maxL) hsz
  rw [lg_entry_eq]
  exact body p e s m _ below meth c _ _ ⟨B.exec, B.bytes, hml, findClass_of_methodNamed B.named, fun w hw => atoms_spec (ws := _ :: zT) B.pre w (List.mem_cons_of_mem _ hw), hK, hN, hZ, fun q h => Or.inr h⟩ B.returns B.notSynchronized ⟨hP, hD0.self, va_S.rf⟩ hl
theorem zM_v {l : Launch} {D : va_G} {z : zZ} {y : MethodName} {cc : ByteArray} {maxL : Nat} {ret : Option FieldType} {rm : Room} {own : String} (av : List Value) (w : va_W) (w' : va_W) (hy : plainName y.cls = true) (ho : y.cls = own) (hsz : (lg_sl av).length ≤ maxL)
    (body : ∀ (p : Program) (e : Env) (s : State) (m : MethodId) (args : Array Value) (below : List Frame) (meth : Method) (c : Code) (A : Nat → Prop) (ls : Array Slot), bx p s m args c cc maxL own A D z → meth.sig.returnType = ret → meth.locks = false → iw D A s w s.heap [] → lv_has ls maxL (lv_args 0 av) → W p l e rm s m args below meth c s.heap [] 0 0 (MQ below (zQv D w' A) args s 0 0 A) (F0 m 0 ls [])) : zMet l D z y (.code y cc maxL ret) rm av w (zQv D w') := by
  intro sz
  refine Met.ofW (cc := cc) (maxL := maxL) (ret := ret) hy rfl ?_
  intro p e s m args below meth c s₁ B hml hv
  obtain ⟨rfl, hsz0, hP, hK, hD0, hN, hZ⟩ := hv
  subst ho
  subst hsz0
  have hl := lv_entry av (n := maxL) hsz
  rw [lg_entry_eq]
  exact body p e s m _ below meth c _ _ ⟨B.exec, B.bytes, hml, findClass_of_methodNamed B.named, fun w hw => atoms_spec (ws := _ :: zT) B.pre w (List.mem_cons_of_mem _ hw), hK, hN, hZ, fun q h => Or.inr h⟩ B.returns B.notSynchronized ⟨hP, hD0.self, va_S.rf⟩ hl
theorem zM_r {l : Launch} {D : va_G} {z : zZ} {y : MethodName} {cc : ByteArray} {maxL : Nat} {ret : Option FieldType} {rm : Room} {own : String} (av : List Value) (w : va_W) (r : Nat) (w' : va_W) (hy : plainName y.cls = true) (ho : y.cls = own) (hsz : (lg_sl av).length ≤ maxL)
    (body : ∀ (p : Program) (e : Env) (s : State) (m : MethodId) (args : Array Value) (below : List Frame) (meth : Method) (c : Code) (A : Nat → Prop) (ls : Array Slot), bx p s m args c cc maxL own A D z → meth.sig.returnType = ret → meth.locks = false → iw D A s w s.heap [] → lv_has ls maxL (lv_args 0 av) → W p l e rm s m args below meth c s.heap [] 0 0 (MQ below (zQr D r w' A) args s 0 0 A) (F0 m 0 ls [])) : zMet l D z y (.code y cc maxL ret) rm av w (zQr D r w') := by
  intro sz
  refine Met.ofW (cc := cc) (maxL := maxL) (ret := ret) hy rfl ?_
  intro p e s m args below meth c s₁ B hml hv
  obtain ⟨rfl, hsz0, hP, hK, hD0, hN, hZ⟩ := hv
  subst ho
  subst hsz0
  have hl := lv_entry av (n := maxL) hsz
  rw [lg_entry_eq]
  exact body p e s m _ below meth c _ _ ⟨B.exec, B.bytes, hml, findClass_of_methodNamed B.named, fun w hw => atoms_spec (ws := _ :: zT) B.pre w (List.mem_cons_of_mem _ hw), hK, hN, hZ, fun q h => Or.inr h⟩ B.returns B.notSynchronized ⟨hP, hD0.self, va_S.rf⟩ hl
section ZR
variable {p : Program} {l : Launch} {e : Env} {R : Room} {s : State} {m : MethodId} {args : Array Value} {below : List Frame} {meth : Method} {c : Code} {H : Heap} {locs : List Loc}
variable {cc : ByteArray} {nL : Nat} {own : String} {A : Nat → Prop} {D : va_G} {z : zZ} {w : va_W} {pc : Nat} {ls : Array Slot}
theorem zr_i (wf : zU → va_W) {u u1 : zU} (B : bx p s m args c cc nL own A D z) (hI : iw D A s (wf u) H locs) (hr : meth.sig.returnType = some .int) (hlk : meth.locks = false) {v r : Int32} (e1 : v = r) (e2 : u = u1) (hdg : decode cc pc = .ok (.ireturn, 1)) : W p l e R s m args below meth c H locs 0 0 (MQ below (zQi D r (wf u1) A) args s 0 0 A) (F0 m pc ls [.int v]) := by
  subst e1
  subst e2
  exact W.iret (v := v) B.1 B.2.1 hr (fun t ht hW => ⟨⟨v, (), rfl, rfl, by rw [ht]; exact hI.1, hI.2.1⟩, hI.2.2.F ht⟩) hI.2.2.2.2 hdg hlk
theorem zr_z (wf : zU → va_W) {u u1 : zU} (B : bx p s m args c cc nL own A D z) (hI : iw D A s (wf u) H locs) (hr : meth.sig.returnType = some .boolean) (hlk : meth.locks = false) {v r : Int32} (hz : zbz v) (e1 : v = r) (e2 : u = u1) (hdg : decode cc pc = .ok (.ireturn, 1)) : W p l e R s m args below meth c H locs 0 0 (MQ below (zQi D r (wf u1) A) args s 0 0 A) (F0 m pc ls [.int v]) := by
  subst e1
  subst e2
  exact W.zret (v := v) B.1 B.2.1 hr (znar hz) (fun t ht hW => ⟨⟨v, (), rfl, rfl, by rw [ht]; exact hI.1, hI.2.1⟩, hI.2.2.F ht⟩) hI.2.2.2.2 hdg hlk
theorem zr_l (wf : zU → va_W) {u u1 : zU} (B : bx p s m args c cc nL own A D z) (hI : iw D A s (wf u) H locs) (hr : meth.sig.returnType = some .long) (hlk : meth.locks = false) {v r : Int64} (e1 : v = r) (e2 : u = u1) (hdg : decode cc pc = .ok (.lreturn, 1)) : W p l e R s m args below meth c H locs 0 0 (MQ below (zQl D r (wf u1) A) args s 0 0 A) (F0 m pc ls [.long v]) := by
  subst e1
  subst e2
  exact W.lret (v := v) B.1 B.2.1 hr (fun t ht hW => ⟨⟨v, (), rfl, rfl, by rw [ht]; exact hI.1, hI.2.1⟩, hI.2.2.F ht⟩) hI.2.2.2.2 hdg hlk
theorem zr_v (wf : zU → va_W) {u u1 : zU} (B : bx p s m args c cc nL own A D z) (hI : iw D A s (wf u) H locs) (hr : meth.sig.returnType = none) (hlk : meth.locks = false) (e2 : u = u1) (hdg : decode cc pc = .ok (.return_, 1)) : W p l e R s m args below meth c H locs 0 0 (MQ below (zQv D (wf u1) A) args s 0 0 A) (F0 m pc ls []) := by
  subst e2
  exact W.vret B.1 B.2.1 hr (fun t ht hW => ⟨⟨(), rfl, trivial, by rw [ht]; exact hI.1, hI.2.1⟩, hI.2.2.F ht⟩) hI.2.2.2.2 hdg hlk
theorem zr_r (wf : zU → va_W) {u u1 : zU} (B : bx p s m args c cc nL own A D z) (hI : iw D A s (wf u) H locs) {C : String} (hr : meth.sig.returnType = some (.object C)) (hlk : meth.locks = false) {v r : Nat} (e1 : v = r) (e2 : u = u1) (hdg : decode cc pc = .ok (.areturn, 1)) : W p l e R s m args below meth c H locs 0 0 (MQ below (zQr D r (wf u1) A) args s 0 0 A) (F0 m pc ls [.ref v]) := by
  subst e1
  subst e2
  exact W.aret (v := .ref v) B.1 B.2.1 hr (Or.inl ⟨C, rfl⟩) (Or.inr ⟨v, rfl⟩) (fun t ht hW => ⟨⟨(), v, rfl, trivial, rfl, by rw [ht]; exact hI.1, hI.2.1⟩, hI.2.2.F ht⟩) hI.2.2.2.2 hdg hlk
end ZR
