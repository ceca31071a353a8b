/-! base2: rows for constructors -/
def zu0 : zU := (fun _ => 0, fun _ => 0, fun _ _ => 0, fun _ _ => 0)
def zMetK (l : Launch) (D : va_G) (z : zZ) (y : MethodName) (cw : Cond) (rm : Room) (av : List Value) (w : va_W) (mc ms : Nat) (post : (Nat → Nat) → Prop) (sub : (Nat → Nat) → va_W) : Prop :=
  ∀ sz : Nat, Met l y (cw :: zT) rm (va_Pc av (fun U => U.heap.size = sz ∧ zPre D z w U)) (va_Qv post (fun ad t => va_P D zcl (sub ad) t.heap ∧ va_D (va_A w sz) (sub ad)) (va_A w sz)) mc ms (va_A w sz)
section ZK
variable {p : Program} {l : Launch} {e : Env} {R : Room} {s : State} {m : MethodId} {args : Array Value} {below : List Frame} {meth : Method} {c : Code} {H : Heap} {locs : List Loc} {cells slots : Nat} {Q : State → Prop}
variable {cc bytes : ByteArray} {nL maxL n index : Nat} {own C host : String} {A : Nat → Prop} {D : va_G} {z : zZ} {w w' : va_W} {pc : Nat} {ls : Array Slot} {As rest st0 : List Value} {y : MethodName} {rm : Room} {b mc ms : Nat}
theorem rx_new (B : bx p s m args c cc nL own A D z) (hI : iw D A s w H locs) {T : u_T} {N ci : Nat} (hcl : zcl[ci]? = some (C, T, N)) (hin : ∀ w ∈ u_ws C T N, w ∈ zT) {ty0 : Nat → FieldType} (hty : ∀ k, k < N → parseFieldDescriptor (T k).2.2.1 = some (ty0 k)) (h1 : Cond.classLink own index C ∈ zT) (h2 : Cond.instantiable C N ∈ zT) (h3 : Cond.initialized C ∈ zT) {fs : List Value} (hfs : ∀ j, j < N → defaultValue (ty0 j) = vp_V fs j) (hc : cells + 1 ≤ R.cells) (hs : slots + N ≤ R.slots) (hdg : decode cc pc = .ok (.new index, 3))
    (kk : ∀ (q : Nat) (H1 : Heap), iw D A s (w ++ [(q, .inr (ci, fs))]) H1 locs → W p l e R s m args below meth c H1 locs (cells + 1) (slots + N) Q (F0 m (pc + 3) ls (.ref q :: rest))) : W p l e R s m args below meth c H locs cells slots Q (F0 m pc ls rest) := by
  obtain ⟨hx, hb, hml, hown, hts, hK, hN, hZ, hA⟩ := B
  exact va_new (D := D) (cl := zcl) hx hb hts hin ty0 hty hown (hts _ h1) (hts _ h2) (hts _ h3) hK hI.1 hI.2.1 hI.2.2 hA hcl hfs hc hs hdg (fun q H1 a1 a2 a3 => kk q H1 ⟨a1, a2, a3⟩)
theorem rx_newc (B : bx p s m args c cc nL own A D z) (hI : iw D A s w H locs) {T : u_T} {N ci : Nat} (hcl : zcl[ci]? = some (C, T, N)) (hin : ∀ w ∈ u_ws C T N, w ∈ zT) {ty0 : Nat → FieldType} (hty : ∀ k, k < N → parseFieldDescriptor (T k).2.2.1 = some (ty0 k)) (h1 : Cond.classLink own index C ∈ zT) (h2 : Cond.instantiable C N ∈ zT) (h3 : Cond.initialized C ∈ zT) {fs : List Value} (hfs : (List.range N).all (fun j => decide (defaultValue (ty0 j) = vp_V fs j)) = true) (hc : cells + 1 ≤ R.cells) (hs : slots + N ≤ R.slots) (hdg : decode cc pc = .ok (.new index, 3))
    (kk : ∀ (q : Nat) (H1 : Heap), iw D A s (w ++ [(q, .inr (ci, fs))]) H1 locs → W p l e R s m args below meth c H1 locs (cells + 1) (slots + N) Q (F0 m (pc + 3) ls (.ref q :: rest))) : W p l e R s m args below meth c H locs cells slots Q (F0 m pc ls rest) :=
  rx_new B hI hcl hin hty h1 h2 h3 (fun j hj => by simpa using List.all_eq_true.mp hfs j (List.mem_range.mpr hj)) hc hs hdg kk
theorem rx_objInit (B : bx p s m args c cc nL own A D z) (hl : ls.size = nL) (h1 : Cond.methodLink own index Lib.objectInit ∈ zT) (h2 : Cond.instanceMethod Lib.objectInit ∈ zT) (h3 : Cond.code Lib.objectInit ⟨#[0xb1]⟩ 1 none ∈ zT) (hdg : decode cc pc = .ok (.invokespecial index, 3)) (hframes : 1 ≤ R.frames) (hlocals : (rest.map fun v => v.category).sum + 12 ≤ R.locals)
    (kk : W p l e R s m args below meth c H locs cells slots Q (F0 m (pc + 3) ls rest)) : W p l e R s m args below meth c H locs cells slots Q (F0 m pc ls (.ref b :: rest)) := by
  obtain ⟨hx, hb, hml, hown, hts, hK, hN, hZ, hA⟩ := B
  exact W.objInit hx hb hown (hts _ h1) (hts _ h2) (hts _ h3) rfl (by rw [hml]; exact hl) rfl hdg hframes (by have h9 : (F0 m pc ls (.ref b :: rest)).monitorRoom = 0 := rfl; rw [h9]; omega) kk
theorem rx_putF (B : bx p s m args c cc nL own A D z) (hI : iw D A s w H locs) {T : u_T} {N ci a : Nat} (hcl : zcl[ci]? = some (C, T, N)) (hin : ∀ w ∈ u_ws C T N, w ∈ zT) {ty0 : Nat → FieldType} (hty : ∀ k, k < N → parseFieldDescriptor (T k).2.2.1 = some (ty0 k)) (hnm : ∀ a, a < N → ∀ b, b < N → a ≠ b → (T a).2.1 ≠ (T b).2.1) (q0 : Nat) {fs : List Value} (he : w[q0]? = some (a, .inr (ci, fs))) (k : Nat) (hk : k < N) {c1 n1 d1 : String} {f1 : Bool} (hT : T k = (c1, n1, d1, f1)) (hl : Cond.fieldLink own index c1 n1 d1 ∈ zT) (hfin : f1 = true) (hin2 : meth.name = "<init>") (hdecl : c1 = own) {ty : FieldType} {v : Value} (hd : parseFieldDescriptor d1 = some ty) (hn : narrow ty v = v) (hfit : fits ty v = true) (hlen : k < fs.length) (hw : w.set q0 (a, .inr (ci, fs.set k v)) = w') (hdg : decode cc pc = .ok (.putfield index, 3))
    (kk : ∀ (H1 : Heap) (locs1 : List Loc), iw D A s w' H1 locs1 → W p l e R s m args below meth c H1 locs1 cells slots Q (F0 m (pc + 3) ls rest)) : W p l e R s m args below meth c H locs cells slots Q (F0 m pc ls (v :: .ref a :: rest)) := by
  obtain ⟨hx, hb, hml, hown, hts, hK, hN, hZ, hA⟩ := B
  subst hw
  exact va_putF (D := D) (cl := zcl) hx hb hts hin ty0 hty hnm hown hK hI.1 hI.2.1 hI.2.2 q0 he hcl k hk (by rw [hT]; exact hts _ hl) (fun _ h => h) (by rw [hT]; exact hfin) hin2 (by rw [hT]; exact hdecl) (by rw [hT]; exact hd) hn hfit hlen hdg (fun H1 locs1 h1 h2 h3 => kk H1 locs1 ⟨h1, h2, h3⟩)
theorem rx_newai (B : bx p s m args c cc nL own A D z) (hI : iw D A s w H locs) (h1 : Cond.arrayClass .int ∈ zT) {k : Int32} (N' : Nat) (hn : ¬ k < 0) (hN : k.toNatClampNeg = N') (hbytes : N' * componentBytes .int ≤ 536870912) (hc : cells + 1 ≤ R.cells) (hs : slots + N' ≤ R.slots) (hdg : decode cc pc = .ok (.newarray .int, 2))
    (kk : ∀ (q : Nat) (H1 : Heap), iw D A s (w ++ [(q, .inl (z.1, N', .inl (fun _ => 0)))]) H1 locs → W p l e R s m args below meth c H1 locs (cells + 1) (slots + N') Q (F0 m (pc + 2) ls (.ref q :: rest))) : W p l e R s m args below meth c H locs cells slots Q (F0 m pc ls (.int k :: rest)) := by
  obtain ⟨hx, hb, hml, hown, hts, hK, hN0, hZ, hA⟩ := B
  refine va_newa (D := D) (cl := zcl) hx hb (atype := .int) (ty := .int) (hts _ h1) rfl hK hI.1 hI.2.1 hI.2.2 hA (a0 := (N', .inl (fun _ => 0))) (fun _ => rfl) hn hN hbytes hc hs hdg (fun q cA H1 hK1 a1 a2 a3 => ?_)
  have e1 := (hK.2 0 (z.1, .int) rfl).2
  have e2 := (hK1.2 3 (cA, .int) rfl).2
  have e3 : z.1 = cA := Option.some.inj (e1.symm.trans e2)
  subst e3
  exact kk q H1 ⟨a1, a2, a3⟩
theorem rx_newaz (B : bx p s m args c cc nL own A D z) (hI : iw D A s w H locs) (h1 : Cond.arrayClass .boolean ∈ zT) {k : Int32} (N' : Nat) (hn : ¬ k < 0) (hN : k.toNatClampNeg = N') (hbytes : N' * componentBytes .boolean ≤ 536870912) (hc : cells + 1 ≤ R.cells) (hs : slots + N' ≤ R.slots) (hdg : decode cc pc = .ok (.newarray .boolean, 2))
    (kk : ∀ (q : Nat) (H1 : Heap), iw D A s (w ++ [(q, .inl (z.2.1, N', .inl (fun _ => 0)))]) H1 locs → W p l e R s m args below meth c H1 locs (cells + 1) (slots + N') Q (F0 m (pc + 2) ls (.ref q :: rest))) : W p l e R s m args below meth c H locs cells slots Q (F0 m pc ls (.int k :: rest)) := by
  obtain ⟨hx, hb, hml, hown, hts, hK, hN0, hZ, hA⟩ := B
  refine va_newa (D := D) (cl := zcl) hx hb (atype := .boolean) (ty := .boolean) (hts _ h1) rfl hK hI.1 hI.2.1 hI.2.2 hA (a0 := (N', .inl (fun _ => 0))) (fun _ => rfl) hn hN hbytes hc hs hdg (fun q cA H1 hK1 a1 a2 a3 => ?_)
  have e1 := (hK.2 1 (z.2.1, .boolean) rfl).2
  have e2 := (hK1.2 3 (cA, .boolean) rfl).2
  have e3 : z.2.1 = cA := Option.some.inj (e1.symm.trans e2)
  subst e3
  exact kk q H1 ⟨a1, a2, a3⟩
theorem rx_newal (B : bx p s m args c cc nL own A D z) (hI : iw D A s w H locs) (h1 : Cond.arrayClass .long ∈ zT) {k : Int32} (N' : Nat) (hn : ¬ k < 0) (hN : k.toNatClampNeg = N') (hbytes : N' * componentBytes .long ≤ 536870912) (hc : cells + 1 ≤ R.cells) (hs : slots + N' ≤ R.slots) (hdg : decode cc pc = .ok (.newarray .long, 2))
    (kk : ∀ (q : Nat) (H1 : Heap), iw D A s (w ++ [(q, .inl (z.2.2, N', .inr (.inl (fun _ => 0))))]) H1 locs → W p l e R s m args below meth c H1 locs (cells + 1) (slots + N') Q (F0 m (pc + 2) ls (.ref q :: rest))) : W p l e R s m args below meth c H locs cells slots Q (F0 m pc ls (.int k :: rest)) := by
  obtain ⟨hx, hb, hml, hown, hts, hK, hN0, hZ, hA⟩ := B
  refine va_newa (D := D) (cl := zcl) hx hb (atype := .long) (ty := .long) (hts _ h1) rfl hK hI.1 hI.2.1 hI.2.2 hA (a0 := (N', .inr (.inl (fun _ => 0)))) (fun _ => rfl) hn hN hbytes hc hs hdg (fun q cA H1 hK1 a1 a2 a3 => ?_)
  have e1 := (hK.2 2 (z.2.2, .long) rfl).2
  have e2 := (hK1.2 3 (cA, .long) rfl).2
  have e3 : z.2.2 = cA := Option.some.inj (e1.symm.trans e2)
  subst e3
  exact kk q H1 ⟨a1, a2, a3⟩
theorem rx_ctorI (B : bx p s m args c cc nL own A D z) (hI : iw D A s w H locs) (hl : ls.size = nL) {e0 : va_E} {post : (Nat → Nat) → Prop} {sub : (Nat → Nat) → va_W} (hM : zMetK l D z y (.code y bytes maxL none) rm (.ref b :: As) [(b, e0)] mc ms post sub) (h1 : Cond.methodLink own index y ∈ zT) (h2 : Cond.instanceMethod y ∈ zT) (h4 : Cond.initialized y.cls ∈ zT) (h5 : Cond.code y bytes maxL none ∈ zT) (hy1 : y.name = "<init>") (hd : y.cls ≠ "java/lang/invoke/MethodHandle" ∧ y.cls ≠ "java/lang/invoke/VarHandle" ∧ (parseMethodDescriptor y.desc).map (fun d => d.parameters.length) = some n) (q0 : Nat) (hq : w[q0]? = some (b, e0)) (isR : List Nat) (wr : va_W) (hR0 : isR.map (fun i => w[i]?) = wr.map some) (hnd : va_nd isR = true) (hdis : ∀ i ∈ isR, i ∉ [q0]) (hn : As.length = n) (hst : st0 = As.reverse ++ .ref b :: rest) (hrest : (rest.map fun v => v.category).sum ≤ 8) (hdg : decode cc pc = .ok (.invokespecial index, 3)) (hR : rm.frames + 1 ≤ R.frames ∧ 8 + (maxL + 11) + rm.locals ≤ R.locals) (hrc : rm.cells = mc) (hrs : rm.slots = ms) (hcs : cells + mc ≤ R.cells ∧ slots + ms ≤ R.slots)
    (kk : ∀ (ad : Nat → Nat) (H1 : Heap) (locs1 : List Loc), post ad → iw D A s (wr ++ sub ad) H1 locs1 → W p l e R s m args below meth c H1 locs1 (cells + mc) (slots + ms) Q (F0 m (pc + 3) ls rest)) : W p l e R s m args below meth c H locs cells slots Q (F0 m pc ls st0) := by
  have hI2 : iw D A s [(b, e0)] H locs := ⟨hI.1.sub [q0] (by simp [hq]), hI.2.1.sub [q0] (by simp [va_nd]) (by simp [hq]), hI.2.2⟩
  have hFc := iw_free B hI2
  obtain ⟨hx, hb, hml, hown, hts, hK, hN, hZ, hA⟩ := id B
  refine va_callv (va_runI (As := As) (rest := rest) ⟨hx, hb, hml, hown, hts⟩ (hM H.size) ⟨callB_of n hts (zGoodT h5) rfl hrc hrs (hts _ h4) (hts _ h1) hd hR, hy1, hts _ h2⟩ ⟨zPre_blind _, zPre_call B hI2 _⟩ rfl hn hl hst (lv_room hrest) hdg hcs) hI.2.2 (fun q _ h => hFc q h) hFc (fun ad t H1 locs1 ht hvm hw hB hz1 hk1 hS1 => ?_)
  obtain ⟨hP1, hD1⟩ := hB
  rw [ht] at hP1
  obtain ⟨j1, j2⟩ := va_join (wc := [(b, e0)]) hI.1 hI.2.1 [q0] isR (by simp [hq]) hR0 hnd hdis hk1 hFc hP1 hD1
  exact kk ad H1 locs1 hw ⟨j1, j2, hS1⟩
theorem rx_ctorJ (B : bx p s m args c cc nL own A D z) (hI : iw D A s w H locs) (hl : ls.size = nL) {e0 : va_E} {post : (Nat → Nat) → Prop} {sub : (Nat → Nat) → va_W} (hM : zMetK l D z y (.code y bytes maxL none) rm (.ref b :: As) [(b, e0)] mc ms post sub) (h1 : Cond.methodLinkNest own index y host ∈ zN) (h2 : Cond.instanceMethod y ∈ zT) (h4 : Cond.initialized y.cls ∈ zT) (h5 : Cond.code y bytes maxL none ∈ zT) (hy1 : y.name = "<init>") (hd : y.cls ≠ "java/lang/invoke/MethodHandle" ∧ y.cls ≠ "java/lang/invoke/VarHandle" ∧ (parseMethodDescriptor y.desc).map (fun d => d.parameters.length) = some n) (q0 : Nat) (hq : w[q0]? = some (b, e0)) (isR : List Nat) (wr : va_W) (hR0 : isR.map (fun i => w[i]?) = wr.map some) (hnd : va_nd isR = true) (hdis : ∀ i ∈ isR, i ∉ [q0]) (hn : As.length = n) (hst : st0 = As.reverse ++ .ref b :: rest) (hrest : (rest.map fun v => v.category).sum ≤ 8) (hdg : decode cc pc = .ok (.invokespecial index, 3)) (hR : rm.frames + 1 ≤ R.frames ∧ 8 + (maxL + 11) + rm.locals ≤ R.locals) (hrc : rm.cells = mc) (hrs : rm.slots = ms) (hcs : cells + mc ≤ R.cells ∧ slots + ms ≤ R.slots)
    (kk : ∀ (ad : Nat → Nat) (H1 : Heap) (locs1 : List Loc), post ad → iw D A s (wr ++ sub ad) H1 locs1 → W p l e R s m args below meth c H1 locs1 (cells + mc) (slots + ms) Q (F0 m (pc + 3) ls rest)) : W p l e R s m args below meth c H locs cells slots Q (F0 m pc ls st0) := by
  have hI2 : iw D A s [(b, e0)] H locs := ⟨hI.1.sub [q0] (by simp [hq]), hI.2.1.sub [q0] (by simp [va_nd]) (by simp [hq]), hI.2.2⟩
  have hFc := iw_free B hI2
  obtain ⟨hx, hb, hml, hown, hts, hK, hN, hZ, hA⟩ := id B
  refine va_callv (va_runIN (As := As) (rest := rest) ⟨hx, hb, hml, hown, hts⟩ (hM H.size) ⟨va_cnB n hts (zGoodT h5) rfl hrc hrs (hN _ h1) (hts _ h4) hd hR, hy1, hts _ h2⟩ ⟨zPre_blind _, zPre_call B hI2 _⟩ rfl hn hl hst (lv_room hrest) hdg hcs) hI.2.2 (fun q _ h => hFc q h) hFc (fun ad t H1 locs1 ht hvm hw hB hz1 hk1 hS1 => ?_)
  obtain ⟨hP1, hD1⟩ := hB
  rw [ht] at hP1
  obtain ⟨j1, j2⟩ := va_join (wc := [(b, e0)]) hI.1 hI.2.1 [q0] isR (by simp [hq]) hR0 hnd hdis hk1 hFc hP1 hD1
  exact kk ad H1 locs1 hw ⟨j1, j2, hS1⟩
end ZK
theorem zM_k {l : Launch} {D : va_G} {z : zZ} {y : MethodName} {cc : ByteArray} {maxL : Nat} {rm : Room} {own : String} {mc ms : Nat} (av : List Value) (w : va_W) (post : (Nat → Nat) → Prop) (sub : (Nat → Nat) → va_W) (hy : plainName y.cls = true) (ho : y.cls = own) (hn : y.name = "<init>") (hsz : (lg_sl av).length ≤ maxL)
    (body : ∀ (p : Program) (e : Env) (s : State) (m : MethodId) (args : Array Value) (below : List Frame) (meth : Method) (c : Code) (A : Nat → Prop) (ls : Array Slot), bx p s m args c cc maxL own A D z → meth.sig.returnType = none → meth.locks = false → meth.name = "<init>" → iw D A s w s.heap [] → lv_has ls maxL (lv_args 0 av) → W p l e rm s m args below meth c s.heap [] 0 0 (MQ below (va_Qv post (fun ad t => va_P D zcl (sub ad) t.heap ∧ va_D A (sub ad)) A) args s mc ms A) (F0 m 0 ls [])) : zMetK l D z y (.code y cc maxL none) rm av w mc ms post sub := by
  intro sz
  refine Met.ofW (cc := cc) (maxL := maxL) (ret := none) hy rfl ?_
  intro p e s m args below meth c s₁ B hml hv
  obtain ⟨rfl, hsz0, hP, hK, hD0, hN, hZ⟩ := hv
  subst ho
  subst hsz0
  have hl := lv_entry av (n := maxL) hsz
  rw [lg_entry_eq]
  have hin : meth.name = "<init>" := by rw [(name_of_methodNamed B.named B.method).1]; exact hn
  exact body p e s m _ below meth c _ _ ⟨B.exec, B.bytes, hml, findClass_of_methodNamed B.named, fun w hw => atoms_spec (ws := _ :: zT) B.pre w (List.mem_cons_of_mem _ hw), hK, hN, hZ, fun q h => Or.inr h⟩ B.returns B.notSynchronized hin ⟨hP, hD0.self, va_S.rf⟩ hl
theorem zr_k {p : Program} {l : Launch} {e : Env} {R : Room} {s : State} {m : MethodId} {args : Array Value} {below : List Frame} {meth : Method} {c : Code} {H : Heap} {locs : List Loc} {cc : ByteArray} {nL : Nat} {own : String} {A : Nat → Prop} {D : va_G} {z : zZ} {w : va_W} {pc : Nat} {ls : Array Slot} {cells slots : Nat} {post : (Nat → Nat) → Prop} {sub : (Nat → Nat) → va_W} (B : bx p s m args c cc nL own A D z) (hI : iw D A s w H locs) (hr : meth.sig.returnType = none) (hlk : meth.locks = false) (ad : Nat → Nat) (hp : post ad) (is : List Nat) (h1 : is.filterMap (fun i => w[i]?) = sub ad) (h2 : va_nd is = true) (h3 : is.map (fun i => w[i]?) = (sub ad).map some) (hdg : decode cc pc = .ok (.return_, 1)) : W p l e R s m args below meth c H locs cells slots (MQ below (va_Qv post (fun ad t => va_P D zcl (sub ad) t.heap ∧ va_D A (sub ad)) A) args s cells slots A) (F0 m pc ls []) :=
  W.vret B.1 B.2.1 hr (fun t ht hW => ⟨⟨ad, rfl, hp, by rw [ht]; exact hI.1.sub is h1, hI.2.1.sub is h2 h3⟩, hI.2.2.F ht⟩) hI.2.2.2.2 hdg hlk
