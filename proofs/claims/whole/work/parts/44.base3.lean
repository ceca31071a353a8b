/-! base3: a contract with more beside it -/
theorem zMet_conseq {l : Launch} {y : MethodName} {ws : List Cond} {rm : Room} {Pc Pc1 : Array Value → State → Prop} {Qc Qc1 : Array Value → State → Outcome → State → Prop} {mc ms : Nat} {free free1 : Addr → Prop} (hM : Met l y ws rm Pc Qc mc ms free) (h1 : ∀ a s, Pc1 a s → Pc a s) (h2 : ∀ a s o t, Pc1 a s → Qc a s o t → Qc1 a s o t) (h3 : ∀ q, free q → free1 q) : Met l y ws rm Pc1 Qc1 mc ms free1 := by
  intro p e a b c s m args below hf ha hP hK
  obtain ⟨n, o, k1, k2, k3, k4, L, k5, k6⟩ := hM p e a b c s m args below hf ha (h1 _ _ hP) trivial
  exact ⟨n, o, k1, k2, k3, h2 _ _ _ _ hP k4, L, k5, fun q hq => h3 _ (k6 q hq)⟩
theorem zap_l {w v : va_W} {k : Nat} {q : Nat × va_E} (h : w[k]? = some q) : (w ++ v)[k]? = some q := by
  rw [List.getElem?_append_left (List.getElem?_eq_some_iff.mp h).1]; exact h
theorem zap_r {w v : va_W} {k : Nat} {q : Nat × va_E} (h : v[k]? = some q) : (w ++ v)[w.length + k]? = some q := by
  rw [List.getElem?_append_right (by omega)]; simpa using h
theorem zA_l {w v : va_W} {sz q : Nat} (h : va_A w sz q) : va_A (w ++ v) sz q := by
  rcases h with ⟨k, e, h⟩ | h
  · exact Or.inl ⟨k, e, zap_l h⟩
  · exact Or.inr h
theorem zA_r {w v : va_W} {sz q : Nat} (h : va_A v sz q) : va_A (w ++ v) sz q := by
  rcases h with ⟨k, e, h⟩ | h
  · exact Or.inl ⟨_, e, zap_r h⟩
  · exact Or.inr h
theorem zP_l {D : va_G} {w v : va_W} {H : Heap} (h : va_P D zcl (w ++ v) H) : va_P D zcl w H := fun k q hk => h k q (zap_l hk)
theorem zP_r {D : va_G} {w v : va_W} {H : Heap} (h : va_P D zcl (w ++ v) H) : va_P D zcl v H := fun k q hk => h _ q (zap_r hk)
theorem zD_l {A : Nat → Prop} {w v : va_W} (h : va_D A (w ++ v)) : va_D A w := ⟨fun i j p q hi hj e => h.1 i j p q (zap_l hi) (zap_l hj) e, fun k q hk => h.2 k q (zap_l hk)⟩
theorem zD_r {A : Nat → Prop} {w v : va_W} (h : va_D A (w ++ v)) : va_D A v := ⟨fun i j p q hi hj e => by have := h.1 _ _ p q (zap_r hi) (zap_r hj) e; omega, fun k q hk => h.2 _ q (zap_r hk)⟩
theorem zD_x {A : Nat → Prop} {w v : va_W} (h : va_D A (w ++ v)) (i j : Nat) (p q : Nat × va_E) (hi : w[i]? = some p) (hj : v[j]? = some q) : p.1 ≠ q.1 := by
  intro e
  have h1 := h.1 _ _ p q (zap_l hi) (zap_r hj) e
  have h2 := (List.getElem?_eq_some_iff.mp hi).1
  omega
theorem zPre_l {D : va_G} {z : zZ} {w v : va_W} {U : State} (h : zPre D z (w ++ v) U) : zPre D z w U := by
  obtain ⟨hP, hK, hD, hN, hS⟩ := h
  exact ⟨zP_l hP, hK, zD_l hD, hN, zSt_to hS (fun _ _ _ => rfl) (Vm.Alike.refl _) (fun _ h => zA_l h)⟩
theorem zPre_r {D : va_G} {z : zZ} {w v : va_W} {U : State} (h : zPre D z (w ++ v) U) : zPre D z v U := by
  obtain ⟨hP, hK, hD, hN, hS⟩ := h
  exact ⟨zP_r hP, hK, zD_r hD, hN, zSt_to hS (fun _ _ _ => rfl) (Vm.Alike.refl _) (fun _ h => zA_r h)⟩
/-- the cells beside stay -/
theorem zfr_keep {D : va_G} {w v : va_W} {s t : State} (hP : va_P D zcl v s.heap) (hx : ∀ (i j : Nat) (p q : Nat × va_E), w[i]? = some p → v[j]? = some q → p.1 ≠ q.1) (hF : va_F (va_A w s.heap.size) s t) : va_P D zcl v t.heap ∧ ∀ (k : Nat) (q : Nat × va_E), v[k]? = some q → ¬ va_A w s.heap.size q.1 := by
  have key : ∀ (k : Nat) (q : Nat × va_E), v[k]? = some q → ¬ va_A w s.heap.size q.1 := by
    intro k q hk h
    rcases h with ⟨j, e, h⟩ | h
    · exact hx j k _ q h hk rfl
    · exact absurd (hP k q hk).lt (by omega)
  exact ⟨fun k q hk => (hP k q hk).kept (hF.2 q.1 (hP k q hk).lt (key k q hk)), key⟩
theorem zfr_l {D : va_G} {z : zZ} {w w' v : va_W} {s t : State} (h : zPre D z (w ++ v) s) (hF : va_F (va_A w s.heap.size) s t) (hP1 : va_P D zcl w' t.heap) (hD1 : va_D (va_A w s.heap.size) w') : va_P D zcl (w' ++ v) t.heap ∧ va_D (va_A (w ++ v) s.heap.size) (w' ++ v) := by
  obtain ⟨hP, hK, hD, hN, hS⟩ := h
  obtain ⟨k1, k2⟩ := zfr_keep (zP_r hP) (zD_x hD) hF
  refine ⟨hP1.app k1, va_D.app (hD1.weaken (fun _ _ _ h => zA_l h)) ⟨(zD_r hD).1, fun k q hk => zA_r (va_A.in hk)⟩ (fun i j p q hi hj e => ?_)⟩
  exact k2 j q hj (by rw [← e]; exact hD1.2 i p hi)
theorem zfr_r {D : va_G} {z : zZ} {w v v' : va_W} {s t : State} (h : zPre D z (w ++ v) s) (hF : va_F (va_A v s.heap.size) s t) (hP1 : va_P D zcl v' t.heap) (hD1 : va_D (va_A v s.heap.size) v') : va_P D zcl (w ++ v') t.heap ∧ va_D (va_A (w ++ v) s.heap.size) (w ++ v') := by
  obtain ⟨hP, hK, hD, hN, hS⟩ := h
  obtain ⟨k1, k2⟩ := zfr_keep (zP_l hP) (fun i j p q hi hj e => zD_x hD j i q p hj hi e.symm) hF
  refine ⟨k1.app hP1, va_D.app ⟨(zD_l hD).1, fun k q hk => zA_l (va_A.in hk)⟩ (hD1.weaken (fun _ _ _ h => zA_r h)) (fun i j p q hi hj e => ?_)⟩
  exact k2 i p hi (by rw [e]; exact hD1.2 j q hj)
theorem zF_w {A B : Nat → Prop} {s t : State} (h : va_F A s t) (hAB : ∀ q, A q → B q) : va_F B s t := ⟨h.1, fun q h1 h2 => h.2 q h1 (fun h3 => h2 (hAB q h3))⟩
theorem zMet_il {l : Launch} {D : va_G} {z : zZ} {y : MethodName} {cw : Cond} {rm : Room} {av : List Value} {w w' : va_W} (v : va_W) {r : Int32} (hM : zMet l D z y cw rm av w (zQi D r (w'))) : zMet l D z y cw rm av (w ++ v) (zQi D r (w' ++ v)) := by
  intro sz
  refine zMet_conseq (hM sz) (fun a s h => ⟨h.1, h.2.1, zPre_l h.2.2⟩) (fun a s o t h hq => ?_) (fun q h => zA_l h)
  obtain ⟨-, hsz, h⟩ := h
  subst hsz
  obtain ⟨⟨r1, u1, e1, e2, hP1, hD1⟩, hF⟩ := hq
  obtain ⟨j1, j2⟩ := zfr_l h hF hP1 hD1
  exact ⟨⟨r1, u1, e1, e2, j1, j2⟩, zF_w hF (fun q h => zA_l h)⟩
theorem zMet_ir {l : Launch} {D : va_G} {z : zZ} {y : MethodName} {cw : Cond} {rm : Room} {av : List Value} {w w' : va_W} (v : va_W) {r : Int32} (hM : zMet l D z y cw rm av w (zQi D r (w'))) : zMet l D z y cw rm av (v ++ w) (zQi D r (v ++ w')) := by
  intro sz
  refine zMet_conseq (hM sz) (fun a s h => ⟨h.1, h.2.1, zPre_r h.2.2⟩) (fun a s o t h hq => ?_) (fun q h => zA_r h)
  obtain ⟨-, hsz, h⟩ := h
  subst hsz
  obtain ⟨⟨r1, u1, e1, e2, hP1, hD1⟩, hF⟩ := hq
  obtain ⟨j1, j2⟩ := zfr_r h hF hP1 hD1
  exact ⟨⟨r1, u1, e1, e2, j1, j2⟩, zF_w hF (fun q h => zA_r h)⟩
theorem zMet_ll {l : Launch} {D : va_G} {z : zZ} {y : MethodName} {cw : Cond} {rm : Room} {av : List Value} {w w' : va_W} (v : va_W) {r : Int64} (hM : zMet l D z y cw rm av w (zQl D r (w'))) : zMet l D z y cw rm av (w ++ v) (zQl D r (w' ++ v)) := by
  intro sz
  refine zMet_conseq (hM sz) (fun a s h => ⟨h.1, h.2.1, zPre_l h.2.2⟩) (fun a s o t h hq => ?_) (fun q h => zA_l h)
  obtain ⟨-, hsz, h⟩ := h
  subst hsz
  obtain ⟨⟨r1, u1, e1, e2, hP1, hD1⟩, hF⟩ := hq
  obtain ⟨j1, j2⟩ := zfr_l h hF hP1 hD1
  exact ⟨⟨r1, u1, e1, e2, j1, j2⟩, zF_w hF (fun q h => zA_l h)⟩
theorem zMet_lr {l : Launch} {D : va_G} {z : zZ} {y : MethodName} {cw : Cond} {rm : Room} {av : List Value} {w w' : va_W} (v : va_W) {r : Int64} (hM : zMet l D z y cw rm av w (zQl D r (w'))) : zMet l D z y cw rm av (v ++ w) (zQl D r (v ++ w')) := by
  intro sz
  refine zMet_conseq (hM sz) (fun a s h => ⟨h.1, h.2.1, zPre_r h.2.2⟩) (fun a s o t h hq => ?_) (fun q h => zA_r h)
  obtain ⟨-, hsz, h⟩ := h
  subst hsz
  obtain ⟨⟨r1, u1, e1, e2, hP1, hD1⟩, hF⟩ := hq
  obtain ⟨j1, j2⟩ := zfr_r h hF hP1 hD1
  exact ⟨⟨r1, u1, e1, e2, j1, j2⟩, zF_w hF (fun q h => zA_r h)⟩
theorem zMet_vl {l : Launch} {D : va_G} {z : zZ} {y : MethodName} {cw : Cond} {rm : Room} {av : List Value} {w w' : va_W} (v : va_W) (hM : zMet l D z y cw rm av w (zQv D (w'))) : zMet l D z y cw rm av (w ++ v) (zQv D (w' ++ v)) := by
  intro sz
  refine zMet_conseq (hM sz) (fun a s h => ⟨h.1, h.2.1, zPre_l h.2.2⟩) (fun a s o t h hq => ?_) (fun q h => zA_l h)
  obtain ⟨-, hsz, h⟩ := h
  subst hsz
  obtain ⟨⟨u1, e1, e2, hP1, hD1⟩, hF⟩ := hq
  obtain ⟨j1, j2⟩ := zfr_l h hF hP1 hD1
  exact ⟨⟨u1, e1, e2, j1, j2⟩, zF_w hF (fun q h => zA_l h)⟩
theorem zMet_vr {l : Launch} {D : va_G} {z : zZ} {y : MethodName} {cw : Cond} {rm : Room} {av : List Value} {w w' : va_W} (v : va_W) (hM : zMet l D z y cw rm av w (zQv D (w'))) : zMet l D z y cw rm av (v ++ w) (zQv D (v ++ w')) := by
  intro sz
  refine zMet_conseq (hM sz) (fun a s h => ⟨h.1, h.2.1, zPre_r h.2.2⟩) (fun a s o t h hq => ?_) (fun q h => zA_r h)
  obtain ⟨-, hsz, h⟩ := h
  subst hsz
  obtain ⟨⟨u1, e1, e2, hP1, hD1⟩, hF⟩ := hq
  obtain ⟨j1, j2⟩ := zfr_r h hF hP1 hD1
  exact ⟨⟨u1, e1, e2, j1, j2⟩, zF_w hF (fun q h => zA_r h)⟩
