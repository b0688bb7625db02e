/-! ===== own layer: contracts of readers and writers, their bodies, ends and calls ===== -/
abbrev rmO (f c s l : Nat) : Room := { frames := f, cells := c, slots := s, locals := l }
abbrev ty3 (y : ClassId × ClassId × ClassId) : List (ClassId × FieldType) := [(y.1, .int), (y.2.1, .boolean)]
def rd_Pc (D : va_G) (y : ClassId × ClassId × ClassId) (w : va_W) (av : List Value) : Array Value → State → Prop := va_Pc av (fun U => va_P D vwCl w U.heap ∧ va_K D vwCl (ty3 y) U)
/-- a method that only reads: from any heap that holds the cells w it answers r with post r; the heap stays -/
def rdM (l : Launch) (y : MethodName) (ws : List Cond) (fr lo : Nat) (D : va_G) (y3 : ClassId × ClassId × ClassId) (w : va_W) (av : List Value) (post : Int32 → Prop) : Prop :=
  Met l y ws (rmO fr 0 0 lo) (rd_Pc D y3 w av) (vp_Si post) 0 0 (fun _ => False)
def wr_Pc (D : va_G) (y : ClassId × ClassId × ClassId) (w : va_W) (av : List Value) (sz : Nat) : Array Value → State → Prop := va_Pc av (fun U => U.heap.size = sz ∧ va_P D vwCl w U.heap ∧ va_K D vwCl (ty3 y) U ∧ va_D (fun _ => True) w)
/-- a method that writes into the cells w, makes none for good: it answers r and leaves the cells w2 u, with post r u -/
def wrM (l : Launch) (y : MethodName) (ws : List Cond) (fr lo mc ms : Nat) (D : va_G) (y3 : ClassId × ClassId × ClassId) (w : va_W) (av : List Value) {S : Type} (post : Int32 → S → Prop) (w2 : S → va_W) : Prop :=
  ∀ sz : Nat, Met l y ws (rmO fr mc ms lo) (wr_Pc D y3 w av sz) (va_Qi post (fun u t => va_P D vwCl (w2 u) t.heap ∧ va_D (va_A w sz) (w2 u)) (va_A w sz)) mc ms (va_A w sz)
def wvM (l : Launch) (y : MethodName) (ws : List Cond) (fr lo mc ms : Nat) (D : va_G) (y3 : ClassId × ClassId × ClassId) (w : va_W) (av : List Value) {S : Type} (post : S → Prop) (w2 : S → va_W) : Prop :=
  ∀ sz : Nat, Met l y ws (rmO fr mc ms lo) (wr_Pc D y3 w av sz) (va_Qv post (fun u t => va_P D vwCl (w2 u) t.heap ∧ va_D (va_A w sz) (w2 u)) (va_A w sz)) mc ms (va_A w sz)
theorem rd_blind {D : va_G} {y : ClassId × ClassId × ClassId} {w : va_W} {av : List Value} : FrameBlind (rd_Pc D y w av) := fun a U g mk q => by
  obtain ⟨q0, q1, q2⟩ := q
  exact ⟨q0, q1, va_K.moved (u := U) (U := U.calling g mk a) (Vm.Alike.refl U.vm) q2⟩
theorem wr_blind {D : va_G} {y : ClassId × ClassId × ClassId} {w : va_W} {av : List Value} {sz : Nat} : FrameBlind (wr_Pc D y w av sz) := fun a U g mk q => by
  obtain ⟨q0, q1, q2, q3, q4⟩ := q
  exact ⟨q0, q1, q2, va_K.moved (u := U) (U := U.calling g mk a) (Vm.Alike.refl U.vm) q3, q4⟩
/-- the body of a reader that answers an int -/
theorem rd_of {l : Launch} {y : MethodName} {ws ws' : List Cond} {fr lo : Nat} {D : va_G} {y3 : ClassId × ClassId × ClassId} {w : va_W} {av : List Value} {post : Int32 → Prop} {cc : ByteArray} {maxL : Nat}
    (hy : plainName y.cls = true) (hw : ws = Cond.code y cc maxL (some .int) :: ws') (hn : (lg_sl av).length ≤ maxL)
    (body : ∀ (p : Program) (e : Env) (s : State) (m : MethodId) (args : Array Value) (below : List Frame) (meth : Method) (c : Code) (Q : State → Prop), p.tables.exec = Jvm.exec → c.code = cc → c.maxLocals = maxL → s.vm.findClass y.cls = some m.cls → (∀ q ∈ ws, q.before args s = true) → va_P D vwCl w s.heap → va_K D vwCl (ty3 y3) s →
      (∀ (pc : Nat) (ls : Array Slot) (v : Int32), post v → decode cc pc = .ok (.ireturn, 1) → W p l e (rmO fr 0 0 lo) s m args below meth c s.heap [] 0 0 Q (F0 m pc ls [.int v])) → ∀ ls : Array Slot, lv_has ls maxL (lv_args 0 av) →
      W p l e (rmO fr 0 0 lo) s m args below meth c s.heap [] 0 0 Q (F0 m 0 ls [])) : rdM l y ws fr lo D y3 w av post := by
  refine Met.ofW (cc := cc) (maxL := maxL) (ret := some .int) hy hw ?_
  intro p e s m args below meth c s₁ B hml hv
  obtain ⟨rfl, hP, hK⟩ := hv
  rw [lg_entry_eq]
  exact body p e s m av.toArray below meth c _ B.exec B.bytes hml (findClass_of_methodNamed B.named) (atoms_spec (ws := ws) B.pre) hP hK
    (fun pc ls v h hdg => W.iret B.exec B.bytes B.returns (fun t ht _ => ⟨v, rfl, h, ht⟩) (fun _ h => nomatch h) hdg B.notSynchronized) _ (lv_entry av hn)
/-- the body of a reader that answers a truth value -/
theorem rz_of {l : Launch} {y : MethodName} {ws ws' : List Cond} {fr lo : Nat} {D : va_G} {y3 : ClassId × ClassId × ClassId} {w : va_W} {av : List Value} {b : Bool} {cc : ByteArray} {maxL : Nat}
    (hy : plainName y.cls = true) (hw : ws = Cond.code y cc maxL (some .boolean) :: ws') (hn : (lg_sl av).length ≤ maxL)
    (body : ∀ (p : Program) (e : Env) (s : State) (m : MethodId) (args : Array Value) (below : List Frame) (meth : Method) (c : Code) (Q : State → Prop), p.tables.exec = Jvm.exec → c.code = cc → c.maxLocals = maxL → s.vm.findClass y.cls = some m.cls → (∀ q ∈ ws, q.before args s = true) → va_P D vwCl w s.heap → va_K D vwCl (ty3 y3) s →
      (∀ (pc : Nat) (ls : Array Slot) (v : Int32), v = bI b → decode cc pc = .ok (.ireturn, 1) → W p l e (rmO fr 0 0 lo) s m args below meth c s.heap [] 0 0 Q (F0 m pc ls [.int v])) → ∀ ls : Array Slot, lv_has ls maxL (lv_args 0 av) →
      W p l e (rmO fr 0 0 lo) s m args below meth c s.heap [] 0 0 Q (F0 m 0 ls [])) : rdM l y ws fr lo D y3 w av (fun r => r = bI b) := by
  refine Met.ofW (cc := cc) (maxL := maxL) (ret := some .boolean) hy hw ?_
  intro p e s m args below meth c s₁ B hml hv
  obtain ⟨rfl, hP, hK⟩ := hv
  rw [lg_entry_eq]
  exact body p e s m av.toArray below meth c _ B.exec B.bytes hml (findClass_of_methodNamed B.named) (atoms_spec (ws := ws) B.pre) hP hK
    (fun pc ls v h hdg => W.zret B.exec B.bytes B.returns (bI_narrow_of h) (fun t ht _ => ⟨v, rfl, h, ht⟩) (fun _ h => nomatch h) hdg B.notSynchronized) _ (lv_entry av hn)
/-- the body of a writer that answers an int -/
theorem wr_of {l : Launch} {y : MethodName} {ws ws' : List Cond} {fr lo mc ms : Nat} {D : va_G} {y3 : ClassId × ClassId × ClassId} {w : va_W} {av : List Value} {S : Type} {post : Int32 → S → Prop} {w2 : S → va_W} {cc : ByteArray} {maxL : Nat}
    (hy : plainName y.cls = true) (hw : ws = Cond.code y cc maxL (some .int) :: ws') (hn : (lg_sl av).length ≤ maxL)
    (body : ∀ (p : Program) (e : Env) (s : State) (m : MethodId) (args : Array Value) (below : List Frame) (meth : Method) (c : Code) (A : Nat → Prop) (Q : State → Prop), p.tables.exec = Jvm.exec → c.code = cc → c.maxLocals = maxL → s.vm.findClass y.cls = some m.cls → (∀ q ∈ ws, q.before args s = true) → va_P D vwCl w s.heap → va_K D vwCl (ty3 y3) s → va_D A w → (∀ q : Nat, s.heap.size ≤ q → A q) → va_S A s.heap s.heap [] →
      (∀ (pc : Nat) (ls : Array Slot) (H : Heap) (locs : List Loc) (cells slots : Nat) (u : S) (v : Int32), va_P D vwCl (w2 u) H → va_D A (w2 u) → va_S A s.heap H locs → cells ≤ mc → slots ≤ ms → post v u → decode cc pc = .ok (.ireturn, 1) → W p l e (rmO fr mc ms lo) s m args below meth c H locs cells slots Q (F0 m pc ls [.int v])) → ∀ ls : Array Slot, lv_has ls maxL (lv_args 0 av) →
      W p l e (rmO fr mc ms lo) s m args below meth c s.heap [] 0 0 Q (F0 m 0 ls [])) : wrM l y ws fr lo mc ms D y3 w av post w2 := by
  intro sz
  refine Met.ofW (cc := cc) (maxL := maxL) (ret := some .int) hy hw ?_
  intro p e s m args below meth c s₁ B hml hv
  obtain ⟨rfl, hsz, hP, hK, hD0⟩ := hv
  subst hsz
  rw [lg_entry_eq]
  exact body p e s m av.toArray below meth c (va_A w s.heap.size) _ B.exec B.bytes hml (findClass_of_methodNamed B.named) (atoms_spec (ws := ws) B.pre) hP hK hD0.self (fun q h => Or.inr h) va_S.rf
    (fun pc ls H locs cells slots u v h1 h2 h3 h4 h5 h6 hdg => W.widen h4 h5 (W.iret B.exec B.bytes B.returns (fun t ht _ => ⟨⟨v, u, rfl, h6, by rw [ht]; exact h1, h2⟩, h3.F ht⟩) h3.2.2 hdg B.notSynchronized)) _ (lv_entry av hn)
/-- the body of a writer that answers a truth value -/
theorem wz_of {l : Launch} {y : MethodName} {ws ws' : List Cond} {fr lo mc ms : Nat} {D : va_G} {y3 : ClassId × ClassId × ClassId} {w : va_W} {av : List Value} {S : Type} {post : Int32 → S → Prop} {w2 : S → va_W} {cc : ByteArray} {maxL : Nat}
    (hy : plainName y.cls = true) (hw : ws = Cond.code y cc maxL (some .boolean) :: ws') (hn : (lg_sl av).length ≤ maxL)
    (body : ∀ (p : Program) (e : Env) (s : State) (m : MethodId) (args : Array Value) (below : List Frame) (meth : Method) (c : Code) (A : Nat → Prop) (Q : State → Prop), p.tables.exec = Jvm.exec → c.code = cc → c.maxLocals = maxL → s.vm.findClass y.cls = some m.cls → (∀ q ∈ ws, q.before args s = true) → va_P D vwCl w s.heap → va_K D vwCl (ty3 y3) s → va_D A w → (∀ q : Nat, s.heap.size ≤ q → A q) → va_S A s.heap s.heap [] →
      (∀ (pc : Nat) (ls : Array Slot) (H : Heap) (locs : List Loc) (cells slots : Nat) (u : S) (v : Int32) (b : Bool), va_P D vwCl (w2 u) H → va_D A (w2 u) → va_S A s.heap H locs → cells ≤ mc → slots ≤ ms → v = bI b → post (bI b) u → decode cc pc = .ok (.ireturn, 1) → W p l e (rmO fr mc ms lo) s m args below meth c H locs cells slots Q (F0 m pc ls [.int v])) → ∀ ls : Array Slot, lv_has ls maxL (lv_args 0 av) →
      W p l e (rmO fr mc ms lo) s m args below meth c s.heap [] 0 0 Q (F0 m 0 ls [])) : wrM l y ws fr lo mc ms D y3 w av post w2 := by
  intro sz
  refine Met.ofW (cc := cc) (maxL := maxL) (ret := some .boolean) hy hw ?_
  intro p e s m args below meth c s₁ B hml hv
  obtain ⟨rfl, hsz, hP, hK, hD0⟩ := hv
  subst hsz
  rw [lg_entry_eq]
  exact body p e s m av.toArray below meth c (va_A w s.heap.size) _ B.exec B.bytes hml (findClass_of_methodNamed B.named) (atoms_spec (ws := ws) B.pre) hP hK hD0.self (fun q h => Or.inr h) va_S.rf
    (fun pc ls H locs cells slots u v b h1 h2 h3 h4 h5 hv h6 hdg => W.widen h4 h5 (W.zret B.exec B.bytes B.returns (bI_narrow_of hv) (fun t ht _ => ⟨⟨v, u, rfl, by rw [hv]; exact h6, by rw [ht]; exact h1, h2⟩, h3.F ht⟩) h3.2.2 hdg B.notSynchronized)) _ (lv_entry av hn)
/-- the body of a writer without an answer (a constructor too) -/
theorem wv_of {l : Launch} {y : MethodName} {ws ws' : List Cond} {fr lo mc ms : Nat} {D : va_G} {y3 : ClassId × ClassId × ClassId} {w : va_W} {av : List Value} {S : Type} {post : S → Prop} {w2 : S → va_W} {cc : ByteArray} {maxL : Nat}
    (hy : plainName y.cls = true) (hw : ws = Cond.code y cc maxL none :: ws') (hn : (lg_sl av).length ≤ maxL)
    (body : ∀ (p : Program) (e : Env) (s : State) (m : MethodId) (args : Array Value) (below : List Frame) (meth : Method) (c : Code) (A : Nat → Prop) (Q : State → Prop), p.tables.exec = Jvm.exec → c.code = cc → c.maxLocals = maxL → s.vm.findClass y.cls = some m.cls → (∀ q ∈ ws, q.before args s = true) → va_P D vwCl w s.heap → va_K D vwCl (ty3 y3) s → va_D A w → (∀ q : Nat, s.heap.size ≤ q → A q) → va_S A s.heap s.heap [] → meth.name = y.name →
      (∀ (pc : Nat) (ls : Array Slot) (H : Heap) (locs : List Loc) (cells slots : Nat) (u : S), va_P D vwCl (w2 u) H → va_D A (w2 u) → va_S A s.heap H locs → cells ≤ mc → slots ≤ ms → post u → decode cc pc = .ok (.return_, 1) → W p l e (rmO fr mc ms lo) s m args below meth c H locs cells slots Q (F0 m pc ls [])) → ∀ ls : Array Slot, lv_has ls maxL (lv_args 0 av) →
      W p l e (rmO fr mc ms lo) s m args below meth c s.heap [] 0 0 Q (F0 m 0 ls [])) : wvM l y ws fr lo mc ms D y3 w av post w2 := by
  intro sz
  refine Met.ofW (cc := cc) (maxL := maxL) (ret := none) hy hw ?_
  intro p e s m args below meth c s₁ B hml hv
  obtain ⟨rfl, hsz, hP, hK, hD0⟩ := hv
  subst hsz
  rw [lg_entry_eq]
  exact body p e s m av.toArray below meth c (va_A w s.heap.size) _ B.exec B.bytes hml (findClass_of_methodNamed B.named) (atoms_spec (ws := ws) B.pre) hP hK hD0.self (fun q h => Or.inr h) va_S.rf (name_of_methodNamed B.named B.method).1
    (fun pc ls H locs cells slots u h1 h2 h3 h4 h5 h6 hdg => W.widen h4 h5 (W.vret B.exec B.bytes B.returns (fun t ht _ => ⟨⟨u, rfl, h6, by rw [ht]; exact h1, h2⟩, h3.F ht⟩) h3.2.2 hdg B.notSynchronized)) _ (lv_entry av hn)
section CL
variable {p : Program} {l : Launch} {e : Env} {R : Room} {s : State} {m : MethodId} {args : Array Value} {below : List Frame} {meth : Method} {c : Code} {H : Heap} {locs : List Loc} {cells slots : Nat} {Q : State → Prop}
variable {cc : ByteArray} {pc nL : Nat} {ls : Array Slot} {rest st0 : List Value}
/-! calls of readers -/
theorem rd_V {y : MethodName} {ws ws' : List Cond} {fr lo index maxL ci q0 : Nat} {bytes : ByteArray} {ret : Option FieldType} {D : va_G} {y3 : ClassId × ClassId × ClassId} {w w' : va_W} {b : Addr} {As : List Value} {post : Int32 → Prop} {Ts : List Cond} {own C : String} {T : u_T} {N : Nat} {fs : List Value}
    (S : CallFix p m c cc nL s args Ts own) (hM : rdM l y ws fr lo D y3 w' (.ref b :: As) post) (hT : GoodIn Ts (wsV own index C y ws)) (hw : ws = Cond.code y bytes maxL ret :: ws')
    (hd : y.cls = C ∧ y.cls ≠ "java/lang/invoke/MethodHandle" ∧ y.cls ≠ "java/lang/invoke/VarHandle" ∧ (parseMethodDescriptor y.desc).map (fun d => d.parameters.length) = some As.length) (hR : fr + 1 ≤ R.frames ∧ 8 + (maxL + 11) + lo ≤ R.locals)
    (hP : va_P D vwCl w H) (hK : va_K D vwCl (ty3 y3) s) (iw : List Nat) (ew : iw.filterMap (fun i => w[i]?) = w') (hc : vwCl[ci]? = some (C, T, N)) (he : w'[q0]? = some (b, .inr (ci, fs)))
    (hsize : ls.size = nL) (hst : st0 = As.reverse ++ .ref b :: rest) (hW : (rest.map fun v => v.category).sum ≤ 8) (hdg : decode cc pc = .ok (.invokevirtual index, 3)) (hcl : cells ≤ R.cells ∧ slots ≤ R.slots)
    (kk : ∀ r : Int32, post r → W p l e R s m args below meth c H locs cells slots Q (F0 m (pc + 3) ls (.int r :: rest))) : W p l e R s m args below meth c H locs cells slots Q (F0 m pc ls st0) :=
  vp_callSi (W.runV (As := As) (rest := rest) (b := b) (C := C) (n := As.length) S hM (cwV As.length S.2.2.2.2 hT hw rfl rfl hd hR)
    ⟨rd_blind, va_recv hK (hP.sub iw ew) hc he, fun U hU hW2 => ⟨rfl, by rw [hU]; exact hP.sub iw ew, va_K.moved hW2.alike hK⟩⟩ rfl rfl hsize hst (lv_room hW) hdg hcl) kk
theorem rd_S {y : MethodName} {ws ws' : List Cond} {fr lo index maxL : Nat} {bytes : ByteArray} {ret : Option FieldType} {D : va_G} {y3 : ClassId × ClassId × ClassId} {w w' : va_W} {As : List Value} {post : Int32 → Prop} {Ts : List Cond} {own : String}
    (S : CallFix p m c cc nL s args Ts own) (hM : rdM l y ws fr lo D y3 w' As post) (hT : GoodIn Ts (va_wsS own index y ws)) (hw : ws = Cond.code y bytes maxL ret :: ws')
    (hd : y.cls ≠ "java/lang/invoke/MethodHandle" ∧ y.cls ≠ "java/lang/invoke/VarHandle" ∧ (parseMethodDescriptor y.desc).map (fun d => d.parameters.length) = some As.length) (hR : fr + 1 ≤ R.frames ∧ 8 + (maxL + 11) + lo ≤ R.locals)
    (hP : va_P D vwCl w H) (hK : va_K D vwCl (ty3 y3) s) (iw : List Nat) (ew : iw.filterMap (fun i => w[i]?) = w')
    (hsize : ls.size = nL) (hst : st0 = As.reverse ++ rest) (hW : (rest.map fun v => v.category).sum ≤ 8) (hdg : decode cc pc = .ok (.invokestatic index, 3)) (hcl : cells ≤ R.cells ∧ slots ≤ R.slots)
    (kk : ∀ r : Int32, post r → W p l e R s m args below meth c H locs cells slots Q (F0 m (pc + 3) ls (.int r :: rest))) : W p l e R s m args below meth c H locs cells slots Q (F0 m pc ls st0) :=
  vp_callSi (W.runS (As := As) (rest := rest) (n := As.length) S hM (va_cwS As.length S.2.2.2.2 hT hw rfl rfl hd hR)
    ⟨rd_blind, fun U hU hW2 => ⟨rfl, by rw [hU]; exact hP.sub iw ew, va_K.moved hW2.alike hK⟩⟩ rfl rfl hsize hst (lv_room hW) hdg hcl) kk
/-! calls of writers: iw the callee's places, ir the others, ip the new order of 'others, callee's' -/
theorem wr_V {y : MethodName} {ws ws' : List Cond} {fr lo index maxL ci q0 mc ms : Nat} {bytes : ByteArray} {ret : Option FieldType} {D : va_G} {y3 : ClassId × ClassId × ClassId} {w w' wr : va_W} {b : Addr} {As : List Value} {X : Type} {post : Int32 → X → Prop} {w2 w3 : X → va_W} {Ts : List Cond} {own C : String} {T : u_T} {N : Nat} {fs : List Value} {A : Nat → Prop} {H0 : Heap}
    (S : CallFix p m c cc nL s args Ts own) (hM : wrM l y ws fr lo mc ms D y3 w' (.ref b :: As) post w2) (hT : GoodIn Ts (wsV own index C y ws)) (hw : ws = Cond.code y bytes maxL ret :: ws')
    (hd : y.cls = C ∧ y.cls ≠ "java/lang/invoke/MethodHandle" ∧ y.cls ≠ "java/lang/invoke/VarHandle" ∧ (parseMethodDescriptor y.desc).map (fun d => d.parameters.length) = some As.length) (hR : fr + 1 ≤ R.frames ∧ 8 + (maxL + 11) + lo ≤ R.locals)
    (hP : va_P D vwCl w H) (hK : va_K D vwCl (ty3 y3) s) (hD : va_D A w) (hS : va_S A H0 H locs) (hA : ∀ q, H0.size ≤ q → A q) (iw ir : List Nat) (ip : List Nat) (ew : iw.map (fun i => w[i]?) = w'.map some) (er : ir.map (fun i => w[i]?) = wr.map some) (hnw : va_nd iw = true) (hnr : va_nd ir = true) (hdis : ∀ i ∈ ir, i ∉ iw) (ep : ∀ u, ip.map (fun i => (wr ++ w2 u)[i]?) = (w3 u).map some) (hnp : va_nd ip = true)
    (hc : vwCl[ci]? = some (C, T, N)) (he : w'[q0]? = some (b, .inr (ci, fs)))
    (hsize : ls.size = nL) (hst : st0 = As.reverse ++ .ref b :: rest) (hW : (rest.map fun v => v.category).sum ≤ 8) (hdg : decode cc pc = .ok (.invokevirtual index, 3)) (hcl : cells + mc ≤ R.cells ∧ slots + ms ≤ R.slots)
    (kk : ∀ (r : Int32) (u : X) (H1 : Heap) (locs1 : List Loc), post r u → va_P D vwCl (w3 u) H1 → va_D A (w3 u) → va_S A H0 H1 locs1 → W p l e R s m args below meth c H1 locs1 (cells + mc) (slots + ms) Q (F0 m (pc + 3) ls (.int r :: rest))) : W p l e R s m args below meth c H locs cells slots Q (F0 m pc ls st0) := by
  have hPc : va_P D vwCl w' H := fun k q hk => by
    have h1 : (iw.map (fun i => w[i]?))[k]? = some (some q) := by rw [ew, List.getElem?_map, hk]; rfl
    rw [List.getElem?_map] at h1
    cases hi : iw[k]? with
    | none => rw [hi] at h1; cases h1
    | some i => rw [hi] at h1; exact hP i q (Option.some.inj h1)
  have hDc := hD.sub iw hnw ew
  have hFc := va_free (wc := w') hD hS hA iw ew
  refine va_calli (va_runV (As := As) (rest := rest) (b := b) (C := C) (n := As.length) S (hM H.size) (cwV As.length S.2.2.2.2 hT hw rfl rfl hd hR)
    ⟨wr_blind, va_recv hK hPc hc he, fun U hU hW2 => ⟨rfl, by rw [hU], by rw [hU]; exact hPc, va_K.moved hW2.alike hK, hDc.weaken (fun _ _ _ _ => trivial)⟩⟩ rfl rfl hsize hst (lv_room hW) hdg hcl) hS (fun q _ h => hFc q h) hFc (fun r u t H1 locs1 ht hvm hp hB hz hk hS1 => ?_)
  obtain ⟨hP1, hD1⟩ := hB
  rw [ht] at hP1
  obtain ⟨hPj, hDj⟩ := va_join (wr := wr) (w1 := w2 u) hP hD iw ir ew er hnr hdis hk hFc hP1 hD1
  refine kk r u H1 locs1 hp (fun k q hq => ?_) (hDj.sub ip hnp (ep u)) hS1
  have h1 : (ip.map (fun i => (wr ++ w2 u)[i]?))[k]? = some (some q) := by rw [ep u, List.getElem?_map, hq]; rfl
  rw [List.getElem?_map] at h1
  cases hi : ip[k]? with
  | none => rw [hi] at h1; cases h1
  | some i => rw [hi] at h1; exact hPj i q (Option.some.inj h1)
theorem wv_V {y : MethodName} {ws ws' : List Cond} {fr lo index maxL ci q0 mc ms : Nat} {bytes : ByteArray} {D : va_G} {y3 : ClassId × ClassId × ClassId} {w w' wr : va_W} {b : Addr} {As : List Value} {X : Type} {post : X → Prop} {w2 w3 : X → va_W} {Ts : List Cond} {own C : String} {T : u_T} {N : Nat} {fs : List Value} {A : Nat → Prop} {H0 : Heap}
    (S : CallFix p m c cc nL s args Ts own) (hM : wvM l y ws fr lo mc ms D y3 w' (.ref b :: As) post w2) (hT : GoodIn Ts (wsV own index C y ws)) (hw : ws = Cond.code y bytes maxL none :: ws')
    (hd : y.cls = C ∧ y.cls ≠ "java/lang/invoke/MethodHandle" ∧ y.cls ≠ "java/lang/invoke/VarHandle" ∧ (parseMethodDescriptor y.desc).map (fun d => d.parameters.length) = some As.length) (hR : fr + 1 ≤ R.frames ∧ 8 + (maxL + 11) + lo ≤ R.locals)
    (hP : va_P D vwCl w H) (hK : va_K D vwCl (ty3 y3) s) (hD : va_D A w) (hS : va_S A H0 H locs) (hA : ∀ q, H0.size ≤ q → A q) (iw ir : List Nat) (ip : List Nat) (ew : iw.map (fun i => w[i]?) = w'.map some) (er : ir.map (fun i => w[i]?) = wr.map some) (hnw : va_nd iw = true) (hnr : va_nd ir = true) (hdis : ∀ i ∈ ir, i ∉ iw) (ep : ∀ u, ip.map (fun i => (wr ++ w2 u)[i]?) = (w3 u).map some) (hnp : va_nd ip = true)
    (hc : vwCl[ci]? = some (C, T, N)) (he : w'[q0]? = some (b, .inr (ci, fs)))
    (hsize : ls.size = nL) (hst : st0 = As.reverse ++ .ref b :: rest) (hW : (rest.map fun v => v.category).sum ≤ 8) (hdg : decode cc pc = .ok (.invokevirtual index, 3)) (hcl : cells + mc ≤ R.cells ∧ slots + ms ≤ R.slots)
    (kk : ∀ (u : X) (H1 : Heap) (locs1 : List Loc), post u → va_P D vwCl (w3 u) H1 → va_D A (w3 u) → va_S A H0 H1 locs1 → W p l e R s m args below meth c H1 locs1 (cells + mc) (slots + ms) Q (F0 m (pc + 3) ls rest)) : W p l e R s m args below meth c H locs cells slots Q (F0 m pc ls st0) := by
  have hPc : va_P D vwCl w' H := fun k q hk => by
    have h1 : (iw.map (fun i => w[i]?))[k]? = some (some q) := by rw [ew, List.getElem?_map, hk]; rfl
    rw [List.getElem?_map] at h1
    cases hi : iw[k]? with
    | none => rw [hi] at h1; cases h1
    | some i => rw [hi] at h1; exact hP i q (Option.some.inj h1)
  have hDc := hD.sub iw hnw ew
  have hFc := va_free (wc := w') hD hS hA iw ew
  refine va_callv (va_runV (As := As) (rest := rest) (b := b) (C := C) (n := As.length) S (hM H.size) (cwV As.length S.2.2.2.2 hT hw rfl rfl hd hR)
    ⟨wr_blind, va_recv hK hPc hc he, fun U hU hW2 => ⟨rfl, by rw [hU], by rw [hU]; exact hPc, va_K.moved hW2.alike hK, hDc.weaken (fun _ _ _ _ => trivial)⟩⟩ rfl rfl hsize hst (lv_room hW) hdg hcl) hS (fun q _ h => hFc q h) hFc (fun u t H1 locs1 ht hvm hp hB hz hk hS1 => ?_)
  obtain ⟨hP1, hD1⟩ := hB
  rw [ht] at hP1
  obtain ⟨hPj, hDj⟩ := va_join (wr := wr) (w1 := w2 u) hP hD iw ir ew er hnr hdis hk hFc hP1 hD1
  refine kk u H1 locs1 hp (fun k q hq => ?_) (hDj.sub ip hnp (ep u)) hS1
  have h1 : (ip.map (fun i => (wr ++ w2 u)[i]?))[k]? = some (some q) := by rw [ep u, List.getElem?_map, hq]; rfl
  rw [List.getElem?_map] at h1
  cases hi : ip[k]? with
  | none => rw [hi] at h1; cases h1
  | some i => rw [hi] at h1; exact hPj i q (Option.some.inj h1)
/-! branches on truth values -/
theorem lb_if_eq {b : Bool} {off : Int} {tgt : Nat} (hexec : p.tables.exec = Jvm.exec) (hb : c.code = cc) (hdg : decode cc pc = .ok (.ifCond .eq off, 3)) (ht : (pc : Int) + off = (tgt : Int)) (kt : b = false → W p l e R s m args below meth c H locs cells slots Q (F0 m tgt ls rest)) (kf : b = true → W p l e R s m args below meth c H locs cells slots Q (F0 m (pc + 3) ls rest)) : W p l e R s m args below meth c H locs cells slots Q (F0 m pc ls (.int (bI b) :: rest)) :=
  lv_if_eq hexec hb hdg ht (fun h => kt (bI_z.mp h)) (fun h => kf (bI_nz.mp h))
theorem lb_if_ne {b : Bool} {off : Int} {tgt : Nat} (hexec : p.tables.exec = Jvm.exec) (hb : c.code = cc) (hdg : decode cc pc = .ok (.ifCond .ne off, 3)) (ht : (pc : Int) + off = (tgt : Int)) (kt : b = true → W p l e R s m args below meth c H locs cells slots Q (F0 m tgt ls rest)) (kf : b = false → W p l e R s m args below meth c H locs cells slots Q (F0 m (pc + 3) ls rest)) : W p l e R s m args below meth c H locs cells slots Q (F0 m pc ls (.int (bI b) :: rest)) :=
  lv_if_ne hexec hb hdg ht (fun h => kt (bI_nz.mp h)) (fun h => kf (bI_z.mp h))
end CL
