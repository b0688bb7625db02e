/-! ===== own layer: methods of KindGuesser that throw ===== -/
abbrev xIO : String := "java/lang/IndexOutOfBoundsException"
abbrev xIS : String := "java/lang/IllegalStateException"
abbrev xIA : String := "java/lang/IllegalArgumentException"
abbrev xC2 : List String := ["java/lang/RuntimeException", "java/lang/Exception"]
def xE3 : List String := [xIO, xIS, xIA]
def xY3 : List String := ["java/lang/RuntimeException", "java/lang/Exception", Bundle.tN]
def xB (cls : String) : List Cond := [Cond.castable cls cls, Cond.declares (Bundle.initS "java/lang/RuntimeException"), Cond.declares (Bundle.initS "java/lang/Exception"), Cond.declares (Bundle.initS Bundle.tN)]
def xN3 : List (String × String) := [(xIA, xIO), (xIS, xIO), (xIS, xIA)]
def xS12 : List (Nat × String) := [(43, "no such parent"), (54, "there are 14 kinds"), (80, "there were 20 patterns"), (98, "there are 12 rules"), (113, "the rule has 6 tests"), (130, "the name has 12 letters"), (138, "there are 16 bytes"), (197, "no such kind"), (202, "no such pattern"), (207, "no such rule"), (211, "out of range")]
/-- what a throw takes as given -/
def teE (A : Nat → Prop) (U : State) (H : Heap) : Prop :=
  vx_Zq Bundle.tN "UNASSIGNED_STACK" Bundle.steD A U H ∧ vx_Zq Bundle.tN "SUPPRESSED_SENTINEL" Bundle.listD A U H ∧ (∀ E ∈ xE3, va_Nw (.castable E E) U) ∧ (∀ q ∈ xN3, va_Nc q.1 q.2 U) ∧ (∀ q ∈ xS12, ∃ sa, vk_R RX4 q.1 q.2 sa U) ∧ ∀ Y ∈ xY3, va_Nw (.declares (Bundle.initS Y)) U
theorem teE.to {A B : Nat → Prop} {s U : State} {H : Heap} (h : teE A s H) (hW : s.WarmedH U.vm) (hAB : ∀ q, B q → A q) : teE B U H :=
  ⟨(vx_Zq.moved hW.alike h.1).narrow hAB, (vx_Zq.moved hW.alike h.2.1).narrow hAB, fun E hE => va_Nw.warmC hW (h.2.2.1 E hE), fun q hq => (h.2.2.2.1 q hq).moved hW.alike, fun q hq => (h.2.2.2.2.1 q hq).imp (fun _ k => vk_R.warm hW k), fun Y hY => va_Nw.warmD hW (h.2.2.2.2.2 Y hY)⟩
theorem teE.kept {A : Nat → Prop} {U : State} {H H1 : Heap} (h : teE A U H) (hq : ∀ a : Nat, a < H.size → ¬ A a → H1[a]? = H[a]?) : teE A U H1 :=
  ⟨h.1.kept hq, h.2.1.kept hq, h.2.2⟩
def tx_Pc (D : va_G) (y : ClassId × ClassId × ClassId) (w : va_W) (av : List Value) (sz : Nat) : Array Value → State → Prop := va_Pc av (fun U => U.heap.size = sz ∧ va_P D vwCl w U.heap ∧ va_K D vwCl (ty3 y) U ∧ va_D (fun _ => True) w ∧ teE (va_A w sz) U U.heap)
theorem tx_blind {D : va_G} {y : ClassId × ClassId × ClassId} {w : va_W} {av : List Value} {sz : Nat} : FrameBlind (tx_Pc D y w av sz) := fun a U g mk q => by
  obtain ⟨q0, q1, q2, q3, q4, q5⟩ := q
  exact ⟨q0, q1, q2, va_K.moved (u := U) (U := U.calling g mk a) (Vm.Alike.refl U.vm) q3, q4, q5.to (U := U.calling g mk a) (State.WarmedH.refl U) (fun _ h => h)⟩
def tx_X (D : va_G) (w : va_W) (sz : Nat) (xp : String → Prop) : String → State → State → Prop := vx_X (S := Unit) (fun _ => True) (fun E _ t => xp E ∧ va_P D vwCl w t.heap ∧ va_D (va_A w sz) w ∧ sz < t.heap.size) (va_A w sz)
/-- a method that answers r and leaves w2 u, with post r u; or throws an E with xp E and leaves w -/
def txM (l : Launch) (y : MethodName) (ws : List Cond) (fr lo mc ms : Nat) (D : va_G) (y3 : ClassId × ClassId × ClassId) (w : va_W) (av : List Value) {S : Type} (post : Int32 → S → Prop) (w2 : S → va_W) (xp : String → Prop) : Prop :=
  ∀ sz : Nat, ux_Met l y ws (rmO fr mc ms lo) (tx_Pc D y3 w av sz) (va_Qi post (fun u t => va_P D vwCl (w2 u) t.heap ∧ va_D (va_A w sz) (w2 u)) (va_A w sz)) (tx_X D w sz xp) mc ms (va_A w sz)
def tvM (l : Launch) (y : MethodName) (ws : List Cond) (fr lo mc ms : Nat) (D : va_G) (y3 : ClassId × ClassId × ClassId) (w : va_W) (av : List Value) {S : Type} (post : S → Prop) (w2 : S → va_W) (xp : String → Prop) : Prop :=
  ∀ sz : Nat, ux_Met l y ws (rmO fr mc ms lo) (tx_Pc D y3 w av sz) (va_Qv post (fun u t => va_P D vwCl (w2 u) t.heap ∧ va_D (va_A w sz) (w2 u)) (va_A w sz)) (tx_X D w sz xp) mc ms (va_A w sz)
set_option maxRecDepth 100000 in
theorem xg_IO : (∀ w ∈ Cond.classLink RX4 41 xIO :: Cond.initialized xIO :: vx_atS RX4 45 xIO xC2, vx_ot w = true) ∧ (∀ w ∈ (vx_atS RX4 45 xIO xC2).filter (fun w => !goodWord w), w ∈ xB xIO) ∧ Bundle.fit xIO = true ∧ ∀ n ∈ xC2, Bundle.fit n = true := by decide +kernel
set_option maxRecDepth 100000 in
theorem xg_IS : (∀ w ∈ Cond.classLink RX4 52 xIS :: Cond.initialized xIS :: vx_atS RX4 56 xIS xC2, vx_ot w = true) ∧ (∀ w ∈ (vx_atS RX4 56 xIS xC2).filter (fun w => !goodWord w), w ∈ xB xIS) ∧ Bundle.fit xIS = true ∧ ∀ n ∈ xC2, Bundle.fit n = true := by decide +kernel
set_option maxRecDepth 100000 in
theorem xg_IA : (∀ w ∈ Cond.classLink RX4 209 xIA :: Cond.initialized xIA :: vx_atS RX4 213 xIA xC2, vx_ot w = true) ∧ (∀ w ∈ (vx_atS RX4 213 xIA xC2).filter (fun w => !goodWord w), w ∈ xB xIA) ∧ Bundle.fit xIA = true ∧ ∀ n ∈ xC2, Bundle.fit n = true := by decide +kernel
/-- the words of a 'new X(text); athrow' -/
def xgP (ik ic : Nat) (cls : String) : Prop := (∀ w ∈ Cond.classLink RX4 ik cls :: Cond.initialized cls :: vx_atS RX4 ic cls xC2, vx_ot w = true) ∧ (∀ w ∈ (vx_atS RX4 ic cls xC2).filter (fun w => !goodWord w), w ∈ xB cls) ∧ Bundle.fit cls = true ∧ ∀ n ∈ xC2, Bundle.fit n = true
def xwP (ws : List Cond) (ik ic : Nat) (cls : String) : Prop := Cond.classLink RX4 ik cls ∈ ws ∧ Cond.initialized cls ∈ ws ∧ ∀ q ∈ (vx_atS RX4 ic cls xC2).filter goodWord, q ∈ ws
section TX
variable {p : Program} {l : Launch} {e : Env} {R : Room} {s : State} {m : MethodId} {args : Array Value} {below : List Frame} {meth : Method} {c : Code} {H : Heap} {locs : List Loc} {cells slots : Nat} {Q : State → Prop}
variable {cc : ByteArray} {pc nL : Nat} {ls : Array Slot} {rest st0 : List Value}
theorem tx_thr {ws : List Cond} {fr lo mc ms ik is ic : Nat} {D : va_G} {w : va_W} {A : Nat → Prop} {Qc : Array Value → State → Outcome → State → Prop} {XC : String → State → State → Prop} {cls text : String}
    (hl : l.stackTraces = false) (hx : p.tables.exec = Jvm.exec) (hb : c.code = cc) (hown : s.vm.findClass RX4 = some m.cls) (hts : ∀ q ∈ ws, q.before args s = true) (hlocks : meth.locks = false) (htab : ∀ x ∈ c.exceptionTable.toList, False) (hT : teE A s s.heap)
    (hXC : ∀ t : State, va_P D vwCl w t.heap → va_F A s t → s.heap.size < t.heap.size → XC cls s t)
    (hg : xgP ik ic cls) (hE : cls ∈ xE3) (hs : (is, text) ∈ xS12) (hw : xwP ws ik ic cls) (hP : va_P D vwCl w H) (hS : va_S A s.heap H locs) (hsz : ls.size = c.maxLocals)
    (d0 : decode cc pc = .ok (.new ik, 3)) (d3 : decode cc (pc + 3) = .ok (.dup, 1)) (d4 : decode cc (pc + 4) = .ok (.ldc is, 2)) (d6 : decode cc (pc + 6) = .ok (.invokespecial ic, 3)) (d9 : decode cc (pc + 9) = .ok (.athrow, 1))
    (hR : 5 < fr ∧ (rest.map fun v => v.category).sum + 82 ≤ lo ∧ 1 ≤ mc ∧ 6 ≤ ms) : W p l e (rmO fr mc ms lo) s m args below meth c H locs 0 0 (ux_MQ below Qc XC args s mc ms A) (F0 m pc ls rest) := by
  obtain ⟨sa, hsa⟩ := hT.2.2.2.2.1 _ hs
  refine ux_throwS (own := RX4) (cls := cls) (text := text) (names := xC2) (ik := ik) (is := is) (ic := ic) (sa := sa) (A := A) hx hb hl hown hg.2.2.1 hg.2.2.2 (hts _ hw.1) (hts _ hw.2.1) hsa
    (vx_hat (fun q hq => hts q (hw.2.2 q hq)) hg.2.1 (vx_c (va_Nw.use rfl (hT.2.2.1 cls hE)) (vx_c (va_Nw.use rfl (hT.2.2.2.2.2 _ (by simp [xY3]))) (vx_c (va_Nw.use rfl (hT.2.2.2.2.2 _ (by simp [xY3]))) (vx_c (va_Nw.use rfl (hT.2.2.2.2.2 _ (by simp [xY3]))) vx_n))))) hg.1 hT.1 hT.2.1 hS hsz d0 d3 d4 d6 d9 (fun x hx => (htab x hx).elim)
    (by show 2 + 3 < fr; omega) (by show _ + (13 * (2 + 1) + 43) ≤ lo; omega) (by show 0 + 1 ≤ mc; omega) (by show 0 + 6 ≤ ms; omega) hlocks (fun t hal hz hk => ?_) hS.2.2 (by omega) (by omega)
  exact hXC t (hP.kept (fun k q hq => hk q.1 (hP k q hq).lt)) ⟨Nat.le_trans hS.1 (Nat.le_of_lt hz), fun q h1 h2 => by rw [hk q (Nat.lt_of_lt_of_le h1 hS.1)]; exact hS.2.1 q h1 h2⟩ (Nat.lt_of_le_of_lt hS.1 hz)
end TX
theorem tx_XC {D : va_G} {w : va_W} {sz : Nat} {xp : String → Prop} {s : State} {cls : String} (hsz : s.heap.size = sz) (hxp : xp cls) (hD : va_D (va_A w sz) w) : ∀ t : State, va_P D vwCl w t.heap → va_F (va_A w sz) s t → s.heap.size < t.heap.size → tx_X D w sz xp cls s t := fun _ h1 h2 h3 => ⟨(), trivial, ⟨hxp, h1, hD, by rw [← hsz]; exact h3⟩, h2⟩
/-- the body of a method that may throw, with an int -/
theorem tx_of {l : Launch} {y : MethodName} {ws ws' : List Cond} {fr lo mc ms : Nat} {D : va_G} {y3 : ClassId × ClassId × ClassId} {w : va_W} {av : List Value} {S : Type} {post : Int32 → S → Prop} {w2 : S → va_W} {xp : String → Prop} {cc : ByteArray} {maxL : Nat}
    (hl : l.stackTraces = false) (hy : y.cls = RX4) (hw : ws = Cond.code y cc maxL (some .int) :: ws') (hn : (lg_sl av).length ≤ maxL)
    (body : ∀ (p : Program) (e : Env) (s : State) (m : MethodId) (args : Array Value) (below : List Frame) (meth : Method) (c : Code) (A : Nat → Prop) (Q : State → Prop), p.tables.exec = Jvm.exec → c.code = cc → c.maxLocals = maxL → s.vm.findClass RX4 = some m.cls → (∀ q ∈ ws, q.before args s = true) → va_P D vwCl w s.heap → va_K D vwCl (ty3 y3) s → va_D A w → (∀ q : Nat, s.heap.size ≤ q → A q) → va_S A s.heap s.heap [] → teE A s s.heap →
      (∀ (pc : Nat) (ls : Array Slot) (H : Heap) (locs : List Loc) (u : S) (v : Int32), va_P D vwCl (w2 u) H → va_D A (w2 u) → va_S A s.heap H locs → post v u → decode cc pc = .ok (.ireturn, 1) → W p l e (rmO fr mc ms lo) s m args below meth c H locs 0 0 Q (F0 m pc ls [.int v])) →
      (∀ (pc ik is ic : Nat) (cls text : String) (ls : Array Slot) (H : Heap) (locs : List Loc) (rest : List Value), xgP ik ic cls → cls ∈ xE3 → (is, text) ∈ xS12 → xwP ws ik ic cls → xp cls → va_P D vwCl w H → va_D A w → va_S A s.heap H locs → ls.size = maxL → decode cc pc = .ok (.new ik, 3) → decode cc (pc + 3) = .ok (.dup, 1) → decode cc (pc + 4) = .ok (.ldc is, 2) → decode cc (pc + 6) = .ok (.invokespecial ic, 3) → decode cc (pc + 9) = .ok (.athrow, 1) → (5 < fr ∧ (rest.map fun v => v.category).sum + 82 ≤ lo ∧ 1 ≤ mc ∧ 6 ≤ ms) → W p l e (rmO fr mc ms lo) s m args below meth c H locs 0 0 Q (F0 m pc ls rest)) →
      (∀ (pc : Nat) (ls : Array Slot) (rest : List Value) (H : Heap) (locs : List Loc) (E : String) (ce : Cell) (q9 : Addr) (cells slots : Nat), xp E → va_P D vwCl w H → va_D A w → va_S A s.heap H locs → s.heap.size < H.size → H[q9]? = some ce → ce.vm = .none → s.vm.findClass E = some ce.cls → cells ≤ mc ∧ slots ≤ ms → vx_W p l e (rmO fr mc ms lo) s m args below meth c H locs cells slots Q (F0 m pc ls rest) q9) → ∀ ls : Array Slot, lv_has ls maxL (lv_args 0 av) →
      W p l e (rmO fr mc ms lo) s m args below meth c s.heap [] 0 0 Q (F0 m 0 ls [])) : txM l y ws fr lo mc ms D y3 w av post w2 xp := by
  intro sz
  refine ux_ofW (cc := cc) (maxL := maxL) (ret := some .int) (by rw [hy]; decide) hw ?_
  intro p e s m args below meth c s₁ B hml htab hv
  obtain ⟨rfl, hsz, hP, hK, hD0, hT⟩ := hv
  subst hsz
  rw [lg_entry_eq]
  have hown : s.vm.findClass RX4 = some m.cls := by rw [← hy]; exact findClass_of_methodNamed B.named
  exact body p e s m av.toArray below meth c (va_A w s.heap.size) _ B.exec B.bytes hml hown (atoms_spec (ws := ws) B.pre) hP hK hD0.self (fun q h => Or.inr h) va_S.rf hT
    (fun pc ls H locs u v h1 h2 h3 h6 hdg => ux_ret (W.iret B.exec B.bytes B.returns (fun t ht _ => ⟨⟨v, u, rfl, h6, by rw [ht]; exact h1, h2⟩, h3.F ht⟩) h3.2.2 hdg B.notSynchronized))
    (fun pc ik is ic cls text ls H locs rest hg hE hs hw2 hxp h1 h2 h3 hsz d0 d3 d4 d6 d9 hR => tx_thr (D := D) (w := w) hl B.exec B.bytes hown (atoms_spec (ws := ws) B.pre) B.notSynchronized htab hT (tx_XC rfl hxp hD0.self) hg hE hs hw2 h1 h3 (hsz.trans hml.symm) d0 d3 d4 d6 d9 hR)
    (fun pc ls rest H locs E ce q9 cells slots hxp h1 h2 h3 hlt h4 h5 h6 h7 => ux_out (fun x hx => (htab x hx).elim) B.notSynchronized h4 h5 h6 (fun t ht _ => ⟨(), trivial, ⟨hxp, by rw [ht]; exact h1, h2, by rw [ht]; exact hlt⟩, h3.F ht⟩) h3.2.2 h7.1 h7.2) _ (lv_entry av hn)
/-- the same with a truth value -/
theorem tz_of {l : Launch} {y : MethodName} {ws ws' : List Cond} {fr lo mc ms : Nat} {D : va_G} {y3 : ClassId × ClassId × ClassId} {w : va_W} {av : List Value} {S : Type} {post : Int32 → S → Prop} {w2 : S → va_W} {xp : String → Prop} {cc : ByteArray} {maxL : Nat}
    (hl : l.stackTraces = false) (hy : y.cls = RX4) (hw : ws = Cond.code y cc maxL (some .boolean) :: ws') (hn : (lg_sl av).length ≤ maxL)
    (body : ∀ (p : Program) (e : Env) (s : State) (m : MethodId) (args : Array Value) (below : List Frame) (meth : Method) (c : Code) (A : Nat → Prop) (Q : State → Prop), p.tables.exec = Jvm.exec → c.code = cc → c.maxLocals = maxL → s.vm.findClass RX4 = some m.cls → (∀ q ∈ ws, q.before args s = true) → va_P D vwCl w s.heap → va_K D vwCl (ty3 y3) s → va_D A w → (∀ q : Nat, s.heap.size ≤ q → A q) → va_S A s.heap s.heap [] → teE A s s.heap →
      (∀ (pc : Nat) (ls : Array Slot) (H : Heap) (locs : List Loc) (u : S) (v : Int32) (b : Bool), va_P D vwCl (w2 u) H → va_D A (w2 u) → va_S A s.heap H locs → v = bI b → post (bI b) u → decode cc pc = .ok (.ireturn, 1) → W p l e (rmO fr mc ms lo) s m args below meth c H locs 0 0 Q (F0 m pc ls [.int v])) →
      (∀ (pc : Nat) (ls : Array Slot) (rest : List Value) (H : Heap) (locs : List Loc) (E : String) (ce : Cell) (q9 : Addr) (cells slots : Nat), xp E → va_P D vwCl w H → va_D A w → va_S A s.heap H locs → s.heap.size < H.size → H[q9]? = some ce → ce.vm = .none → s.vm.findClass E = some ce.cls → cells ≤ mc ∧ slots ≤ ms → vx_W p l e (rmO fr mc ms lo) s m args below meth c H locs cells slots Q (F0 m pc ls rest) q9) → ∀ ls : Array Slot, lv_has ls maxL (lv_args 0 av) →
      W p l e (rmO fr mc ms lo) s m args below meth c s.heap [] 0 0 Q (F0 m 0 ls [])) : txM l y ws fr lo mc ms D y3 w av post w2 xp := by
  intro sz
  refine ux_ofW (cc := cc) (maxL := maxL) (ret := some .boolean) (by rw [hy]; decide) hw ?_
  intro p e s m args below meth c s₁ B hml htab hv
  obtain ⟨rfl, hsz, hP, hK, hD0, hT⟩ := hv
  subst hsz
  rw [lg_entry_eq]
  have hown : s.vm.findClass RX4 = some m.cls := by rw [← hy]; exact findClass_of_methodNamed B.named
  exact body p e s m av.toArray below meth c (va_A w s.heap.size) _ B.exec B.bytes hml hown (atoms_spec (ws := ws) B.pre) hP hK hD0.self (fun q h => Or.inr h) va_S.rf hT
    (fun pc ls H locs u v b h1 h2 h3 hv h6 hdg => ux_ret (W.zret B.exec B.bytes B.returns (bI_narrow_of hv) (fun t ht _ => ⟨⟨v, u, rfl, by rw [hv]; exact h6, by rw [ht]; exact h1, h2⟩, h3.F ht⟩) h3.2.2 hdg B.notSynchronized))
    (fun pc ls rest H locs E ce q9 cells slots hxp h1 h2 h3 hlt h4 h5 h6 h7 => ux_out (fun x hx => (htab x hx).elim) B.notSynchronized h4 h5 h6 (fun t ht _ => ⟨(), trivial, ⟨hxp, by rw [ht]; exact h1, h2, by rw [ht]; exact hlt⟩, h3.F ht⟩) h3.2.2 h7.1 h7.2) _ (lv_entry av hn)
/-- the same without an answer -/
theorem tv_of {l : Launch} {y : MethodName} {ws ws' : List Cond} {fr lo mc ms : Nat} {D : va_G} {y3 : ClassId × ClassId × ClassId} {w : va_W} {av : List Value} {S : Type} {post : S → Prop} {w2 : S → va_W} {xp : String → Prop} {cc : ByteArray} {maxL : Nat}
    (hl : l.stackTraces = false) (hy : y.cls = RX4) (hw : ws = Cond.code y cc maxL none :: ws') (hn : (lg_sl av).length ≤ maxL)
    (body : ∀ (p : Program) (e : Env) (s : State) (m : MethodId) (args : Array Value) (below : List Frame) (meth : Method) (c : Code) (A : Nat → Prop) (Q : State → Prop), p.tables.exec = Jvm.exec → c.code = cc → c.maxLocals = maxL → s.vm.findClass RX4 = some m.cls → (∀ q ∈ ws, q.before args s = true) → va_P D vwCl w s.heap → va_K D vwCl (ty3 y3) s → va_D A w → (∀ q : Nat, s.heap.size ≤ q → A q) → va_S A s.heap s.heap [] → teE A s s.heap →
      (∀ (pc : Nat) (ls : Array Slot) (H : Heap) (locs : List Loc) (u : S), va_P D vwCl (w2 u) H → va_D A (w2 u) → va_S A s.heap H locs → post u → decode cc pc = .ok (.return_, 1) → W p l e (rmO fr mc ms lo) s m args below meth c H locs 0 0 Q (F0 m pc ls [])) →
      (∀ (pc ik is ic : Nat) (cls text : String) (ls : Array Slot) (H : Heap) (locs : List Loc) (rest : List Value), xgP ik ic cls → cls ∈ xE3 → (is, text) ∈ xS12 → xwP ws ik ic cls → xp cls → va_P D vwCl w H → va_D A w → va_S A s.heap H locs → ls.size = maxL → decode cc pc = .ok (.new ik, 3) → decode cc (pc + 3) = .ok (.dup, 1) → decode cc (pc + 4) = .ok (.ldc is, 2) → decode cc (pc + 6) = .ok (.invokespecial ic, 3) → decode cc (pc + 9) = .ok (.athrow, 1) → (5 < fr ∧ (rest.map fun v => v.category).sum + 82 ≤ lo ∧ 1 ≤ mc ∧ 6 ≤ ms) → W p l e (rmO fr mc ms lo) s m args below meth c H locs 0 0 Q (F0 m pc ls rest)) →
      (∀ (pc : Nat) (ls : Array Slot) (rest : List Value) (H : Heap) (locs : List Loc) (E : String) (ce : Cell) (q9 : Addr) (cells slots : Nat), xp E → va_P D vwCl w H → va_D A w → va_S A s.heap H locs → s.heap.size < H.size → H[q9]? = some ce → ce.vm = .none → s.vm.findClass E = some ce.cls → cells ≤ mc ∧ slots ≤ ms → vx_W p l e (rmO fr mc ms lo) s m args below meth c H locs cells slots Q (F0 m pc ls rest) q9) → ∀ ls : Array Slot, lv_has ls maxL (lv_args 0 av) →
      W p l e (rmO fr mc ms lo) s m args below meth c s.heap [] 0 0 Q (F0 m 0 ls [])) : tvM l y ws fr lo mc ms D y3 w av post w2 xp := by
  intro sz
  refine ux_ofW (cc := cc) (maxL := maxL) (ret := none) (by rw [hy]; decide) hw ?_
  intro p e s m args below meth c s₁ B hml htab hv
  obtain ⟨rfl, hsz, hP, hK, hD0, hT⟩ := hv
  subst hsz
  rw [lg_entry_eq]
  have hown : s.vm.findClass RX4 = some m.cls := by rw [← hy]; exact findClass_of_methodNamed B.named
  exact body p e s m av.toArray below meth c (va_A w s.heap.size) _ B.exec B.bytes hml hown (atoms_spec (ws := ws) B.pre) hP hK hD0.self (fun q h => Or.inr h) va_S.rf hT
    (fun pc ls H locs u h1 h2 h3 h6 hdg => ux_ret (W.vret B.exec B.bytes B.returns (fun t ht _ => ⟨⟨u, rfl, h6, by rw [ht]; exact h1, h2⟩, h3.F ht⟩) h3.2.2 hdg B.notSynchronized))
    (fun pc ik is ic cls text ls H locs rest hg hE hs hw2 hxp h1 h2 h3 hsz d0 d3 d4 d6 d9 hR => tx_thr (D := D) (w := w) hl B.exec B.bytes hown (atoms_spec (ws := ws) B.pre) B.notSynchronized htab hT (tx_XC rfl hxp hD0.self) hg hE hs hw2 h1 h3 (hsz.trans hml.symm) d0 d3 d4 d6 d9 hR)
    (fun pc ls rest H locs E ce q9 cells slots hxp h1 h2 h3 hlt h4 h5 h6 h7 => ux_out (fun x hx => (htab x hx).elim) B.notSynchronized h4 h5 h6 (fun t ht _ => ⟨(), trivial, ⟨hxp, by rw [ht]; exact h1, h2, by rw [ht]; exact hlt⟩, h3.F ht⟩) h3.2.2 h7.1 h7.2) _ (lv_entry av hn)
theorem va_Pm {D : va_G} {cl : List vw_C} {big w3 : va_W} {H : Heap} (hP : va_P D cl big H) (ip : List Nat) (ep : ip.map (fun i => big[i]?) = w3.map some) : va_P D cl w3 H := fun k q hq => by
  have h1 : (ip.map (fun i => big[i]?))[k]? = some (some q) := by rw [ep, List.getElem?_map, hq]; rfl
  rw [List.getElem?_map] at h1
  cases hi : ip[k]? with
  | none => rw [hi] at h1; cases h1
  | some i => rw [hi] at h1; exact hP i q (Option.some.inj h1)
section TC
variable {p : Program} {l : Launch} {e : Env} {R : Room} {s : State} {m : MethodId} {args : Array Value} {below : List Frame} {meth : Method} {c : Code} {H : Heap} {locs : List Loc} {cells slots : Nat} {Q : State → Prop}
variable {cc : ByteArray} {pc nL : Nat} {ls : Array Slot} {rest st0 : List Value}
/-! calls of methods that may throw: kx where it throws, kk where it returns -/
theorem tx_V {y : MethodName} {ws ws' : List Cond} {fr lo index maxL ci q0 mc ms : Nat} {bytes : ByteArray} {ret : Option FieldType} {D : va_G} {y3 : ClassId × ClassId × ClassId} {w w' wr : va_W} {b : Addr} {As : List Value} {X : Type} {post : Int32 → X → Prop} {w2 w3 : X → va_W} {xp : String → Prop} {Ts : List Cond} {own C : String} {T : u_T} {N : Nat} {fs : List Value} {A : Nat → Prop} {H0 : Heap}
    (S : CallFix p m c cc nL s args Ts own) (hM : txM l y ws fr lo mc ms D y3 w' (.ref b :: As) post w2 xp) (hT : GoodIn Ts (wsV own index C y ws)) (hw : ws = Cond.code y bytes maxL ret :: ws')
    (hd : y.cls = C ∧ y.cls ≠ "java/lang/invoke/MethodHandle" ∧ y.cls ≠ "java/lang/invoke/VarHandle" ∧ (parseMethodDescriptor y.desc).map (fun d => d.parameters.length) = some As.length) (hR : fr + 1 ≤ R.frames ∧ 8 + (maxL + 11) + lo ≤ R.locals)
    (hP : va_P D vwCl w H) (hK : va_K D vwCl (ty3 y3) s) (hD : va_D A w) (hS : va_S A H0 H locs) (hA : ∀ q, H0.size ≤ q → A q) (hTE : teE A s H0) (iw ir : List Nat) (ip : List Nat) (ew : iw.map (fun i => w[i]?) = w'.map some) (er : ir.map (fun i => w[i]?) = wr.map some) (hnw : va_nd iw = true) (hnr : va_nd ir = true) (hdis : ∀ i ∈ ir, i ∉ iw) (ep : ∀ u, ip.map (fun i => (wr ++ w2 u)[i]?) = (w3 u).map some) (ex : ip.map (fun i => (wr ++ w')[i]?) = w.map some) (hnp : va_nd ip = true)
    (hc : vwCl[ci]? = some (C, T, N)) (he : w'[q0]? = some (b, .inr (ci, fs)))
    (hsize : ls.size = nL) (hst : st0 = As.reverse ++ .ref b :: rest) (hW : (rest.map fun v => v.category).sum ≤ 8) (hdg : decode cc pc = .ok (.invokevirtual index, 3)) (hcl : cells + mc ≤ R.cells ∧ slots + ms ≤ R.slots)
    (kx : ∀ (E : String) (ce : Cell) (q9 : Addr) (H1 : Heap) (locs1 : List Loc), xp E → va_P D vwCl w H1 → va_D A w → va_S A H0 H1 locs1 → H0.size < H1.size → H1[q9]? = some ce → ce.vm = .none → s.vm.findClass E = some ce.cls → vx_W p l e R s m args below meth c H1 locs1 (cells + mc) (slots + ms) Q (F0 m pc ls rest) q9)
    (kk : ∀ (r : Int32) (u : X) (H1 : Heap) (locs1 : List Loc), post r u → va_P D vwCl (w3 u) H1 → va_D A (w3 u) → va_S A H0 H1 locs1 → W p l e R s m args below meth c H1 locs1 cells slots Q (F0 m (pc + 3) ls (.int r :: rest))) : W p l e R s m args below meth c H locs cells slots Q (F0 m pc ls st0) := by
  have hPc : va_P D vwCl w' H := va_Pm hP iw ew
  have hDc := hD.sub iw hnw ew
  have hFc := va_free (wc := w') hD hS hA iw ew
  refine ux_calli (SX := Unit) (px := fun _ => True) (BX := fun E _ t => xp E ∧ va_P D vwCl w' t.heap ∧ va_D (va_A w' H.size) w' ∧ H.size < t.heap.size) (AX := va_A w' H.size) (ux_runV (As := As) (rest := rest) (b := b) (C := C) (n := As.length) S (hM H.size) (cwV As.length S.2.2.2.2 hT hw rfl rfl hd hR)
    ⟨tx_blind, va_recv hK hPc hc he, fun U hU hW2 => ⟨rfl, by rw [hU], by rw [hU]; exact hPc, va_K.moved hW2.alike hK, hDc.weaken (fun _ _ _ _ => trivial), by rw [hU]; exact (hTE.kept hS.2.1).to hW2 (fun q h => hFc q h)⟩⟩ rfl rfl hsize hst (lv_room hW) hdg hcl) hS (fun q _ h => hFc q h) hFc (fun q _ h => hFc q h) (fun E ce q9 u t H1 locs1 ht hvm _ hB hz hk hS1 h7 h8 h9 => ?_) (fun r u t H1 locs1 ht hvm hp hB hz hk hS1 => ?_)
  · obtain ⟨hxp, hP1, hD1, hlt⟩ := hB
    rw [ht] at hP1 hlt
    obtain ⟨hPj, hDj⟩ := va_join (wr := wr) (w1 := w') hP hD iw ir ew er hnr hdis hk hFc hP1 hD1
    exact kx E ce q9 H1 locs1 hxp (va_Pm hPj ip ex) (hDj.sub ip hnp ex) hS1 (Nat.lt_of_le_of_lt hS.1 hlt) h7 h8 h9
  · obtain ⟨hP1, hD1⟩ := hB
    rw [ht] at hP1
    obtain ⟨hPj, hDj⟩ := va_join (wr := wr) (w1 := w2 u) hP hD iw ir ew er hnr hdis hk hFc hP1 hD1
    exact kk r u H1 locs1 hp (va_Pm hPj ip (ep u)) (hDj.sub ip hnp (ep u)) hS1
theorem tv_V {y : MethodName} {ws ws' : List Cond} {fr lo index maxL ci q0 mc ms : Nat} {bytes : ByteArray} {D : va_G} {y3 : ClassId × ClassId × ClassId} {w w' wr : va_W} {b : Addr} {As : List Value} {X : Type} {post : X → Prop} {w2 w3 : X → va_W} {xp : String → Prop} {Ts : List Cond} {own C : String} {T : u_T} {N : Nat} {fs : List Value} {A : Nat → Prop} {H0 : Heap}
    (S : CallFix p m c cc nL s args Ts own) (hM : tvM l y ws fr lo mc ms D y3 w' (.ref b :: As) post w2 xp) (hT : GoodIn Ts (wsV own index C y ws)) (hw : ws = Cond.code y bytes maxL none :: ws')
    (hd : y.cls = C ∧ y.cls ≠ "java/lang/invoke/MethodHandle" ∧ y.cls ≠ "java/lang/invoke/VarHandle" ∧ (parseMethodDescriptor y.desc).map (fun d => d.parameters.length) = some As.length) (hR : fr + 1 ≤ R.frames ∧ 8 + (maxL + 11) + lo ≤ R.locals)
    (hP : va_P D vwCl w H) (hK : va_K D vwCl (ty3 y3) s) (hD : va_D A w) (hS : va_S A H0 H locs) (hA : ∀ q, H0.size ≤ q → A q) (hTE : teE A s H0) (iw ir : List Nat) (ip : List Nat) (ew : iw.map (fun i => w[i]?) = w'.map some) (er : ir.map (fun i => w[i]?) = wr.map some) (hnw : va_nd iw = true) (hnr : va_nd ir = true) (hdis : ∀ i ∈ ir, i ∉ iw) (ep : ∀ u, ip.map (fun i => (wr ++ w2 u)[i]?) = (w3 u).map some) (ex : ip.map (fun i => (wr ++ w')[i]?) = w.map some) (hnp : va_nd ip = true)
    (hc : vwCl[ci]? = some (C, T, N)) (he : w'[q0]? = some (b, .inr (ci, fs)))
    (hsize : ls.size = nL) (hst : st0 = As.reverse ++ .ref b :: rest) (hW : (rest.map fun v => v.category).sum ≤ 8) (hdg : decode cc pc = .ok (.invokevirtual index, 3)) (hcl : cells + mc ≤ R.cells ∧ slots + ms ≤ R.slots)
    (kx : ∀ (E : String) (ce : Cell) (q9 : Addr) (H1 : Heap) (locs1 : List Loc), xp E → va_P D vwCl w H1 → va_D A w → va_S A H0 H1 locs1 → H0.size < H1.size → H1[q9]? = some ce → ce.vm = .none → s.vm.findClass E = some ce.cls → vx_W p l e R s m args below meth c H1 locs1 (cells + mc) (slots + ms) Q (F0 m pc ls rest) q9)
    (kk : ∀ (u : X) (H1 : Heap) (locs1 : List Loc), post u → va_P D vwCl (w3 u) H1 → va_D A (w3 u) → va_S A H0 H1 locs1 → W p l e R s m args below meth c H1 locs1 cells slots Q (F0 m (pc + 3) ls rest)) : W p l e R s m args below meth c H locs cells slots Q (F0 m pc ls st0) := by
  have hPc : va_P D vwCl w' H := va_Pm hP iw ew
  have hDc := hD.sub iw hnw ew
  have hFc := va_free (wc := w') hD hS hA iw ew
  refine ux_callv (SX := Unit) (px := fun _ => True) (BX := fun E _ t => xp E ∧ va_P D vwCl w' t.heap ∧ va_D (va_A w' H.size) w' ∧ H.size < t.heap.size) (AX := va_A w' H.size) (ux_runV (As := As) (rest := rest) (b := b) (C := C) (n := As.length) S (hM H.size) (cwV As.length S.2.2.2.2 hT hw rfl rfl hd hR)
    ⟨tx_blind, va_recv hK hPc hc he, fun U hU hW2 => ⟨rfl, by rw [hU], by rw [hU]; exact hPc, va_K.moved hW2.alike hK, hDc.weaken (fun _ _ _ _ => trivial), by rw [hU]; exact (hTE.kept hS.2.1).to hW2 (fun q h => hFc q h)⟩⟩ rfl rfl hsize hst (lv_room hW) hdg hcl) hS (fun q _ h => hFc q h) hFc (fun q _ h => hFc q h) (fun E ce q9 u t H1 locs1 ht hvm _ hB hz hk hS1 h7 h8 h9 => ?_) (fun u t H1 locs1 ht hvm hp hB hz hk hS1 => ?_)
  · obtain ⟨hxp, hP1, hD1, hlt⟩ := hB
    rw [ht] at hP1 hlt
    obtain ⟨hPj, hDj⟩ := va_join (wr := wr) (w1 := w') hP hD iw ir ew er hnr hdis hk hFc hP1 hD1
    exact kx E ce q9 H1 locs1 hxp (va_Pm hPj ip ex) (hDj.sub ip hnp ex) hS1 (Nat.lt_of_le_of_lt hS.1 hlt) h7 h8 h9
  · obtain ⟨hP1, hD1⟩ := hB
    rw [ht] at hP1
    obtain ⟨hPj, hDj⟩ := va_join (wr := wr) (w1 := w2 u) hP hD iw ir ew er hnr hdis hk hFc hP1 hD1
    exact kk u H1 locs1 hp (va_Pm hPj ip (ep u)) (hDj.sub ip hnp (ep u)) hS1
theorem tv_S {y : MethodName} {ws ws' : List Cond} {fr lo index maxL mc ms : Nat} {bytes : ByteArray} {D : va_G} {y3 : ClassId × ClassId × ClassId} {w w' wr : va_W} {As : List Value} {X : Type} {post : X → Prop} {w2 w3 : X → va_W} {xp : String → Prop} {Ts : List Cond} {own : String} {A : Nat → Prop} {H0 : Heap}
    (S : CallFix p m c cc nL s args Ts own) (hM : tvM l y ws fr lo mc ms D y3 w' As post w2 xp) (hT : GoodIn Ts (va_wsS own index y ws)) (hw : ws = Cond.code y bytes maxL none :: ws')
    (hd : y.cls ≠ "java/lang/invoke/MethodHandle" ∧ y.cls ≠ "java/lang/invoke/VarHandle" ∧ (parseMethodDescriptor y.desc).map (fun d => d.parameters.length) = some As.length) (hR : fr + 1 ≤ R.frames ∧ 8 + (maxL + 11) + lo ≤ R.locals)
    (hP : va_P D vwCl w H) (hK : va_K D vwCl (ty3 y3) s) (hD : va_D A w) (hS : va_S A H0 H locs) (hA : ∀ q, H0.size ≤ q → A q) (hTE : teE A s H0) (iw ir : List Nat) (ip : List Nat) (ew : iw.map (fun i => w[i]?) = w'.map some) (er : ir.map (fun i => w[i]?) = wr.map some) (hnw : va_nd iw = true) (hnr : va_nd ir = true) (hdis : ∀ i ∈ ir, i ∉ iw) (ep : ∀ u, ip.map (fun i => (wr ++ w2 u)[i]?) = (w3 u).map some) (ex : ip.map (fun i => (wr ++ w')[i]?) = w.map some) (hnp : va_nd ip = true)
    (hsize : ls.size = nL) (hst : st0 = As.reverse ++ rest) (hW : (rest.map fun v => v.category).sum ≤ 8) (hdg : decode cc pc = .ok (.invokestatic index, 3)) (hcl : cells + mc ≤ R.cells ∧ slots + ms ≤ R.slots)
    (kx : ∀ (E : String) (ce : Cell) (q9 : Addr) (H1 : Heap) (locs1 : List Loc), xp E → va_P D vwCl w H1 → va_D A w → va_S A H0 H1 locs1 → H0.size < H1.size → H1[q9]? = some ce → ce.vm = .none → s.vm.findClass E = some ce.cls → vx_W p l e R s m args below meth c H1 locs1 (cells + mc) (slots + ms) Q (F0 m pc ls rest) q9)
    (kk : ∀ (u : X) (H1 : Heap) (locs1 : List Loc), post u → va_P D vwCl (w3 u) H1 → va_D A (w3 u) → va_S A H0 H1 locs1 → W p l e R s m args below meth c H1 locs1 cells slots Q (F0 m (pc + 3) ls rest)) : W p l e R s m args below meth c H locs cells slots Q (F0 m pc ls st0) := by
  have hPc : va_P D vwCl w' H := va_Pm hP iw ew
  have hDc := hD.sub iw hnw ew
  have hFc := va_free (wc := w') hD hS hA iw ew
  refine ux_callv (SX := Unit) (px := fun _ => True) (BX := fun E _ t => xp E ∧ va_P D vwCl w' t.heap ∧ va_D (va_A w' H.size) w' ∧ H.size < t.heap.size) (AX := va_A w' H.size) (ux_runS (As := As) (rest := rest) (n := As.length) S (hM H.size) (va_cwS As.length S.2.2.2.2 hT hw rfl rfl hd hR)
    ⟨tx_blind, fun U hU hW2 => ⟨rfl, by rw [hU], by rw [hU]; exact hPc, va_K.moved hW2.alike hK, hDc.weaken (fun _ _ _ _ => trivial), by rw [hU]; exact (hTE.kept hS.2.1).to hW2 (fun q h => hFc q h)⟩⟩ rfl rfl hsize hst (lv_room hW) hdg hcl) hS (fun q _ h => hFc q h) hFc (fun q _ h => hFc q h) (fun E ce q9 u t H1 locs1 ht hvm _ hB hz hk hS1 h7 h8 h9 => ?_) (fun u t H1 locs1 ht hvm hp hB hz hk hS1 => ?_)
  · obtain ⟨hxp, hP1, hD1, hlt⟩ := hB
    rw [ht] at hP1 hlt
    obtain ⟨hPj, hDj⟩ := va_join (wr := wr) (w1 := w') hP hD iw ir ew er hnr hdis hk hFc hP1 hD1
    exact kx E ce q9 H1 locs1 hxp (va_Pm hPj ip ex) (hDj.sub ip hnp ex) hS1 (Nat.lt_of_le_of_lt hS.1 hlt) h7 h8 h9
  · obtain ⟨hP1, hD1⟩ := hB
    rw [ht] at hP1
    obtain ⟨hPj, hDj⟩ := va_join (wr := wr) (w1 := w2 u) hP hD iw ir ew er hnr hdis hk hFc hP1 hD1
    exact kk u H1 locs1 hp (va_Pm hPj ip (ep u)) (hDj.sub ip hnp (ep u)) hS1
end TC
