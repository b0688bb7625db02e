/-! ===== own layer: the law's helpers, whose bodies have a table of handlers ===== -/
def lxM (l : Launch) (y : MethodName) (ws : List Cond) (fr lo mc ms gr : Nat) (D : va_G) (y3 : ClassId × ClassId × ClassId) (w : va_W) (av : List Value) {S : Type} (post : Int32 → S → Prop) (w2 : S → va_W) : Prop :=
  ∀ sz : Nat, Met l y ws (rmO fr mc ms lo) (tx_Pc D y3 w av sz) (va_Qi post (fun u t => va_P D vwCl (w2 u) t.heap ∧ va_D (va_A w sz) (w2 u) ∧ sz + gr ≤ t.heap.size) (va_A w sz)) mc ms (va_A w sz)
theorem lx_ofWH {l : Launch} {y : MethodName} {ws ws' : List Cond} {rm : Room} {Pc : Array Value → State → Prop} {Qc : Array Value → State → Outcome → State → Prop} {mc ms : Nat} {free : Addr → Prop} {cc : ByteArray} {maxL : Nat} {ret : Option FieldType} {hh : List (Nat × Nat × Nat × Nat)}
    (hy : plainName y.cls = true) (hw : ws = Cond.codeWith y cc maxL ret hh :: ws')
    (body : ∀ p e s m args below meth c s₁, BodyLoose p l y (headSpec ws rm) cc maxL ret e s m args below meth c s₁ → c.maxLocals = maxL → Pc args s →
      W p l e (headSpec ws rm).room s m args below meth c s.heap [] 0 0 (MQ below Qc args s mc ms free) (entryFrame m args maxL)) : Met l y ws rm Pc Qc mc ms free := by
  refine MetFree.of_bodyS (code := cc) (maxLocals := maxL) (ret := ret) hy ?_ ?_
  · intro args s m h hn
    obtain ⟨m9, meth, c, hn9, h1, h2, h3, h4, -, h5, h6, -⟩ := Cond.codeWith_spec (atoms_spec (ws := ws) h _ (by rw [hw]; exact List.mem_cons_self))
    cases hn.symm.trans hn9
    exact ⟨meth, c, h1, h2, h3, h4, h5, h6⟩
  · intro p e s m args below meth c s₁ B hml hP _
    have hh0 : s₁.heap = s.heap := by rw [B.state]; rfl
    obtain ⟨t, a1, o, b1, b2, b3⟩ := body p e s m args below meth c s₁ B hml hP s₁ hh0 (Stand.of_body B)
    exact ⟨t, o, a1, b1, b2, b3⟩
theorem lx_of {l : Launch} {y : MethodName} {ws ws' : List Cond} {fr lo mc ms gr : Nat} {D : va_G} {y3 : ClassId × ClassId × ClassId} {w : va_W} {av : List Value} {S : Type} {post : Int32 → S → Prop} {w2 : S → va_W} {cc : ByteArray} {maxL : Nat} {hh : List (Nat × Nat × Nat × Nat)}
    (hy : plainName y.cls = true) (hw : ws = Cond.codeWith y cc maxL (some .int) hh :: ws') (hn : (lg_sl av).length ≤ maxL)
    (body : ∀ (p : Program) (e : Env) (s : State) (m : MethodId) (args : Array Value) (below : List Frame) (meth : Method) (c : Code) (A : Nat → Prop) (Q : State → Prop), p.tables.exec = Jvm.exec → c.code = cc → c.maxLocals = maxL → s.vm.findClass y.cls = some m.cls → (∀ q ∈ ws, q.before args s = true) → c.exceptionTable.toList = tableOf hh → va_P D vwCl w s.heap → va_K D vwCl (ty3 y3) s → va_D A w → (∀ q : Nat, s.heap.size ≤ q → A q) → va_S A s.heap s.heap [] → teE A s s.heap →
      (∀ (pc : Nat) (ls : Array Slot) (H : Heap) (locs : List Loc) (cells slots : Nat) (u : S) (v : Int32), va_P D vwCl (w2 u) H → va_D A (w2 u) → va_S A s.heap H locs → s.heap.size + gr ≤ H.size → cells ≤ mc → slots ≤ ms → post v u → decode cc pc = .ok (.ireturn, 1) → W p l e (rmO fr mc ms lo) s m args below meth c H locs cells slots Q (F0 m pc ls [.int v])) → ∀ ls : Array Slot, lv_has ls maxL (lv_args 0 av) →
      W p l e (rmO fr mc ms lo) s m args below meth c s.heap [] 0 0 Q (F0 m 0 ls [])) : lxM l y ws fr lo mc ms gr D y3 w av post w2 := by
  intro sz
  refine lx_ofWH (cc := cc) (maxL := maxL) (ret := some .int) (hh := hh) hy hw ?_
  intro p e s m args below meth c s₁ B hml hv
  obtain ⟨rfl, hsz, hP, hK, hD0, hT⟩ := hv
  subst hsz
  rw [lg_entry_eq]
  have hts := atoms_spec (ws := ws) B.pre
  exact body p e s m av.toArray below meth c (va_A w s.heap.size) _ B.exec B.bytes hml (findClass_of_methodNamed B.named) hts (vx_table (x := y) B (hts _ (by rw [hw]; exact List.mem_cons_self))) hP hK hD0.self (fun q h => Or.inr h) va_S.rf hT
    (fun pc ls H locs cells slots u v h1 h2 h3 hgr h4 h5 h6 hdg => W.widen h4 h5 (W.iret B.exec B.bytes B.returns (fun t ht _ => ⟨⟨v, u, rfl, h6, by rw [ht]; exact h1, h2, by rw [ht]; exact hgr⟩, h3.F ht⟩) h3.2.2 hdg B.notSynchronized)) _ (lv_entry av hn)
theorem lx_IA {A : Nat → Prop} {s : State} {H : Heap} (h : teE A s H) : va_Nc xIA xIO s := h.2.2.2.1 (xIA, xIO) (by simp [xN3])
theorem lx_IS {A : Nat → Prop} {s : State} {H : Heap} (h : teE A s H) : va_Nc xIS xIO s := h.2.2.2.1 (xIS, xIO) (by simp [xN3])
theorem lx_SA {A : Nat → Prop} {s : State} {H : Heap} (h : teE A s H) : va_Nc xIS xIA s := h.2.2.2.1 (xIS, xIA) (by simp [xN3])
theorem lx_c {A : Nat → Prop} {s : State} {H : Heap} (h : teE A s H) {E : String} (hE : E ∈ xE3) {args : Array Value} : (Cond.castable E E).before args s = true := va_Nw.use rfl (h.2.2.1 E hE)
theorem xcd_no {z : Nat} {Es : List String} {E : String} {P : Prop} (hz : z = 0) (h : xcd z Es E) : P := by
  obtain ⟨i, h1, _⟩ := h
  exact absurd (hz.symm.trans h1) (Nat.succ_ne_zero _).symm
theorem xcd_1 {z : Nat} {a E : String} (h : xcd z [a] E) : z = 1 ∧ E = a := by
  obtain ⟨i, h1, h2⟩ := h
  match i, h1, h2 with
  | 0, h1, h2 => exact ⟨h1, (Option.some.inj h2).symm⟩
theorem xcd_2 {z : Nat} {a b E : String} (h : xcd z [a, b] E) : (z = 1 ∧ E = a) ∨ (z = 2 ∧ E = b) := by
  obtain ⟨i, h1, h2⟩ := h
  match i, h1, h2 with
  | 0, h1, h2 => exact Or.inl ⟨h1, (Option.some.inj h2).symm⟩
  | 1, h1, h2 => exact Or.inr ⟨h1, (Option.some.inj h2).symm⟩
theorem xcd_3 {z : Nat} {a b c E : String} (h : xcd z [a, b, c] E) : (z = 1 ∧ E = a) ∨ (z = 2 ∧ E = b) ∨ (z = 3 ∧ E = c) := by
  obtain ⟨i, h1, h2⟩ := h
  match i, h1, h2 with
  | 0, h1, h2 => exact Or.inl ⟨h1, (Option.some.inj h2).symm⟩
  | 1, h1, h2 => exact Or.inr (Or.inl ⟨h1, (Option.some.inj h2).symm⟩)
  | 2, h1, h2 => exact Or.inr (Or.inr ⟨h1, (Option.some.inj h2).symm⟩)
section LC
variable {p : Program} {l : Launch} {e : Env} {R : Room} {s : State} {m : MethodId} {args : Array Value} {below : List Frame} {meth : Method} {c : Code} {H : Heap} {locs : List Loc} {cells slots : Nat} {Q : State → Prop}
variable {cc : ByteArray} {pc nL : Nat} {ls : Array Slot} {rest st0 : List Value}
theorem lx_S {y : MethodName} {ws ws' : List Cond} {fr lo index maxL mc ms gr : Nat} {bytes : ByteArray} {ret : Option FieldType} {hh : List (Nat × Nat × Nat × Nat)} {D : va_G} {y3 : ClassId × ClassId × ClassId} {w w' wr : va_W} {As : List Value} {X : Type} {post : Int32 → X → Prop} {w2 w3 : X → va_W} {Ts : List Cond} {own : String} {A : Nat → Prop} {H0 : Heap}
    (S : CallFix p m c cc nL s args Ts own) (hM : lxM l y ws fr lo mc ms gr D y3 w' As post w2) (hT : GoodIn Ts (va_wsS own index y ws)) (hw : ws = Cond.codeWith y bytes maxL ret hh :: ws')
    (hd : y.cls ≠ "java/lang/invoke/MethodHandle" ∧ y.cls ≠ "java/lang/invoke/VarHandle" ∧ (parseMethodDescriptor y.desc).map (fun d => d.parameters.length) = some As.length) (hR : fr + 1 ≤ R.frames ∧ 8 + (maxL + 11) + lo ≤ R.locals)
    (hP : va_P D vwCl w H) (hK : va_K D vwCl (ty3 y3) s) (hD : va_D A w) (hS : va_S A H0 H locs) (hA : ∀ q, H0.size ≤ q → A q) (hTE : teE A s H0) (iw ir : List Nat) (ip : List Nat) (ew : iw.map (fun i => w[i]?) = w'.map some) (er : ir.map (fun i => w[i]?) = wr.map some) (hnw : va_nd iw = true) (hnr : va_nd ir = true) (hdis : ∀ i ∈ ir, i ∉ iw) (ep : ∀ u, ip.map (fun i => (wr ++ w2 u)[i]?) = (w3 u).map some) (hnp : va_nd ip = true)
    (hsize : ls.size = nL) (hst : st0 = As.reverse ++ rest) (hW : (rest.map fun v => v.category).sum ≤ 8) (hdg : decode cc pc = .ok (.invokestatic index, 3)) (hcl : cells + mc ≤ R.cells ∧ slots + ms ≤ R.slots)
    (kk : ∀ (r : Int32) (u : X) (H1 : Heap) (locs1 : List Loc), post r u → va_P D vwCl (w3 u) H1 → va_D A (w3 u) → va_S A H0 H1 locs1 → H.size + gr ≤ H1.size → W p l e R s m args below meth c H1 locs1 (cells + mc) (slots + ms) Q (F0 m (pc + 3) ls (.int r :: rest))) : W p l e R s m args below meth c H locs cells slots Q (F0 m pc ls st0) := by
  have hPc : va_P D vwCl w' H := va_Pm hP iw ew
  have hDc := hD.sub iw hnw ew
  have hFc := va_free (wc := w') hD hS hA iw ew
  refine va_calli (vx_runSW (hh := hh) (As := As) (rest := rest) (n := As.length) S (hM H.size) (vx_cwSW As.length S.2.2.2.2 hT hw rfl rfl hd hR)
    ⟨tx_blind, fun U hU hW2 => ⟨rfl, by rw [hU], by rw [hU]; exact hPc, va_K.moved hW2.alike hK, hDc.weaken (fun _ _ _ _ => trivial), by rw [hU]; exact (hTE.kept hS.2.1).to hW2 (fun q h => hFc q h)⟩⟩ rfl rfl hsize hst (lv_room hW) hdg hcl) hS (fun q _ h => hFc q h) hFc (fun r u t H1 locs1 ht hvm hp hB hz hk hS1 => ?_)
  obtain ⟨hP1, hD1, hgr⟩ := hB
  rw [ht] at hP1 hgr
  obtain ⟨hPj, hDj⟩ := va_join (wr := wr) (w1 := w2 u) hP hD iw ir ew er hnr hdis hk hFc hP1 hD1
  exact kk r u H1 locs1 hp (va_Pm hPj ip (ep u)) (hDj.sub ip hnp (ep u)) hS1 hgr
theorem wrz_V {y : MethodName} {ws ws' : List Cond} {fr lo index maxL ci q0 mc ms : Nat} {bytes : ByteArray} {ret : Option FieldType} {D : va_G} {y3 : ClassId × ClassId × ClassId} {w w' wr : va_W} {b : Addr} {As : List Value} {X : Type} {post : Int32 → X → Prop} {w2 w3 : X → va_W} {Ts : List Cond} {own C : String} {T : u_T} {N : Nat} {fs : List Value} {A : Nat → Prop} {H0 : Heap}
    (S : CallFix p m c cc nL s args Ts own) (hM : wrM l y ws fr lo mc ms D y3 w' (.ref b :: As) post w2) (hT : GoodIn Ts (wsV own index C y ws)) (hw : ws = Cond.code y bytes maxL ret :: ws')
    (hd : y.cls = C ∧ y.cls ≠ "java/lang/invoke/MethodHandle" ∧ y.cls ≠ "java/lang/invoke/VarHandle" ∧ (parseMethodDescriptor y.desc).map (fun d => d.parameters.length) = some As.length) (hR : fr + 1 ≤ R.frames ∧ 8 + (maxL + 11) + lo ≤ R.locals)
    (hP : va_P D vwCl w H) (hK : va_K D vwCl (ty3 y3) s) (hD : va_D A w) (hS : va_S A H0 H locs) (hA : ∀ q, H0.size ≤ q → A q) (iw ir : List Nat) (ip : List Nat) (ew : iw.map (fun i => w[i]?) = w'.map some) (er : ir.map (fun i => w[i]?) = wr.map some) (hnw : va_nd iw = true) (hnr : va_nd ir = true) (hdis : ∀ i ∈ ir, i ∉ iw) (ep : ∀ u, ip.map (fun i => (wr ++ w2 u)[i]?) = (w3 u).map some) (hnp : va_nd ip = true)
    (hc : vwCl[ci]? = some (C, T, N)) (he : w'[q0]? = some (b, .inr (ci, fs)))
    (hsize : ls.size = nL) (hst : st0 = As.reverse ++ .ref b :: rest) (hW : (rest.map fun v => v.category).sum ≤ 8) (hdg : decode cc pc = .ok (.invokevirtual index, 3)) (hcl : cells + mc ≤ R.cells ∧ slots + ms ≤ R.slots)
    (kk : ∀ (r : Int32) (u : X) (H1 : Heap) (locs1 : List Loc), post r u → va_P D vwCl (w3 u) H1 → va_D A (w3 u) → va_S A H0 H1 locs1 → H.size ≤ H1.size → W p l e R s m args below meth c H1 locs1 (cells + mc) (slots + ms) Q (F0 m (pc + 3) ls (.int r :: rest))) : W p l e R s m args below meth c H locs cells slots Q (F0 m pc ls st0) := by
  have hPc : va_P D vwCl w' H := fun k q hk => by
    have h1 : (iw.map (fun i => w[i]?))[k]? = some (some q) := by rw [ew, List.getElem?_map, hk]; rfl
    rw [List.getElem?_map] at h1
    cases hi : iw[k]? with
    | none => rw [hi] at h1; cases h1
    | some i => rw [hi] at h1; exact hP i q (Option.some.inj h1)
  have hDc := hD.sub iw hnw ew
  have hFc := va_free (wc := w') hD hS hA iw ew
  refine va_calli (va_runV (As := As) (rest := rest) (b := b) (C := C) (n := As.length) S (hM H.size) (cwV As.length S.2.2.2.2 hT hw rfl rfl hd hR)
    ⟨wr_blind, va_recv hK hPc hc he, fun U hU hW2 => ⟨rfl, by rw [hU], by rw [hU]; exact hPc, va_K.moved hW2.alike hK, hDc.weaken (fun _ _ _ _ => trivial)⟩⟩ rfl rfl hsize hst (lv_room hW) hdg hcl) hS (fun q _ h => hFc q h) hFc (fun r u t H1 locs1 ht hvm hp hB hz hk hS1 => ?_)
  obtain ⟨hP1, hD1⟩ := hB
  rw [ht] at hP1
  obtain ⟨hPj, hDj⟩ := va_join (wr := wr) (w1 := w2 u) hP hD iw ir ew er hnr hdis hk hFc hP1 hD1
  refine kk r u H1 locs1 hp (fun k q hq => ?_) (hDj.sub ip hnp (ep u)) hS1 hz
  have h1 : (ip.map (fun i => (wr ++ w2 u)[i]?))[k]? = some (some q) := by rw [ep u, List.getElem?_map, hq]; rfl
  rw [List.getElem?_map] at h1
  cases hi : ip[k]? with
  | none => rw [hi] at h1; cases h1
  | some i => rw [hi] at h1; exact hPj i q (Option.some.inj h1)
end LC


theorem hvL_does : yL_does.cls ≠ "java/lang/invoke/MethodHandle" ∧ yL_does.cls ≠ "java/lang/invoke/VarHandle" ∧ (parseMethodDescriptor yL_does.desc).map (fun d => d.parameters.length) = some 4 := by decide +kernel
theorem hvL_test : yL_test.cls ≠ "java/lang/invoke/MethodHandle" ∧ yL_test.cls ≠ "java/lang/invoke/VarHandle" ∧ (parseMethodDescriptor yL_test.desc).map (fun d => d.parameters.length) = some 7 := by decide +kernel
theorem hvL_pattern : yL_pattern.cls ≠ "java/lang/invoke/MethodHandle" ∧ yL_pattern.cls ≠ "java/lang/invoke/VarHandle" ∧ (parseMethodDescriptor yL_pattern.desc).map (fun d => d.parameters.length) = some 6 := by decide +kernel
theorem hvL_is : yL_is.cls ≠ "java/lang/invoke/MethodHandle" ∧ yL_is.cls ≠ "java/lang/invoke/VarHandle" ∧ (parseMethodDescriptor yL_is.desc).map (fun d => d.parameters.length) = some 3 := by decide +kernel
theorem hvL_drawn : yL_drawn.cls ≠ "java/lang/invoke/MethodHandle" ∧ yL_drawn.cls ≠ "java/lang/invoke/VarHandle" ∧ (parseMethodDescriptor yL_drawn.desc).map (fun d => d.parameters.length) = some 2 := by decide +kernel
set_option maxHeartbeats 4000000 in
set_option maxRecDepth 100000 in
theorem kL_does_kind_ok (l : Launch) (hls : l.stackTraces = false) (D : va_G) (y3 : ClassId × ClassId × ClassId) (h0 : Nat) (a0 : Nat) (b0 : Nat) (f0 : Nat) (g0 : Nat) (a1 : Nat) (nk : Nat) (par : Nat → Int32) (k : Int32) (o : Int32) (hk : nk ≤ 14) (hz : (ak2 (decide (k = -1) || inB k nk) (decide (nk < 14))) = 0) : lxM l yL_does wsL_does 9 154 1 6 0 D y3 [(h0, .inr (4, [.ref a0, .ref b0, .ref f0, .ref g0])), (a0, .inr (1, [.ref a1, .int (nI nk)])), (a1, .inl (y3.1, 14, .inl par))] [.ref h0, .int (nI 0), .int k, .int o] (fun r (_ : Unit) => r = (nI nk)) (fun (_ : Unit) => [(h0, .inr (4, [.ref a0, .ref b0, .ref f0, .ref g0])), (a0, .inr (1, [.ref a1, .int (nI (nk + 1))])), (a1, .inl (y3.1, 14, .inl (upd par nk k)))]) := by
  refine lx_of (cc := cL_does) (maxL := 5) (by decide) rfl (Nat.le_of_ble_eq_true rfl) ?_
  intro p e s m args below meth c A Q hx hb hml hown hts htab hP hK hD hA hS hT hret ls hl
  have hown : s.vm.findClass RL = some m.cls := hown
  replace hl : lv_has ls 5 [(0, .ref h0), (1, .int (nI 0)), (2, .int k), (3, .int o)] := hl
  refine lv_iload_n hx hb dL_does_0 rfl (lv_at hl 1 rfl) ?_
  refine lv_if_ne (tgt := 12) hx hb dL_does_1 (by decide) (fun h9 => absurd h9 (by decide +kernel)) (fun _ => ?_)
  refine lv_aload_n hx hb dL_does_4 rfl (lv_at hl 0 rfl) ?_
  refine lv_iload_n hx hb dL_does_5 rfl (lv_at hl 2 rfl) ?_
  refine tx_V (ci := 4) (q0 := 0) (own := RL) (As := [.int k]) (rest := []) (bytes := cX4_kind) (maxL := 2) (wr := []) (w3 := (fun (_ : Unit) => [(h0, .inr (4, [.ref a0, .ref b0, .ref f0, .ref g0])), (a0, .inr (1, [.ref a1, .int (nI (nk + 1))])), (a1, .inl (y3.1, 14, .inl (upd par nk k)))])) ⟨hx, hb, hml, hown, hts⟩ (kX4_kind l hls D y3 h0 a0 b0 f0 g0 a1 nk par k (by omega)) gL_does_X4_kind rfl hvX4_kind ⟨Nat.le_of_ble_eq_true rfl, Nat.le_of_ble_eq_true rfl⟩ hP hK hD hS hA hT [0, 1, 2] [] [0, 1, 2] rfl rfl rfl rfl (by decide) (fun _ => rfl) rfl rfl rfl rfl hl.1 rfl (Nat.le_of_ble_eq_true rfl) dL_does_6 ⟨Nat.le_of_ble_eq_true rfl, Nat.le_of_ble_eq_true rfl⟩ (fun E ce q9 H locs hE hP hD hS hlt h7 h8 h9 => xcd_no hz hE) (fun r1 u1 H locs hr1 hP hD hS => ?_)
  have hP : va_P D vwCl [(h0, .inr (4, [.ref a0, .ref b0, .ref f0, .ref g0])), (a0, .inr (1, [.ref a1, .int (nI (nk + 1))])), (a1, .inl (y3.1, 14, .inl (upd par nk k)))] H := hP
  have hD : va_D A [(h0, .inr (4, [.ref a0, .ref b0, .ref f0, .ref g0])), (a0, .inr (1, [.ref a1, .int (nI (nk + 1))])), (a1, .inl (y3.1, 14, .inl (upd par nk k)))] := hD
  rw [hr1.2]
  refine lv_goto (tgt := 57) hx hb dL_does_9 (by decide) ?_
  exact hret 57 ls H locs _ _ () _ hP hD hS hS.1 (Nat.le_of_ble_eq_true rfl) (Nat.le_of_ble_eq_true rfl) rfl dL_does_57

set_option maxHeartbeats 4000000 in
set_option maxRecDepth 100000 in
theorem kL_does_put_ok (l : Launch) (hls : l.stackTraces = false) (D : va_G) (y3 : ClassId × ClassId × ClassId) (h0 : Nat) (a0 : Nat) (b0 : Nat) (f0 : Nat) (g0 : Nat) (f1 : Nat) (f2 : Nat) (f3 : Nat) (f4 : Nat) (f5 : Nat) (f6 : Nat) (f7 : Nat) (f8 : Nat) (f9 : Nat) (f10 : Nat) (nb : Nat) (nr : Nat) (vb : Nat → Int32) (k : Int32) (o : Int32) (hnb : nb ≤ 16) (hz : (ak2 (rgB k (nI 0) (nI 255)) (decide (nb < 16))) = 0) : lxM l yL_does wsL_does 9 154 1 6 0 D y3 [(h0, .inr (4, [.ref a0, .ref b0, .ref f0, .ref g0])), (f0, .inr (0, [.ref f1, .int (nI nb), .ref f2, .ref f3, .ref f4, .int (nI nr), .ref f5, .ref f6, .ref f7, .ref f8, .ref f9, .ref f10])), (f1, .inl (y3.1, 16, .inl vb))] [.ref h0, .int (nI 4), .int k, .int o] (fun r (_ : Unit) => r = (nI (nb + 1))) (fun (_ : Unit) => [(h0, .inr (4, [.ref a0, .ref b0, .ref f0, .ref g0])), (f0, .inr (0, [.ref f1, .int (nI (nb + 1)), .ref f2, .ref f3, .ref f4, .int (nI nr), .ref f5, .ref f6, .ref f7, .ref f8, .ref f9, .ref f10])), (f1, .inl (y3.1, 16, .inl (upd vb nb k)))]) := by
  refine lx_of (cc := cL_does) (maxL := 5) (by decide) rfl (Nat.le_of_ble_eq_true rfl) ?_
  intro p e s m args below meth c A Q hx hb hml hown hts htab hP hK hD hA hS hT hret ls hl
  have hown : s.vm.findClass RL = some m.cls := hown
  replace hl : lv_has ls 5 [(0, .ref h0), (1, .int (nI 4)), (2, .int k), (3, .int o)] := hl
  refine lv_iload_n hx hb dL_does_0 rfl (lv_at hl 1 rfl) ?_
  refine lv_if_ne (tgt := 12) hx hb dL_does_1 (by decide) (fun _ => ?_) (fun h9 => absurd h9 (by decide +kernel))
  refine lv_iload_n hx hb dL_does_12 rfl (lv_at hl 1 rfl) ?_
  refine lv_iconst (v := (nI 1)) hx hb dL_does_13 rfl ?_
  refine lv_icmp_ne (tgt := 26) hx hb dL_does_14 (by decide) (fun _ => ?_) (fun h9 => absurd h9 (by decide +kernel))
  refine lv_iload_n hx hb dL_does_26 rfl (lv_at hl 1 rfl) ?_
  refine lv_iconst (v := (nI 2)) hx hb dL_does_27 rfl ?_
  refine lv_icmp_ne (tgt := 39) hx hb dL_does_28 (by decide) (fun _ => ?_) (fun h9 => absurd h9 (by decide +kernel))
  refine lv_iload_n hx hb dL_does_39 rfl (lv_at hl 1 rfl) ?_
  refine lv_iconst (v := (nI 3)) hx hb dL_does_40 rfl ?_
  refine lv_icmp_ne (tgt := 52) hx hb dL_does_41 (by decide) (fun _ => ?_) (fun h9 => absurd h9 (by decide +kernel))
  refine lv_aload_n hx hb dL_does_52 rfl (lv_at hl 0 rfl) ?_
  refine lv_iload_n hx hb dL_does_53 rfl (lv_at hl 2 rfl) ?_
  refine tx_V (ci := 4) (q0 := 0) (own := RL) (As := [.int k]) (rest := []) (bytes := cX4_put) (maxL := 2) (wr := []) (w3 := (fun (_ : Unit) => [(h0, .inr (4, [.ref a0, .ref b0, .ref f0, .ref g0])), (f0, .inr (0, [.ref f1, .int (nI (nb + 1)), .ref f2, .ref f3, .ref f4, .int (nI nr), .ref f5, .ref f6, .ref f7, .ref f8, .ref f9, .ref f10])), (f1, .inl (y3.1, 16, .inl (upd vb nb k)))])) ⟨hx, hb, hml, hown, hts⟩ (kX4_put l hls D y3 h0 a0 b0 f0 g0 f1 f2 f3 f4 f5 f6 f7 f8 f9 f10 nb nr vb k (by omega)) gL_does_X4_put rfl hvX4_put ⟨Nat.le_of_ble_eq_true rfl, Nat.le_of_ble_eq_true rfl⟩ hP hK hD hS hA hT [0, 1, 2] [] [0, 1, 2] rfl rfl rfl rfl (by decide) (fun _ => rfl) rfl rfl rfl rfl hl.1 rfl (Nat.le_of_ble_eq_true rfl) dL_does_54 ⟨Nat.le_of_ble_eq_true rfl, Nat.le_of_ble_eq_true rfl⟩ (fun E ce q9 H locs hE hP hD hS hlt h7 h8 h9 => xcd_no hz hE) (fun r1 u1 H locs hr1 hP hD hS => ?_)
  have hP : va_P D vwCl [(h0, .inr (4, [.ref a0, .ref b0, .ref f0, .ref g0])), (f0, .inr (0, [.ref f1, .int (nI (nb + 1)), .ref f2, .ref f3, .ref f4, .int (nI nr), .ref f5, .ref f6, .ref f7, .ref f8, .ref f9, .ref f10])), (f1, .inl (y3.1, 16, .inl (upd vb nb k)))] H := hP
  have hD : va_D A [(h0, .inr (4, [.ref a0, .ref b0, .ref f0, .ref g0])), (f0, .inr (0, [.ref f1, .int (nI (nb + 1)), .ref f2, .ref f3, .ref f4, .int (nI nr), .ref f5, .ref f6, .ref f7, .ref f8, .ref f9, .ref f10])), (f1, .inl (y3.1, 16, .inl (upd vb nb k)))] := hD
  rw [hr1.2]
  exact hret 57 ls H locs _ _ () _ hP hD hS hS.1 (Nat.le_of_ble_eq_true rfl) (Nat.le_of_ble_eq_true rfl) rfl dL_does_57

set_option maxHeartbeats 4000000 in
set_option maxRecDepth 100000 in
theorem kL_test_ex (l : Launch) (hls : l.stackTraces = false) (D : va_G) (y3 : ClassId × ClassId × ClassId) (h0 : Nat) (a0 : Nat) (b0 : Nat) (f0 : Nat) (g0 : Nat) (f1 : Nat) (f2 : Nat) (f3 : Nat) (f4 : Nat) (f5 : Nat) (f6 : Nat) (f7 : Nat) (f8 : Nat) (f9 : Nat) (f10 : Nat) (nb : Nat) (nr : Nat) (tc : Nat → Nat) (lev : Nat → Nat) (fo : Nat → Nat) (tu : Nat → Nat) (wn : Nat → Int32) (mk : Nat → Int32) (ru : Int32) (dp : Int32) (fm : Int32) (tz : Int32) (vl : Int32) (mm : Int32) (hnr : nr ≤ 12) (htc : ∀ q : Nat, tc q ≤ 6) (hlv : ∀ q : Nat, lev q ≤ 5) (hz : ¬ (ak3 (inB ru nr) (teB (gnl lev tc ru.toNatClampNeg) dp fm tz vl mm) (decide (tc ru.toNatClampNeg < 6))) = 0) : lxM l yL_test wsL_test 9 158 1 6 1 D y3 [(h0, .inr (4, [.ref a0, .ref b0, .ref f0, .ref g0])), (f0, .inr (0, [.ref f1, .int (nI nb), .ref f2, .ref f3, .ref f4, .int (nI nr), .ref f5, .ref f6, .ref f7, .ref f8, .ref f9, .ref f10])), (f4, .inl (y3.1, 12, .inl (fN tc))), (f5, .inl (y3.1, 72, .inl (fN lev))), (f6, .inl (y3.1, 72, .inl (fN fo))), (f7, .inl (y3.1, 72, .inl (fN tu))), (f8, .inl (y3.1, 72, .inl wn)), (f9, .inl (y3.1, 72, .inl mk))] [.ref h0, .int ru, .int dp, .int fm, .int tz, .int vl, .int mm] (fun r (_ : Unit) => r = (-8)) (fun (_ : Unit) => [(h0, .inr (4, [.ref a0, .ref b0, .ref f0, .ref g0])), (f0, .inr (0, [.ref f1, .int (nI nb), .ref f2, .ref f3, .ref f4, .int (nI nr), .ref f5, .ref f6, .ref f7, .ref f8, .ref f9, .ref f10])), (f4, .inl (y3.1, 12, .inl (fN tc))), (f5, .inl (y3.1, 72, .inl (fN lev))), (f6, .inl (y3.1, 72, .inl (fN fo))), (f7, .inl (y3.1, 72, .inl (fN tu))), (f8, .inl (y3.1, 72, .inl wn)), (f9, .inl (y3.1, 72, .inl mk))]) := by
  refine lx_of (cc := cL_test) (maxL := 8) (by decide) rfl (Nat.le_of_ble_eq_true rfl) ?_
  intro p e s m args below meth c A Q hx hb hml hown hts htab hP hK hD hA hS hT hret ls hl
  have hown : s.vm.findClass RL = some m.cls := hown
  replace hl : lv_has ls 8 [(0, .ref h0), (1, .int ru), (2, .int dp), (3, .int fm), (4, .int tz), (5, .int vl), (6, .int mm)] := hl
  have hk14 := hts (.classLink RL 14 xIO) (by decide +kernel)
  have hk16 := hts (.classLink RL 16 xIA) (by decide +kernel)
  have hk18 := hts (.classLink RL 18 xIS) (by decide +kernel)
  refine lv_aload_n hx hb dL_test_0 rfl (lv_at hl 0 rfl) ?_
  refine lv_iload_n hx hb dL_test_1 rfl (lv_at hl 1 rfl) ?_
  refine lv_iload_n hx hb dL_test_2 rfl (lv_at hl 2 rfl) ?_
  refine lv_iload_n hx hb dL_test_3 rfl (lv_at hl 3 rfl) ?_
  refine lv_iload hx hb dL_test_4 (lv_at hl 4 rfl) ?_
  refine lv_iload hx hb dL_test_6 (lv_at hl 5 rfl) ?_
  refine lv_iload hx hb dL_test_8 (lv_at hl 6 rfl) ?_
  refine tx_V (ci := 4) (q0 := 0) (own := RL) (As := [.int ru, .int dp, .int fm, .int tz, .int vl, .int mm]) (rest := []) (bytes := cX4_test) (maxL := 7) (wr := []) (w3 := (fun (_ : Unit) => [(h0, .inr (4, [.ref a0, .ref b0, .ref f0, .ref g0])), (f0, .inr (0, [.ref f1, .int (nI nb), .ref f2, .ref f3, .ref f4, .int (nI nr), .ref f5, .ref f6, .ref f7, .ref f8, .ref f9, .ref f10])), (f4, .inl (y3.1, 12, .inl (fN (va_up tc ru.toNatClampNeg ((tc ru.toNatClampNeg) + 1))))), (f5, .inl (y3.1, 72, .inl (fN (va_up lev ((ru.toNatClampNeg * 6) + (tc ru.toNatClampNeg)) dp.toNatClampNeg)))), (f6, .inl (y3.1, 72, .inl (fN (va_up fo ((ru.toNatClampNeg * 6) + (tc ru.toNatClampNeg)) fm.toNatClampNeg)))), (f7, .inl (y3.1, 72, .inl (fN (va_up tu ((ru.toNatClampNeg * 6) + (tc ru.toNatClampNeg)) tz.toNatClampNeg)))), (f8, .inl (y3.1, 72, .inl (upd wn ((ru.toNatClampNeg * 6) + (tc ru.toNatClampNeg)) vl))), (f9, .inl (y3.1, 72, .inl (upd mk ((ru.toNatClampNeg * 6) + (tc ru.toNatClampNeg)) mm)))])) ⟨hx, hb, hml, hown, hts⟩ (kX4_test l hls D y3 h0 a0 b0 f0 g0 f1 f2 f3 f4 f5 f6 f7 f8 f9 f10 nb nr tc lev fo tu wn mk ru dp fm tz vl mm (by omega) (by assumption) (by assumption)) gL_test_X4_test rfl hvX4_test ⟨Nat.le_of_ble_eq_true rfl, Nat.le_of_ble_eq_true rfl⟩ hP hK hD hS hA hT [0, 1, 2, 3, 4, 5, 6, 7] [] [0, 1, 2, 3, 4, 5, 6, 7] rfl rfl rfl rfl (by decide) (fun _ => rfl) rfl rfl rfl rfl hl.1 rfl (Nat.le_of_ble_eq_true rfl) dL_test_10 ⟨Nat.le_of_ble_eq_true rfl, Nat.le_of_ble_eq_true rfl⟩ (fun E ce q9 H locs hE hP hD hS hlt h7 h8 h9 => ?_) (fun r1 u1 H locs hr1 hP hD hS => absurd hr1.1 hz)
  rcases xcd_3 hE with ⟨hz9, rfl⟩ | ⟨hz9, rfl⟩ | ⟨hz9, rfl⟩
  · refine vx_catch (own := RL) (name := xIO) hown [] ⟨0, 13, 14, 14⟩ [⟨0, 13, 19, 16⟩, ⟨0, 13, 24, 18⟩] htab (fun z h => (by cases h)) rfl (by decide) hk14 (lx_c hT (by simp [xE3])) h7 h8 h9 ?_
    refine lv_astore (lv' := [(7, .ref q9), (0, .ref h0), (1, .int ru), (2, .int dp), (3, .int fm), (4, .int tz), (5, .int vl), (6, .int mm)]) hx hb dL_test_14 hl (by decide) rfl (fun ls hl => ?_)
    refine lv_bipush (v := (-8)) hx hb dL_test_16 rfl ?_
    exact hret 18 ls H locs _ _ () _ hP hD hS hlt (Nat.le_of_ble_eq_true rfl) (Nat.le_of_ble_eq_true rfl) rfl dL_test_18
  · refine vx_catch (own := RL) (name := xIA) hown [⟨0, 13, 14, 14⟩] ⟨0, 13, 19, 16⟩ [⟨0, 13, 24, 18⟩] htab (fun z h => by
        simp only [List.mem_cons, List.not_mem_nil, or_false] at h
        subst h
        exact Or.inr ⟨by decide, xIO, hk14, lx_IA hT⟩) rfl (by decide) hk16 (lx_c hT (by simp [xE3])) h7 h8 h9 ?_
    refine lv_astore (lv' := [(7, .ref q9), (0, .ref h0), (1, .int ru), (2, .int dp), (3, .int fm), (4, .int tz), (5, .int vl), (6, .int mm)]) hx hb dL_test_19 hl (by decide) rfl (fun ls hl => ?_)
    refine lv_bipush (v := (-8)) hx hb dL_test_21 rfl ?_
    exact hret 23 ls H locs _ _ () _ hP hD hS hlt (Nat.le_of_ble_eq_true rfl) (Nat.le_of_ble_eq_true rfl) rfl dL_test_23
  · refine vx_catch (own := RL) (name := xIS) hown [⟨0, 13, 14, 14⟩, ⟨0, 13, 19, 16⟩] ⟨0, 13, 24, 18⟩ [] htab (fun z h => by
        simp only [List.mem_cons, List.not_mem_nil, or_false] at h
        rcases h with rfl | rfl
        · exact Or.inr ⟨by decide, xIO, hk14, lx_IS hT⟩
        · exact Or.inr ⟨by decide, xIA, hk16, lx_SA hT⟩) rfl (by decide) hk18 (lx_c hT (by simp [xE3])) h7 h8 h9 ?_
    refine lv_astore (lv' := [(7, .ref q9), (0, .ref h0), (1, .int ru), (2, .int dp), (3, .int fm), (4, .int tz), (5, .int vl), (6, .int mm)]) hx hb dL_test_24 hl (by decide) rfl (fun ls hl => ?_)
    refine lv_bipush (v := (-8)) hx hb dL_test_26 rfl ?_
    exact hret 28 ls H locs _ _ () _ hP hD hS hlt (Nat.le_of_ble_eq_true rfl) (Nat.le_of_ble_eq_true rfl) rfl dL_test_28

set_option maxHeartbeats 4000000 in
set_option maxRecDepth 100000 in
theorem kL_pattern_ok (l : Launch) (hls : l.stackTraces = false) (D : va_G) (y3 : ClassId × ClassId × ClassId) (h0 : Nat) (a0 : Nat) (b0 : Nat) (f0 : Nat) (g0 : Nat) (a1 : Nat) (nk : Nat) (b1 : Nat) (b2 : Nat) (b3 : Nat) (b4 : Nat) (b5 : Nat) (b6 : Nat) (b7 : Nat) (nl : Nat) (np : Nat) (nt : Nat) (kp : Nat → Nat) (wt : Nat → Int32) (ln : Nat → Nat) (th : Nat → Bool) (tk : Nat → Int32) (k : Int32) (wg : Int32) (tks : Int32) (q1 : Int32) (q2 : Int32) (hk : nk ≤ 14) (hnp : np ≤ 20) (hz : (ak3 (inB k nk) (ptB wg tks q1 q2) (decide (np < 20))) = 0) : lxM l yL_pattern wsL_pattern 9 158 1 6 0 D y3 [(h0, .inr (4, [.ref a0, .ref b0, .ref f0, .ref g0])), (a0, .inr (1, [.ref a1, .int (nI nk)])), (b0, .inr (2, [.ref b1, .int (nI nl), .ref b2, .ref b3, .ref b4, .ref b5, .ref b6, .int (nI np), .int (nI nt), .ref b7])), (b2, .inl (y3.1, 20, .inl (fN kp))), (b3, .inl (y3.1, 20, .inl wt)), (b4, .inl (y3.1, 20, .inl (fN ln))), (b5, .inl (y3.2.1, 20, .inl (fB th))), (b6, .inl (y3.1, 160, .inl tk))] [.ref h0, .int k, .int wg, .int tks, .int q1, .int q2] (fun r (_ : Unit) => r = (nI np)) (fun (_ : Unit) => [(h0, .inr (4, [.ref a0, .ref b0, .ref f0, .ref g0])), (a0, .inr (1, [.ref a1, .int (nI nk)])), (b0, .inr (2, [.ref b1, .int (nI nl), .ref b2, .ref b3, .ref b4, .ref b5, .ref b6, .int (nI (np + 1)), .int (nI (nt + 1)), .ref b7])), (b2, .inl (y3.1, 20, .inl (fN (va_up kp np k.toNatClampNeg)))), (b3, .inl (y3.1, 20, .inl (upd wt np wg))), (b4, .inl (y3.1, 20, .inl (fN (va_up ln np tks.toNatClampNeg)))), (b5, .inl (y3.2.1, 20, .inl (fB (va_up th np true)))), (b6, .inl (y3.1, 160, .inl (tkW tk np q1.toNatClampNeg q2.toNatClampNeg tks.toNatClampNeg)))]) := by
  refine lx_of (cc := cL_pattern) (maxL := 7) (by decide) rfl (Nat.le_of_ble_eq_true rfl) ?_
  intro p e s m args below meth c A Q hx hb hml hown hts htab hP hK hD hA hS hT hret ls hl
  have hown : s.vm.findClass RL = some m.cls := hown
  replace hl : lv_has ls 7 [(0, .ref h0), (1, .int k), (2, .int wg), (3, .int tks), (4, .int q1), (5, .int q2)] := hl
  refine lv_aload_n hx hb dL_pattern_0 rfl (lv_at hl 0 rfl) ?_
  refine lv_iload_n hx hb dL_pattern_1 rfl (lv_at hl 1 rfl) ?_
  refine lv_iload_n hx hb dL_pattern_2 rfl (lv_at hl 2 rfl) ?_
  refine lv_iload_n hx hb dL_pattern_3 rfl (lv_at hl 3 rfl) ?_
  refine lv_iload hx hb dL_pattern_4 (lv_at hl 4 rfl) ?_
  refine lv_iload hx hb dL_pattern_6 (lv_at hl 5 rfl) ?_
  refine tx_V (ci := 4) (q0 := 0) (own := RL) (As := [.int k, .int wg, .int tks, .int q1, .int q2]) (rest := []) (bytes := cX4_pattern) (maxL := 7) (wr := []) (w3 := (fun (_ : Unit) => [(h0, .inr (4, [.ref a0, .ref b0, .ref f0, .ref g0])), (a0, .inr (1, [.ref a1, .int (nI nk)])), (b0, .inr (2, [.ref b1, .int (nI nl), .ref b2, .ref b3, .ref b4, .ref b5, .ref b6, .int (nI (np + 1)), .int (nI (nt + 1)), .ref b7])), (b2, .inl (y3.1, 20, .inl (fN (va_up kp np k.toNatClampNeg)))), (b3, .inl (y3.1, 20, .inl (upd wt np wg))), (b4, .inl (y3.1, 20, .inl (fN (va_up ln np tks.toNatClampNeg)))), (b5, .inl (y3.2.1, 20, .inl (fB (va_up th np true)))), (b6, .inl (y3.1, 160, .inl (tkW tk np q1.toNatClampNeg q2.toNatClampNeg tks.toNatClampNeg)))])) ⟨hx, hb, hml, hown, hts⟩ (kX4_pattern l hls D y3 h0 a0 b0 f0 g0 a1 nk b1 b2 b3 b4 b5 b6 b7 nl np nt kp wt ln th tk k wg tks q1 q2 (by omega) (by omega)) gL_pattern_X4_pattern rfl hvX4_pattern ⟨Nat.le_of_ble_eq_true rfl, Nat.le_of_ble_eq_true rfl⟩ hP hK hD hS hA hT [0, 1, 2, 3, 4, 5, 6, 7] [] [0, 1, 2, 3, 4, 5, 6, 7] rfl rfl rfl rfl (by decide) (fun _ => rfl) rfl rfl rfl rfl hl.1 rfl (Nat.le_of_ble_eq_true rfl) dL_pattern_8 ⟨Nat.le_of_ble_eq_true rfl, Nat.le_of_ble_eq_true rfl⟩ (fun E ce q9 H locs hE hP hD hS hlt h7 h8 h9 => xcd_no hz hE) (fun r1 u1 H locs hr1 hP hD hS => ?_)
  have hP : va_P D vwCl [(h0, .inr (4, [.ref a0, .ref b0, .ref f0, .ref g0])), (a0, .inr (1, [.ref a1, .int (nI nk)])), (b0, .inr (2, [.ref b1, .int (nI nl), .ref b2, .ref b3, .ref b4, .ref b5, .ref b6, .int (nI (np + 1)), .int (nI (nt + 1)), .ref b7])), (b2, .inl (y3.1, 20, .inl (fN (va_up kp np k.toNatClampNeg)))), (b3, .inl (y3.1, 20, .inl (upd wt np wg))), (b4, .inl (y3.1, 20, .inl (fN (va_up ln np tks.toNatClampNeg)))), (b5, .inl (y3.2.1, 20, .inl (fB (va_up th np true)))), (b6, .inl (y3.1, 160, .inl (tkW tk np q1.toNatClampNeg q2.toNatClampNeg tks.toNatClampNeg)))] H := hP
  have hD : va_D A [(h0, .inr (4, [.ref a0, .ref b0, .ref f0, .ref g0])), (a0, .inr (1, [.ref a1, .int (nI nk)])), (b0, .inr (2, [.ref b1, .int (nI nl), .ref b2, .ref b3, .ref b4, .ref b5, .ref b6, .int (nI (np + 1)), .int (nI (nt + 1)), .ref b7])), (b2, .inl (y3.1, 20, .inl (fN (va_up kp np k.toNatClampNeg)))), (b3, .inl (y3.1, 20, .inl (upd wt np wg))), (b4, .inl (y3.1, 20, .inl (fN (va_up ln np tks.toNatClampNeg)))), (b5, .inl (y3.2.1, 20, .inl (fB (va_up th np true)))), (b6, .inl (y3.1, 160, .inl (tkW tk np q1.toNatClampNeg q2.toNatClampNeg tks.toNatClampNeg)))] := hD
  rw [hr1.2]
  exact hret 11 ls H locs _ _ () _ hP hD hS hS.1 (Nat.le_of_ble_eq_true rfl) (Nat.le_of_ble_eq_true rfl) rfl dL_pattern_11

set_option maxHeartbeats 4000000 in
set_option maxRecDepth 100000 in
theorem kL_is_pex (l : Launch) (hls : l.stackTraces = false) (D : va_G) (y3 : ClassId × ClassId × ClassId) (h0 : Nat) (a0 : Nat) (b0 : Nat) (f0 : Nat) (g0 : Nat) (b1 : Nat) (b2 : Nat) (b3 : Nat) (b4 : Nat) (b5 : Nat) (b6 : Nat) (b7 : Nat) (nl : Nat) (np : Nat) (nt : Nat) (lt : Nat → Int32) (ln : Nat → Nat) (th : Nat → Bool) (tk : Nat → Int32) (tb : Nat → Bool) (k : Int32) (wt9 : Nat) (hnp : np ≤ 20) (hnl : nl ≤ 12) (hln : ∀ q : Nat, ln q ≤ 8) (htb : ∀ q : Nat, 1 ≤ q → q < 13 → tb q = false) (hw9 : wt9 < 2) (hz : ¬ (ak1 (hasP th np k)) = 0) : lxM l yL_is wsL_is 8 132 1 6 1 D y3 [(h0, .inr (4, [.ref a0, .ref b0, .ref f0, .ref g0])), (b0, .inr (2, [.ref b1, .int (nI nl), .ref b2, .ref b3, .ref b4, .ref b5, .ref b6, .int (nI np), .int (nI nt), .ref b7])), (b1, .inl (y3.1, 12, .inl lt)), (b4, .inl (y3.1, 20, .inl (fN ln))), (b5, .inl (y3.2.1, 20, .inl (fB th))), (b6, .inl (y3.1, 160, .inl tk)), (b7, .inl (y3.2.1, 117, .inl (fB tb)))] [.ref h0, .int (nI wt9), .int k] (fun r (_ : Unit) => r = (-8)) (fun (_ : Unit) => [(h0, .inr (4, [.ref a0, .ref b0, .ref f0, .ref g0])), (b0, .inr (2, [.ref b1, .int (nI nl), .ref b2, .ref b3, .ref b4, .ref b5, .ref b6, .int (nI np), .int (nI nt), .ref b7])), (b1, .inl (y3.1, 12, .inl lt)), (b4, .inl (y3.1, 20, .inl (fN ln))), (b5, .inl (y3.2.1, 20, .inl (fB th))), (b6, .inl (y3.1, 160, .inl tk)), (b7, .inl (y3.2.1, 117, .inl (fB tb)))]) := by
  refine lx_of (cc := cL_is) (maxL := 4) (by decide) rfl (Nat.le_of_ble_eq_true rfl) ?_
  intro p e s m args below meth c A Q hx hb hml hown hts htab hP hK hD hA hS hT hret ls hl
  have hown : s.vm.findClass RL = some m.cls := hown
  replace hl : lv_has ls 4 [(0, .ref h0), (1, .int (nI wt9)), (2, .int k)] := hl
  have hk14 := hts (.classLink RL 14 xIO) (by decide +kernel)
  refine lv_iload_n hx hb dL_is_0 rfl (lv_at hl 1 rfl) ?_
  refine ln_if_ne (tgt := 15) hx hb (by omega) dL_is_1 (by decide) (fun c1 => ?_) (fun c1 => ?_)
  · refine lv_iload_n hx hb dL_is_15 rfl (lv_at hl 1 rfl) ?_
    refine lv_iconst (v := (nI 1)) hx hb dL_is_16 rfl ?_
    refine ln_icmp_ne (tgt := 31) hx hb (by omega) (by omega) dL_is_17 (by decide) (fun c17 => ?_) (fun c17 => ?_)
    · exact absurd c17 (by omega)
    · refine lv_aload_n hx hb dL_is_20 rfl (lv_at hl 0 rfl) ?_
      refine lv_iload_n hx hb dL_is_21 rfl (lv_at hl 2 rfl) ?_
      refine tx_V (ci := 4) (q0 := 0) (own := RL) (As := [.int k]) (rest := []) (bytes := cX4_fitsByTable) (maxL := 2) (wr := []) (w3 := (fun (u1 : Nat → Bool) => [(h0, .inr (4, [.ref a0, .ref b0, .ref f0, .ref g0])), (b0, .inr (2, [.ref b1, .int (nI nl), .ref b2, .ref b3, .ref b4, .ref b5, .ref b6, .int (nI np), .int (nI nt), .ref b7])), (b1, .inl (y3.1, 12, .inl lt)), (b4, .inl (y3.1, 20, .inl (fN ln))), (b5, .inl (y3.2.1, 20, .inl (fB th))), (b6, .inl (y3.1, 160, .inl tk)), (b7, .inl (y3.2.1, 117, .inl (fB u1)))])) ⟨hx, hb, hml, hown, hts⟩ (kX4_fitsByTable l hls D y3 h0 a0 b0 f0 g0 b1 b2 b3 b4 b5 b6 b7 nl np nt lt ln th tk tb k (by omega) (by omega) (by assumption) (by assumption)) gL_is_X4_fitsByTable rfl hvX4_fitsByTable ⟨Nat.le_of_ble_eq_true rfl, Nat.le_of_ble_eq_true rfl⟩ hP hK hD hS hA hT [0, 1, 2, 3, 4, 5, 6] [] [0, 1, 2, 3, 4, 5, 6] rfl rfl rfl rfl (by decide) (fun _ => rfl) rfl rfl rfl rfl hl.1 rfl (Nat.le_of_ble_eq_true rfl) dL_is_22 ⟨Nat.le_of_ble_eq_true rfl, Nat.le_of_ble_eq_true rfl⟩ (fun E ce q9 H locs hE hP hD hS hlt h7 h8 h9 => ?_) (fun r1 u1 H locs hr1 hP hD hS => absurd hr1.1 hz)
      obtain ⟨hz9, rfl⟩ := xcd_1 hE
      refine vx_catch (own := RL) (name := xIO) hown [] ⟨0, 44, 45, 14⟩ [] htab (fun z h => (by cases h)) rfl (by decide) hk14 (lx_c hT (by simp [xE3])) h7 h8 h9 ?_
      refine lv_astore_n (lv' := [(3, .ref q9), (0, .ref h0), (1, .int (nI wt9)), (2, .int k)]) hx hb dL_is_45 rfl hl (by decide) rfl (fun ls hl => ?_)
      refine lv_bipush (v := (-8)) hx hb dL_is_46 rfl ?_
      exact hret 48 ls H locs _ _ () _ hP hD hS hlt (Nat.le_of_ble_eq_true rfl) (Nat.le_of_ble_eq_true rfl) rfl dL_is_48
  · refine lv_aload_n hx hb dL_is_4 rfl (lv_at hl 0 rfl) ?_
    refine lv_iload_n hx hb dL_is_5 rfl (lv_at hl 2 rfl) ?_
    refine tx_V (ci := 4) (q0 := 0) (own := RL) (As := [.int k]) (rest := []) (bytes := cX4_fits) (maxL := 2) (wr := [(b7, .inl (y3.2.1, 117, .inl (fB tb)))]) (w3 := (fun (_ : Unit) => [(h0, .inr (4, [.ref a0, .ref b0, .ref f0, .ref g0])), (b0, .inr (2, [.ref b1, .int (nI nl), .ref b2, .ref b3, .ref b4, .ref b5, .ref b6, .int (nI np), .int (nI nt), .ref b7])), (b1, .inl (y3.1, 12, .inl lt)), (b4, .inl (y3.1, 20, .inl (fN ln))), (b5, .inl (y3.2.1, 20, .inl (fB th))), (b6, .inl (y3.1, 160, .inl tk)), (b7, .inl (y3.2.1, 117, .inl (fB tb)))])) ⟨hx, hb, hml, hown, hts⟩ (kX4_fits l hls D y3 h0 a0 b0 f0 g0 b1 b2 b3 b4 b5 b6 b7 nl np nt lt ln th tk k (by omega) (by omega) (by assumption)) gL_is_X4_fits rfl hvX4_fits ⟨Nat.le_of_ble_eq_true rfl, Nat.le_of_ble_eq_true rfl⟩ hP hK hD hS hA hT [0, 1, 2, 3, 4, 5] [6] [1, 2, 3, 4, 5, 6, 0] rfl rfl rfl rfl (by decide) (fun _ => rfl) rfl rfl rfl rfl hl.1 rfl (Nat.le_of_ble_eq_true rfl) dL_is_6 ⟨Nat.le_of_ble_eq_true rfl, Nat.le_of_ble_eq_true rfl⟩ (fun E ce q9 H locs hE hP hD hS hlt h7 h8 h9 => ?_) (fun r1 u1 H locs hr1 hP hD hS => absurd hr1.1 hz)
    obtain ⟨hz9, rfl⟩ := xcd_1 hE
    refine vx_catch (own := RL) (name := xIO) hown [] ⟨0, 44, 45, 14⟩ [] htab (fun z h => (by cases h)) rfl (by decide) hk14 (lx_c hT (by simp [xE3])) h7 h8 h9 ?_
    refine lv_astore_n (lv' := [(3, .ref q9), (0, .ref h0), (1, .int (nI wt9)), (2, .int k)]) hx hb dL_is_45 rfl hl (by decide) rfl (fun ls hl => ?_)
    refine lv_bipush (v := (-8)) hx hb dL_is_46 rfl ?_
    exact hret 48 ls H locs _ _ () _ hP hD hS hlt (Nat.le_of_ble_eq_true rfl) (Nat.le_of_ble_eq_true rfl) rfl dL_is_48

set_option maxHeartbeats 4000000 in
set_option maxRecDepth 100000 in
theorem kL_is_rex (l : Launch) (hls : l.stackTraces = false) (D : va_G) (y3 : ClassId × ClassId × ClassId) (h0 : Nat) (a0 : Nat) (b0 : Nat) (f0 : Nat) (g0 : Nat) (f1 : Nat) (f2 : Nat) (f3 : Nat) (f4 : Nat) (f5 : Nat) (f6 : Nat) (f7 : Nat) (f8 : Nat) (f9 : Nat) (f10 : Nat) (nb : Nat) (nr : Nat) (vb : Nat → Int32) (tc : Nat → Nat) (lev : Nat → Nat) (fo : Nat → Nat) (tu : Nat → Nat) (wn : Nat → Int32) (mk : Nat → Int32) (ld : Nat → Bool) (k : Int32) (hnr : nr ≤ 12) (hnb : nb ≤ 16) (htc : ∀ q : Nat, tc q ≤ 6) (hlv : ∀ q : Nat, lev q ≤ 5) (hfo : ∀ q : Nat, fo q ≤ 15) (htu : ∀ q : Nat, tu q ≤ 15) (hz : ¬ (ak1 (inB k nr)) = 0) : lxM l yL_is wsL_is 8 132 1 6 1 D y3 [(h0, .inr (4, [.ref a0, .ref b0, .ref f0, .ref g0])), (f0, .inr (0, [.ref f1, .int (nI nb), .ref f2, .ref f3, .ref f4, .int (nI nr), .ref f5, .ref f6, .ref f7, .ref f8, .ref f9, .ref f10])), (f1, .inl (y3.1, 16, .inl vb)), (f4, .inl (y3.1, 12, .inl (fN tc))), (f5, .inl (y3.1, 72, .inl (fN lev))), (f6, .inl (y3.1, 72, .inl (fN fo))), (f7, .inl (y3.1, 72, .inl (fN tu))), (f8, .inl (y3.1, 72, .inl wn)), (f9, .inl (y3.1, 72, .inl mk)), (f10, .inl (y3.2.1, 72, .inl (fB ld)))] [.ref h0, .int (nI 2), .int k] (fun r (_ : Unit) => r = (-8)) (fun (_ : Unit) => [(h0, .inr (4, [.ref a0, .ref b0, .ref f0, .ref g0])), (f0, .inr (0, [.ref f1, .int (nI nb), .ref f2, .ref f3, .ref f4, .int (nI nr), .ref f5, .ref f6, .ref f7, .ref f8, .ref f9, .ref f10])), (f1, .inl (y3.1, 16, .inl vb)), (f4, .inl (y3.1, 12, .inl (fN tc))), (f5, .inl (y3.1, 72, .inl (fN lev))), (f6, .inl (y3.1, 72, .inl (fN fo))), (f7, .inl (y3.1, 72, .inl (fN tu))), (f8, .inl (y3.1, 72, .inl wn)), (f9, .inl (y3.1, 72, .inl mk)), (f10, .inl (y3.2.1, 72, .inl (fB ld)))]) := by
  refine lx_of (cc := cL_is) (maxL := 4) (by decide) rfl (Nat.le_of_ble_eq_true rfl) ?_
  intro p e s m args below meth c A Q hx hb hml hown hts htab hP hK hD hA hS hT hret ls hl
  have hown : s.vm.findClass RL = some m.cls := hown
  replace hl : lv_has ls 4 [(0, .ref h0), (1, .int (nI 2)), (2, .int k)] := hl
  have hk14 := hts (.classLink RL 14 xIO) (by decide +kernel)
  refine lv_iload_n hx hb dL_is_0 rfl (lv_at hl 1 rfl) ?_
  refine lv_if_ne (tgt := 15) hx hb dL_is_1 (by decide) (fun _ => ?_) (fun h9 => absurd h9 (by decide +kernel))
  refine lv_iload_n hx hb dL_is_15 rfl (lv_at hl 1 rfl) ?_
  refine lv_iconst (v := (nI 1)) hx hb dL_is_16 rfl ?_
  refine lv_icmp_ne (tgt := 31) hx hb dL_is_17 (by decide) (fun _ => ?_) (fun h9 => absurd h9 (by decide +kernel))
  refine lv_aload_n hx hb dL_is_31 rfl (lv_at hl 0 rfl) ?_
  refine lv_iload_n hx hb dL_is_32 rfl (lv_at hl 2 rfl) ?_
  refine tx_V (ci := 4) (q0 := 0) (own := RL) (As := [.int k]) (rest := []) (bytes := cX4_proves) (maxL := 2) (wr := []) (w3 := (fun (u1 : Nat → Bool) => [(h0, .inr (4, [.ref a0, .ref b0, .ref f0, .ref g0])), (f0, .inr (0, [.ref f1, .int (nI nb), .ref f2, .ref f3, .ref f4, .int (nI nr), .ref f5, .ref f6, .ref f7, .ref f8, .ref f9, .ref f10])), (f1, .inl (y3.1, 16, .inl vb)), (f4, .inl (y3.1, 12, .inl (fN tc))), (f5, .inl (y3.1, 72, .inl (fN lev))), (f6, .inl (y3.1, 72, .inl (fN fo))), (f7, .inl (y3.1, 72, .inl (fN tu))), (f8, .inl (y3.1, 72, .inl wn)), (f9, .inl (y3.1, 72, .inl mk)), (f10, .inl (y3.2.1, 72, .inl (fB u1)))])) ⟨hx, hb, hml, hown, hts⟩ (kX4_proves l hls D y3 h0 a0 b0 f0 g0 f1 f2 f3 f4 f5 f6 f7 f8 f9 f10 nb nr vb tc lev fo tu wn mk ld k (by omega) (by omega) (by assumption) (by assumption) (by assumption) (by assumption)) gL_is_X4_proves rfl hvX4_proves ⟨Nat.le_of_ble_eq_true rfl, Nat.le_of_ble_eq_true rfl⟩ hP hK hD hS hA hT [0, 1, 2, 3, 4, 5, 6, 7, 8, 9] [] [0, 1, 2, 3, 4, 5, 6, 7, 8, 9] rfl rfl rfl rfl (by decide) (fun _ => rfl) rfl rfl rfl rfl hl.1 rfl (Nat.le_of_ble_eq_true rfl) dL_is_33 ⟨Nat.le_of_ble_eq_true rfl, Nat.le_of_ble_eq_true rfl⟩ (fun E ce q9 H locs hE hP hD hS hlt h7 h8 h9 => ?_) (fun r1 u1 H locs hr1 hP hD hS => absurd hr1.1 hz)
  obtain ⟨hz9, rfl⟩ := xcd_1 hE
  refine vx_catch (own := RL) (name := xIO) hown [] ⟨0, 44, 45, 14⟩ [] htab (fun z h => (by cases h)) rfl (by decide) hk14 (lx_c hT (by simp [xE3])) h7 h8 h9 ?_
  refine lv_astore_n (lv' := [(3, .ref q9), (0, .ref h0), (1, .int (nI 2)), (2, .int k)]) hx hb dL_is_45 rfl hl (by decide) rfl (fun ls hl => ?_)
  refine lv_bipush (v := (-8)) hx hb dL_is_46 rfl ?_
  exact hret 48 ls H locs _ _ () _ hP hD hS hlt (Nat.le_of_ble_eq_true rfl) (Nat.le_of_ble_eq_true rfl) rfl dL_is_48

set_option maxHeartbeats 4000000 in
set_option maxRecDepth 100000 in
theorem kL_is_fok (l : Launch) (hls : l.stackTraces = false) (D : va_G) (y3 : ClassId × ClassId × ClassId) (h0 : Nat) (a0 : Nat) (b0 : Nat) (f0 : Nat) (g0 : Nat) (b1 : Nat) (b2 : Nat) (b3 : Nat) (b4 : Nat) (b5 : Nat) (b6 : Nat) (b7 : Nat) (nl : Nat) (np : Nat) (nt : Nat) (lt : Nat → Int32) (ln : Nat → Nat) (th : Nat → Bool) (tk : Nat → Int32) (k : Int32) (hnp : np ≤ 20) (hnl : nl ≤ 12) (hln : ∀ q : Nat, ln q ≤ 8) (hz : (ak1 (hasP th np k)) = 0) : lxM l yL_is wsL_is 8 132 1 6 0 D y3 [(h0, .inr (4, [.ref a0, .ref b0, .ref f0, .ref g0])), (b0, .inr (2, [.ref b1, .int (nI nl), .ref b2, .ref b3, .ref b4, .ref b5, .ref b6, .int (nI np), .int (nI nt), .ref b7])), (b1, .inl (y3.1, 12, .inl lt)), (b4, .inl (y3.1, 20, .inl (fN ln))), (b5, .inl (y3.2.1, 20, .inl (fB th))), (b6, .inl (y3.1, 160, .inl tk))] [.ref h0, .int (nI 0), .int k] (fun r (_ : Unit) => r = (bI (fitB lt nl tk ln k.toNatClampNeg))) (fun (_ : Unit) => [(h0, .inr (4, [.ref a0, .ref b0, .ref f0, .ref g0])), (b0, .inr (2, [.ref b1, .int (nI nl), .ref b2, .ref b3, .ref b4, .ref b5, .ref b6, .int (nI np), .int (nI nt), .ref b7])), (b1, .inl (y3.1, 12, .inl lt)), (b4, .inl (y3.1, 20, .inl (fN ln))), (b5, .inl (y3.2.1, 20, .inl (fB th))), (b6, .inl (y3.1, 160, .inl tk))]) := by
  refine lx_of (cc := cL_is) (maxL := 4) (by decide) rfl (Nat.le_of_ble_eq_true rfl) ?_
  intro p e s m args below meth c A Q hx hb hml hown hts htab hP hK hD hA hS hT hret ls hl
  have hown : s.vm.findClass RL = some m.cls := hown
  replace hl : lv_has ls 4 [(0, .ref h0), (1, .int (nI 0)), (2, .int k)] := hl
  refine lv_iload_n hx hb dL_is_0 rfl (lv_at hl 1 rfl) ?_
  refine lv_if_ne (tgt := 15) hx hb dL_is_1 (by decide) (fun h9 => absurd h9 (by decide +kernel)) (fun _ => ?_)
  refine lv_aload_n hx hb dL_is_4 rfl (lv_at hl 0 rfl) ?_
  refine lv_iload_n hx hb dL_is_5 rfl (lv_at hl 2 rfl) ?_
  refine tx_V (ci := 4) (q0 := 0) (own := RL) (As := [.int k]) (rest := []) (bytes := cX4_fits) (maxL := 2) (wr := []) (w3 := (fun (_ : Unit) => [(h0, .inr (4, [.ref a0, .ref b0, .ref f0, .ref g0])), (b0, .inr (2, [.ref b1, .int (nI nl), .ref b2, .ref b3, .ref b4, .ref b5, .ref b6, .int (nI np), .int (nI nt), .ref b7])), (b1, .inl (y3.1, 12, .inl lt)), (b4, .inl (y3.1, 20, .inl (fN ln))), (b5, .inl (y3.2.1, 20, .inl (fB th))), (b6, .inl (y3.1, 160, .inl tk))])) ⟨hx, hb, hml, hown, hts⟩ (kX4_fits l hls D y3 h0 a0 b0 f0 g0 b1 b2 b3 b4 b5 b6 b7 nl np nt lt ln th tk k (by omega) (by omega) (by assumption)) gL_is_X4_fits rfl hvX4_fits ⟨Nat.le_of_ble_eq_true rfl, Nat.le_of_ble_eq_true rfl⟩ hP hK hD hS hA hT [0, 1, 2, 3, 4, 5] [] [0, 1, 2, 3, 4, 5] rfl rfl rfl rfl (by decide) (fun _ => rfl) rfl rfl rfl rfl hl.1 rfl (Nat.le_of_ble_eq_true rfl) dL_is_6 ⟨Nat.le_of_ble_eq_true rfl, Nat.le_of_ble_eq_true rfl⟩ (fun E ce q9 H locs hE hP hD hS hlt h7 h8 h9 => xcd_no hz hE) (fun r1 u1 H locs hr1 hP hD hS => ?_)
  have hP : va_P D vwCl [(h0, .inr (4, [.ref a0, .ref b0, .ref f0, .ref g0])), (b0, .inr (2, [.ref b1, .int (nI nl), .ref b2, .ref b3, .ref b4, .ref b5, .ref b6, .int (nI np), .int (nI nt), .ref b7])), (b1, .inl (y3.1, 12, .inl lt)), (b4, .inl (y3.1, 20, .inl (fN ln))), (b5, .inl (y3.2.1, 20, .inl (fB th))), (b6, .inl (y3.1, 160, .inl tk))] H := hP
  have hD : va_D A [(h0, .inr (4, [.ref a0, .ref b0, .ref f0, .ref g0])), (b0, .inr (2, [.ref b1, .int (nI nl), .ref b2, .ref b3, .ref b4, .ref b5, .ref b6, .int (nI np), .int (nI nt), .ref b7])), (b1, .inl (y3.1, 12, .inl lt)), (b4, .inl (y3.1, 20, .inl (fN ln))), (b5, .inl (y3.2.1, 20, .inl (fB th))), (b6, .inl (y3.1, 160, .inl tk))] := hD
  rw [hr1.2]
  refine lb_if_eq (tgt := 43) hx hb dL_is_9 (by decide) (fun c9 => ?_) (fun c9 => ?_)
  · refine lv_iconst (v := (nI 0)) hx hb dL_is_43 rfl ?_
    exact hret 44 ls H locs _ _ () _ hP hD hS hS.1 (Nat.le_of_ble_eq_true rfl) (Nat.le_of_ble_eq_true rfl) (by first | exact bI_t c9 | exact bI_f c9) dL_is_44
  · refine lv_goto (tgt := 39) hx hb dL_is_12 (by decide) ?_
    refine lv_iconst (v := (nI 1)) hx hb dL_is_39 rfl ?_
    refine lv_goto (tgt := 44) hx hb dL_is_40 (by decide) ?_
    exact hret 44 ls H locs _ _ () _ hP hD hS hS.1 (Nat.le_of_ble_eq_true rfl) (Nat.le_of_ble_eq_true rfl) (by first | exact bI_t c9 | exact bI_f c9) dL_is_44

set_option maxHeartbeats 4000000 in
set_option maxRecDepth 100000 in
theorem kL_drawn (l : Launch) (D : va_G) (y3 : ClassId × ClassId × ClassId) (b : Nat) (k : Nat) (xs : Nat → Int32) (hk : k < 100) : rdM l yL_drawn wsL_drawn 0 0 D y3 [(b, .inl (y3.1, 100, .inl xs))] [.ref b, .int (nI k)] (fun r => r = ((xs k) &&& 1073741823)) := by
  refine rd_of (cc := cL_drawn) (maxL := 3) (by decide) rfl (Nat.le_of_ble_eq_true rfl) ?_
  intro p e s m args below meth c Q hx hb hml hown hts hP hK hret ls hl
  have hown : s.vm.findClass RL = some m.cls := hown
  replace hl : lv_has ls 3 [(0, .ref b), (1, .int (nI k))] := hl
  refine lv_iload_n hx hb dL_drawn_0 rfl (lv_at hl 1 rfl) ?_
  refine lv_aload_n hx hb dL_drawn_1 rfl (lv_at hl 0 rfl) ?_
  refine va_alen hx hb hK hP 0 0 rfl rfl (v := nI 100) rfl dL_drawn_2 ?_
  refine ln_icmp_ge (tgt := 12) hx hb (by omega) (by omega) dL_drawn_3 (by decide) (fun c3 => ?_) (fun c3 => ?_)
  · exact absurd c3 (by omega)
  · refine lv_aload_n hx hb dL_drawn_6 rfl (lv_at hl 0 rfl) ?_
    refine lv_iload_n hx hb dL_drawn_7 rfl (lv_at hl 1 rfl) ?_
    refine ln_iald hx hb hK hP 0 0 rfl rfl (by omega) (by decide) dL_drawn_8 ?_
    refine lv_goto (tgt := 21) hx hb dL_drawn_9 (by decide) ?_
    refine lv_istore_n (lv' := [(2, .int (xs k)), (0, .ref b), (1, .int (nI k))]) hx hb dL_drawn_21 rfl hl (by decide) rfl (fun ls hl => ?_)
    refine lv_iload_n hx hb dL_drawn_22 rfl (lv_at hl 0 rfl) ?_
    refine lv_ldc (own := RL) (v := 1073741823) hx hb hown (hts (.constant RL 7 (1073741823)) (by decide +kernel)) dL_drawn_23 ?_
    refine lv_iand hx hb dL_drawn_25 ?_
    exact hret 26 ls _ rfl dL_drawn_26
