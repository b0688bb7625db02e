/-! ===== own layer: the law's helpers, whose bodies have a table of handlers ===== -/
def lxM (l : Launch) (y : MethodName) (ws : List Cond) (fr lo mc ms : Nat) (D : va_G) (y3 : ClassId × ClassId × ClassId) (w : va_W) (av : List Value) {S : Type} (post : Int32 → S → Prop) (w2 : S → va_W) : Prop :=
  ∀ sz : Nat, Met l y ws (rmO fr mc ms lo) (tx_Pc D y3 w av sz) (va_Qi post (fun u t => va_P D vwCl (w2 u) t.heap ∧ va_D (va_A w sz) (w2 u)) (va_A w sz)) mc ms (va_A w sz)
theorem lx_ofWH {l : Launch} {y : MethodName} {ws ws' : List Cond} {rm : Room} {Pc : Array Value → State → Prop} {Qc : Array Value → State → Outcome → State → Prop} {mc ms : Nat} {free : Addr → Prop} {cc : ByteArray} {maxL : Nat} {ret : Option FieldType} {hh : List (Nat × Nat × Nat × Nat)}
    (hy : plainName y.cls = true) (hw : ws = Cond.codeWith y cc maxL ret hh :: ws')
    (body : ∀ p e s m args below meth c s₁, BodyLoose p l y (headSpec ws rm) cc maxL ret e s m args below meth c s₁ → c.maxLocals = maxL → Pc args s →
      W p l e (headSpec ws rm).room s m args below meth c s.heap [] 0 0 (MQ below Qc args s mc ms free) (entryFrame m args maxL)) : Met l y ws rm Pc Qc mc ms free := by
  refine MetFree.of_bodyS (code := cc) (maxLocals := maxL) (ret := ret) hy ?_ ?_
  · intro args s m h hn
    obtain ⟨m9, meth, c, hn9, h1, h2, h3, h4, -, h5, h6, -⟩ := Cond.codeWith_spec (atoms_spec (ws := ws) h _ (by rw [hw]; exact List.mem_cons_self))
    cases hn.symm.trans hn9
    exact ⟨meth, c, h1, h2, h3, h4, h5, h6⟩
  · intro p e s m args below meth c s₁ B hml hP _
    have hh0 : s₁.heap = s.heap := by rw [B.state]; rfl
    obtain ⟨t, a1, o, b1, b2, b3⟩ := body p e s m args below meth c s₁ B hml hP s₁ hh0 (Stand.of_body B)
    exact ⟨t, o, a1, b1, b2, b3⟩
theorem lx_of {l : Launch} {y : MethodName} {ws ws' : List Cond} {fr lo mc ms : Nat} {D : va_G} {y3 : ClassId × ClassId × ClassId} {w : va_W} {av : List Value} {S : Type} {post : Int32 → S → Prop} {w2 : S → va_W} {cc : ByteArray} {maxL : Nat} {hh : List (Nat × Nat × Nat × Nat)}
    (hy : plainName y.cls = true) (hw : ws = Cond.codeWith y cc maxL (some .int) hh :: ws') (hn : (lg_sl av).length ≤ maxL)
    (body : ∀ (p : Program) (e : Env) (s : State) (m : MethodId) (args : Array Value) (below : List Frame) (meth : Method) (c : Code) (A : Nat → Prop) (Q : State → Prop), p.tables.exec = Jvm.exec → c.code = cc → c.maxLocals = maxL → s.vm.findClass y.cls = some m.cls → (∀ q ∈ ws, q.before args s = true) → c.exceptionTable.toList = tableOf hh → va_P D vwCl w s.heap → va_K D vwCl (ty3 y3) s → va_D A w → (∀ q : Nat, s.heap.size ≤ q → A q) → va_S A s.heap s.heap [] → teE A s s.heap →
      (∀ (pc : Nat) (ls : Array Slot) (H : Heap) (locs : List Loc) (cells slots : Nat) (u : S) (v : Int32), va_P D vwCl (w2 u) H → va_D A (w2 u) → va_S A s.heap H locs → cells ≤ mc → slots ≤ ms → post v u → decode cc pc = .ok (.ireturn, 1) → W p l e (rmO fr mc ms lo) s m args below meth c H locs cells slots Q (F0 m pc ls [.int v])) → ∀ ls : Array Slot, lv_has ls maxL (lv_args 0 av) →
      W p l e (rmO fr mc ms lo) s m args below meth c s.heap [] 0 0 Q (F0 m 0 ls [])) : lxM l y ws fr lo mc ms D y3 w av post w2 := by
  intro sz
  refine lx_ofWH (cc := cc) (maxL := maxL) (ret := some .int) (hh := hh) hy hw ?_
  intro p e s m args below meth c s₁ B hml hv
  obtain ⟨rfl, hsz, hP, hK, hD0, hT⟩ := hv
  subst hsz
  rw [lg_entry_eq]
  have hts := atoms_spec (ws := ws) B.pre
  exact body p e s m av.toArray below meth c (va_A w s.heap.size) _ B.exec B.bytes hml (findClass_of_methodNamed B.named) hts (vx_table (x := y) B (hts _ (by rw [hw]; exact List.mem_cons_self))) hP hK hD0.self (fun q h => Or.inr h) va_S.rf hT
    (fun pc ls H locs cells slots u v h1 h2 h3 h4 h5 h6 hdg => W.widen h4 h5 (W.iret B.exec B.bytes B.returns (fun t ht _ => ⟨⟨v, u, rfl, h6, by rw [ht]; exact h1, h2⟩, h3.F ht⟩) h3.2.2 hdg B.notSynchronized)) _ (lv_entry av hn)
theorem lx_IA {A : Nat → Prop} {s : State} {H : Heap} (h : teE A s H) : va_Nc xIA xIO s := h.2.2.2.1 (xIA, xIO) (by simp [xN3])
theorem lx_IS {A : Nat → Prop} {s : State} {H : Heap} (h : teE A s H) : va_Nc xIS xIO s := h.2.2.2.1 (xIS, xIO) (by simp [xN3])
theorem lx_SA {A : Nat → Prop} {s : State} {H : Heap} (h : teE A s H) : va_Nc xIS xIA s := h.2.2.2.1 (xIS, xIA) (by simp [xN3])
theorem lx_c {A : Nat → Prop} {s : State} {H : Heap} (h : teE A s H) {E : String} (hE : E ∈ xE3) {args : Array Value} : (Cond.castable E E).before args s = true := va_Nw.use rfl (h.2.2.1 E hE)
theorem xcd_no {z : Nat} {Es : List String} {E : String} {P : Prop} (hz : z = 0) (h : xcd z Es E) : P := by
  obtain ⟨i, h1, _⟩ := h
  exact absurd (hz.symm.trans h1) (Nat.succ_ne_zero _).symm
theorem xcd_1 {z : Nat} {a E : String} (h : xcd z [a] E) : z = 1 ∧ E = a := by
  obtain ⟨i, h1, h2⟩ := h
  match i, h1, h2 with
  | 0, h1, h2 => exact ⟨h1, (Option.some.inj h2).symm⟩
theorem xcd_2 {z : Nat} {a b E : String} (h : xcd z [a, b] E) : (z = 1 ∧ E = a) ∨ (z = 2 ∧ E = b) := by
  obtain ⟨i, h1, h2⟩ := h
  match i, h1, h2 with
  | 0, h1, h2 => exact Or.inl ⟨h1, (Option.some.inj h2).symm⟩
  | 1, h1, h2 => exact Or.inr ⟨h1, (Option.some.inj h2).symm⟩
theorem xcd_3 {z : Nat} {a b c E : String} (h : xcd z [a, b, c] E) : (z = 1 ∧ E = a) ∨ (z = 2 ∧ E = b) ∨ (z = 3 ∧ E = c) := by
  obtain ⟨i, h1, h2⟩ := h
  match i, h1, h2 with
  | 0, h1, h2 => exact Or.inl ⟨h1, (Option.some.inj h2).symm⟩
  | 1, h1, h2 => exact Or.inr (Or.inl ⟨h1, (Option.some.inj h2).symm⟩)
  | 2, h1, h2 => exact Or.inr (Or.inr ⟨h1, (Option.some.inj h2).symm⟩)
section LC
variable {p : Program} {l : Launch} {e : Env} {R : Room} {s : State} {m : MethodId} {args : Array Value} {below : List Frame} {meth : Method} {c : Code} {H : Heap} {locs : List Loc} {cells slots : Nat} {Q : State → Prop}
variable {cc : ByteArray} {pc nL : Nat} {ls : Array Slot} {rest st0 : List Value}
theorem lx_S {y : MethodName} {ws ws' : List Cond} {fr lo index maxL mc ms : Nat} {bytes : ByteArray} {ret : Option FieldType} {hh : List (Nat × Nat × Nat × Nat)} {D : va_G} {y3 : ClassId × ClassId × ClassId} {w w' wr : va_W} {As : List Value} {X : Type} {post : Int32 → X → Prop} {w2 w3 : X → va_W} {Ts : List Cond} {own : String} {A : Nat → Prop} {H0 : Heap}
    (S : CallFix p m c cc nL s args Ts own) (hM : lxM l y ws fr lo mc ms D y3 w' As post w2) (hT : GoodIn Ts (va_wsS own index y ws)) (hw : ws = Cond.codeWith y bytes maxL ret hh :: ws')
    (hd : y.cls ≠ "java/lang/invoke/MethodHandle" ∧ y.cls ≠ "java/lang/invoke/VarHandle" ∧ (parseMethodDescriptor y.desc).map (fun d => d.parameters.length) = some As.length) (hR : fr + 1 ≤ R.frames ∧ 8 + (maxL + 11) + lo ≤ R.locals)
    (hP : va_P D vwCl w H) (hK : va_K D vwCl (ty3 y3) s) (hD : va_D A w) (hS : va_S A H0 H locs) (hA : ∀ q, H0.size ≤ q → A q) (hTE : teE A s H0) (iw ir : List Nat) (ip : List Nat) (ew : iw.map (fun i => w[i]?) = w'.map some) (er : ir.map (fun i => w[i]?) = wr.map some) (hnw : va_nd iw = true) (hnr : va_nd ir = true) (hdis : ∀ i ∈ ir, i ∉ iw) (ep : ∀ u, ip.map (fun i => (wr ++ w2 u)[i]?) = (w3 u).map some) (hnp : va_nd ip = true)
    (hsize : ls.size = nL) (hst : st0 = As.reverse ++ rest) (hW : (rest.map fun v => v.category).sum ≤ 8) (hdg : decode cc pc = .ok (.invokestatic index, 3)) (hcl : cells + mc ≤ R.cells ∧ slots + ms ≤ R.slots)
    (kk : ∀ (r : Int32) (u : X) (H1 : Heap) (locs1 : List Loc), post r u → va_P D vwCl (w3 u) H1 → va_D A (w3 u) → va_S A H0 H1 locs1 → W p l e R s m args below meth c H1 locs1 (cells + mc) (slots + ms) Q (F0 m (pc + 3) ls (.int r :: rest))) : W p l e R s m args below meth c H locs cells slots Q (F0 m pc ls st0) := by
  have hPc : va_P D vwCl w' H := va_Pm hP iw ew
  have hDc := hD.sub iw hnw ew
  have hFc := va_free (wc := w') hD hS hA iw ew
  refine va_calli (vx_runSW (hh := hh) (As := As) (rest := rest) (n := As.length) S (hM H.size) (vx_cwSW As.length S.2.2.2.2 hT hw rfl rfl hd hR)
    ⟨tx_blind, fun U hU hW2 => ⟨rfl, by rw [hU], by rw [hU]; exact hPc, va_K.moved hW2.alike hK, hDc.weaken (fun _ _ _ _ => trivial), by rw [hU]; exact (hTE.kept hS.2.1).to hW2 (fun q h => hFc q h)⟩⟩ rfl rfl hsize hst (lv_room hW) hdg hcl) hS (fun q _ h => hFc q h) hFc (fun r u t H1 locs1 ht hvm hp hB hz hk hS1 => ?_)
  obtain ⟨hP1, hD1⟩ := hB
  rw [ht] at hP1
  obtain ⟨hPj, hDj⟩ := va_join (wr := wr) (w1 := w2 u) hP hD iw ir ew er hnr hdis hk hFc hP1 hD1
  exact kk r u H1 locs1 hp (va_Pm hPj ip (ep u)) (hDj.sub ip hnp (ep u)) hS1
end LC

def bL (b : Bool) : Int64 := if b = true then 1 else 0

theorem hvL_kind : yL_kind.cls ≠ "java/lang/invoke/MethodHandle" ∧ yL_kind.cls ≠ "java/lang/invoke/VarHandle" ∧ (parseMethodDescriptor yL_kind.desc).map (fun d => d.parameters.length) = some 3 := by decide +kernel
theorem hvL_pattern : yL_pattern.cls ≠ "java/lang/invoke/MethodHandle" ∧ yL_pattern.cls ≠ "java/lang/invoke/VarHandle" ∧ (parseMethodDescriptor yL_pattern.desc).map (fun d => d.parameters.length) = some 7 := by decide +kernel
theorem hvL_drop : yL_drop.cls ≠ "java/lang/invoke/MethodHandle" ∧ yL_drop.cls ≠ "java/lang/invoke/VarHandle" ∧ (parseMethodDescriptor yL_drop.desc).map (fun d => d.parameters.length) = some 3 := by decide +kernel
theorem hvL_rule : yL_rule.cls ≠ "java/lang/invoke/MethodHandle" ∧ yL_rule.cls ≠ "java/lang/invoke/VarHandle" ∧ (parseMethodDescriptor yL_rule.desc).map (fun d => d.parameters.length) = some 4 := by decide +kernel
theorem hvL_test : yL_test.cls ≠ "java/lang/invoke/MethodHandle" ∧ yL_test.cls ≠ "java/lang/invoke/VarHandle" ∧ (parseMethodDescriptor yL_test.desc).map (fun d => d.parameters.length) = some 8 := by decide +kernel
theorem hvL_isSpecial : yL_isSpecial.cls ≠ "java/lang/invoke/MethodHandle" ∧ yL_isSpecial.cls ≠ "java/lang/invoke/VarHandle" ∧ (parseMethodDescriptor yL_isSpecial.desc).map (fun d => d.parameters.length) = some 4 := by decide +kernel
theorem hvL_letter : yL_letter.cls ≠ "java/lang/invoke/MethodHandle" ∧ yL_letter.cls ≠ "java/lang/invoke/VarHandle" ∧ (parseMethodDescriptor yL_letter.desc).map (fun d => d.parameters.length) = some 3 := by decide +kernel
theorem hvL_put : yL_put.cls ≠ "java/lang/invoke/MethodHandle" ∧ yL_put.cls ≠ "java/lang/invoke/VarHandle" ∧ (parseMethodDescriptor yL_put.desc).map (fun d => d.parameters.length) = some 3 := by decide +kernel
theorem hvL_fits : yL_fits.cls ≠ "java/lang/invoke/MethodHandle" ∧ yL_fits.cls ≠ "java/lang/invoke/VarHandle" ∧ (parseMethodDescriptor yL_fits.desc).map (fun d => d.parameters.length) = some 3 := by decide +kernel
theorem hvL_fitsByTable : yL_fitsByTable.cls ≠ "java/lang/invoke/MethodHandle" ∧ yL_fitsByTable.cls ≠ "java/lang/invoke/VarHandle" ∧ (parseMethodDescriptor yL_fitsByTable.desc).map (fun d => d.parameters.length) = some 3 := by decide +kernel
theorem hvL_proves : yL_proves.cls ≠ "java/lang/invoke/MethodHandle" ∧ yL_proves.cls ≠ "java/lang/invoke/VarHandle" ∧ (parseMethodDescriptor yL_proves.desc).map (fun d => d.parameters.length) = some 3 := by decide +kernel
theorem hvL_program : yL_program.cls ≠ "java/lang/invoke/MethodHandle" ∧ yL_program.cls ≠ "java/lang/invoke/VarHandle" ∧ (parseMethodDescriptor yL_program.desc).map (fun d => d.parameters.length) = some 6 := by decide +kernel
theorem hvL_setDefault : yL_setDefault.cls ≠ "java/lang/invoke/MethodHandle" ∧ yL_setDefault.cls ≠ "java/lang/invoke/VarHandle" ∧ (parseMethodDescriptor yL_setDefault.desc).map (fun d => d.parameters.length) = some 5 := by decide +kernel
theorem hvL_programs : yL_programs.cls ≠ "java/lang/invoke/MethodHandle" ∧ yL_programs.cls ≠ "java/lang/invoke/VarHandle" ∧ (parseMethodDescriptor yL_programs.desc).map (fun d => d.parameters.length) = some 3 := by decide +kernel
theorem hvL_programAt : yL_programAt.cls ≠ "java/lang/invoke/MethodHandle" ∧ yL_programAt.cls ≠ "java/lang/invoke/VarHandle" ∧ (parseMethodDescriptor yL_programAt.desc).map (fun d => d.parameters.length) = some 4 := by decide +kernel
theorem hvL_opener : yL_opener.cls ≠ "java/lang/invoke/MethodHandle" ∧ yL_opener.cls ≠ "java/lang/invoke/VarHandle" ∧ (parseMethodDescriptor yL_opener.desc).map (fun d => d.parameters.length) = some 3 := by decide +kernel
set_option maxHeartbeats 4000000 in
set_option maxRecDepth 100000 in
theorem kL_kind_ok (l : Launch) (hls : l.stackTraces = false) (D : va_G) (y3 : ClassId × ClassId × ClassId) (h0 : Nat) (a0 : Nat) (b0 : Nat) (f0 : Nat) (g0 : Nat) (a1 : Nat) (nk : Nat) (par : Nat → Int32) (k : Int32) (o9 : Nat) (lo : Nat → Int64) (hk : nk ≤ 14) (hz : (ak2 (decide (k = -1) || inB k nk) (decide (nk < 14))) = 0) : lxM l yL_kind wsL_kind 7 111 1 6 D y3 [(h0, .inr (4, [.ref a0, .ref b0, .ref f0, .ref g0])), (a0, .inr (1, [.ref a1, .int (nI nk)])), (a1, .inl (y3.1, 14, .inl par)), (o9, .inl (y3.2.2, 1, .inr (.inl lo)))] [.ref h0, .int k, .ref o9] (fun r (_ : Unit) => r = (nI 0)) (fun (_ : Unit) => [(h0, .inr (4, [.ref a0, .ref b0, .ref f0, .ref g0])), (a0, .inr (1, [.ref a1, .int (nI (nk + 1))])), (a1, .inl (y3.1, 14, .inl (upd par nk k))), (o9, .inl (y3.2.2, 1, .inr (.inl (vp_updL lo 0 ((nI nk)).toInt64))))]) := by
  refine lx_of (cc := cL_kind) (maxL := 4) (by decide) rfl (Nat.le_of_ble_eq_true rfl) ?_
  intro p e s m args below meth c A Q hx hb hml hown hts htab hP hK hD hA hS hT hret ls hl
  have hown : s.vm.findClass RL = some m.cls := hown
  replace hl : lv_has ls 4 [(0, .ref h0), (1, .int k), (2, .ref o9)] := hl
  refine lv_aload_n hx hb dL_kind_0 rfl (lv_at hl 2 rfl) ?_
  refine lv_iconst (v := (nI 0)) hx hb dL_kind_1 rfl ?_
  refine lv_aload_n hx hb dL_kind_2 rfl (lv_at hl 0 rfl) ?_
  refine lv_iload_n hx hb dL_kind_3 rfl (lv_at hl 1 rfl) ?_
  refine tx_V (ci := 4) (q0 := 0) (own := RL) (As := [.int k]) (rest := [.int (nI 0), .ref o9]) (bytes := cX4_kind) (maxL := 2) (wr := [(o9, .inl (y3.2.2, 1, .inr (.inl lo)))]) (w3 := (fun (_ : Unit) => [(h0, .inr (4, [.ref a0, .ref b0, .ref f0, .ref g0])), (a0, .inr (1, [.ref a1, .int (nI (nk + 1))])), (a1, .inl (y3.1, 14, .inl (upd par nk k))), (o9, .inl (y3.2.2, 1, .inr (.inl lo)))])) ⟨hx, hb, hml, hown, hts⟩ (kX4_kind l hls D y3 h0 a0 b0 f0 g0 a1 nk par k (by omega)) gL_kind_X4_kind rfl hvX4_kind ⟨Nat.le_of_ble_eq_true rfl, Nat.le_of_ble_eq_true rfl⟩ hP hK hD hS hA hT [0, 1, 2] [3] [1, 2, 3, 0] rfl rfl rfl rfl (by decide) (fun _ => rfl) rfl rfl rfl rfl hl.1 rfl (Nat.le_of_ble_eq_true rfl) dL_kind_4 ⟨Nat.le_of_ble_eq_true rfl, Nat.le_of_ble_eq_true rfl⟩ (fun E ce q9 H locs hE hP hD hS h7 h8 h9 => xcd_no hz hE) (fun r4 u4 H locs hr4 hP hD hS => ?_)
  have hP : va_P D vwCl [(h0, .inr (4, [.ref a0, .ref b0, .ref f0, .ref g0])), (a0, .inr (1, [.ref a1, .int (nI (nk + 1))])), (a1, .inl (y3.1, 14, .inl (upd par nk k))), (o9, .inl (y3.2.2, 1, .inr (.inl lo)))] H := hP
  have hD : va_D A [(h0, .inr (4, [.ref a0, .ref b0, .ref f0, .ref g0])), (a0, .inr (1, [.ref a1, .int (nI (nk + 1))])), (a1, .inl (y3.1, 14, .inl (upd par nk k))), (o9, .inl (y3.2.2, 1, .inr (.inl lo)))] := hD
  rw [hr4.2]
  refine lv_i2l (v := (nI nk).toInt64) hx hb dL_kind_7 rfl ?_
  refine ln_last hx hb hK hP hD hS 3 2 rfl rfl (by omega) (by decide) dL_kind_8 _ rfl (fun H locs hP hD hS => ?_)
  have hP : va_P D vwCl [(h0, .inr (4, [.ref a0, .ref b0, .ref f0, .ref g0])), (a0, .inr (1, [.ref a1, .int (nI (nk + 1))])), (a1, .inl (y3.1, 14, .inl (upd par nk k))), (o9, .inl (y3.2.2, 1, .inr (.inl (vp_updL lo 0 ((nI nk).toInt64)))))] H := hP
  have hD : va_D A [(h0, .inr (4, [.ref a0, .ref b0, .ref f0, .ref g0])), (a0, .inr (1, [.ref a1, .int (nI (nk + 1))])), (a1, .inl (y3.1, 14, .inl (upd par nk k))), (o9, .inl (y3.2.2, 1, .inr (.inl (vp_updL lo 0 ((nI nk).toInt64)))))] := hD
  refine lv_goto (tgt := 18) hx hb dL_kind_9 (by decide) ?_
  refine lv_iconst (v := (nI 0)) hx hb dL_kind_18 rfl ?_
  exact hret 19 ls H locs _ _ () _ hP hD hS (Nat.le_of_ble_eq_true rfl) (Nat.le_of_ble_eq_true rfl) rfl dL_kind_19

set_option maxHeartbeats 4000000 in
set_option maxRecDepth 100000 in
theorem kL_kind_ex (l : Launch) (hls : l.stackTraces = false) (D : va_G) (y3 : ClassId × ClassId × ClassId) (h0 : Nat) (a0 : Nat) (b0 : Nat) (f0 : Nat) (g0 : Nat) (a1 : Nat) (nk : Nat) (par : Nat → Int32) (k : Int32) (o9 : Nat) (lo : Nat → Int64) (hk : nk ≤ 14) (hz : ¬ (ak2 (decide (k = -1) || inB k nk) (decide (nk < 14))) = 0) : lxM l yL_kind wsL_kind 7 111 1 6 D y3 [(h0, .inr (4, [.ref a0, .ref b0, .ref f0, .ref g0])), (a0, .inr (1, [.ref a1, .int (nI nk)])), (a1, .inl (y3.1, 14, .inl par)), (o9, .inl (y3.2.2, 1, .inr (.inl lo)))] [.ref h0, .int k, .ref o9] (fun r (_ : Unit) => r = (nI (ak2 (decide (k = -1) || inB k nk) (decide (nk < 14))))) (fun (_ : Unit) => [(h0, .inr (4, [.ref a0, .ref b0, .ref f0, .ref g0])), (a0, .inr (1, [.ref a1, .int (nI nk)])), (a1, .inl (y3.1, 14, .inl par)), (o9, .inl (y3.2.2, 1, .inr (.inl lo)))]) := by
  refine lx_of (cc := cL_kind) (maxL := 4) (by decide) rfl (Nat.le_of_ble_eq_true rfl) ?_
  intro p e s m args below meth c A Q hx hb hml hown hts htab hP hK hD hA hS hT hret ls hl
  have hown : s.vm.findClass RL = some m.cls := hown
  replace hl : lv_has ls 4 [(0, .ref h0), (1, .int k), (2, .ref o9)] := hl
  have hk13 := hts (.classLink RL 13 xIO) (by decide +kernel)
  have hk15 := hts (.classLink RL 15 xIS) (by decide +kernel)
  refine lv_aload_n hx hb dL_kind_0 rfl (lv_at hl 2 rfl) ?_
  refine lv_iconst (v := (nI 0)) hx hb dL_kind_1 rfl ?_
  refine lv_aload_n hx hb dL_kind_2 rfl (lv_at hl 0 rfl) ?_
  refine lv_iload_n hx hb dL_kind_3 rfl (lv_at hl 1 rfl) ?_
  refine tx_V (ci := 4) (q0 := 0) (own := RL) (As := [.int k]) (rest := [.int (nI 0), .ref o9]) (bytes := cX4_kind) (maxL := 2) (wr := [(o9, .inl (y3.2.2, 1, .inr (.inl lo)))]) (w3 := (fun (_ : Unit) => [(h0, .inr (4, [.ref a0, .ref b0, .ref f0, .ref g0])), (a0, .inr (1, [.ref a1, .int (nI (nk + 1))])), (a1, .inl (y3.1, 14, .inl (upd par nk k))), (o9, .inl (y3.2.2, 1, .inr (.inl lo)))])) ⟨hx, hb, hml, hown, hts⟩ (kX4_kind l hls D y3 h0 a0 b0 f0 g0 a1 nk par k (by omega)) gL_kind_X4_kind rfl hvX4_kind ⟨Nat.le_of_ble_eq_true rfl, Nat.le_of_ble_eq_true rfl⟩ hP hK hD hS hA hT [0, 1, 2] [3] [1, 2, 3, 0] rfl rfl rfl rfl (by decide) (fun _ => rfl) rfl rfl rfl rfl hl.1 rfl (Nat.le_of_ble_eq_true rfl) dL_kind_4 ⟨Nat.le_of_ble_eq_true rfl, Nat.le_of_ble_eq_true rfl⟩ (fun E ce q9 H locs hE hP hD hS h7 h8 h9 => ?_) (fun r4 u1 H locs hr4 hP hD hS => absurd hr4.1 hz)
  rcases xcd_2 hE with ⟨hz9, rfl⟩ | ⟨hz9, rfl⟩
  · refine vx_catch (own := RL) (name := xIO) hown [] ⟨0, 9, 12, 13⟩ [⟨0, 9, 15, 15⟩] htab (fun z h => (by cases h)) rfl (by decide) hk13 (lx_c hT (by simp [xE3])) h7 h8 h9 ?_
    refine lv_astore_n (lv' := [(3, .ref q9), (0, .ref h0), (1, .int k), (2, .ref o9)]) hx hb dL_kind_12 rfl hl (by decide) rfl (fun ls hl => ?_)
    refine lv_iconst (v := (nI 1)) hx hb dL_kind_13 rfl ?_
    exact hret 14 ls H locs _ _ () _ hP hD hS (Nat.le_of_ble_eq_true rfl) (Nat.le_of_ble_eq_true rfl) (by rw [hz9]) dL_kind_14
  · refine vx_catch (own := RL) (name := xIS) hown [⟨0, 9, 12, 13⟩] ⟨0, 9, 15, 15⟩ [] htab (fun z h => by
        simp only [List.mem_cons, List.not_mem_nil, or_false] at h
        subst h
        exact Or.inr ⟨by decide, xIO, hk13, lx_IS hT⟩) rfl (by decide) hk15 (lx_c hT (by simp [xE3])) h7 h8 h9 ?_
    refine lv_astore_n (lv' := [(3, .ref q9), (0, .ref h0), (1, .int k), (2, .ref o9)]) hx hb dL_kind_15 rfl hl (by decide) rfl (fun ls hl => ?_)
    refine lv_iconst (v := (nI 2)) hx hb dL_kind_16 rfl ?_
    exact hret 17 ls H locs _ _ () _ hP hD hS (Nat.le_of_ble_eq_true rfl) (Nat.le_of_ble_eq_true rfl) (by rw [hz9]) dL_kind_17

set_option maxHeartbeats 4000000 in
set_option maxRecDepth 100000 in
theorem kL_pattern_ok (l : Launch) (hls : l.stackTraces = false) (D : va_G) (y3 : ClassId × ClassId × ClassId) (h0 : Nat) (a0 : Nat) (b0 : Nat) (f0 : Nat) (g0 : Nat) (a1 : Nat) (nk : Nat) (b1 : Nat) (b2 : Nat) (b3 : Nat) (b4 : Nat) (b5 : Nat) (b6 : Nat) (b7 : Nat) (nl : Nat) (np : Nat) (nt : Nat) (kp : Nat → Nat) (wt : Nat → Int32) (ln : Nat → Nat) (th : Nat → Bool) (tk : Nat → Int32) (k : Int32) (wg : Int32) (tks : Int32) (q1 : Int32) (q2 : Int32) (o9 : Nat) (lo : Nat → Int64) (hk : nk ≤ 14) (hnp : np ≤ 20) (hz : (ak3 (inB k nk) (ptB wg tks q1 q2) (decide (np < 20))) = 0) : lxM l yL_pattern wsL_pattern 9 158 1 6 D y3 [(h0, .inr (4, [.ref a0, .ref b0, .ref f0, .ref g0])), (a0, .inr (1, [.ref a1, .int (nI nk)])), (b0, .inr (2, [.ref b1, .int (nI nl), .ref b2, .ref b3, .ref b4, .ref b5, .ref b6, .int (nI np), .int (nI nt), .ref b7])), (b2, .inl (y3.1, 20, .inl (fN kp))), (b3, .inl (y3.1, 20, .inl wt)), (b4, .inl (y3.1, 20, .inl (fN ln))), (b5, .inl (y3.2.1, 20, .inl (fB th))), (b6, .inl (y3.1, 160, .inl tk)), (o9, .inl (y3.2.2, 1, .inr (.inl lo)))] [.ref h0, .int k, .int wg, .int tks, .int q1, .int q2, .ref o9] (fun r (_ : Unit) => r = (nI 0)) (fun (_ : Unit) => [(h0, .inr (4, [.ref a0, .ref b0, .ref f0, .ref g0])), (a0, .inr (1, [.ref a1, .int (nI nk)])), (b0, .inr (2, [.ref b1, .int (nI nl), .ref b2, .ref b3, .ref b4, .ref b5, .ref b6, .int (nI (np + 1)), .int (nI (nt + 1)), .ref b7])), (b2, .inl (y3.1, 20, .inl (fN (va_up kp np k.toNatClampNeg)))), (b3, .inl (y3.1, 20, .inl (upd wt np wg))), (b4, .inl (y3.1, 20, .inl (fN (va_up ln np tks.toNatClampNeg)))), (b5, .inl (y3.2.1, 20, .inl (fB (va_up th np true)))), (b6, .inl (y3.1, 160, .inl (tkW tk np q1.toNatClampNeg q2.toNatClampNeg tks.toNatClampNeg))), (o9, .inl (y3.2.2, 1, .inr (.inl (vp_updL lo 0 ((nI np)).toInt64))))]) := by
  refine lx_of (cc := cL_pattern) (maxL := 8) (by decide) rfl (Nat.le_of_ble_eq_true rfl) ?_
  intro p e s m args below meth c A Q hx hb hml hown hts htab hP hK hD hA hS hT hret ls hl
  have hown : s.vm.findClass RL = some m.cls := hown
  replace hl : lv_has ls 8 [(0, .ref h0), (1, .int k), (2, .int wg), (3, .int tks), (4, .int q1), (5, .int q2), (6, .ref o9)] := hl
  refine lv_aload hx hb dL_pattern_0 (lv_at hl 6 rfl) ?_
  refine lv_iconst (v := (nI 0)) hx hb dL_pattern_2 rfl ?_
  refine lv_aload_n hx hb dL_pattern_3 rfl (lv_at hl 0 rfl) ?_
  refine lv_iload_n hx hb dL_pattern_4 rfl (lv_at hl 1 rfl) ?_
  refine lv_iload_n hx hb dL_pattern_5 rfl (lv_at hl 2 rfl) ?_
  refine lv_iload_n hx hb dL_pattern_6 rfl (lv_at hl 3 rfl) ?_
  refine lv_iload hx hb dL_pattern_7 (lv_at hl 4 rfl) ?_
  refine lv_iload hx hb dL_pattern_9 (lv_at hl 5 rfl) ?_
  refine tx_V (ci := 4) (q0 := 0) (own := RL) (As := [.int k, .int wg, .int tks, .int q1, .int q2]) (rest := [.int (nI 0), .ref o9]) (bytes := cX4_pattern) (maxL := 7) (wr := [(o9, .inl (y3.2.2, 1, .inr (.inl lo)))]) (w3 := (fun (_ : Unit) => [(h0, .inr (4, [.ref a0, .ref b0, .ref f0, .ref g0])), (a0, .inr (1, [.ref a1, .int (nI nk)])), (b0, .inr (2, [.ref b1, .int (nI nl), .ref b2, .ref b3, .ref b4, .ref b5, .ref b6, .int (nI (np + 1)), .int (nI (nt + 1)), .ref b7])), (b2, .inl (y3.1, 20, .inl (fN (va_up kp np k.toNatClampNeg)))), (b3, .inl (y3.1, 20, .inl (upd wt np wg))), (b4, .inl (y3.1, 20, .inl (fN (va_up ln np tks.toNatClampNeg)))), (b5, .inl (y3.2.1, 20, .inl (fB (va_up th np true)))), (b6, .inl (y3.1, 160, .inl (tkW tk np q1.toNatClampNeg q2.toNatClampNeg tks.toNatClampNeg))), (o9, .inl (y3.2.2, 1, .inr (.inl lo)))])) ⟨hx, hb, hml, hown, hts⟩ (kX4_pattern l hls D y3 h0 a0 b0 f0 g0 a1 nk b1 b2 b3 b4 b5 b6 b7 nl np nt kp wt ln th tk k wg tks q1 q2 (by omega) (by omega)) gL_pattern_X4_pattern rfl hvX4_pattern ⟨Nat.le_of_ble_eq_true rfl, Nat.le_of_ble_eq_true rfl⟩ hP hK hD hS hA hT [0, 1, 2, 3, 4, 5, 6, 7] [8] [1, 2, 3, 4, 5, 6, 7, 8, 0] rfl rfl rfl rfl (by decide) (fun _ => rfl) rfl rfl rfl rfl hl.1 rfl (Nat.le_of_ble_eq_true rfl) dL_pattern_11 ⟨Nat.le_of_ble_eq_true rfl, Nat.le_of_ble_eq_true rfl⟩ (fun E ce q9 H locs hE hP hD hS h7 h8 h9 => xcd_no hz hE) (fun r11 u11 H locs hr11 hP hD hS => ?_)
  have hP : va_P D vwCl [(h0, .inr (4, [.ref a0, .ref b0, .ref f0, .ref g0])), (a0, .inr (1, [.ref a1, .int (nI nk)])), (b0, .inr (2, [.ref b1, .int (nI nl), .ref b2, .ref b3, .ref b4, .ref b5, .ref b6, .int (nI (np + 1)), .int (nI (nt + 1)), .ref b7])), (b2, .inl (y3.1, 20, .inl (fN (va_up kp np k.toNatClampNeg)))), (b3, .inl (y3.1, 20, .inl (upd wt np wg))), (b4, .inl (y3.1, 20, .inl (fN (va_up ln np tks.toNatClampNeg)))), (b5, .inl (y3.2.1, 20, .inl (fB (va_up th np true)))), (b6, .inl (y3.1, 160, .inl (tkW tk np q1.toNatClampNeg q2.toNatClampNeg tks.toNatClampNeg))), (o9, .inl (y3.2.2, 1, .inr (.inl lo)))] H := hP
  have hD : va_D A [(h0, .inr (4, [.ref a0, .ref b0, .ref f0, .ref g0])), (a0, .inr (1, [.ref a1, .int (nI nk)])), (b0, .inr (2, [.ref b1, .int (nI nl), .ref b2, .ref b3, .ref b4, .ref b5, .ref b6, .int (nI (np + 1)), .int (nI (nt + 1)), .ref b7])), (b2, .inl (y3.1, 20, .inl (fN (va_up kp np k.toNatClampNeg)))), (b3, .inl (y3.1, 20, .inl (upd wt np wg))), (b4, .inl (y3.1, 20, .inl (fN (va_up ln np tks.toNatClampNeg)))), (b5, .inl (y3.2.1, 20, .inl (fB (va_up th np true)))), (b6, .inl (y3.1, 160, .inl (tkW tk np q1.toNatClampNeg q2.toNatClampNeg tks.toNatClampNeg))), (o9, .inl (y3.2.2, 1, .inr (.inl lo)))] := hD
  rw [hr11.2]
  refine lv_i2l (v := (nI np).toInt64) hx hb dL_pattern_14 rfl ?_
  refine ln_last hx hb hK hP hD hS 8 2 rfl rfl (by omega) (by decide) dL_pattern_15 _ rfl (fun H locs hP hD hS => ?_)
  have hP : va_P D vwCl [(h0, .inr (4, [.ref a0, .ref b0, .ref f0, .ref g0])), (a0, .inr (1, [.ref a1, .int (nI nk)])), (b0, .inr (2, [.ref b1, .int (nI nl), .ref b2, .ref b3, .ref b4, .ref b5, .ref b6, .int (nI (np + 1)), .int (nI (nt + 1)), .ref b7])), (b2, .inl (y3.1, 20, .inl (fN (va_up kp np k.toNatClampNeg)))), (b3, .inl (y3.1, 20, .inl (upd wt np wg))), (b4, .inl (y3.1, 20, .inl (fN (va_up ln np tks.toNatClampNeg)))), (b5, .inl (y3.2.1, 20, .inl (fB (va_up th np true)))), (b6, .inl (y3.1, 160, .inl (tkW tk np q1.toNatClampNeg q2.toNatClampNeg tks.toNatClampNeg))), (o9, .inl (y3.2.2, 1, .inr (.inl (vp_updL lo 0 ((nI np).toInt64)))))] H := hP
  have hD : va_D A [(h0, .inr (4, [.ref a0, .ref b0, .ref f0, .ref g0])), (a0, .inr (1, [.ref a1, .int (nI nk)])), (b0, .inr (2, [.ref b1, .int (nI nl), .ref b2, .ref b3, .ref b4, .ref b5, .ref b6, .int (nI (np + 1)), .int (nI (nt + 1)), .ref b7])), (b2, .inl (y3.1, 20, .inl (fN (va_up kp np k.toNatClampNeg)))), (b3, .inl (y3.1, 20, .inl (upd wt np wg))), (b4, .inl (y3.1, 20, .inl (fN (va_up ln np tks.toNatClampNeg)))), (b5, .inl (y3.2.1, 20, .inl (fB (va_up th np true)))), (b6, .inl (y3.1, 160, .inl (tkW tk np q1.toNatClampNeg q2.toNatClampNeg tks.toNatClampNeg))), (o9, .inl (y3.2.2, 1, .inr (.inl (vp_updL lo 0 ((nI np).toInt64)))))] := hD
  refine lv_goto (tgt := 31) hx hb dL_pattern_16 (by decide) ?_
  refine lv_iconst (v := (nI 0)) hx hb dL_pattern_31 rfl ?_
  exact hret 32 ls H locs _ _ () _ hP hD hS (Nat.le_of_ble_eq_true rfl) (Nat.le_of_ble_eq_true rfl) rfl dL_pattern_32

set_option maxHeartbeats 4000000 in
set_option maxRecDepth 100000 in
theorem kL_pattern_ex (l : Launch) (hls : l.stackTraces = false) (D : va_G) (y3 : ClassId × ClassId × ClassId) (h0 : Nat) (a0 : Nat) (b0 : Nat) (f0 : Nat) (g0 : Nat) (a1 : Nat) (nk : Nat) (b1 : Nat) (b2 : Nat) (b3 : Nat) (b4 : Nat) (b5 : Nat) (b6 : Nat) (b7 : Nat) (nl : Nat) (np : Nat) (nt : Nat) (kp : Nat → Nat) (wt : Nat → Int32) (ln : Nat → Nat) (th : Nat → Bool) (tk : Nat → Int32) (k : Int32) (wg : Int32) (tks : Int32) (q1 : Int32) (q2 : Int32) (o9 : Nat) (lo : Nat → Int64) (hk : nk ≤ 14) (hnp : np ≤ 20) (hz : ¬ (ak3 (inB k nk) (ptB wg tks q1 q2) (decide (np < 20))) = 0) : lxM l yL_pattern wsL_pattern 9 158 1 6 D y3 [(h0, .inr (4, [.ref a0, .ref b0, .ref f0, .ref g0])), (a0, .inr (1, [.ref a1, .int (nI nk)])), (b0, .inr (2, [.ref b1, .int (nI nl), .ref b2, .ref b3, .ref b4, .ref b5, .ref b6, .int (nI np), .int (nI nt), .ref b7])), (b2, .inl (y3.1, 20, .inl (fN kp))), (b3, .inl (y3.1, 20, .inl wt)), (b4, .inl (y3.1, 20, .inl (fN ln))), (b5, .inl (y3.2.1, 20, .inl (fB th))), (b6, .inl (y3.1, 160, .inl tk)), (o9, .inl (y3.2.2, 1, .inr (.inl lo)))] [.ref h0, .int k, .int wg, .int tks, .int q1, .int q2, .ref o9] (fun r (_ : Unit) => r = (nI (ak3 (inB k nk) (ptB wg tks q1 q2) (decide (np < 20))))) (fun (_ : Unit) => [(h0, .inr (4, [.ref a0, .ref b0, .ref f0, .ref g0])), (a0, .inr (1, [.ref a1, .int (nI nk)])), (b0, .inr (2, [.ref b1, .int (nI nl), .ref b2, .ref b3, .ref b4, .ref b5, .ref b6, .int (nI np), .int (nI nt), .ref b7])), (b2, .inl (y3.1, 20, .inl (fN kp))), (b3, .inl (y3.1, 20, .inl wt)), (b4, .inl (y3.1, 20, .inl (fN ln))), (b5, .inl (y3.2.1, 20, .inl (fB th))), (b6, .inl (y3.1, 160, .inl tk)), (o9, .inl (y3.2.2, 1, .inr (.inl lo)))]) := by
  refine lx_of (cc := cL_pattern) (maxL := 8) (by decide) rfl (Nat.le_of_ble_eq_true rfl) ?_
  intro p e s m args below meth c A Q hx hb hml hown hts htab hP hK hD hA hS hT hret ls hl
  have hown : s.vm.findClass RL = some m.cls := hown
  replace hl : lv_has ls 8 [(0, .ref h0), (1, .int k), (2, .int wg), (3, .int tks), (4, .int q1), (5, .int q2), (6, .ref o9)] := hl
  have hk13 := hts (.classLink RL 13 xIO) (by decide +kernel)
  have hk15 := hts (.classLink RL 15 xIS) (by decide +kernel)
  have hk21 := hts (.classLink RL 21 xIA) (by decide +kernel)
  refine lv_aload hx hb dL_pattern_0 (lv_at hl 6 rfl) ?_
  refine lv_iconst (v := (nI 0)) hx hb dL_pattern_2 rfl ?_
  refine lv_aload_n hx hb dL_pattern_3 rfl (lv_at hl 0 rfl) ?_
  refine lv_iload_n hx hb dL_pattern_4 rfl (lv_at hl 1 rfl) ?_
  refine lv_iload_n hx hb dL_pattern_5 rfl (lv_at hl 2 rfl) ?_
  refine lv_iload_n hx hb dL_pattern_6 rfl (lv_at hl 3 rfl) ?_
  refine lv_iload hx hb dL_pattern_7 (lv_at hl 4 rfl) ?_
  refine lv_iload hx hb dL_pattern_9 (lv_at hl 5 rfl) ?_
  refine tx_V (ci := 4) (q0 := 0) (own := RL) (As := [.int k, .int wg, .int tks, .int q1, .int q2]) (rest := [.int (nI 0), .ref o9]) (bytes := cX4_pattern) (maxL := 7) (wr := [(o9, .inl (y3.2.2, 1, .inr (.inl lo)))]) (w3 := (fun (_ : Unit) => [(h0, .inr (4, [.ref a0, .ref b0, .ref f0, .ref g0])), (a0, .inr (1, [.ref a1, .int (nI nk)])), (b0, .inr (2, [.ref b1, .int (nI nl), .ref b2, .ref b3, .ref b4, .ref b5, .ref b6, .int (nI (np + 1)), .int (nI (nt + 1)), .ref b7])), (b2, .inl (y3.1, 20, .inl (fN (va_up kp np k.toNatClampNeg)))), (b3, .inl (y3.1, 20, .inl (upd wt np wg))), (b4, .inl (y3.1, 20, .inl (fN (va_up ln np tks.toNatClampNeg)))), (b5, .inl (y3.2.1, 20, .inl (fB (va_up th np true)))), (b6, .inl (y3.1, 160, .inl (tkW tk np q1.toNatClampNeg q2.toNatClampNeg tks.toNatClampNeg))), (o9, .inl (y3.2.2, 1, .inr (.inl lo)))])) ⟨hx, hb, hml, hown, hts⟩ (kX4_pattern l hls D y3 h0 a0 b0 f0 g0 a1 nk b1 b2 b3 b4 b5 b6 b7 nl np nt kp wt ln th tk k wg tks q1 q2 (by omega) (by omega)) gL_pattern_X4_pattern rfl hvX4_pattern ⟨Nat.le_of_ble_eq_true rfl, Nat.le_of_ble_eq_true rfl⟩ hP hK hD hS hA hT [0, 1, 2, 3, 4, 5, 6, 7] [8] [1, 2, 3, 4, 5, 6, 7, 8, 0] rfl rfl rfl rfl (by decide) (fun _ => rfl) rfl rfl rfl rfl hl.1 rfl (Nat.le_of_ble_eq_true rfl) dL_pattern_11 ⟨Nat.le_of_ble_eq_true rfl, Nat.le_of_ble_eq_true rfl⟩ (fun E ce q9 H locs hE hP hD hS h7 h8 h9 => ?_) (fun r11 u1 H locs hr11 hP hD hS => absurd hr11.1 hz)
  rcases xcd_3 hE with ⟨hz9, rfl⟩ | ⟨hz9, rfl⟩ | ⟨hz9, rfl⟩
  · refine vx_catch (own := RL) (name := xIO) hown [] ⟨0, 16, 19, 13⟩ [⟨0, 16, 23, 21⟩, ⟨0, 16, 27, 15⟩] htab (fun z h => (by cases h)) rfl (by decide) hk13 (lx_c hT (by simp [xE3])) h7 h8 h9 ?_
    refine lv_astore (lv' := [(7, .ref q9), (0, .ref h0), (1, .int k), (2, .int wg), (3, .int tks), (4, .int q1), (5, .int q2), (6, .ref o9)]) hx hb dL_pattern_19 hl (by decide) rfl (fun ls hl => ?_)
    refine lv_iconst (v := (nI 1)) hx hb dL_pattern_21 rfl ?_
    exact hret 22 ls H locs _ _ () _ hP hD hS (Nat.le_of_ble_eq_true rfl) (Nat.le_of_ble_eq_true rfl) (by rw [hz9]) dL_pattern_22
  · refine vx_catch (own := RL) (name := xIA) hown [⟨0, 16, 19, 13⟩] ⟨0, 16, 23, 21⟩ [⟨0, 16, 27, 15⟩] htab (fun z h => by
        simp only [List.mem_cons, List.not_mem_nil, or_false] at h
        subst h
        exact Or.inr ⟨by decide, xIO, hk13, lx_IA hT⟩) rfl (by decide) hk21 (lx_c hT (by simp [xE3])) h7 h8 h9 ?_
    refine lv_astore (lv' := [(7, .ref q9), (0, .ref h0), (1, .int k), (2, .int wg), (3, .int tks), (4, .int q1), (5, .int q2), (6, .ref o9)]) hx hb dL_pattern_23 hl (by decide) rfl (fun ls hl => ?_)
    refine lv_iconst (v := (nI 2)) hx hb dL_pattern_25 rfl ?_
    exact hret 26 ls H locs _ _ () _ hP hD hS (Nat.le_of_ble_eq_true rfl) (Nat.le_of_ble_eq_true rfl) (by rw [hz9]) dL_pattern_26
  · refine vx_catch (own := RL) (name := xIS) hown [⟨0, 16, 19, 13⟩, ⟨0, 16, 23, 21⟩] ⟨0, 16, 27, 15⟩ [] htab (fun z h => by
        simp only [List.mem_cons, List.not_mem_nil, or_false] at h
        rcases h with rfl | rfl
        · exact Or.inr ⟨by decide, xIO, hk13, lx_IS hT⟩
        · exact Or.inr ⟨by decide, xIA, hk21, lx_SA hT⟩) rfl (by decide) hk15 (lx_c hT (by simp [xE3])) h7 h8 h9 ?_
    refine lv_astore (lv' := [(7, .ref q9), (0, .ref h0), (1, .int k), (2, .int wg), (3, .int tks), (4, .int q1), (5, .int q2), (6, .ref o9)]) hx hb dL_pattern_27 hl (by decide) rfl (fun ls hl => ?_)
    refine lv_iconst (v := (nI 3)) hx hb dL_pattern_29 rfl ?_
    exact hret 30 ls H locs _ _ () _ hP hD hS (Nat.le_of_ble_eq_true rfl) (Nat.le_of_ble_eq_true rfl) (by rw [hz9]) dL_pattern_30

set_option maxHeartbeats 4000000 in
set_option maxRecDepth 100000 in
theorem kL_drop_ok (l : Launch) (hls : l.stackTraces = false) (D : va_G) (y3 : ClassId × ClassId × ClassId) (h0 : Nat) (a0 : Nat) (b0 : Nat) (f0 : Nat) (g0 : Nat) (b1 : Nat) (b2 : Nat) (b3 : Nat) (b4 : Nat) (b5 : Nat) (b6 : Nat) (b7 : Nat) (nl : Nat) (np : Nat) (nt : Nat) (th : Nat → Bool) (k : Int32) (o9 : Nat) (lo : Nat → Int64) (hnp : np ≤ 20) (hnt : ∀ q : Nat, q < np → th q = true → 0 < nt) (hz : (ak1 (hasP th np k)) = 0) : lxM l yL_drop wsL_drop 8 132 1 6 D y3 [(h0, .inr (4, [.ref a0, .ref b0, .ref f0, .ref g0])), (b0, .inr (2, [.ref b1, .int (nI nl), .ref b2, .ref b3, .ref b4, .ref b5, .ref b6, .int (nI np), .int (nI nt), .ref b7])), (b5, .inl (y3.2.1, 20, .inl (fB th))), (o9, .inl (y3.2.2, 1, .inr (.inl lo)))] [.ref h0, .int k, .ref o9] (fun r (_ : Unit) => r = (nI 0)) (fun (_ : Unit) => [(h0, .inr (4, [.ref a0, .ref b0, .ref f0, .ref g0])), (b0, .inr (2, [.ref b1, .int (nI nl), .ref b2, .ref b3, .ref b4, .ref b5, .ref b6, .int (nI np), .int (nI (nt - 1)), .ref b7])), (b5, .inl (y3.2.1, 20, .inl (fB (va_up th k.toNatClampNeg false)))), (o9, .inl (y3.2.2, 1, .inr (.inl (vp_updL lo 0 ((nI (nt - 1))).toInt64))))]) := by
  refine lx_of (cc := cL_drop) (maxL := 4) (by decide) rfl (Nat.le_of_ble_eq_true rfl) ?_
  intro p e s m args below meth c A Q hx hb hml hown hts htab hP hK hD hA hS hT hret ls hl
  have hown : s.vm.findClass RL = some m.cls := hown
  replace hl : lv_has ls 4 [(0, .ref h0), (1, .int k), (2, .ref o9)] := hl
  refine lv_aload_n hx hb dL_drop_0 rfl (lv_at hl 2 rfl) ?_
  refine lv_iconst (v := (nI 0)) hx hb dL_drop_1 rfl ?_
  refine lv_aload_n hx hb dL_drop_2 rfl (lv_at hl 0 rfl) ?_
  refine lv_iload_n hx hb dL_drop_3 rfl (lv_at hl 1 rfl) ?_
  refine tx_V (ci := 4) (q0 := 0) (own := RL) (As := [.int k]) (rest := [.int (nI 0), .ref o9]) (bytes := cX4_drop) (maxL := 2) (wr := [(o9, .inl (y3.2.2, 1, .inr (.inl lo)))]) (w3 := (fun (_ : Unit) => [(h0, .inr (4, [.ref a0, .ref b0, .ref f0, .ref g0])), (b0, .inr (2, [.ref b1, .int (nI nl), .ref b2, .ref b3, .ref b4, .ref b5, .ref b6, .int (nI np), .int (nI (nt - 1)), .ref b7])), (b5, .inl (y3.2.1, 20, .inl (fB (va_up th k.toNatClampNeg false)))), (o9, .inl (y3.2.2, 1, .inr (.inl lo)))])) ⟨hx, hb, hml, hown, hts⟩ (kX4_drop l hls D y3 h0 a0 b0 f0 g0 b1 b2 b3 b4 b5 b6 b7 nl np nt th k (by omega) (by assumption)) gL_drop_X4_drop rfl hvX4_drop ⟨Nat.le_of_ble_eq_true rfl, Nat.le_of_ble_eq_true rfl⟩ hP hK hD hS hA hT [0, 1, 2] [3] [1, 2, 3, 0] rfl rfl rfl rfl (by decide) (fun _ => rfl) rfl rfl rfl rfl hl.1 rfl (Nat.le_of_ble_eq_true rfl) dL_drop_4 ⟨Nat.le_of_ble_eq_true rfl, Nat.le_of_ble_eq_true rfl⟩ (fun E ce q9 H locs hE hP hD hS h7 h8 h9 => xcd_no hz hE) (fun r4 u4 H locs hr4 hP hD hS => ?_)
  have hP : va_P D vwCl [(h0, .inr (4, [.ref a0, .ref b0, .ref f0, .ref g0])), (b0, .inr (2, [.ref b1, .int (nI nl), .ref b2, .ref b3, .ref b4, .ref b5, .ref b6, .int (nI np), .int (nI (nt - 1)), .ref b7])), (b5, .inl (y3.2.1, 20, .inl (fB (va_up th k.toNatClampNeg false)))), (o9, .inl (y3.2.2, 1, .inr (.inl lo)))] H := hP
  have hD : va_D A [(h0, .inr (4, [.ref a0, .ref b0, .ref f0, .ref g0])), (b0, .inr (2, [.ref b1, .int (nI nl), .ref b2, .ref b3, .ref b4, .ref b5, .ref b6, .int (nI np), .int (nI (nt - 1)), .ref b7])), (b5, .inl (y3.2.1, 20, .inl (fB (va_up th k.toNatClampNeg false)))), (o9, .inl (y3.2.2, 1, .inr (.inl lo)))] := hD
  rw [hr4.2]
  refine lv_i2l (v := (nI (nt - 1)).toInt64) hx hb dL_drop_7 rfl ?_
  refine ln_last hx hb hK hP hD hS 3 2 rfl rfl (by omega) (by decide) dL_drop_8 _ rfl (fun H locs hP hD hS => ?_)
  have hP : va_P D vwCl [(h0, .inr (4, [.ref a0, .ref b0, .ref f0, .ref g0])), (b0, .inr (2, [.ref b1, .int (nI nl), .ref b2, .ref b3, .ref b4, .ref b5, .ref b6, .int (nI np), .int (nI (nt - 1)), .ref b7])), (b5, .inl (y3.2.1, 20, .inl (fB (va_up th k.toNatClampNeg false)))), (o9, .inl (y3.2.2, 1, .inr (.inl (vp_updL lo 0 ((nI (nt - 1)).toInt64)))))] H := hP
  have hD : va_D A [(h0, .inr (4, [.ref a0, .ref b0, .ref f0, .ref g0])), (b0, .inr (2, [.ref b1, .int (nI nl), .ref b2, .ref b3, .ref b4, .ref b5, .ref b6, .int (nI np), .int (nI (nt - 1)), .ref b7])), (b5, .inl (y3.2.1, 20, .inl (fB (va_up th k.toNatClampNeg false)))), (o9, .inl (y3.2.2, 1, .inr (.inl (vp_updL lo 0 ((nI (nt - 1)).toInt64)))))] := hD
  refine lv_goto (tgt := 15) hx hb dL_drop_9 (by decide) ?_
  refine lv_iconst (v := (nI 0)) hx hb dL_drop_15 rfl ?_
  exact hret 16 ls H locs _ _ () _ hP hD hS (Nat.le_of_ble_eq_true rfl) (Nat.le_of_ble_eq_true rfl) rfl dL_drop_16

set_option maxHeartbeats 4000000 in
set_option maxRecDepth 100000 in
theorem kL_drop_ex (l : Launch) (hls : l.stackTraces = false) (D : va_G) (y3 : ClassId × ClassId × ClassId) (h0 : Nat) (a0 : Nat) (b0 : Nat) (f0 : Nat) (g0 : Nat) (b1 : Nat) (b2 : Nat) (b3 : Nat) (b4 : Nat) (b5 : Nat) (b6 : Nat) (b7 : Nat) (nl : Nat) (np : Nat) (nt : Nat) (th : Nat → Bool) (k : Int32) (o9 : Nat) (lo : Nat → Int64) (hnp : np ≤ 20) (hnt : ∀ q : Nat, q < np → th q = true → 0 < nt) (hz : ¬ (ak1 (hasP th np k)) = 0) : lxM l yL_drop wsL_drop 8 132 1 6 D y3 [(h0, .inr (4, [.ref a0, .ref b0, .ref f0, .ref g0])), (b0, .inr (2, [.ref b1, .int (nI nl), .ref b2, .ref b3, .ref b4, .ref b5, .ref b6, .int (nI np), .int (nI nt), .ref b7])), (b5, .inl (y3.2.1, 20, .inl (fB th))), (o9, .inl (y3.2.2, 1, .inr (.inl lo)))] [.ref h0, .int k, .ref o9] (fun r (_ : Unit) => r = (nI (ak1 (hasP th np k)))) (fun (_ : Unit) => [(h0, .inr (4, [.ref a0, .ref b0, .ref f0, .ref g0])), (b0, .inr (2, [.ref b1, .int (nI nl), .ref b2, .ref b3, .ref b4, .ref b5, .ref b6, .int (nI np), .int (nI nt), .ref b7])), (b5, .inl (y3.2.1, 20, .inl (fB th))), (o9, .inl (y3.2.2, 1, .inr (.inl lo)))]) := by
  refine lx_of (cc := cL_drop) (maxL := 4) (by decide) rfl (Nat.le_of_ble_eq_true rfl) ?_
  intro p e s m args below meth c A Q hx hb hml hown hts htab hP hK hD hA hS hT hret ls hl
  have hown : s.vm.findClass RL = some m.cls := hown
  replace hl : lv_has ls 4 [(0, .ref h0), (1, .int k), (2, .ref o9)] := hl
  have hk13 := hts (.classLink RL 13 xIO) (by decide +kernel)
  refine lv_aload_n hx hb dL_drop_0 rfl (lv_at hl 2 rfl) ?_
  refine lv_iconst (v := (nI 0)) hx hb dL_drop_1 rfl ?_
  refine lv_aload_n hx hb dL_drop_2 rfl (lv_at hl 0 rfl) ?_
  refine lv_iload_n hx hb dL_drop_3 rfl (lv_at hl 1 rfl) ?_
  refine tx_V (ci := 4) (q0 := 0) (own := RL) (As := [.int k]) (rest := [.int (nI 0), .ref o9]) (bytes := cX4_drop) (maxL := 2) (wr := [(o9, .inl (y3.2.2, 1, .inr (.inl lo)))]) (w3 := (fun (_ : Unit) => [(h0, .inr (4, [.ref a0, .ref b0, .ref f0, .ref g0])), (b0, .inr (2, [.ref b1, .int (nI nl), .ref b2, .ref b3, .ref b4, .ref b5, .ref b6, .int (nI np), .int (nI (nt - 1)), .ref b7])), (b5, .inl (y3.2.1, 20, .inl (fB (va_up th k.toNatClampNeg false)))), (o9, .inl (y3.2.2, 1, .inr (.inl lo)))])) ⟨hx, hb, hml, hown, hts⟩ (kX4_drop l hls D y3 h0 a0 b0 f0 g0 b1 b2 b3 b4 b5 b6 b7 nl np nt th k (by omega) (by assumption)) gL_drop_X4_drop rfl hvX4_drop ⟨Nat.le_of_ble_eq_true rfl, Nat.le_of_ble_eq_true rfl⟩ hP hK hD hS hA hT [0, 1, 2] [3] [1, 2, 3, 0] rfl rfl rfl rfl (by decide) (fun _ => rfl) rfl rfl rfl rfl hl.1 rfl (Nat.le_of_ble_eq_true rfl) dL_drop_4 ⟨Nat.le_of_ble_eq_true rfl, Nat.le_of_ble_eq_true rfl⟩ (fun E ce q9 H locs hE hP hD hS h7 h8 h9 => ?_) (fun r4 u1 H locs hr4 hP hD hS => absurd hr4.1 hz)
  obtain ⟨hz9, rfl⟩ := xcd_1 hE
  refine vx_catch (own := RL) (name := xIO) hown [] ⟨0, 9, 12, 13⟩ [] htab (fun z h => (by cases h)) rfl (by decide) hk13 (lx_c hT (by simp [xE3])) h7 h8 h9 ?_
  refine lv_astore_n (lv' := [(3, .ref q9), (0, .ref h0), (1, .int k), (2, .ref o9)]) hx hb dL_drop_12 rfl hl (by decide) rfl (fun ls hl => ?_)
  refine lv_iconst (v := (nI 1)) hx hb dL_drop_13 rfl ?_
  exact hret 14 ls H locs _ _ () _ hP hD hS (Nat.le_of_ble_eq_true rfl) (Nat.le_of_ble_eq_true rfl) (by rw [hz9]) dL_drop_14

set_option maxHeartbeats 4000000 in
set_option maxRecDepth 100000 in
theorem kL_rule_ok (l : Launch) (hls : l.stackTraces = false) (D : va_G) (y3 : ClassId × ClassId × ClassId) (h0 : Nat) (a0 : Nat) (b0 : Nat) (f0 : Nat) (g0 : Nat) (a1 : Nat) (nk : Nat) (f1 : Nat) (f2 : Nat) (f3 : Nat) (f4 : Nat) (f5 : Nat) (f6 : Nat) (f7 : Nat) (f8 : Nat) (f9 : Nat) (f10 : Nat) (nb : Nat) (nr : Nat) (kr : Nat → Nat) (pr : Nat → Int32) (k : Int32) (wg : Int32) (o9 : Nat) (lo : Nat → Int64) (hk : nk ≤ 14) (hnr : nr ≤ 12) (hz : (ak3 (inB k nk) (rgB wg (nI 0) (nI 100)) (decide (nr < 12))) = 0) : lxM l yL_rule wsL_rule 9 154 1 6 D y3 [(h0, .inr (4, [.ref a0, .ref b0, .ref f0, .ref g0])), (a0, .inr (1, [.ref a1, .int (nI nk)])), (f0, .inr (0, [.ref f1, .int (nI nb), .ref f2, .ref f3, .ref f4, .int (nI nr), .ref f5, .ref f6, .ref f7, .ref f8, .ref f9, .ref f10])), (f2, .inl (y3.1, 12, .inl (fN kr))), (f3, .inl (y3.1, 12, .inl pr)), (o9, .inl (y3.2.2, 1, .inr (.inl lo)))] [.ref h0, .int k, .int wg, .ref o9] (fun r (_ : Unit) => r = (nI 0)) (fun (_ : Unit) => [(h0, .inr (4, [.ref a0, .ref b0, .ref f0, .ref g0])), (a0, .inr (1, [.ref a1, .int (nI nk)])), (f0, .inr (0, [.ref f1, .int (nI nb), .ref f2, .ref f3, .ref f4, .int (nI (nr + 1)), .ref f5, .ref f6, .ref f7, .ref f8, .ref f9, .ref f10])), (f2, .inl (y3.1, 12, .inl (fN (va_up kr nr k.toNatClampNeg)))), (f3, .inl (y3.1, 12, .inl (upd pr nr wg))), (o9, .inl (y3.2.2, 1, .inr (.inl (vp_updL lo 0 ((nI nr)).toInt64))))]) := by
  refine lx_of (cc := cL_rule) (maxL := 5) (by decide) rfl (Nat.le_of_ble_eq_true rfl) ?_
  intro p e s m args below meth c A Q hx hb hml hown hts htab hP hK hD hA hS hT hret ls hl
  have hown : s.vm.findClass RL = some m.cls := hown
  replace hl : lv_has ls 5 [(0, .ref h0), (1, .int k), (2, .int wg), (3, .ref o9)] := hl
  refine lv_aload_n hx hb dL_rule_0 rfl (lv_at hl 3 rfl) ?_
  refine lv_iconst (v := (nI 0)) hx hb dL_rule_1 rfl ?_
  refine lv_aload_n hx hb dL_rule_2 rfl (lv_at hl 0 rfl) ?_
  refine lv_iload_n hx hb dL_rule_3 rfl (lv_at hl 1 rfl) ?_
  refine lv_iload_n hx hb dL_rule_4 rfl (lv_at hl 2 rfl) ?_
  refine tx_V (ci := 4) (q0 := 0) (own := RL) (As := [.int k, .int wg]) (rest := [.int (nI 0), .ref o9]) (bytes := cX4_rule) (maxL := 3) (wr := [(o9, .inl (y3.2.2, 1, .inr (.inl lo)))]) (w3 := (fun (_ : Unit) => [(h0, .inr (4, [.ref a0, .ref b0, .ref f0, .ref g0])), (a0, .inr (1, [.ref a1, .int (nI nk)])), (f0, .inr (0, [.ref f1, .int (nI nb), .ref f2, .ref f3, .ref f4, .int (nI (nr + 1)), .ref f5, .ref f6, .ref f7, .ref f8, .ref f9, .ref f10])), (f2, .inl (y3.1, 12, .inl (fN (va_up kr nr k.toNatClampNeg)))), (f3, .inl (y3.1, 12, .inl (upd pr nr wg))), (o9, .inl (y3.2.2, 1, .inr (.inl lo)))])) ⟨hx, hb, hml, hown, hts⟩ (kX4_rule l hls D y3 h0 a0 b0 f0 g0 a1 nk f1 f2 f3 f4 f5 f6 f7 f8 f9 f10 nb nr kr pr k wg (by omega) (by omega)) gL_rule_X4_rule rfl hvX4_rule ⟨Nat.le_of_ble_eq_true rfl, Nat.le_of_ble_eq_true rfl⟩ hP hK hD hS hA hT [0, 1, 2, 3, 4] [5] [1, 2, 3, 4, 5, 0] rfl rfl rfl rfl (by decide) (fun _ => rfl) rfl rfl rfl rfl hl.1 rfl (Nat.le_of_ble_eq_true rfl) dL_rule_5 ⟨Nat.le_of_ble_eq_true rfl, Nat.le_of_ble_eq_true rfl⟩ (fun E ce q9 H locs hE hP hD hS h7 h8 h9 => xcd_no hz hE) (fun r5 u5 H locs hr5 hP hD hS => ?_)
  have hP : va_P D vwCl [(h0, .inr (4, [.ref a0, .ref b0, .ref f0, .ref g0])), (a0, .inr (1, [.ref a1, .int (nI nk)])), (f0, .inr (0, [.ref f1, .int (nI nb), .ref f2, .ref f3, .ref f4, .int (nI (nr + 1)), .ref f5, .ref f6, .ref f7, .ref f8, .ref f9, .ref f10])), (f2, .inl (y3.1, 12, .inl (fN (va_up kr nr k.toNatClampNeg)))), (f3, .inl (y3.1, 12, .inl (upd pr nr wg))), (o9, .inl (y3.2.2, 1, .inr (.inl lo)))] H := hP
  have hD : va_D A [(h0, .inr (4, [.ref a0, .ref b0, .ref f0, .ref g0])), (a0, .inr (1, [.ref a1, .int (nI nk)])), (f0, .inr (0, [.ref f1, .int (nI nb), .ref f2, .ref f3, .ref f4, .int (nI (nr + 1)), .ref f5, .ref f6, .ref f7, .ref f8, .ref f9, .ref f10])), (f2, .inl (y3.1, 12, .inl (fN (va_up kr nr k.toNatClampNeg)))), (f3, .inl (y3.1, 12, .inl (upd pr nr wg))), (o9, .inl (y3.2.2, 1, .inr (.inl lo)))] := hD
  rw [hr5.2]
  refine lv_i2l (v := (nI nr).toInt64) hx hb dL_rule_8 rfl ?_
  refine ln_last hx hb hK hP hD hS 5 2 rfl rfl (by omega) (by decide) dL_rule_9 _ rfl (fun H locs hP hD hS => ?_)
  have hP : va_P D vwCl [(h0, .inr (4, [.ref a0, .ref b0, .ref f0, .ref g0])), (a0, .inr (1, [.ref a1, .int (nI nk)])), (f0, .inr (0, [.ref f1, .int (nI nb), .ref f2, .ref f3, .ref f4, .int (nI (nr + 1)), .ref f5, .ref f6, .ref f7, .ref f8, .ref f9, .ref f10])), (f2, .inl (y3.1, 12, .inl (fN (va_up kr nr k.toNatClampNeg)))), (f3, .inl (y3.1, 12, .inl (upd pr nr wg))), (o9, .inl (y3.2.2, 1, .inr (.inl (vp_updL lo 0 ((nI nr).toInt64)))))] H := hP
  have hD : va_D A [(h0, .inr (4, [.ref a0, .ref b0, .ref f0, .ref g0])), (a0, .inr (1, [.ref a1, .int (nI nk)])), (f0, .inr (0, [.ref f1, .int (nI nb), .ref f2, .ref f3, .ref f4, .int (nI (nr + 1)), .ref f5, .ref f6, .ref f7, .ref f8, .ref f9, .ref f10])), (f2, .inl (y3.1, 12, .inl (fN (va_up kr nr k.toNatClampNeg)))), (f3, .inl (y3.1, 12, .inl (upd pr nr wg))), (o9, .inl (y3.2.2, 1, .inr (.inl (vp_updL lo 0 ((nI nr).toInt64)))))] := hD
  refine lv_goto (tgt := 25) hx hb dL_rule_10 (by decide) ?_
  refine lv_iconst (v := (nI 0)) hx hb dL_rule_25 rfl ?_
  exact hret 26 ls H locs _ _ () _ hP hD hS (Nat.le_of_ble_eq_true rfl) (Nat.le_of_ble_eq_true rfl) rfl dL_rule_26

set_option maxHeartbeats 4000000 in
set_option maxRecDepth 100000 in
theorem kL_rule_ex (l : Launch) (hls : l.stackTraces = false) (D : va_G) (y3 : ClassId × ClassId × ClassId) (h0 : Nat) (a0 : Nat) (b0 : Nat) (f0 : Nat) (g0 : Nat) (a1 : Nat) (nk : Nat) (f1 : Nat) (f2 : Nat) (f3 : Nat) (f4 : Nat) (f5 : Nat) (f6 : Nat) (f7 : Nat) (f8 : Nat) (f9 : Nat) (f10 : Nat) (nb : Nat) (nr : Nat) (kr : Nat → Nat) (pr : Nat → Int32) (k : Int32) (wg : Int32) (o9 : Nat) (lo : Nat → Int64) (hk : nk ≤ 14) (hnr : nr ≤ 12) (hz : ¬ (ak3 (inB k nk) (rgB wg (nI 0) (nI 100)) (decide (nr < 12))) = 0) : lxM l yL_rule wsL_rule 9 154 1 6 D y3 [(h0, .inr (4, [.ref a0, .ref b0, .ref f0, .ref g0])), (a0, .inr (1, [.ref a1, .int (nI nk)])), (f0, .inr (0, [.ref f1, .int (nI nb), .ref f2, .ref f3, .ref f4, .int (nI nr), .ref f5, .ref f6, .ref f7, .ref f8, .ref f9, .ref f10])), (f2, .inl (y3.1, 12, .inl (fN kr))), (f3, .inl (y3.1, 12, .inl pr)), (o9, .inl (y3.2.2, 1, .inr (.inl lo)))] [.ref h0, .int k, .int wg, .ref o9] (fun r (_ : Unit) => r = (nI (ak3 (inB k nk) (rgB wg (nI 0) (nI 100)) (decide (nr < 12))))) (fun (_ : Unit) => [(h0, .inr (4, [.ref a0, .ref b0, .ref f0, .ref g0])), (a0, .inr (1, [.ref a1, .int (nI nk)])), (f0, .inr (0, [.ref f1, .int (nI nb), .ref f2, .ref f3, .ref f4, .int (nI nr), .ref f5, .ref f6, .ref f7, .ref f8, .ref f9, .ref f10])), (f2, .inl (y3.1, 12, .inl (fN kr))), (f3, .inl (y3.1, 12, .inl pr)), (o9, .inl (y3.2.2, 1, .inr (.inl lo)))]) := by
  refine lx_of (cc := cL_rule) (maxL := 5) (by decide) rfl (Nat.le_of_ble_eq_true rfl) ?_
  intro p e s m args below meth c A Q hx hb hml hown hts htab hP hK hD hA hS hT hret ls hl
  have hown : s.vm.findClass RL = some m.cls := hown
  replace hl : lv_has ls 5 [(0, .ref h0), (1, .int k), (2, .int wg), (3, .ref o9)] := hl
  have hk13 := hts (.classLink RL 13 xIO) (by decide +kernel)
  have hk15 := hts (.classLink RL 15 xIS) (by decide +kernel)
  have hk21 := hts (.classLink RL 21 xIA) (by decide +kernel)
  refine lv_aload_n hx hb dL_rule_0 rfl (lv_at hl 3 rfl) ?_
  refine lv_iconst (v := (nI 0)) hx hb dL_rule_1 rfl ?_
  refine lv_aload_n hx hb dL_rule_2 rfl (lv_at hl 0 rfl) ?_
  refine lv_iload_n hx hb dL_rule_3 rfl (lv_at hl 1 rfl) ?_
  refine lv_iload_n hx hb dL_rule_4 rfl (lv_at hl 2 rfl) ?_
  refine tx_V (ci := 4) (q0 := 0) (own := RL) (As := [.int k, .int wg]) (rest := [.int (nI 0), .ref o9]) (bytes := cX4_rule) (maxL := 3) (wr := [(o9, .inl (y3.2.2, 1, .inr (.inl lo)))]) (w3 := (fun (_ : Unit) => [(h0, .inr (4, [.ref a0, .ref b0, .ref f0, .ref g0])), (a0, .inr (1, [.ref a1, .int (nI nk)])), (f0, .inr (0, [.ref f1, .int (nI nb), .ref f2, .ref f3, .ref f4, .int (nI (nr + 1)), .ref f5, .ref f6, .ref f7, .ref f8, .ref f9, .ref f10])), (f2, .inl (y3.1, 12, .inl (fN (va_up kr nr k.toNatClampNeg)))), (f3, .inl (y3.1, 12, .inl (upd pr nr wg))), (o9, .inl (y3.2.2, 1, .inr (.inl lo)))])) ⟨hx, hb, hml, hown, hts⟩ (kX4_rule l hls D y3 h0 a0 b0 f0 g0 a1 nk f1 f2 f3 f4 f5 f6 f7 f8 f9 f10 nb nr kr pr k wg (by omega) (by omega)) gL_rule_X4_rule rfl hvX4_rule ⟨Nat.le_of_ble_eq_true rfl, Nat.le_of_ble_eq_true rfl⟩ hP hK hD hS hA hT [0, 1, 2, 3, 4] [5] [1, 2, 3, 4, 5, 0] rfl rfl rfl rfl (by decide) (fun _ => rfl) rfl rfl rfl rfl hl.1 rfl (Nat.le_of_ble_eq_true rfl) dL_rule_5 ⟨Nat.le_of_ble_eq_true rfl, Nat.le_of_ble_eq_true rfl⟩ (fun E ce q9 H locs hE hP hD hS h7 h8 h9 => ?_) (fun r5 u1 H locs hr5 hP hD hS => absurd hr5.1 hz)
  rcases xcd_3 hE with ⟨hz9, rfl⟩ | ⟨hz9, rfl⟩ | ⟨hz9, rfl⟩
  · refine vx_catch (own := RL) (name := xIO) hown [] ⟨0, 10, 13, 13⟩ [⟨0, 10, 17, 21⟩, ⟨0, 10, 21, 15⟩] htab (fun z h => (by cases h)) rfl (by decide) hk13 (lx_c hT (by simp [xE3])) h7 h8 h9 ?_
    refine lv_astore (lv' := [(4, .ref q9), (0, .ref h0), (1, .int k), (2, .int wg), (3, .ref o9)]) hx hb dL_rule_13 hl (by decide) rfl (fun ls hl => ?_)
    refine lv_iconst (v := (nI 1)) hx hb dL_rule_15 rfl ?_
    exact hret 16 ls H locs _ _ () _ hP hD hS (Nat.le_of_ble_eq_true rfl) (Nat.le_of_ble_eq_true rfl) (by rw [hz9]) dL_rule_16
  · refine vx_catch (own := RL) (name := xIA) hown [⟨0, 10, 13, 13⟩] ⟨0, 10, 17, 21⟩ [⟨0, 10, 21, 15⟩] htab (fun z h => by
        simp only [List.mem_cons, List.not_mem_nil, or_false] at h
        subst h
        exact Or.inr ⟨by decide, xIO, hk13, lx_IA hT⟩) rfl (by decide) hk21 (lx_c hT (by simp [xE3])) h7 h8 h9 ?_
    refine lv_astore (lv' := [(4, .ref q9), (0, .ref h0), (1, .int k), (2, .int wg), (3, .ref o9)]) hx hb dL_rule_17 hl (by decide) rfl (fun ls hl => ?_)
    refine lv_iconst (v := (nI 2)) hx hb dL_rule_19 rfl ?_
    exact hret 20 ls H locs _ _ () _ hP hD hS (Nat.le_of_ble_eq_true rfl) (Nat.le_of_ble_eq_true rfl) (by rw [hz9]) dL_rule_20
  · refine vx_catch (own := RL) (name := xIS) hown [⟨0, 10, 13, 13⟩, ⟨0, 10, 17, 21⟩] ⟨0, 10, 21, 15⟩ [] htab (fun z h => by
        simp only [List.mem_cons, List.not_mem_nil, or_false] at h
        rcases h with rfl | rfl
        · exact Or.inr ⟨by decide, xIO, hk13, lx_IS hT⟩
        · exact Or.inr ⟨by decide, xIA, hk21, lx_SA hT⟩) rfl (by decide) hk15 (lx_c hT (by simp [xE3])) h7 h8 h9 ?_
    refine lv_astore (lv' := [(4, .ref q9), (0, .ref h0), (1, .int k), (2, .int wg), (3, .ref o9)]) hx hb dL_rule_21 hl (by decide) rfl (fun ls hl => ?_)
    refine lv_iconst (v := (nI 3)) hx hb dL_rule_23 rfl ?_
    exact hret 24 ls H locs _ _ () _ hP hD hS (Nat.le_of_ble_eq_true rfl) (Nat.le_of_ble_eq_true rfl) (by rw [hz9]) dL_rule_24

set_option maxHeartbeats 4000000 in
set_option maxRecDepth 100000 in
theorem kL_test_ok (l : Launch) (hls : l.stackTraces = false) (D : va_G) (y3 : ClassId × ClassId × ClassId) (h0 : Nat) (a0 : Nat) (b0 : Nat) (f0 : Nat) (g0 : Nat) (f1 : Nat) (f2 : Nat) (f3 : Nat) (f4 : Nat) (f5 : Nat) (f6 : Nat) (f7 : Nat) (f8 : Nat) (f9 : Nat) (f10 : Nat) (nb : Nat) (nr : Nat) (tc : Nat → Nat) (lev : Nat → Nat) (fo : Nat → Nat) (tu : Nat → Nat) (wn : Nat → Int32) (mk : Nat → Int32) (ru : Int32) (dp : Int32) (fm : Int32) (tz : Int32) (vl : Int32) (mm : Int32) (o9 : Nat) (lo : Nat → Int64) (hnr : nr ≤ 12) (htc : ∀ q : Nat, tc q ≤ 6) (hlv : ∀ q : Nat, lev q ≤ 5) (hz : (ak3 (inB ru nr) (teB (gnl lev tc ru.toNatClampNeg) dp fm tz vl mm) (decide (tc ru.toNatClampNeg < 6))) = 0) : lxM l yL_test wsL_test 9 158 1 6 D y3 [(h0, .inr (4, [.ref a0, .ref b0, .ref f0, .ref g0])), (f0, .inr (0, [.ref f1, .int (nI nb), .ref f2, .ref f3, .ref f4, .int (nI nr), .ref f5, .ref f6, .ref f7, .ref f8, .ref f9, .ref f10])), (f4, .inl (y3.1, 12, .inl (fN tc))), (f5, .inl (y3.1, 72, .inl (fN lev))), (f6, .inl (y3.1, 72, .inl (fN fo))), (f7, .inl (y3.1, 72, .inl (fN tu))), (f8, .inl (y3.1, 72, .inl wn)), (f9, .inl (y3.1, 72, .inl mk)), (o9, .inl (y3.2.2, 1, .inr (.inl lo)))] [.ref h0, .int ru, .int dp, .int fm, .int tz, .int vl, .int mm, .ref o9] (fun r (_ : Unit) => r = (nI 0)) (fun (_ : Unit) => [(h0, .inr (4, [.ref a0, .ref b0, .ref f0, .ref g0])), (f0, .inr (0, [.ref f1, .int (nI nb), .ref f2, .ref f3, .ref f4, .int (nI nr), .ref f5, .ref f6, .ref f7, .ref f8, .ref f9, .ref f10])), (f4, .inl (y3.1, 12, .inl (fN (va_up tc ru.toNatClampNeg ((tc ru.toNatClampNeg) + 1))))), (f5, .inl (y3.1, 72, .inl (fN (va_up lev ((ru.toNatClampNeg * 6) + (tc ru.toNatClampNeg)) dp.toNatClampNeg)))), (f6, .inl (y3.1, 72, .inl (fN (va_up fo ((ru.toNatClampNeg * 6) + (tc ru.toNatClampNeg)) fm.toNatClampNeg)))), (f7, .inl (y3.1, 72, .inl (fN (va_up tu ((ru.toNatClampNeg * 6) + (tc ru.toNatClampNeg)) tz.toNatClampNeg)))), (f8, .inl (y3.1, 72, .inl (upd wn ((ru.toNatClampNeg * 6) + (tc ru.toNatClampNeg)) vl))), (f9, .inl (y3.1, 72, .inl (upd mk ((ru.toNatClampNeg * 6) + (tc ru.toNatClampNeg)) mm))), (o9, .inl (y3.2.2, 1, .inr (.inl (vp_updL lo 0 ((nI ((tc ru.toNatClampNeg) + 1))).toInt64))))]) := by
  refine lx_of (cc := cL_test) (maxL := 9) (by decide) rfl (Nat.le_of_ble_eq_true rfl) ?_
  intro p e s m args below meth c A Q hx hb hml hown hts htab hP hK hD hA hS hT hret ls hl
  have hown : s.vm.findClass RL = some m.cls := hown
  replace hl : lv_has ls 9 [(0, .ref h0), (1, .int ru), (2, .int dp), (3, .int fm), (4, .int tz), (5, .int vl), (6, .int mm), (7, .ref o9)] := hl
  refine lv_aload hx hb dL_test_0 (lv_at hl 7 rfl) ?_
  refine lv_iconst (v := (nI 0)) hx hb dL_test_2 rfl ?_
  refine lv_aload_n hx hb dL_test_3 rfl (lv_at hl 0 rfl) ?_
  refine lv_iload_n hx hb dL_test_4 rfl (lv_at hl 1 rfl) ?_
  refine lv_iload_n hx hb dL_test_5 rfl (lv_at hl 2 rfl) ?_
  refine lv_iload_n hx hb dL_test_6 rfl (lv_at hl 3 rfl) ?_
  refine lv_iload hx hb dL_test_7 (lv_at hl 4 rfl) ?_
  refine lv_iload hx hb dL_test_9 (lv_at hl 5 rfl) ?_
  refine lv_iload hx hb dL_test_11 (lv_at hl 6 rfl) ?_
  refine tx_V (ci := 4) (q0 := 0) (own := RL) (As := [.int ru, .int dp, .int fm, .int tz, .int vl, .int mm]) (rest := [.int (nI 0), .ref o9]) (bytes := cX4_test) (maxL := 7) (wr := [(o9, .inl (y3.2.2, 1, .inr (.inl lo)))]) (w3 := (fun (_ : Unit) => [(h0, .inr (4, [.ref a0, .ref b0, .ref f0, .ref g0])), (f0, .inr (0, [.ref f1, .int (nI nb), .ref f2, .ref f3, .ref f4, .int (nI nr), .ref f5, .ref f6, .ref f7, .ref f8, .ref f9, .ref f10])), (f4, .inl (y3.1, 12, .inl (fN (va_up tc ru.toNatClampNeg ((tc ru.toNatClampNeg) + 1))))), (f5, .inl (y3.1, 72, .inl (fN (va_up lev ((ru.toNatClampNeg * 6) + (tc ru.toNatClampNeg)) dp.toNatClampNeg)))), (f6, .inl (y3.1, 72, .inl (fN (va_up fo ((ru.toNatClampNeg * 6) + (tc ru.toNatClampNeg)) fm.toNatClampNeg)))), (f7, .inl (y3.1, 72, .inl (fN (va_up tu ((ru.toNatClampNeg * 6) + (tc ru.toNatClampNeg)) tz.toNatClampNeg)))), (f8, .inl (y3.1, 72, .inl (upd wn ((ru.toNatClampNeg * 6) + (tc ru.toNatClampNeg)) vl))), (f9, .inl (y3.1, 72, .inl (upd mk ((ru.toNatClampNeg * 6) + (tc ru.toNatClampNeg)) mm))), (o9, .inl (y3.2.2, 1, .inr (.inl lo)))])) ⟨hx, hb, hml, hown, hts⟩ (kX4_test l hls D y3 h0 a0 b0 f0 g0 f1 f2 f3 f4 f5 f6 f7 f8 f9 f10 nb nr tc lev fo tu wn mk ru dp fm tz vl mm (by omega) (by assumption) (by assumption)) gL_test_X4_test rfl hvX4_test ⟨Nat.le_of_ble_eq_true rfl, Nat.le_of_ble_eq_true rfl⟩ hP hK hD hS hA hT [0, 1, 2, 3, 4, 5, 6, 7] [8] [1, 2, 3, 4, 5, 6, 7, 8, 0] rfl rfl rfl rfl (by decide) (fun _ => rfl) rfl rfl rfl rfl hl.1 rfl (Nat.le_of_ble_eq_true rfl) dL_test_13 ⟨Nat.le_of_ble_eq_true rfl, Nat.le_of_ble_eq_true rfl⟩ (fun E ce q9 H locs hE hP hD hS h7 h8 h9 => xcd_no hz hE) (fun r13 u13 H locs hr13 hP hD hS => ?_)
  have hP : va_P D vwCl [(h0, .inr (4, [.ref a0, .ref b0, .ref f0, .ref g0])), (f0, .inr (0, [.ref f1, .int (nI nb), .ref f2, .ref f3, .ref f4, .int (nI nr), .ref f5, .ref f6, .ref f7, .ref f8, .ref f9, .ref f10])), (f4, .inl (y3.1, 12, .inl (fN (va_up tc ru.toNatClampNeg ((tc ru.toNatClampNeg) + 1))))), (f5, .inl (y3.1, 72, .inl (fN (va_up lev ((ru.toNatClampNeg * 6) + (tc ru.toNatClampNeg)) dp.toNatClampNeg)))), (f6, .inl (y3.1, 72, .inl (fN (va_up fo ((ru.toNatClampNeg * 6) + (tc ru.toNatClampNeg)) fm.toNatClampNeg)))), (f7, .inl (y3.1, 72, .inl (fN (va_up tu ((ru.toNatClampNeg * 6) + (tc ru.toNatClampNeg)) tz.toNatClampNeg)))), (f8, .inl (y3.1, 72, .inl (upd wn ((ru.toNatClampNeg * 6) + (tc ru.toNatClampNeg)) vl))), (f9, .inl (y3.1, 72, .inl (upd mk ((ru.toNatClampNeg * 6) + (tc ru.toNatClampNeg)) mm))), (o9, .inl (y3.2.2, 1, .inr (.inl lo)))] H := hP
  have hD : va_D A [(h0, .inr (4, [.ref a0, .ref b0, .ref f0, .ref g0])), (f0, .inr (0, [.ref f1, .int (nI nb), .ref f2, .ref f3, .ref f4, .int (nI nr), .ref f5, .ref f6, .ref f7, .ref f8, .ref f9, .ref f10])), (f4, .inl (y3.1, 12, .inl (fN (va_up tc ru.toNatClampNeg ((tc ru.toNatClampNeg) + 1))))), (f5, .inl (y3.1, 72, .inl (fN (va_up lev ((ru.toNatClampNeg * 6) + (tc ru.toNatClampNeg)) dp.toNatClampNeg)))), (f6, .inl (y3.1, 72, .inl (fN (va_up fo ((ru.toNatClampNeg * 6) + (tc ru.toNatClampNeg)) fm.toNatClampNeg)))), (f7, .inl (y3.1, 72, .inl (fN (va_up tu ((ru.toNatClampNeg * 6) + (tc ru.toNatClampNeg)) tz.toNatClampNeg)))), (f8, .inl (y3.1, 72, .inl (upd wn ((ru.toNatClampNeg * 6) + (tc ru.toNatClampNeg)) vl))), (f9, .inl (y3.1, 72, .inl (upd mk ((ru.toNatClampNeg * 6) + (tc ru.toNatClampNeg)) mm))), (o9, .inl (y3.2.2, 1, .inr (.inl lo)))] := hD
  rw [hr13.2]
  refine lv_i2l (v := (nI ((tc ru.toNatClampNeg) + 1)).toInt64) hx hb dL_test_16 rfl ?_
  refine ln_last hx hb hK hP hD hS 8 2 rfl rfl (by omega) (by decide) dL_test_17 _ rfl (fun H locs hP hD hS => ?_)
  have hP : va_P D vwCl [(h0, .inr (4, [.ref a0, .ref b0, .ref f0, .ref g0])), (f0, .inr (0, [.ref f1, .int (nI nb), .ref f2, .ref f3, .ref f4, .int (nI nr), .ref f5, .ref f6, .ref f7, .ref f8, .ref f9, .ref f10])), (f4, .inl (y3.1, 12, .inl (fN (va_up tc ru.toNatClampNeg ((tc ru.toNatClampNeg) + 1))))), (f5, .inl (y3.1, 72, .inl (fN (va_up lev ((ru.toNatClampNeg * 6) + (tc ru.toNatClampNeg)) dp.toNatClampNeg)))), (f6, .inl (y3.1, 72, .inl (fN (va_up fo ((ru.toNatClampNeg * 6) + (tc ru.toNatClampNeg)) fm.toNatClampNeg)))), (f7, .inl (y3.1, 72, .inl (fN (va_up tu ((ru.toNatClampNeg * 6) + (tc ru.toNatClampNeg)) tz.toNatClampNeg)))), (f8, .inl (y3.1, 72, .inl (upd wn ((ru.toNatClampNeg * 6) + (tc ru.toNatClampNeg)) vl))), (f9, .inl (y3.1, 72, .inl (upd mk ((ru.toNatClampNeg * 6) + (tc ru.toNatClampNeg)) mm))), (o9, .inl (y3.2.2, 1, .inr (.inl (vp_updL lo 0 ((nI ((tc ru.toNatClampNeg) + 1)).toInt64)))))] H := hP
  have hD : va_D A [(h0, .inr (4, [.ref a0, .ref b0, .ref f0, .ref g0])), (f0, .inr (0, [.ref f1, .int (nI nb), .ref f2, .ref f3, .ref f4, .int (nI nr), .ref f5, .ref f6, .ref f7, .ref f8, .ref f9, .ref f10])), (f4, .inl (y3.1, 12, .inl (fN (va_up tc ru.toNatClampNeg ((tc ru.toNatClampNeg) + 1))))), (f5, .inl (y3.1, 72, .inl (fN (va_up lev ((ru.toNatClampNeg * 6) + (tc ru.toNatClampNeg)) dp.toNatClampNeg)))), (f6, .inl (y3.1, 72, .inl (fN (va_up fo ((ru.toNatClampNeg * 6) + (tc ru.toNatClampNeg)) fm.toNatClampNeg)))), (f7, .inl (y3.1, 72, .inl (fN (va_up tu ((ru.toNatClampNeg * 6) + (tc ru.toNatClampNeg)) tz.toNatClampNeg)))), (f8, .inl (y3.1, 72, .inl (upd wn ((ru.toNatClampNeg * 6) + (tc ru.toNatClampNeg)) vl))), (f9, .inl (y3.1, 72, .inl (upd mk ((ru.toNatClampNeg * 6) + (tc ru.toNatClampNeg)) mm))), (o9, .inl (y3.2.2, 1, .inr (.inl (vp_updL lo 0 ((nI ((tc ru.toNatClampNeg) + 1)).toInt64)))))] := hD
  refine lv_goto (tgt := 33) hx hb dL_test_18 (by decide) ?_
  refine lv_iconst (v := (nI 0)) hx hb dL_test_33 rfl ?_
  exact hret 34 ls H locs _ _ () _ hP hD hS (Nat.le_of_ble_eq_true rfl) (Nat.le_of_ble_eq_true rfl) rfl dL_test_34

set_option maxHeartbeats 4000000 in
set_option maxRecDepth 100000 in
theorem kL_test_ex (l : Launch) (hls : l.stackTraces = false) (D : va_G) (y3 : ClassId × ClassId × ClassId) (h0 : Nat) (a0 : Nat) (b0 : Nat) (f0 : Nat) (g0 : Nat) (f1 : Nat) (f2 : Nat) (f3 : Nat) (f4 : Nat) (f5 : Nat) (f6 : Nat) (f7 : Nat) (f8 : Nat) (f9 : Nat) (f10 : Nat) (nb : Nat) (nr : Nat) (tc : Nat → Nat) (lev : Nat → Nat) (fo : Nat → Nat) (tu : Nat → Nat) (wn : Nat → Int32) (mk : Nat → Int32) (ru : Int32) (dp : Int32) (fm : Int32) (tz : Int32) (vl : Int32) (mm : Int32) (o9 : Nat) (lo : Nat → Int64) (hnr : nr ≤ 12) (htc : ∀ q : Nat, tc q ≤ 6) (hlv : ∀ q : Nat, lev q ≤ 5) (hz : ¬ (ak3 (inB ru nr) (teB (gnl lev tc ru.toNatClampNeg) dp fm tz vl mm) (decide (tc ru.toNatClampNeg < 6))) = 0) : lxM l yL_test wsL_test 9 158 1 6 D y3 [(h0, .inr (4, [.ref a0, .ref b0, .ref f0, .ref g0])), (f0, .inr (0, [.ref f1, .int (nI nb), .ref f2, .ref f3, .ref f4, .int (nI nr), .ref f5, .ref f6, .ref f7, .ref f8, .ref f9, .ref f10])), (f4, .inl (y3.1, 12, .inl (fN tc))), (f5, .inl (y3.1, 72, .inl (fN lev))), (f6, .inl (y3.1, 72, .inl (fN fo))), (f7, .inl (y3.1, 72, .inl (fN tu))), (f8, .inl (y3.1, 72, .inl wn)), (f9, .inl (y3.1, 72, .inl mk)), (o9, .inl (y3.2.2, 1, .inr (.inl lo)))] [.ref h0, .int ru, .int dp, .int fm, .int tz, .int vl, .int mm, .ref o9] (fun r (_ : Unit) => r = (nI (ak3 (inB ru nr) (teB (gnl lev tc ru.toNatClampNeg) dp fm tz vl mm) (decide (tc ru.toNatClampNeg < 6))))) (fun (_ : Unit) => [(h0, .inr (4, [.ref a0, .ref b0, .ref f0, .ref g0])), (f0, .inr (0, [.ref f1, .int (nI nb), .ref f2, .ref f3, .ref f4, .int (nI nr), .ref f5, .ref f6, .ref f7, .ref f8, .ref f9, .ref f10])), (f4, .inl (y3.1, 12, .inl (fN tc))), (f5, .inl (y3.1, 72, .inl (fN lev))), (f6, .inl (y3.1, 72, .inl (fN fo))), (f7, .inl (y3.1, 72, .inl (fN tu))), (f8, .inl (y3.1, 72, .inl wn)), (f9, .inl (y3.1, 72, .inl mk)), (o9, .inl (y3.2.2, 1, .inr (.inl lo)))]) := by
  refine lx_of (cc := cL_test) (maxL := 9) (by decide) rfl (Nat.le_of_ble_eq_true rfl) ?_
  intro p e s m args below meth c A Q hx hb hml hown hts htab hP hK hD hA hS hT hret ls hl
  have hown : s.vm.findClass RL = some m.cls := hown
  replace hl : lv_has ls 9 [(0, .ref h0), (1, .int ru), (2, .int dp), (3, .int fm), (4, .int tz), (5, .int vl), (6, .int mm), (7, .ref o9)] := hl
  have hk13 := hts (.classLink RL 13 xIO) (by decide +kernel)
  have hk15 := hts (.classLink RL 15 xIS) (by decide +kernel)
  have hk21 := hts (.classLink RL 21 xIA) (by decide +kernel)
  refine lv_aload hx hb dL_test_0 (lv_at hl 7 rfl) ?_
  refine lv_iconst (v := (nI 0)) hx hb dL_test_2 rfl ?_
  refine lv_aload_n hx hb dL_test_3 rfl (lv_at hl 0 rfl) ?_
  refine lv_iload_n hx hb dL_test_4 rfl (lv_at hl 1 rfl) ?_
  refine lv_iload_n hx hb dL_test_5 rfl (lv_at hl 2 rfl) ?_
  refine lv_iload_n hx hb dL_test_6 rfl (lv_at hl 3 rfl) ?_
  refine lv_iload hx hb dL_test_7 (lv_at hl 4 rfl) ?_
  refine lv_iload hx hb dL_test_9 (lv_at hl 5 rfl) ?_
  refine lv_iload hx hb dL_test_11 (lv_at hl 6 rfl) ?_
  refine tx_V (ci := 4) (q0 := 0) (own := RL) (As := [.int ru, .int dp, .int fm, .int tz, .int vl, .int mm]) (rest := [.int (nI 0), .ref o9]) (bytes := cX4_test) (maxL := 7) (wr := [(o9, .inl (y3.2.2, 1, .inr (.inl lo)))]) (w3 := (fun (_ : Unit) => [(h0, .inr (4, [.ref a0, .ref b0, .ref f0, .ref g0])), (f0, .inr (0, [.ref f1, .int (nI nb), .ref f2, .ref f3, .ref f4, .int (nI nr), .ref f5, .ref f6, .ref f7, .ref f8, .ref f9, .ref f10])), (f4, .inl (y3.1, 12, .inl (fN (va_up tc ru.toNatClampNeg ((tc ru.toNatClampNeg) + 1))))), (f5, .inl (y3.1, 72, .inl (fN (va_up lev ((ru.toNatClampNeg * 6) + (tc ru.toNatClampNeg)) dp.toNatClampNeg)))), (f6, .inl (y3.1, 72, .inl (fN (va_up fo ((ru.toNatClampNeg * 6) + (tc ru.toNatClampNeg)) fm.toNatClampNeg)))), (f7, .inl (y3.1, 72, .inl (fN (va_up tu ((ru.toNatClampNeg * 6) + (tc ru.toNatClampNeg)) tz.toNatClampNeg)))), (f8, .inl (y3.1, 72, .inl (upd wn ((ru.toNatClampNeg * 6) + (tc ru.toNatClampNeg)) vl))), (f9, .inl (y3.1, 72, .inl (upd mk ((ru.toNatClampNeg * 6) + (tc ru.toNatClampNeg)) mm))), (o9, .inl (y3.2.2, 1, .inr (.inl lo)))])) ⟨hx, hb, hml, hown, hts⟩ (kX4_test l hls D y3 h0 a0 b0 f0 g0 f1 f2 f3 f4 f5 f6 f7 f8 f9 f10 nb nr tc lev fo tu wn mk ru dp fm tz vl mm (by omega) (by assumption) (by assumption)) gL_test_X4_test rfl hvX4_test ⟨Nat.le_of_ble_eq_true rfl, Nat.le_of_ble_eq_true rfl⟩ hP hK hD hS hA hT [0, 1, 2, 3, 4, 5, 6, 7] [8] [1, 2, 3, 4, 5, 6, 7, 8, 0] rfl rfl rfl rfl (by decide) (fun _ => rfl) rfl rfl rfl rfl hl.1 rfl (Nat.le_of_ble_eq_true rfl) dL_test_13 ⟨Nat.le_of_ble_eq_true rfl, Nat.le_of_ble_eq_true rfl⟩ (fun E ce q9 H locs hE hP hD hS h7 h8 h9 => ?_) (fun r13 u1 H locs hr13 hP hD hS => absurd hr13.1 hz)
  rcases xcd_3 hE with ⟨hz9, rfl⟩ | ⟨hz9, rfl⟩ | ⟨hz9, rfl⟩
  · refine vx_catch (own := RL) (name := xIO) hown [] ⟨0, 18, 21, 13⟩ [⟨0, 18, 25, 21⟩, ⟨0, 18, 29, 15⟩] htab (fun z h => (by cases h)) rfl (by decide) hk13 (lx_c hT (by simp [xE3])) h7 h8 h9 ?_
    refine lv_astore (lv' := [(8, .ref q9), (0, .ref h0), (1, .int ru), (2, .int dp), (3, .int fm), (4, .int tz), (5, .int vl), (6, .int mm), (7, .ref o9)]) hx hb dL_test_21 hl (by decide) rfl (fun ls hl => ?_)
    refine lv_iconst (v := (nI 1)) hx hb dL_test_23 rfl ?_
    exact hret 24 ls H locs _ _ () _ hP hD hS (Nat.le_of_ble_eq_true rfl) (Nat.le_of_ble_eq_true rfl) (by rw [hz9]) dL_test_24
  · refine vx_catch (own := RL) (name := xIA) hown [⟨0, 18, 21, 13⟩] ⟨0, 18, 25, 21⟩ [⟨0, 18, 29, 15⟩] htab (fun z h => by
        simp only [List.mem_cons, List.not_mem_nil, or_false] at h
        subst h
        exact Or.inr ⟨by decide, xIO, hk13, lx_IA hT⟩) rfl (by decide) hk21 (lx_c hT (by simp [xE3])) h7 h8 h9 ?_
    refine lv_astore (lv' := [(8, .ref q9), (0, .ref h0), (1, .int ru), (2, .int dp), (3, .int fm), (4, .int tz), (5, .int vl), (6, .int mm), (7, .ref o9)]) hx hb dL_test_25 hl (by decide) rfl (fun ls hl => ?_)
    refine lv_iconst (v := (nI 2)) hx hb dL_test_27 rfl ?_
    exact hret 28 ls H locs _ _ () _ hP hD hS (Nat.le_of_ble_eq_true rfl) (Nat.le_of_ble_eq_true rfl) (by rw [hz9]) dL_test_28
  · refine vx_catch (own := RL) (name := xIS) hown [⟨0, 18, 21, 13⟩, ⟨0, 18, 25, 21⟩] ⟨0, 18, 29, 15⟩ [] htab (fun z h => by
        simp only [List.mem_cons, List.not_mem_nil, or_false] at h
        rcases h with rfl | rfl
        · exact Or.inr ⟨by decide, xIO, hk13, lx_IS hT⟩
        · exact Or.inr ⟨by decide, xIA, hk21, lx_SA hT⟩) rfl (by decide) hk15 (lx_c hT (by simp [xE3])) h7 h8 h9 ?_
    refine lv_astore (lv' := [(8, .ref q9), (0, .ref h0), (1, .int ru), (2, .int dp), (3, .int fm), (4, .int tz), (5, .int vl), (6, .int mm), (7, .ref o9)]) hx hb dL_test_29 hl (by decide) rfl (fun ls hl => ?_)
    refine lv_iconst (v := (nI 3)) hx hb dL_test_31 rfl ?_
    exact hret 32 ls H locs _ _ () _ hP hD hS (Nat.le_of_ble_eq_true rfl) (Nat.le_of_ble_eq_true rfl) (by rw [hz9]) dL_test_32

set_option maxHeartbeats 4000000 in
set_option maxRecDepth 100000 in
theorem kL_isSpecial_ok (l : Launch) (hls : l.stackTraces = false) (D : va_G) (y3 : ClassId × ClassId × ClassId) (h0 : Nat) (a0 : Nat) (b0 : Nat) (f0 : Nat) (g0 : Nat) (a1 : Nat) (nk : Nat) (par : Nat → Int32) (k : Int32) (o : Int32) (o9 : Nat) (lo : Nat → Int64) (hk : nk ≤ 14) (hp : parOK par nk) (hz : (ak1 (inB k nk && inB o nk)) = 0) : lxM l yL_isSpecial wsL_isSpecial 8 133 1 6 D y3 [(h0, .inr (4, [.ref a0, .ref b0, .ref f0, .ref g0])), (a0, .inr (1, [.ref a1, .int (nI nk)])), (a1, .inl (y3.1, 14, .inl par)), (o9, .inl (y3.2.2, 1, .inr (.inl lo)))] [.ref h0, .int k, .int o, .ref o9] (fun r (_ : Unit) => r = (nI 0)) (fun (_ : Unit) => [(h0, .inr (4, [.ref a0, .ref b0, .ref f0, .ref g0])), (a0, .inr (1, [.ref a1, .int (nI nk)])), (a1, .inl (y3.1, 14, .inl par)), (o9, .inl (y3.2.2, 1, .inr (.inl (vp_updL lo 0 (bL (spc par 14 k o))))))]) := by
  refine lx_of (cc := cL_isSpecial) (maxL := 5) (by decide) rfl (Nat.le_of_ble_eq_true rfl) ?_
  intro p e s m args below meth c A Q hx hb hml hown hts htab hP hK hD hA hS hT hret ls hl
  have hown : s.vm.findClass RL = some m.cls := hown
  replace hl : lv_has ls 5 [(0, .ref h0), (1, .int k), (2, .int o), (3, .ref o9)] := hl
  refine lv_aload_n hx hb dL_isSpecial_0 rfl (lv_at hl 3 rfl) ?_
  refine lv_iconst (v := (nI 0)) hx hb dL_isSpecial_1 rfl ?_
  refine lv_aload_n hx hb dL_isSpecial_2 rfl (lv_at hl 0 rfl) ?_
  refine lv_iload_n hx hb dL_isSpecial_3 rfl (lv_at hl 1 rfl) ?_
  refine lv_iload_n hx hb dL_isSpecial_4 rfl (lv_at hl 2 rfl) ?_
  refine tx_V (ci := 4) (q0 := 0) (own := RL) (As := [.int k, .int o]) (rest := [.int (nI 0), .ref o9]) (bytes := cX4_isSpecial) (maxL := 3) (wr := [(o9, .inl (y3.2.2, 1, .inr (.inl lo)))]) (w3 := (fun (_ : Unit) => [(h0, .inr (4, [.ref a0, .ref b0, .ref f0, .ref g0])), (a0, .inr (1, [.ref a1, .int (nI nk)])), (a1, .inl (y3.1, 14, .inl par)), (o9, .inl (y3.2.2, 1, .inr (.inl lo)))])) ⟨hx, hb, hml, hown, hts⟩ (kX4_isSpecial l hls D y3 h0 a0 b0 f0 g0 a1 nk par k o (by omega) (by assumption)) gL_isSpecial_X4_isSpecial rfl hvX4_isSpecial ⟨Nat.le_of_ble_eq_true rfl, Nat.le_of_ble_eq_true rfl⟩ hP hK hD hS hA hT [0, 1, 2] [3] [1, 2, 3, 0] rfl rfl rfl rfl (by decide) (fun _ => rfl) rfl rfl rfl rfl hl.1 rfl (Nat.le_of_ble_eq_true rfl) dL_isSpecial_5 ⟨Nat.le_of_ble_eq_true rfl, Nat.le_of_ble_eq_true rfl⟩ (fun E ce q9 H locs hE hP hD hS h7 h8 h9 => xcd_no hz hE) (fun r5 u5 H locs hr5 hP hD hS => ?_)
  have hP : va_P D vwCl [(h0, .inr (4, [.ref a0, .ref b0, .ref f0, .ref g0])), (a0, .inr (1, [.ref a1, .int (nI nk)])), (a1, .inl (y3.1, 14, .inl par)), (o9, .inl (y3.2.2, 1, .inr (.inl lo)))] H := hP
  have hD : va_D A [(h0, .inr (4, [.ref a0, .ref b0, .ref f0, .ref g0])), (a0, .inr (1, [.ref a1, .int (nI nk)])), (a1, .inl (y3.1, 14, .inl par)), (o9, .inl (y3.2.2, 1, .inr (.inl lo)))] := hD
  rw [hr5.2]
  have jn16 : ∀ (j9 : Int64), (j9 = bL (spc par 14 k o)) → ∀ (H : Heap) (locs : List Loc), va_P D vwCl [(h0, .inr (4, [.ref a0, .ref b0, .ref f0, .ref g0])), (a0, .inr (1, [.ref a1, .int (nI nk)])), (a1, .inl (y3.1, 14, .inl par)), (o9, .inl (y3.2.2, 1, .inr (.inl lo)))] H → va_D A [(h0, .inr (4, [.ref a0, .ref b0, .ref f0, .ref g0])), (a0, .inr (1, [.ref a1, .int (nI nk)])), (a1, .inl (y3.1, 14, .inl par)), (o9, .inl (y3.2.2, 1, .inr (.inl lo)))] → va_S A s.heap H locs → ∀ ls : Array Slot, lv_has ls 5 [(0, .ref h0), (1, .int k), (2, .int o), (3, .ref o9)] → W p l e (rmO 8 1 6 133) s m args below meth c H locs 0 0 Q (F0 m 16 ls [.long j9, .int (nI 0), .ref o9]) := by
    intro j9 hj9 H locs hP hD hS ls hl
    refine ln_last hx hb hK hP hD hS 3 2 rfl rfl (by omega) (by decide) dL_isSpecial_16 _ rfl (fun H locs hP hD hS => ?_)
    have hP : va_P D vwCl [(h0, .inr (4, [.ref a0, .ref b0, .ref f0, .ref g0])), (a0, .inr (1, [.ref a1, .int (nI nk)])), (a1, .inl (y3.1, 14, .inl par)), (o9, .inl (y3.2.2, 1, .inr (.inl (vp_updL lo 0 j9))))] H := hP
    have hD : va_D A [(h0, .inr (4, [.ref a0, .ref b0, .ref f0, .ref g0])), (a0, .inr (1, [.ref a1, .int (nI nk)])), (a1, .inl (y3.1, 14, .inl par)), (o9, .inl (y3.2.2, 1, .inr (.inl (vp_updL lo 0 j9))))] := hD
    refine lv_goto (tgt := 24) hx hb dL_isSpecial_17 (by decide) ?_
    refine lv_iconst (v := (nI 0)) hx hb dL_isSpecial_24 rfl ?_
    rw [hj9] at hP hD
    exact hret 25 ls H locs _ _ () _ hP hD hS (Nat.le_of_ble_eq_true rfl) (Nat.le_of_ble_eq_true rfl) rfl dL_isSpecial_25
  refine lb_if_eq (tgt := 15) hx hb dL_isSpecial_8 (by decide) (fun c8 => ?_) (fun c8 => ?_)
  · refine lv_lconst (v := 0) hx hb dL_isSpecial_15 rfl ?_
    exact jn16 0 (by rw [c8]; rfl) _ _ hP hD hS _ (lv_sub hl [0, 1, 2, 3] rfl)
  · refine lv_lconst (v := 1) hx hb dL_isSpecial_11 rfl ?_
    refine lv_goto (tgt := 16) hx hb dL_isSpecial_12 (by decide) ?_
    exact jn16 1 (by rw [c8]; rfl) _ _ hP hD hS _ (lv_sub hl [0, 1, 2, 3] rfl)

set_option maxHeartbeats 4000000 in
set_option maxRecDepth 100000 in
theorem kL_isSpecial_ex (l : Launch) (hls : l.stackTraces = false) (D : va_G) (y3 : ClassId × ClassId × ClassId) (h0 : Nat) (a0 : Nat) (b0 : Nat) (f0 : Nat) (g0 : Nat) (a1 : Nat) (nk : Nat) (par : Nat → Int32) (k : Int32) (o : Int32) (o9 : Nat) (lo : Nat → Int64) (hk : nk ≤ 14) (hp : parOK par nk) (hz : ¬ (ak1 (inB k nk && inB o nk)) = 0) : lxM l yL_isSpecial wsL_isSpecial 8 133 1 6 D y3 [(h0, .inr (4, [.ref a0, .ref b0, .ref f0, .ref g0])), (a0, .inr (1, [.ref a1, .int (nI nk)])), (a1, .inl (y3.1, 14, .inl par)), (o9, .inl (y3.2.2, 1, .inr (.inl lo)))] [.ref h0, .int k, .int o, .ref o9] (fun r (_ : Unit) => r = (nI (ak1 (inB k nk && inB o nk)))) (fun (_ : Unit) => [(h0, .inr (4, [.ref a0, .ref b0, .ref f0, .ref g0])), (a0, .inr (1, [.ref a1, .int (nI nk)])), (a1, .inl (y3.1, 14, .inl par)), (o9, .inl (y3.2.2, 1, .inr (.inl lo)))]) := by
  refine lx_of (cc := cL_isSpecial) (maxL := 5) (by decide) rfl (Nat.le_of_ble_eq_true rfl) ?_
  intro p e s m args below meth c A Q hx hb hml hown hts htab hP hK hD hA hS hT hret ls hl
  have hown : s.vm.findClass RL = some m.cls := hown
  replace hl : lv_has ls 5 [(0, .ref h0), (1, .int k), (2, .int o), (3, .ref o9)] := hl
  have hk13 := hts (.classLink RL 13 xIO) (by decide +kernel)
  refine lv_aload_n hx hb dL_isSpecial_0 rfl (lv_at hl 3 rfl) ?_
  refine lv_iconst (v := (nI 0)) hx hb dL_isSpecial_1 rfl ?_
  refine lv_aload_n hx hb dL_isSpecial_2 rfl (lv_at hl 0 rfl) ?_
  refine lv_iload_n hx hb dL_isSpecial_3 rfl (lv_at hl 1 rfl) ?_
  refine lv_iload_n hx hb dL_isSpecial_4 rfl (lv_at hl 2 rfl) ?_
  refine tx_V (ci := 4) (q0 := 0) (own := RL) (As := [.int k, .int o]) (rest := [.int (nI 0), .ref o9]) (bytes := cX4_isSpecial) (maxL := 3) (wr := [(o9, .inl (y3.2.2, 1, .inr (.inl lo)))]) (w3 := (fun (_ : Unit) => [(h0, .inr (4, [.ref a0, .ref b0, .ref f0, .ref g0])), (a0, .inr (1, [.ref a1, .int (nI nk)])), (a1, .inl (y3.1, 14, .inl par)), (o9, .inl (y3.2.2, 1, .inr (.inl lo)))])) ⟨hx, hb, hml, hown, hts⟩ (kX4_isSpecial l hls D y3 h0 a0 b0 f0 g0 a1 nk par k o (by omega) (by assumption)) gL_isSpecial_X4_isSpecial rfl hvX4_isSpecial ⟨Nat.le_of_ble_eq_true rfl, Nat.le_of_ble_eq_true rfl⟩ hP hK hD hS hA hT [0, 1, 2] [3] [1, 2, 3, 0] rfl rfl rfl rfl (by decide) (fun _ => rfl) rfl rfl rfl rfl hl.1 rfl (Nat.le_of_ble_eq_true rfl) dL_isSpecial_5 ⟨Nat.le_of_ble_eq_true rfl, Nat.le_of_ble_eq_true rfl⟩ (fun E ce q9 H locs hE hP hD hS h7 h8 h9 => ?_) (fun r5 u1 H locs hr5 hP hD hS => absurd hr5.1 hz)
  obtain ⟨hz9, rfl⟩ := xcd_1 hE
  refine vx_catch (own := RL) (name := xIO) hown [] ⟨0, 17, 20, 13⟩ [] htab (fun z h => (by cases h)) rfl (by decide) hk13 (lx_c hT (by simp [xE3])) h7 h8 h9 ?_
  refine lv_astore (lv' := [(4, .ref q9), (0, .ref h0), (1, .int k), (2, .int o), (3, .ref o9)]) hx hb dL_isSpecial_20 hl (by decide) rfl (fun ls hl => ?_)
  refine lv_iconst (v := (nI 1)) hx hb dL_isSpecial_22 rfl ?_
  exact hret 23 ls H locs _ _ () _ hP hD hS (Nat.le_of_ble_eq_true rfl) (Nat.le_of_ble_eq_true rfl) (by rw [hz9]) dL_isSpecial_23

set_option maxHeartbeats 4000000 in
set_option maxRecDepth 100000 in
theorem kL_letter_ok (l : Launch) (hls : l.stackTraces = false) (D : va_G) (y3 : ClassId × ClassId × ClassId) (h0 : Nat) (a0 : Nat) (b0 : Nat) (f0 : Nat) (g0 : Nat) (b1 : Nat) (b2 : Nat) (b3 : Nat) (b4 : Nat) (b5 : Nat) (b6 : Nat) (b7 : Nat) (nl : Nat) (np : Nat) (nt : Nat) (lt : Nat → Int32) (k : Int32) (o9 : Nat) (lo : Nat → Int64) (hnl : nl ≤ 12) (hz : (ak2 (rgB k (nI 0) (nI 9)) (decide (nl < 12))) = 0) : lxM l yL_letter wsL_letter 9 153 1 6 D y3 [(h0, .inr (4, [.ref a0, .ref b0, .ref f0, .ref g0])), (b0, .inr (2, [.ref b1, .int (nI nl), .ref b2, .ref b3, .ref b4, .ref b5, .ref b6, .int (nI np), .int (nI nt), .ref b7])), (b1, .inl (y3.1, 12, .inl lt)), (o9, .inl (y3.2.2, 1, .inr (.inl lo)))] [.ref h0, .int k, .ref o9] (fun r (_ : Unit) => r = (nI 0)) (fun (_ : Unit) => [(h0, .inr (4, [.ref a0, .ref b0, .ref f0, .ref g0])), (b0, .inr (2, [.ref b1, .int (nI (nl + 1)), .ref b2, .ref b3, .ref b4, .ref b5, .ref b6, .int (nI np), .int (nI nt), .ref b7])), (b1, .inl (y3.1, 12, .inl (upd lt nl k))), (o9, .inl (y3.2.2, 1, .inr (.inl (vp_updL lo 0 ((nI (nl + 1))).toInt64))))]) := by
  refine lx_of (cc := cL_letter) (maxL := 4) (by decide) rfl (Nat.le_of_ble_eq_true rfl) ?_
  intro p e s m args below meth c A Q hx hb hml hown hts htab hP hK hD hA hS hT hret ls hl
  have hown : s.vm.findClass RL = some m.cls := hown
  replace hl : lv_has ls 4 [(0, .ref h0), (1, .int k), (2, .ref o9)] := hl
  refine lv_aload_n hx hb dL_letter_0 rfl (lv_at hl 2 rfl) ?_
  refine lv_iconst (v := (nI 0)) hx hb dL_letter_1 rfl ?_
  refine lv_aload_n hx hb dL_letter_2 rfl (lv_at hl 0 rfl) ?_
  refine lv_iload_n hx hb dL_letter_3 rfl (lv_at hl 1 rfl) ?_
  refine tx_V (ci := 4) (q0 := 0) (own := RL) (As := [.int k]) (rest := [.int (nI 0), .ref o9]) (bytes := cX4_letter) (maxL := 2) (wr := [(o9, .inl (y3.2.2, 1, .inr (.inl lo)))]) (w3 := (fun (_ : Unit) => [(h0, .inr (4, [.ref a0, .ref b0, .ref f0, .ref g0])), (b0, .inr (2, [.ref b1, .int (nI (nl + 1)), .ref b2, .ref b3, .ref b4, .ref b5, .ref b6, .int (nI np), .int (nI nt), .ref b7])), (b1, .inl (y3.1, 12, .inl (upd lt nl k))), (o9, .inl (y3.2.2, 1, .inr (.inl lo)))])) ⟨hx, hb, hml, hown, hts⟩ (kX4_letter l hls D y3 h0 a0 b0 f0 g0 b1 b2 b3 b4 b5 b6 b7 nl np nt lt k (by omega)) gL_letter_X4_letter rfl hvX4_letter ⟨Nat.le_of_ble_eq_true rfl, Nat.le_of_ble_eq_true rfl⟩ hP hK hD hS hA hT [0, 1, 2] [3] [1, 2, 3, 0] rfl rfl rfl rfl (by decide) (fun _ => rfl) rfl rfl rfl rfl hl.1 rfl (Nat.le_of_ble_eq_true rfl) dL_letter_4 ⟨Nat.le_of_ble_eq_true rfl, Nat.le_of_ble_eq_true rfl⟩ (fun E ce q9 H locs hE hP hD hS h7 h8 h9 => xcd_no hz hE) (fun r4 u4 H locs hr4 hP hD hS => ?_)
  have hP : va_P D vwCl [(h0, .inr (4, [.ref a0, .ref b0, .ref f0, .ref g0])), (b0, .inr (2, [.ref b1, .int (nI (nl + 1)), .ref b2, .ref b3, .ref b4, .ref b5, .ref b6, .int (nI np), .int (nI nt), .ref b7])), (b1, .inl (y3.1, 12, .inl (upd lt nl k))), (o9, .inl (y3.2.2, 1, .inr (.inl lo)))] H := hP
  have hD : va_D A [(h0, .inr (4, [.ref a0, .ref b0, .ref f0, .ref g0])), (b0, .inr (2, [.ref b1, .int (nI (nl + 1)), .ref b2, .ref b3, .ref b4, .ref b5, .ref b6, .int (nI np), .int (nI nt), .ref b7])), (b1, .inl (y3.1, 12, .inl (upd lt nl k))), (o9, .inl (y3.2.2, 1, .inr (.inl lo)))] := hD
  rw [hr4.2]
  refine lv_i2l (v := (nI (nl + 1)).toInt64) hx hb dL_letter_7 rfl ?_
  refine ln_last hx hb hK hP hD hS 3 2 rfl rfl (by omega) (by decide) dL_letter_8 _ rfl (fun H locs hP hD hS => ?_)
  have hP : va_P D vwCl [(h0, .inr (4, [.ref a0, .ref b0, .ref f0, .ref g0])), (b0, .inr (2, [.ref b1, .int (nI (nl + 1)), .ref b2, .ref b3, .ref b4, .ref b5, .ref b6, .int (nI np), .int (nI nt), .ref b7])), (b1, .inl (y3.1, 12, .inl (upd lt nl k))), (o9, .inl (y3.2.2, 1, .inr (.inl (vp_updL lo 0 ((nI (nl + 1)).toInt64)))))] H := hP
  have hD : va_D A [(h0, .inr (4, [.ref a0, .ref b0, .ref f0, .ref g0])), (b0, .inr (2, [.ref b1, .int (nI (nl + 1)), .ref b2, .ref b3, .ref b4, .ref b5, .ref b6, .int (nI np), .int (nI nt), .ref b7])), (b1, .inl (y3.1, 12, .inl (upd lt nl k))), (o9, .inl (y3.2.2, 1, .inr (.inl (vp_updL lo 0 ((nI (nl + 1)).toInt64)))))] := hD
  refine lv_goto (tgt := 18) hx hb dL_letter_9 (by decide) ?_
  refine lv_iconst (v := (nI 0)) hx hb dL_letter_18 rfl ?_
  exact hret 19 ls H locs _ _ () _ hP hD hS (Nat.le_of_ble_eq_true rfl) (Nat.le_of_ble_eq_true rfl) rfl dL_letter_19

set_option maxHeartbeats 4000000 in
set_option maxRecDepth 100000 in
theorem kL_letter_ex (l : Launch) (hls : l.stackTraces = false) (D : va_G) (y3 : ClassId × ClassId × ClassId) (h0 : Nat) (a0 : Nat) (b0 : Nat) (f0 : Nat) (g0 : Nat) (b1 : Nat) (b2 : Nat) (b3 : Nat) (b4 : Nat) (b5 : Nat) (b6 : Nat) (b7 : Nat) (nl : Nat) (np : Nat) (nt : Nat) (lt : Nat → Int32) (k : Int32) (o9 : Nat) (lo : Nat → Int64) (hnl : nl ≤ 12) (hz : ¬ (ak2 (rgB k (nI 0) (nI 9)) (decide (nl < 12))) = 0) : lxM l yL_letter wsL_letter 9 153 1 6 D y3 [(h0, .inr (4, [.ref a0, .ref b0, .ref f0, .ref g0])), (b0, .inr (2, [.ref b1, .int (nI nl), .ref b2, .ref b3, .ref b4, .ref b5, .ref b6, .int (nI np), .int (nI nt), .ref b7])), (b1, .inl (y3.1, 12, .inl lt)), (o9, .inl (y3.2.2, 1, .inr (.inl lo)))] [.ref h0, .int k, .ref o9] (fun r (_ : Unit) => r = (nI (ak2 (rgB k (nI 0) (nI 9)) (decide (nl < 12))))) (fun (_ : Unit) => [(h0, .inr (4, [.ref a0, .ref b0, .ref f0, .ref g0])), (b0, .inr (2, [.ref b1, .int (nI nl), .ref b2, .ref b3, .ref b4, .ref b5, .ref b6, .int (nI np), .int (nI nt), .ref b7])), (b1, .inl (y3.1, 12, .inl lt)), (o9, .inl (y3.2.2, 1, .inr (.inl lo)))]) := by
  refine lx_of (cc := cL_letter) (maxL := 4) (by decide) rfl (Nat.le_of_ble_eq_true rfl) ?_
  intro p e s m args below meth c A Q hx hb hml hown hts htab hP hK hD hA hS hT hret ls hl
  have hown : s.vm.findClass RL = some m.cls := hown
  replace hl : lv_has ls 4 [(0, .ref h0), (1, .int k), (2, .ref o9)] := hl
  have hk15 := hts (.classLink RL 15 xIS) (by decide +kernel)
  have hk21 := hts (.classLink RL 21 xIA) (by decide +kernel)
  refine lv_aload_n hx hb dL_letter_0 rfl (lv_at hl 2 rfl) ?_
  refine lv_iconst (v := (nI 0)) hx hb dL_letter_1 rfl ?_
  refine lv_aload_n hx hb dL_letter_2 rfl (lv_at hl 0 rfl) ?_
  refine lv_iload_n hx hb dL_letter_3 rfl (lv_at hl 1 rfl) ?_
  refine tx_V (ci := 4) (q0 := 0) (own := RL) (As := [.int k]) (rest := [.int (nI 0), .ref o9]) (bytes := cX4_letter) (maxL := 2) (wr := [(o9, .inl (y3.2.2, 1, .inr (.inl lo)))]) (w3 := (fun (_ : Unit) => [(h0, .inr (4, [.ref a0, .ref b0, .ref f0, .ref g0])), (b0, .inr (2, [.ref b1, .int (nI (nl + 1)), .ref b2, .ref b3, .ref b4, .ref b5, .ref b6, .int (nI np), .int (nI nt), .ref b7])), (b1, .inl (y3.1, 12, .inl (upd lt nl k))), (o9, .inl (y3.2.2, 1, .inr (.inl lo)))])) ⟨hx, hb, hml, hown, hts⟩ (kX4_letter l hls D y3 h0 a0 b0 f0 g0 b1 b2 b3 b4 b5 b6 b7 nl np nt lt k (by omega)) gL_letter_X4_letter rfl hvX4_letter ⟨Nat.le_of_ble_eq_true rfl, Nat.le_of_ble_eq_true rfl⟩ hP hK hD hS hA hT [0, 1, 2] [3] [1, 2, 3, 0] rfl rfl rfl rfl (by decide) (fun _ => rfl) rfl rfl rfl rfl hl.1 rfl (Nat.le_of_ble_eq_true rfl) dL_letter_4 ⟨Nat.le_of_ble_eq_true rfl, Nat.le_of_ble_eq_true rfl⟩ (fun E ce q9 H locs hE hP hD hS h7 h8 h9 => ?_) (fun r4 u1 H locs hr4 hP hD hS => absurd hr4.1 hz)
  rcases xcd_2 hE with ⟨hz9, rfl⟩ | ⟨hz9, rfl⟩
  · refine vx_catch (own := RL) (name := xIA) hown [] ⟨0, 9, 12, 21⟩ [⟨0, 9, 15, 15⟩] htab (fun z h => (by cases h)) rfl (by decide) hk21 (lx_c hT (by simp [xE3])) h7 h8 h9 ?_
    refine lv_astore_n (lv' := [(3, .ref q9), (0, .ref h0), (1, .int k), (2, .ref o9)]) hx hb dL_letter_12 rfl hl (by decide) rfl (fun ls hl => ?_)
    refine lv_iconst (v := (nI 1)) hx hb dL_letter_13 rfl ?_
    exact hret 14 ls H locs _ _ () _ hP hD hS (Nat.le_of_ble_eq_true rfl) (Nat.le_of_ble_eq_true rfl) (by rw [hz9]) dL_letter_14
  · refine vx_catch (own := RL) (name := xIS) hown [⟨0, 9, 12, 21⟩] ⟨0, 9, 15, 15⟩ [] htab (fun z h => by
        simp only [List.mem_cons, List.not_mem_nil, or_false] at h
        subst h
        exact Or.inr ⟨by decide, xIA, hk21, lx_SA hT⟩) rfl (by decide) hk15 (lx_c hT (by simp [xE3])) h7 h8 h9 ?_
    refine lv_astore_n (lv' := [(3, .ref q9), (0, .ref h0), (1, .int k), (2, .ref o9)]) hx hb dL_letter_15 rfl hl (by decide) rfl (fun ls hl => ?_)
    refine lv_iconst (v := (nI 2)) hx hb dL_letter_16 rfl ?_
    exact hret 17 ls H locs _ _ () _ hP hD hS (Nat.le_of_ble_eq_true rfl) (Nat.le_of_ble_eq_true rfl) (by rw [hz9]) dL_letter_17

set_option maxHeartbeats 4000000 in
set_option maxRecDepth 100000 in
theorem kL_put_ok (l : Launch) (hls : l.stackTraces = false) (D : va_G) (y3 : ClassId × ClassId × ClassId) (h0 : Nat) (a0 : Nat) (b0 : Nat) (f0 : Nat) (g0 : Nat) (f1 : Nat) (f2 : Nat) (f3 : Nat) (f4 : Nat) (f5 : Nat) (f6 : Nat) (f7 : Nat) (f8 : Nat) (f9 : Nat) (f10 : Nat) (nb : Nat) (nr : Nat) (vb : Nat → Int32) (k : Int32) (o9 : Nat) (lo : Nat → Int64) (hnb : nb ≤ 16) (hz : (ak2 (rgB k (nI 0) (nI 255)) (decide (nb < 16))) = 0) : lxM l yL_put wsL_put 9 153 1 6 D y3 [(h0, .inr (4, [.ref a0, .ref b0, .ref f0, .ref g0])), (f0, .inr (0, [.ref f1, .int (nI nb), .ref f2, .ref f3, .ref f4, .int (nI nr), .ref f5, .ref f6, .ref f7, .ref f8, .ref f9, .ref f10])), (f1, .inl (y3.1, 16, .inl vb)), (o9, .inl (y3.2.2, 1, .inr (.inl lo)))] [.ref h0, .int k, .ref o9] (fun r (_ : Unit) => r = (nI 0)) (fun (_ : Unit) => [(h0, .inr (4, [.ref a0, .ref b0, .ref f0, .ref g0])), (f0, .inr (0, [.ref f1, .int (nI (nb + 1)), .ref f2, .ref f3, .ref f4, .int (nI nr), .ref f5, .ref f6, .ref f7, .ref f8, .ref f9, .ref f10])), (f1, .inl (y3.1, 16, .inl (upd vb nb k))), (o9, .inl (y3.2.2, 1, .inr (.inl (vp_updL lo 0 ((nI (nb + 1))).toInt64))))]) := by
  refine lx_of (cc := cL_put) (maxL := 4) (by decide) rfl (Nat.le_of_ble_eq_true rfl) ?_
  intro p e s m args below meth c A Q hx hb hml hown hts htab hP hK hD hA hS hT hret ls hl
  have hown : s.vm.findClass RL = some m.cls := hown
  replace hl : lv_has ls 4 [(0, .ref h0), (1, .int k), (2, .ref o9)] := hl
  refine lv_aload_n hx hb dL_put_0 rfl (lv_at hl 2 rfl) ?_
  refine lv_iconst (v := (nI 0)) hx hb dL_put_1 rfl ?_
  refine lv_aload_n hx hb dL_put_2 rfl (lv_at hl 0 rfl) ?_
  refine lv_iload_n hx hb dL_put_3 rfl (lv_at hl 1 rfl) ?_
  refine tx_V (ci := 4) (q0 := 0) (own := RL) (As := [.int k]) (rest := [.int (nI 0), .ref o9]) (bytes := cX4_put) (maxL := 2) (wr := [(o9, .inl (y3.2.2, 1, .inr (.inl lo)))]) (w3 := (fun (_ : Unit) => [(h0, .inr (4, [.ref a0, .ref b0, .ref f0, .ref g0])), (f0, .inr (0, [.ref f1, .int (nI (nb + 1)), .ref f2, .ref f3, .ref f4, .int (nI nr), .ref f5, .ref f6, .ref f7, .ref f8, .ref f9, .ref f10])), (f1, .inl (y3.1, 16, .inl (upd vb nb k))), (o9, .inl (y3.2.2, 1, .inr (.inl lo)))])) ⟨hx, hb, hml, hown, hts⟩ (kX4_put l hls D y3 h0 a0 b0 f0 g0 f1 f2 f3 f4 f5 f6 f7 f8 f9 f10 nb nr vb k (by omega)) gL_put_X4_put rfl hvX4_put ⟨Nat.le_of_ble_eq_true rfl, Nat.le_of_ble_eq_true rfl⟩ hP hK hD hS hA hT [0, 1, 2] [3] [1, 2, 3, 0] rfl rfl rfl rfl (by decide) (fun _ => rfl) rfl rfl rfl rfl hl.1 rfl (Nat.le_of_ble_eq_true rfl) dL_put_4 ⟨Nat.le_of_ble_eq_true rfl, Nat.le_of_ble_eq_true rfl⟩ (fun E ce q9 H locs hE hP hD hS h7 h8 h9 => xcd_no hz hE) (fun r4 u4 H locs hr4 hP hD hS => ?_)
  have hP : va_P D vwCl [(h0, .inr (4, [.ref a0, .ref b0, .ref f0, .ref g0])), (f0, .inr (0, [.ref f1, .int (nI (nb + 1)), .ref f2, .ref f3, .ref f4, .int (nI nr), .ref f5, .ref f6, .ref f7, .ref f8, .ref f9, .ref f10])), (f1, .inl (y3.1, 16, .inl (upd vb nb k))), (o9, .inl (y3.2.2, 1, .inr (.inl lo)))] H := hP
  have hD : va_D A [(h0, .inr (4, [.ref a0, .ref b0, .ref f0, .ref g0])), (f0, .inr (0, [.ref f1, .int (nI (nb + 1)), .ref f2, .ref f3, .ref f4, .int (nI nr), .ref f5, .ref f6, .ref f7, .ref f8, .ref f9, .ref f10])), (f1, .inl (y3.1, 16, .inl (upd vb nb k))), (o9, .inl (y3.2.2, 1, .inr (.inl lo)))] := hD
  rw [hr4.2]
  refine lv_i2l (v := (nI (nb + 1)).toInt64) hx hb dL_put_7 rfl ?_
  refine ln_last hx hb hK hP hD hS 3 2 rfl rfl (by omega) (by decide) dL_put_8 _ rfl (fun H locs hP hD hS => ?_)
  have hP : va_P D vwCl [(h0, .inr (4, [.ref a0, .ref b0, .ref f0, .ref g0])), (f0, .inr (0, [.ref f1, .int (nI (nb + 1)), .ref f2, .ref f3, .ref f4, .int (nI nr), .ref f5, .ref f6, .ref f7, .ref f8, .ref f9, .ref f10])), (f1, .inl (y3.1, 16, .inl (upd vb nb k))), (o9, .inl (y3.2.2, 1, .inr (.inl (vp_updL lo 0 ((nI (nb + 1)).toInt64)))))] H := hP
  have hD : va_D A [(h0, .inr (4, [.ref a0, .ref b0, .ref f0, .ref g0])), (f0, .inr (0, [.ref f1, .int (nI (nb + 1)), .ref f2, .ref f3, .ref f4, .int (nI nr), .ref f5, .ref f6, .ref f7, .ref f8, .ref f9, .ref f10])), (f1, .inl (y3.1, 16, .inl (upd vb nb k))), (o9, .inl (y3.2.2, 1, .inr (.inl (vp_updL lo 0 ((nI (nb + 1)).toInt64)))))] := hD
  refine lv_goto (tgt := 18) hx hb dL_put_9 (by decide) ?_
  refine lv_iconst (v := (nI 0)) hx hb dL_put_18 rfl ?_
  exact hret 19 ls H locs _ _ () _ hP hD hS (Nat.le_of_ble_eq_true rfl) (Nat.le_of_ble_eq_true rfl) rfl dL_put_19

set_option maxHeartbeats 4000000 in
set_option maxRecDepth 100000 in
theorem kL_put_ex (l : Launch) (hls : l.stackTraces = false) (D : va_G) (y3 : ClassId × ClassId × ClassId) (h0 : Nat) (a0 : Nat) (b0 : Nat) (f0 : Nat) (g0 : Nat) (f1 : Nat) (f2 : Nat) (f3 : Nat) (f4 : Nat) (f5 : Nat) (f6 : Nat) (f7 : Nat) (f8 : Nat) (f9 : Nat) (f10 : Nat) (nb : Nat) (nr : Nat) (vb : Nat → Int32) (k : Int32) (o9 : Nat) (lo : Nat → Int64) (hnb : nb ≤ 16) (hz : ¬ (ak2 (rgB k (nI 0) (nI 255)) (decide (nb < 16))) = 0) : lxM l yL_put wsL_put 9 153 1 6 D y3 [(h0, .inr (4, [.ref a0, .ref b0, .ref f0, .ref g0])), (f0, .inr (0, [.ref f1, .int (nI nb), .ref f2, .ref f3, .ref f4, .int (nI nr), .ref f5, .ref f6, .ref f7, .ref f8, .ref f9, .ref f10])), (f1, .inl (y3.1, 16, .inl vb)), (o9, .inl (y3.2.2, 1, .inr (.inl lo)))] [.ref h0, .int k, .ref o9] (fun r (_ : Unit) => r = (nI (ak2 (rgB k (nI 0) (nI 255)) (decide (nb < 16))))) (fun (_ : Unit) => [(h0, .inr (4, [.ref a0, .ref b0, .ref f0, .ref g0])), (f0, .inr (0, [.ref f1, .int (nI nb), .ref f2, .ref f3, .ref f4, .int (nI nr), .ref f5, .ref f6, .ref f7, .ref f8, .ref f9, .ref f10])), (f1, .inl (y3.1, 16, .inl vb)), (o9, .inl (y3.2.2, 1, .inr (.inl lo)))]) := by
  refine lx_of (cc := cL_put) (maxL := 4) (by decide) rfl (Nat.le_of_ble_eq_true rfl) ?_
  intro p e s m args below meth c A Q hx hb hml hown hts htab hP hK hD hA hS hT hret ls hl
  have hown : s.vm.findClass RL = some m.cls := hown
  replace hl : lv_has ls 4 [(0, .ref h0), (1, .int k), (2, .ref o9)] := hl
  have hk15 := hts (.classLink RL 15 xIS) (by decide +kernel)
  have hk21 := hts (.classLink RL 21 xIA) (by decide +kernel)
  refine lv_aload_n hx hb dL_put_0 rfl (lv_at hl 2 rfl) ?_
  refine lv_iconst (v := (nI 0)) hx hb dL_put_1 rfl ?_
  refine lv_aload_n hx hb dL_put_2 rfl (lv_at hl 0 rfl) ?_
  refine lv_iload_n hx hb dL_put_3 rfl (lv_at hl 1 rfl) ?_
  refine tx_V (ci := 4) (q0 := 0) (own := RL) (As := [.int k]) (rest := [.int (nI 0), .ref o9]) (bytes := cX4_put) (maxL := 2) (wr := [(o9, .inl (y3.2.2, 1, .inr (.inl lo)))]) (w3 := (fun (_ : Unit) => [(h0, .inr (4, [.ref a0, .ref b0, .ref f0, .ref g0])), (f0, .inr (0, [.ref f1, .int (nI (nb + 1)), .ref f2, .ref f3, .ref f4, .int (nI nr), .ref f5, .ref f6, .ref f7, .ref f8, .ref f9, .ref f10])), (f1, .inl (y3.1, 16, .inl (upd vb nb k))), (o9, .inl (y3.2.2, 1, .inr (.inl lo)))])) ⟨hx, hb, hml, hown, hts⟩ (kX4_put l hls D y3 h0 a0 b0 f0 g0 f1 f2 f3 f4 f5 f6 f7 f8 f9 f10 nb nr vb k (by omega)) gL_put_X4_put rfl hvX4_put ⟨Nat.le_of_ble_eq_true rfl, Nat.le_of_ble_eq_true rfl⟩ hP hK hD hS hA hT [0, 1, 2] [3] [1, 2, 3, 0] rfl rfl rfl rfl (by decide) (fun _ => rfl) rfl rfl rfl rfl hl.1 rfl (Nat.le_of_ble_eq_true rfl) dL_put_4 ⟨Nat.le_of_ble_eq_true rfl, Nat.le_of_ble_eq_true rfl⟩ (fun E ce q9 H locs hE hP hD hS h7 h8 h9 => ?_) (fun r4 u1 H locs hr4 hP hD hS => absurd hr4.1 hz)
  rcases xcd_2 hE with ⟨hz9, rfl⟩ | ⟨hz9, rfl⟩
  · refine vx_catch (own := RL) (name := xIA) hown [] ⟨0, 9, 12, 21⟩ [⟨0, 9, 15, 15⟩] htab (fun z h => (by cases h)) rfl (by decide) hk21 (lx_c hT (by simp [xE3])) h7 h8 h9 ?_
    refine lv_astore_n (lv' := [(3, .ref q9), (0, .ref h0), (1, .int k), (2, .ref o9)]) hx hb dL_put_12 rfl hl (by decide) rfl (fun ls hl => ?_)
    refine lv_iconst (v := (nI 1)) hx hb dL_put_13 rfl ?_
    exact hret 14 ls H locs _ _ () _ hP hD hS (Nat.le_of_ble_eq_true rfl) (Nat.le_of_ble_eq_true rfl) (by rw [hz9]) dL_put_14
  · refine vx_catch (own := RL) (name := xIS) hown [⟨0, 9, 12, 21⟩] ⟨0, 9, 15, 15⟩ [] htab (fun z h => by
        simp only [List.mem_cons, List.not_mem_nil, or_false] at h
        subst h
        exact Or.inr ⟨by decide, xIA, hk21, lx_SA hT⟩) rfl (by decide) hk15 (lx_c hT (by simp [xE3])) h7 h8 h9 ?_
    refine lv_astore_n (lv' := [(3, .ref q9), (0, .ref h0), (1, .int k), (2, .ref o9)]) hx hb dL_put_15 rfl hl (by decide) rfl (fun ls hl => ?_)
    refine lv_iconst (v := (nI 2)) hx hb dL_put_16 rfl ?_
    exact hret 17 ls H locs _ _ () _ hP hD hS (Nat.le_of_ble_eq_true rfl) (Nat.le_of_ble_eq_true rfl) (by rw [hz9]) dL_put_17

set_option maxHeartbeats 4000000 in
set_option maxRecDepth 100000 in
theorem kL_fits_ok (l : Launch) (hls : l.stackTraces = false) (D : va_G) (y3 : ClassId × ClassId × ClassId) (h0 : Nat) (a0 : Nat) (b0 : Nat) (f0 : Nat) (g0 : Nat) (b1 : Nat) (b2 : Nat) (b3 : Nat) (b4 : Nat) (b5 : Nat) (b6 : Nat) (b7 : Nat) (nl : Nat) (np : Nat) (nt : Nat) (lt : Nat → Int32) (ln : Nat → Nat) (th : Nat → Bool) (tk : Nat → Int32) (k : Int32) (o9 : Nat) (lo : Nat → Int64) (hnp : np ≤ 20) (hnl : nl ≤ 12) (hln : ∀ q : Nat, ln q ≤ 8) (hz : (ak1 (hasP th np k)) = 0) : lxM l yL_fits wsL_fits 8 132 1 6 D y3 [(h0, .inr (4, [.ref a0, .ref b0, .ref f0, .ref g0])), (b0, .inr (2, [.ref b1, .int (nI nl), .ref b2, .ref b3, .ref b4, .ref b5, .ref b6, .int (nI np), .int (nI nt), .ref b7])), (b1, .inl (y3.1, 12, .inl lt)), (b4, .inl (y3.1, 20, .inl (fN ln))), (b5, .inl (y3.2.1, 20, .inl (fB th))), (b6, .inl (y3.1, 160, .inl tk)), (o9, .inl (y3.2.2, 1, .inr (.inl lo)))] [.ref h0, .int k, .ref o9] (fun r (_ : Unit) => r = (nI 0)) (fun (_ : Unit) => [(h0, .inr (4, [.ref a0, .ref b0, .ref f0, .ref g0])), (b0, .inr (2, [.ref b1, .int (nI nl), .ref b2, .ref b3, .ref b4, .ref b5, .ref b6, .int (nI np), .int (nI nt), .ref b7])), (b1, .inl (y3.1, 12, .inl lt)), (b4, .inl (y3.1, 20, .inl (fN ln))), (b5, .inl (y3.2.1, 20, .inl (fB th))), (b6, .inl (y3.1, 160, .inl tk)), (o9, .inl (y3.2.2, 1, .inr (.inl (vp_updL lo 0 (bL (fitB lt nl tk ln k.toNatClampNeg))))))]) := by
  refine lx_of (cc := cL_fits) (maxL := 4) (by decide) rfl (Nat.le_of_ble_eq_true rfl) ?_
  intro p e s m args below meth c A Q hx hb hml hown hts htab hP hK hD hA hS hT hret ls hl
  have hown : s.vm.findClass RL = some m.cls := hown
  replace hl : lv_has ls 4 [(0, .ref h0), (1, .int k), (2, .ref o9)] := hl
  refine lv_aload_n hx hb dL_fits_0 rfl (lv_at hl 2 rfl) ?_
  refine lv_iconst (v := (nI 0)) hx hb dL_fits_1 rfl ?_
  refine lv_aload_n hx hb dL_fits_2 rfl (lv_at hl 0 rfl) ?_
  refine lv_iload_n hx hb dL_fits_3 rfl (lv_at hl 1 rfl) ?_
  refine tx_V (ci := 4) (q0 := 0) (own := RL) (As := [.int k]) (rest := [.int (nI 0), .ref o9]) (bytes := cX4_fits) (maxL := 2) (wr := [(o9, .inl (y3.2.2, 1, .inr (.inl lo)))]) (w3 := (fun (_ : Unit) => [(h0, .inr (4, [.ref a0, .ref b0, .ref f0, .ref g0])), (b0, .inr (2, [.ref b1, .int (nI nl), .ref b2, .ref b3, .ref b4, .ref b5, .ref b6, .int (nI np), .int (nI nt), .ref b7])), (b1, .inl (y3.1, 12, .inl lt)), (b4, .inl (y3.1, 20, .inl (fN ln))), (b5, .inl (y3.2.1, 20, .inl (fB th))), (b6, .inl (y3.1, 160, .inl tk)), (o9, .inl (y3.2.2, 1, .inr (.inl lo)))])) ⟨hx, hb, hml, hown, hts⟩ (kX4_fits l hls D y3 h0 a0 b0 f0 g0 b1 b2 b3 b4 b5 b6 b7 nl np nt lt ln th tk k (by omega) (by omega) (by assumption)) gL_fits_X4_fits rfl hvX4_fits ⟨Nat.le_of_ble_eq_true rfl, Nat.le_of_ble_eq_true rfl⟩ hP hK hD hS hA hT [0, 1, 2, 3, 4, 5] [6] [1, 2, 3, 4, 5, 6, 0] rfl rfl rfl rfl (by decide) (fun _ => rfl) rfl rfl rfl rfl hl.1 rfl (Nat.le_of_ble_eq_true rfl) dL_fits_4 ⟨Nat.le_of_ble_eq_true rfl, Nat.le_of_ble_eq_true rfl⟩ (fun E ce q9 H locs hE hP hD hS h7 h8 h9 => xcd_no hz hE) (fun r4 u4 H locs hr4 hP hD hS => ?_)
  have hP : va_P D vwCl [(h0, .inr (4, [.ref a0, .ref b0, .ref f0, .ref g0])), (b0, .inr (2, [.ref b1, .int (nI nl), .ref b2, .ref b3, .ref b4, .ref b5, .ref b6, .int (nI np), .int (nI nt), .ref b7])), (b1, .inl (y3.1, 12, .inl lt)), (b4, .inl (y3.1, 20, .inl (fN ln))), (b5, .inl (y3.2.1, 20, .inl (fB th))), (b6, .inl (y3.1, 160, .inl tk)), (o9, .inl (y3.2.2, 1, .inr (.inl lo)))] H := hP
  have hD : va_D A [(h0, .inr (4, [.ref a0, .ref b0, .ref f0, .ref g0])), (b0, .inr (2, [.ref b1, .int (nI nl), .ref b2, .ref b3, .ref b4, .ref b5, .ref b6, .int (nI np), .int (nI nt), .ref b7])), (b1, .inl (y3.1, 12, .inl lt)), (b4, .inl (y3.1, 20, .inl (fN ln))), (b5, .inl (y3.2.1, 20, .inl (fB th))), (b6, .inl (y3.1, 160, .inl tk)), (o9, .inl (y3.2.2, 1, .inr (.inl lo)))] := hD
  rw [hr4.2]
  have jn15 : ∀ (j9 : Int64), (j9 = bL (fitB lt nl tk ln k.toNatClampNeg)) → ∀ (H : Heap) (locs : List Loc), va_P D vwCl [(h0, .inr (4, [.ref a0, .ref b0, .ref f0, .ref g0])), (b0, .inr (2, [.ref b1, .int (nI nl), .ref b2, .ref b3, .ref b4, .ref b5, .ref b6, .int (nI np), .int (nI nt), .ref b7])), (b1, .inl (y3.1, 12, .inl lt)), (b4, .inl (y3.1, 20, .inl (fN ln))), (b5, .inl (y3.2.1, 20, .inl (fB th))), (b6, .inl (y3.1, 160, .inl tk)), (o9, .inl (y3.2.2, 1, .inr (.inl lo)))] H → va_D A [(h0, .inr (4, [.ref a0, .ref b0, .ref f0, .ref g0])), (b0, .inr (2, [.ref b1, .int (nI nl), .ref b2, .ref b3, .ref b4, .ref b5, .ref b6, .int (nI np), .int (nI nt), .ref b7])), (b1, .inl (y3.1, 12, .inl lt)), (b4, .inl (y3.1, 20, .inl (fN ln))), (b5, .inl (y3.2.1, 20, .inl (fB th))), (b6, .inl (y3.1, 160, .inl tk)), (o9, .inl (y3.2.2, 1, .inr (.inl lo)))] → va_S A s.heap H locs → ∀ ls : Array Slot, lv_has ls 4 [(0, .ref h0), (1, .int k), (2, .ref o9)] → W p l e (rmO 8 1 6 132) s m args below meth c H locs 0 0 Q (F0 m 15 ls [.long j9, .int (nI 0), .ref o9]) := by
    intro j9 hj9 H locs hP hD hS ls hl
    refine ln_last hx hb hK hP hD hS 6 2 rfl rfl (by omega) (by decide) dL_fits_15 _ rfl (fun H locs hP hD hS => ?_)
    have hP : va_P D vwCl [(h0, .inr (4, [.ref a0, .ref b0, .ref f0, .ref g0])), (b0, .inr (2, [.ref b1, .int (nI nl), .ref b2, .ref b3, .ref b4, .ref b5, .ref b6, .int (nI np), .int (nI nt), .ref b7])), (b1, .inl (y3.1, 12, .inl lt)), (b4, .inl (y3.1, 20, .inl (fN ln))), (b5, .inl (y3.2.1, 20, .inl (fB th))), (b6, .inl (y3.1, 160, .inl tk)), (o9, .inl (y3.2.2, 1, .inr (.inl (vp_updL lo 0 j9))))] H := hP
    have hD : va_D A [(h0, .inr (4, [.ref a0, .ref b0, .ref f0, .ref g0])), (b0, .inr (2, [.ref b1, .int (nI nl), .ref b2, .ref b3, .ref b4, .ref b5, .ref b6, .int (nI np), .int (nI nt), .ref b7])), (b1, .inl (y3.1, 12, .inl lt)), (b4, .inl (y3.1, 20, .inl (fN ln))), (b5, .inl (y3.2.1, 20, .inl (fB th))), (b6, .inl (y3.1, 160, .inl tk)), (o9, .inl (y3.2.2, 1, .inr (.inl (vp_updL lo 0 j9))))] := hD
    refine lv_goto (tgt := 22) hx hb dL_fits_16 (by decide) ?_
    refine lv_iconst (v := (nI 0)) hx hb dL_fits_22 rfl ?_
    rw [hj9] at hP hD
    exact hret 23 ls H locs _ _ () _ hP hD hS (Nat.le_of_ble_eq_true rfl) (Nat.le_of_ble_eq_true rfl) rfl dL_fits_23
  refine lb_if_eq (tgt := 14) hx hb dL_fits_7 (by decide) (fun c7 => ?_) (fun c7 => ?_)
  · refine lv_lconst (v := 0) hx hb dL_fits_14 rfl ?_
    exact jn15 0 (by rw [c7]; rfl) _ _ hP hD hS _ (lv_sub hl [0, 1, 2] rfl)
  · refine lv_lconst (v := 1) hx hb dL_fits_10 rfl ?_
    refine lv_goto (tgt := 15) hx hb dL_fits_11 (by decide) ?_
    exact jn15 1 (by rw [c7]; rfl) _ _ hP hD hS _ (lv_sub hl [0, 1, 2] rfl)

set_option maxHeartbeats 4000000 in
set_option maxRecDepth 100000 in
theorem kL_fits_ex (l : Launch) (hls : l.stackTraces = false) (D : va_G) (y3 : ClassId × ClassId × ClassId) (h0 : Nat) (a0 : Nat) (b0 : Nat) (f0 : Nat) (g0 : Nat) (b1 : Nat) (b2 : Nat) (b3 : Nat) (b4 : Nat) (b5 : Nat) (b6 : Nat) (b7 : Nat) (nl : Nat) (np : Nat) (nt : Nat) (lt : Nat → Int32) (ln : Nat → Nat) (th : Nat → Bool) (tk : Nat → Int32) (k : Int32) (o9 : Nat) (lo : Nat → Int64) (hnp : np ≤ 20) (hnl : nl ≤ 12) (hln : ∀ q : Nat, ln q ≤ 8) (hz : ¬ (ak1 (hasP th np k)) = 0) : lxM l yL_fits wsL_fits 8 132 1 6 D y3 [(h0, .inr (4, [.ref a0, .ref b0, .ref f0, .ref g0])), (b0, .inr (2, [.ref b1, .int (nI nl), .ref b2, .ref b3, .ref b4, .ref b5, .ref b6, .int (nI np), .int (nI nt), .ref b7])), (b1, .inl (y3.1, 12, .inl lt)), (b4, .inl (y3.1, 20, .inl (fN ln))), (b5, .inl (y3.2.1, 20, .inl (fB th))), (b6, .inl (y3.1, 160, .inl tk)), (o9, .inl (y3.2.2, 1, .inr (.inl lo)))] [.ref h0, .int k, .ref o9] (fun r (_ : Unit) => r = (nI (ak1 (hasP th np k)))) (fun (_ : Unit) => [(h0, .inr (4, [.ref a0, .ref b0, .ref f0, .ref g0])), (b0, .inr (2, [.ref b1, .int (nI nl), .ref b2, .ref b3, .ref b4, .ref b5, .ref b6, .int (nI np), .int (nI nt), .ref b7])), (b1, .inl (y3.1, 12, .inl lt)), (b4, .inl (y3.1, 20, .inl (fN ln))), (b5, .inl (y3.2.1, 20, .inl (fB th))), (b6, .inl (y3.1, 160, .inl tk)), (o9, .inl (y3.2.2, 1, .inr (.inl lo)))]) := by
  refine lx_of (cc := cL_fits) (maxL := 4) (by decide) rfl (Nat.le_of_ble_eq_true rfl) ?_
  intro p e s m args below meth c A Q hx hb hml hown hts htab hP hK hD hA hS hT hret ls hl
  have hown : s.vm.findClass RL = some m.cls := hown
  replace hl : lv_has ls 4 [(0, .ref h0), (1, .int k), (2, .ref o9)] := hl
  have hk13 := hts (.classLink RL 13 xIO) (by decide +kernel)
  refine lv_aload_n hx hb dL_fits_0 rfl (lv_at hl 2 rfl) ?_
  refine lv_iconst (v := (nI 0)) hx hb dL_fits_1 rfl ?_
  refine lv_aload_n hx hb dL_fits_2 rfl (lv_at hl 0 rfl) ?_
  refine lv_iload_n hx hb dL_fits_3 rfl (lv_at hl 1 rfl) ?_
  refine tx_V (ci := 4) (q0 := 0) (own := RL) (As := [.int k]) (rest := [.int (nI 0), .ref o9]) (bytes := cX4_fits) (maxL := 2) (wr := [(o9, .inl (y3.2.2, 1, .inr (.inl lo)))]) (w3 := (fun (_ : Unit) => [(h0, .inr (4, [.ref a0, .ref b0, .ref f0, .ref g0])), (b0, .inr (2, [.ref b1, .int (nI nl), .ref b2, .ref b3, .ref b4, .ref b5, .ref b6, .int (nI np), .int (nI nt), .ref b7])), (b1, .inl (y3.1, 12, .inl lt)), (b4, .inl (y3.1, 20, .inl (fN ln))), (b5, .inl (y3.2.1, 20, .inl (fB th))), (b6, .inl (y3.1, 160, .inl tk)), (o9, .inl (y3.2.2, 1, .inr (.inl lo)))])) ⟨hx, hb, hml, hown, hts⟩ (kX4_fits l hls D y3 h0 a0 b0 f0 g0 b1 b2 b3 b4 b5 b6 b7 nl np nt lt ln th tk k (by omega) (by omega) (by assumption)) gL_fits_X4_fits rfl hvX4_fits ⟨Nat.le_of_ble_eq_true rfl, Nat.le_of_ble_eq_true rfl⟩ hP hK hD hS hA hT [0, 1, 2, 3, 4, 5] [6] [1, 2, 3, 4, 5, 6, 0] rfl rfl rfl rfl (by decide) (fun _ => rfl) rfl rfl rfl rfl hl.1 rfl (Nat.le_of_ble_eq_true rfl) dL_fits_4 ⟨Nat.le_of_ble_eq_true rfl, Nat.le_of_ble_eq_true rfl⟩ (fun E ce q9 H locs hE hP hD hS h7 h8 h9 => ?_) (fun r4 u1 H locs hr4 hP hD hS => absurd hr4.1 hz)
  obtain ⟨hz9, rfl⟩ := xcd_1 hE
  refine vx_catch (own := RL) (name := xIO) hown [] ⟨0, 16, 19, 13⟩ [] htab (fun z h => (by cases h)) rfl (by decide) hk13 (lx_c hT (by simp [xE3])) h7 h8 h9 ?_
  refine lv_astore_n (lv' := [(3, .ref q9), (0, .ref h0), (1, .int k), (2, .ref o9)]) hx hb dL_fits_19 rfl hl (by decide) rfl (fun ls hl => ?_)
  refine lv_iconst (v := (nI 1)) hx hb dL_fits_20 rfl ?_
  exact hret 21 ls H locs _ _ () _ hP hD hS (Nat.le_of_ble_eq_true rfl) (Nat.le_of_ble_eq_true rfl) (by rw [hz9]) dL_fits_21

set_option maxHeartbeats 4000000 in
set_option maxRecDepth 100000 in
theorem kL_fitsByTable_ok (l : Launch) (hls : l.stackTraces = false) (D : va_G) (y3 : ClassId × ClassId × ClassId) (h0 : Nat) (a0 : Nat) (b0 : Nat) (f0 : Nat) (g0 : Nat) (b1 : Nat) (b2 : Nat) (b3 : Nat) (b4 : Nat) (b5 : Nat) (b6 : Nat) (b7 : Nat) (nl : Nat) (np : Nat) (nt : Nat) (lt : Nat → Int32) (ln : Nat → Nat) (th : Nat → Bool) (tk : Nat → Int32) (tb : Nat → Bool) (k : Int32) (o9 : Nat) (lo : Nat → Int64) (hnp : np ≤ 20) (hnl : nl ≤ 12) (hln : ∀ q : Nat, ln q ≤ 8) (htb : ∀ q : Nat, 1 ≤ q → q < 13 → tb q = false) (hz : (ak1 (hasP th np k)) = 0) : lxM l yL_fitsByTable wsL_fitsByTable 8 132 1 6 D y3 [(h0, .inr (4, [.ref a0, .ref b0, .ref f0, .ref g0])), (b0, .inr (2, [.ref b1, .int (nI nl), .ref b2, .ref b3, .ref b4, .ref b5, .ref b6, .int (nI np), .int (nI nt), .ref b7])), (b1, .inl (y3.1, 12, .inl lt)), (b4, .inl (y3.1, 20, .inl (fN ln))), (b5, .inl (y3.2.1, 20, .inl (fB th))), (b6, .inl (y3.1, 160, .inl tk)), (b7, .inl (y3.2.1, 117, .inl (fB tb))), (o9, .inl (y3.2.2, 1, .inr (.inl lo)))] [.ref h0, .int k, .ref o9] (fun r (u : Nat → Bool) => r = nI 0 ∧ ∀ q : Nat, 1 ≤ q → q < 13 → u q = false) (fun (u : Nat → Bool) => [(h0, .inr (4, [.ref a0, .ref b0, .ref f0, .ref g0])), (b0, .inr (2, [.ref b1, .int (nI nl), .ref b2, .ref b3, .ref b4, .ref b5, .ref b6, .int (nI np), .int (nI nt), .ref b7])), (b1, .inl (y3.1, 12, .inl lt)), (b4, .inl (y3.1, 20, .inl (fN ln))), (b5, .inl (y3.2.1, 20, .inl (fB th))), (b6, .inl (y3.1, 160, .inl tk)), (b7, .inl (y3.2.1, 117, .inl (fB u))), (o9, .inl (y3.2.2, 1, .inr (.inl (vp_updL lo 0 (bL (fitB lt nl tk ln k.toNatClampNeg))))))]) := by
  refine lx_of (cc := cL_fitsByTable) (maxL := 4) (by decide) rfl (Nat.le_of_ble_eq_true rfl) ?_
  intro p e s m args below meth c A Q hx hb hml hown hts htab hP hK hD hA hS hT hret ls hl
  have hown : s.vm.findClass RL = some m.cls := hown
  replace hl : lv_has ls 4 [(0, .ref h0), (1, .int k), (2, .ref o9)] := hl
  refine lv_aload_n hx hb dL_fitsByTable_0 rfl (lv_at hl 2 rfl) ?_
  refine lv_iconst (v := (nI 0)) hx hb dL_fitsByTable_1 rfl ?_
  refine lv_aload_n hx hb dL_fitsByTable_2 rfl (lv_at hl 0 rfl) ?_
  refine lv_iload_n hx hb dL_fitsByTable_3 rfl (lv_at hl 1 rfl) ?_
  refine tx_V (ci := 4) (q0 := 0) (own := RL) (As := [.int k]) (rest := [.int (nI 0), .ref o9]) (bytes := cX4_fitsByTable) (maxL := 2) (wr := [(o9, .inl (y3.2.2, 1, .inr (.inl lo)))]) (w3 := (fun (u4 : Nat → Bool) => [(h0, .inr (4, [.ref a0, .ref b0, .ref f0, .ref g0])), (b0, .inr (2, [.ref b1, .int (nI nl), .ref b2, .ref b3, .ref b4, .ref b5, .ref b6, .int (nI np), .int (nI nt), .ref b7])), (b1, .inl (y3.1, 12, .inl lt)), (b4, .inl (y3.1, 20, .inl (fN ln))), (b5, .inl (y3.2.1, 20, .inl (fB th))), (b6, .inl (y3.1, 160, .inl tk)), (b7, .inl (y3.2.1, 117, .inl (fB u4))), (o9, .inl (y3.2.2, 1, .inr (.inl lo)))])) ⟨hx, hb, hml, hown, hts⟩ (kX4_fitsByTable l hls D y3 h0 a0 b0 f0 g0 b1 b2 b3 b4 b5 b6 b7 nl np nt lt ln th tk tb k (by omega) (by omega) (by assumption) (by assumption)) gL_fitsByTable_X4_fitsByTable rfl hvX4_fitsByTable ⟨Nat.le_of_ble_eq_true rfl, Nat.le_of_ble_eq_true rfl⟩ hP hK hD hS hA hT [0, 1, 2, 3, 4, 5, 6] [7] [1, 2, 3, 4, 5, 6, 7, 0] rfl rfl rfl rfl (by decide) (fun _ => rfl) rfl rfl rfl rfl hl.1 rfl (Nat.le_of_ble_eq_true rfl) dL_fitsByTable_4 ⟨Nat.le_of_ble_eq_true rfl, Nat.le_of_ble_eq_true rfl⟩ (fun E ce q9 H locs hE hP hD hS h7 h8 h9 => xcd_no hz hE) (fun r4 u4 H locs hr4 hP hD hS => ?_)
  have hP : va_P D vwCl [(h0, .inr (4, [.ref a0, .ref b0, .ref f0, .ref g0])), (b0, .inr (2, [.ref b1, .int (nI nl), .ref b2, .ref b3, .ref b4, .ref b5, .ref b6, .int (nI np), .int (nI nt), .ref b7])), (b1, .inl (y3.1, 12, .inl lt)), (b4, .inl (y3.1, 20, .inl (fN ln))), (b5, .inl (y3.2.1, 20, .inl (fB th))), (b6, .inl (y3.1, 160, .inl tk)), (b7, .inl (y3.2.1, 117, .inl (fB u4))), (o9, .inl (y3.2.2, 1, .inr (.inl lo)))] H := hP
  have hD : va_D A [(h0, .inr (4, [.ref a0, .ref b0, .ref f0, .ref g0])), (b0, .inr (2, [.ref b1, .int (nI nl), .ref b2, .ref b3, .ref b4, .ref b5, .ref b6, .int (nI np), .int (nI nt), .ref b7])), (b1, .inl (y3.1, 12, .inl lt)), (b4, .inl (y3.1, 20, .inl (fN ln))), (b5, .inl (y3.2.1, 20, .inl (fB th))), (b6, .inl (y3.1, 160, .inl tk)), (b7, .inl (y3.2.1, 117, .inl (fB u4))), (o9, .inl (y3.2.2, 1, .inr (.inl lo)))] := hD
  rw [hr4.2.1]
  have jn15 : ∀ (j9 : Int64), (j9 = bL (fitB lt nl tk ln k.toNatClampNeg)) → ∀ (H : Heap) (locs : List Loc), va_P D vwCl [(h0, .inr (4, [.ref a0, .ref b0, .ref f0, .ref g0])), (b0, .inr (2, [.ref b1, .int (nI nl), .ref b2, .ref b3, .ref b4, .ref b5, .ref b6, .int (nI np), .int (nI nt), .ref b7])), (b1, .inl (y3.1, 12, .inl lt)), (b4, .inl (y3.1, 20, .inl (fN ln))), (b5, .inl (y3.2.1, 20, .inl (fB th))), (b6, .inl (y3.1, 160, .inl tk)), (b7, .inl (y3.2.1, 117, .inl (fB u4))), (o9, .inl (y3.2.2, 1, .inr (.inl lo)))] H → va_D A [(h0, .inr (4, [.ref a0, .ref b0, .ref f0, .ref g0])), (b0, .inr (2, [.ref b1, .int (nI nl), .ref b2, .ref b3, .ref b4, .ref b5, .ref b6, .int (nI np), .int (nI nt), .ref b7])), (b1, .inl (y3.1, 12, .inl lt)), (b4, .inl (y3.1, 20, .inl (fN ln))), (b5, .inl (y3.2.1, 20, .inl (fB th))), (b6, .inl (y3.1, 160, .inl tk)), (b7, .inl (y3.2.1, 117, .inl (fB u4))), (o9, .inl (y3.2.2, 1, .inr (.inl lo)))] → va_S A s.heap H locs → ∀ ls : Array Slot, lv_has ls 4 [(0, .ref h0), (1, .int k), (2, .ref o9)] → W p l e (rmO 8 1 6 132) s m args below meth c H locs 0 0 Q (F0 m 15 ls [.long j9, .int (nI 0), .ref o9]) := by
    intro j9 hj9 H locs hP hD hS ls hl
    refine ln_last hx hb hK hP hD hS 7 2 rfl rfl (by omega) (by decide) dL_fitsByTable_15 _ rfl (fun H locs hP hD hS => ?_)
    have hP : va_P D vwCl [(h0, .inr (4, [.ref a0, .ref b0, .ref f0, .ref g0])), (b0, .inr (2, [.ref b1, .int (nI nl), .ref b2, .ref b3, .ref b4, .ref b5, .ref b6, .int (nI np), .int (nI nt), .ref b7])), (b1, .inl (y3.1, 12, .inl lt)), (b4, .inl (y3.1, 20, .inl (fN ln))), (b5, .inl (y3.2.1, 20, .inl (fB th))), (b6, .inl (y3.1, 160, .inl tk)), (b7, .inl (y3.2.1, 117, .inl (fB u4))), (o9, .inl (y3.2.2, 1, .inr (.inl (vp_updL lo 0 j9))))] H := hP
    have hD : va_D A [(h0, .inr (4, [.ref a0, .ref b0, .ref f0, .ref g0])), (b0, .inr (2, [.ref b1, .int (nI nl), .ref b2, .ref b3, .ref b4, .ref b5, .ref b6, .int (nI np), .int (nI nt), .ref b7])), (b1, .inl (y3.1, 12, .inl lt)), (b4, .inl (y3.1, 20, .inl (fN ln))), (b5, .inl (y3.2.1, 20, .inl (fB th))), (b6, .inl (y3.1, 160, .inl tk)), (b7, .inl (y3.2.1, 117, .inl (fB u4))), (o9, .inl (y3.2.2, 1, .inr (.inl (vp_updL lo 0 j9))))] := hD
    refine lv_goto (tgt := 22) hx hb dL_fitsByTable_16 (by decide) ?_
    refine lv_iconst (v := (nI 0)) hx hb dL_fitsByTable_22 rfl ?_
    rw [hj9] at hP hD
    exact hret 23 ls H locs _ _ u4 _ hP hD hS (Nat.le_of_ble_eq_true rfl) (Nat.le_of_ble_eq_true rfl) ⟨rfl, hr4.2.2⟩ dL_fitsByTable_23
  refine lb_if_eq (tgt := 14) hx hb dL_fitsByTable_7 (by decide) (fun c7 => ?_) (fun c7 => ?_)
  · refine lv_lconst (v := 0) hx hb dL_fitsByTable_14 rfl ?_
    exact jn15 0 (by rw [c7]; rfl) _ _ hP hD hS _ (lv_sub hl [0, 1, 2] rfl)
  · refine lv_lconst (v := 1) hx hb dL_fitsByTable_10 rfl ?_
    refine lv_goto (tgt := 15) hx hb dL_fitsByTable_11 (by decide) ?_
    exact jn15 1 (by rw [c7]; rfl) _ _ hP hD hS _ (lv_sub hl [0, 1, 2] rfl)

set_option maxHeartbeats 4000000 in
set_option maxRecDepth 100000 in
theorem kL_fitsByTable_ex (l : Launch) (hls : l.stackTraces = false) (D : va_G) (y3 : ClassId × ClassId × ClassId) (h0 : Nat) (a0 : Nat) (b0 : Nat) (f0 : Nat) (g0 : Nat) (b1 : Nat) (b2 : Nat) (b3 : Nat) (b4 : Nat) (b5 : Nat) (b6 : Nat) (b7 : Nat) (nl : Nat) (np : Nat) (nt : Nat) (lt : Nat → Int32) (ln : Nat → Nat) (th : Nat → Bool) (tk : Nat → Int32) (tb : Nat → Bool) (k : Int32) (o9 : Nat) (lo : Nat → Int64) (hnp : np ≤ 20) (hnl : nl ≤ 12) (hln : ∀ q : Nat, ln q ≤ 8) (htb : ∀ q : Nat, 1 ≤ q → q < 13 → tb q = false) (hz : ¬ (ak1 (hasP th np k)) = 0) : lxM l yL_fitsByTable wsL_fitsByTable 8 132 1 6 D y3 [(h0, .inr (4, [.ref a0, .ref b0, .ref f0, .ref g0])), (b0, .inr (2, [.ref b1, .int (nI nl), .ref b2, .ref b3, .ref b4, .ref b5, .ref b6, .int (nI np), .int (nI nt), .ref b7])), (b1, .inl (y3.1, 12, .inl lt)), (b4, .inl (y3.1, 20, .inl (fN ln))), (b5, .inl (y3.2.1, 20, .inl (fB th))), (b6, .inl (y3.1, 160, .inl tk)), (b7, .inl (y3.2.1, 117, .inl (fB tb))), (o9, .inl (y3.2.2, 1, .inr (.inl lo)))] [.ref h0, .int k, .ref o9] (fun r (_ : Unit) => r = (nI (ak1 (hasP th np k)))) (fun (_ : Unit) => [(h0, .inr (4, [.ref a0, .ref b0, .ref f0, .ref g0])), (b0, .inr (2, [.ref b1, .int (nI nl), .ref b2, .ref b3, .ref b4, .ref b5, .ref b6, .int (nI np), .int (nI nt), .ref b7])), (b1, .inl (y3.1, 12, .inl lt)), (b4, .inl (y3.1, 20, .inl (fN ln))), (b5, .inl (y3.2.1, 20, .inl (fB th))), (b6, .inl (y3.1, 160, .inl tk)), (b7, .inl (y3.2.1, 117, .inl (fB tb))), (o9, .inl (y3.2.2, 1, .inr (.inl lo)))]) := by
  refine lx_of (cc := cL_fitsByTable) (maxL := 4) (by decide) rfl (Nat.le_of_ble_eq_true rfl) ?_
  intro p e s m args below meth c A Q hx hb hml hown hts htab hP hK hD hA hS hT hret ls hl
  have hown : s.vm.findClass RL = some m.cls := hown
  replace hl : lv_has ls 4 [(0, .ref h0), (1, .int k), (2, .ref o9)] := hl
  have hk13 := hts (.classLink RL 13 xIO) (by decide +kernel)
  refine lv_aload_n hx hb dL_fitsByTable_0 rfl (lv_at hl 2 rfl) ?_
  refine lv_iconst (v := (nI 0)) hx hb dL_fitsByTable_1 rfl ?_
  refine lv_aload_n hx hb dL_fitsByTable_2 rfl (lv_at hl 0 rfl) ?_
  refine lv_iload_n hx hb dL_fitsByTable_3 rfl (lv_at hl 1 rfl) ?_
  refine tx_V (ci := 4) (q0 := 0) (own := RL) (As := [.int k]) (rest := [.int (nI 0), .ref o9]) (bytes := cX4_fitsByTable) (maxL := 2) (wr := [(o9, .inl (y3.2.2, 1, .inr (.inl lo)))]) (w3 := (fun (u1 : Nat → Bool) => [(h0, .inr (4, [.ref a0, .ref b0, .ref f0, .ref g0])), (b0, .inr (2, [.ref b1, .int (nI nl), .ref b2, .ref b3, .ref b4, .ref b5, .ref b6, .int (nI np), .int (nI nt), .ref b7])), (b1, .inl (y3.1, 12, .inl lt)), (b4, .inl (y3.1, 20, .inl (fN ln))), (b5, .inl (y3.2.1, 20, .inl (fB th))), (b6, .inl (y3.1, 160, .inl tk)), (b7, .inl (y3.2.1, 117, .inl (fB u1))), (o9, .inl (y3.2.2, 1, .inr (.inl lo)))])) ⟨hx, hb, hml, hown, hts⟩ (kX4_fitsByTable l hls D y3 h0 a0 b0 f0 g0 b1 b2 b3 b4 b5 b6 b7 nl np nt lt ln th tk tb k (by omega) (by omega) (by assumption) (by assumption)) gL_fitsByTable_X4_fitsByTable rfl hvX4_fitsByTable ⟨Nat.le_of_ble_eq_true rfl, Nat.le_of_ble_eq_true rfl⟩ hP hK hD hS hA hT [0, 1, 2, 3, 4, 5, 6] [7] [1, 2, 3, 4, 5, 6, 7, 0] rfl rfl rfl rfl (by decide) (fun _ => rfl) rfl rfl rfl rfl hl.1 rfl (Nat.le_of_ble_eq_true rfl) dL_fitsByTable_4 ⟨Nat.le_of_ble_eq_true rfl, Nat.le_of_ble_eq_true rfl⟩ (fun E ce q9 H locs hE hP hD hS h7 h8 h9 => ?_) (fun r4 u1 H locs hr4 hP hD hS => absurd hr4.1 hz)
  obtain ⟨hz9, rfl⟩ := xcd_1 hE
  refine vx_catch (own := RL) (name := xIO) hown [] ⟨0, 16, 19, 13⟩ [] htab (fun z h => (by cases h)) rfl (by decide) hk13 (lx_c hT (by simp [xE3])) h7 h8 h9 ?_
  refine lv_astore_n (lv' := [(3, .ref q9), (0, .ref h0), (1, .int k), (2, .ref o9)]) hx hb dL_fitsByTable_19 rfl hl (by decide) rfl (fun ls hl => ?_)
  refine lv_iconst (v := (nI 1)) hx hb dL_fitsByTable_20 rfl ?_
  exact hret 21 ls H locs _ _ () _ hP hD hS (Nat.le_of_ble_eq_true rfl) (Nat.le_of_ble_eq_true rfl) (by rw [hz9]) dL_fitsByTable_21

set_option maxHeartbeats 4000000 in
set_option maxRecDepth 100000 in
theorem kL_proves_ok (l : Launch) (hls : l.stackTraces = false) (D : va_G) (y3 : ClassId × ClassId × ClassId) (h0 : Nat) (a0 : Nat) (b0 : Nat) (f0 : Nat) (g0 : Nat) (f1 : Nat) (f2 : Nat) (f3 : Nat) (f4 : Nat) (f5 : Nat) (f6 : Nat) (f7 : Nat) (f8 : Nat) (f9 : Nat) (f10 : Nat) (nb : Nat) (nr : Nat) (vb : Nat → Int32) (tc : Nat → Nat) (lev : Nat → Nat) (fo : Nat → Nat) (tu : Nat → Nat) (wn : Nat → Int32) (mk : Nat → Int32) (ld : Nat → Bool) (k : Int32) (o9 : Nat) (lo : Nat → Int64) (hnr : nr ≤ 12) (hnb : nb ≤ 16) (htc : ∀ q : Nat, tc q ≤ 6) (hlv : ∀ q : Nat, lev q ≤ 5) (hfo : ∀ q : Nat, fo q ≤ 15) (htu : ∀ q : Nat, tu q ≤ 15) (hz : (ak1 (inB k nr)) = 0) : lxM l yL_proves wsL_proves 8 132 1 6 D y3 [(h0, .inr (4, [.ref a0, .ref b0, .ref f0, .ref g0])), (f0, .inr (0, [.ref f1, .int (nI nb), .ref f2, .ref f3, .ref f4, .int (nI nr), .ref f5, .ref f6, .ref f7, .ref f8, .ref f9, .ref f10])), (f1, .inl (y3.1, 16, .inl vb)), (f4, .inl (y3.1, 12, .inl (fN tc))), (f5, .inl (y3.1, 72, .inl (fN lev))), (f6, .inl (y3.1, 72, .inl (fN fo))), (f7, .inl (y3.1, 72, .inl (fN tu))), (f8, .inl (y3.1, 72, .inl wn)), (f9, .inl (y3.1, 72, .inl mk)), (f10, .inl (y3.2.1, 72, .inl (fB ld))), (o9, .inl (y3.2.2, 1, .inr (.inl lo)))] [.ref h0, .int k, .ref o9] (fun r (u : Nat → Bool) => r = nI 0) (fun (u : Nat → Bool) => [(h0, .inr (4, [.ref a0, .ref b0, .ref f0, .ref g0])), (f0, .inr (0, [.ref f1, .int (nI nb), .ref f2, .ref f3, .ref f4, .int (nI nr), .ref f5, .ref f6, .ref f7, .ref f8, .ref f9, .ref f10])), (f1, .inl (y3.1, 16, .inl vb)), (f4, .inl (y3.1, 12, .inl (fN tc))), (f5, .inl (y3.1, 72, .inl (fN lev))), (f6, .inl (y3.1, 72, .inl (fN fo))), (f7, .inl (y3.1, 72, .inl (fN tu))), (f8, .inl (y3.1, 72, .inl wn)), (f9, .inl (y3.1, 72, .inl mk)), (f10, .inl (y3.2.1, 72, .inl (fB u))), (o9, .inl (y3.2.2, 1, .inr (.inl (vp_updL lo 0 (bL (prvB lev (hldB vb nb fo tu wn mk) (k.toNatClampNeg * 6) ((k.toNatClampNeg * 6) + (tc k.toNatClampNeg))))))))]) := by
  refine lx_of (cc := cL_proves) (maxL := 4) (by decide) rfl (Nat.le_of_ble_eq_true rfl) ?_
  intro p e s m args below meth c A Q hx hb hml hown hts htab hP hK hD hA hS hT hret ls hl
  have hown : s.vm.findClass RL = some m.cls := hown
  replace hl : lv_has ls 4 [(0, .ref h0), (1, .int k), (2, .ref o9)] := hl
  refine lv_aload_n hx hb dL_proves_0 rfl (lv_at hl 2 rfl) ?_
  refine lv_iconst (v := (nI 0)) hx hb dL_proves_1 rfl ?_
  refine lv_aload_n hx hb dL_proves_2 rfl (lv_at hl 0 rfl) ?_
  refine lv_iload_n hx hb dL_proves_3 rfl (lv_at hl 1 rfl) ?_
  refine tx_V (ci := 4) (q0 := 0) (own := RL) (As := [.int k]) (rest := [.int (nI 0), .ref o9]) (bytes := cX4_proves) (maxL := 2) (wr := [(o9, .inl (y3.2.2, 1, .inr (.inl lo)))]) (w3 := (fun (u4 : Nat → Bool) => [(h0, .inr (4, [.ref a0, .ref b0, .ref f0, .ref g0])), (f0, .inr (0, [.ref f1, .int (nI nb), .ref f2, .ref f3, .ref f4, .int (nI nr), .ref f5, .ref f6, .ref f7, .ref f8, .ref f9, .ref f10])), (f1, .inl (y3.1, 16, .inl vb)), (f4, .inl (y3.1, 12, .inl (fN tc))), (f5, .inl (y3.1, 72, .inl (fN lev))), (f6, .inl (y3.1, 72, .inl (fN fo))), (f7, .inl (y3.1, 72, .inl (fN tu))), (f8, .inl (y3.1, 72, .inl wn)), (f9, .inl (y3.1, 72, .inl mk)), (f10, .inl (y3.2.1, 72, .inl (fB u4))), (o9, .inl (y3.2.2, 1, .inr (.inl lo)))])) ⟨hx, hb, hml, hown, hts⟩ (kX4_proves l hls D y3 h0 a0 b0 f0 g0 f1 f2 f3 f4 f5 f6 f7 f8 f9 f10 nb nr vb tc lev fo tu wn mk ld k (by omega) (by omega) (by assumption) (by assumption) (by assumption) (by assumption)) gL_proves_X4_proves rfl hvX4_proves ⟨Nat.le_of_ble_eq_true rfl, Nat.le_of_ble_eq_true rfl⟩ hP hK hD hS hA hT [0, 1, 2, 3, 4, 5, 6, 7, 8, 9] [10] [1, 2, 3, 4, 5, 6, 7, 8, 9, 10, 0] rfl rfl rfl rfl (by decide) (fun _ => rfl) rfl rfl rfl rfl hl.1 rfl (Nat.le_of_ble_eq_true rfl) dL_proves_4 ⟨Nat.le_of_ble_eq_true rfl, Nat.le_of_ble_eq_true rfl⟩ (fun E ce q9 H locs hE hP hD hS h7 h8 h9 => xcd_no hz hE) (fun r4 u4 H locs hr4 hP hD hS => ?_)
  have hP : va_P D vwCl [(h0, .inr (4, [.ref a0, .ref b0, .ref f0, .ref g0])), (f0, .inr (0, [.ref f1, .int (nI nb), .ref f2, .ref f3, .ref f4, .int (nI nr), .ref f5, .ref f6, .ref f7, .ref f8, .ref f9, .ref f10])), (f1, .inl (y3.1, 16, .inl vb)), (f4, .inl (y3.1, 12, .inl (fN tc))), (f5, .inl (y3.1, 72, .inl (fN lev))), (f6, .inl (y3.1, 72, .inl (fN fo))), (f7, .inl (y3.1, 72, .inl (fN tu))), (f8, .inl (y3.1, 72, .inl wn)), (f9, .inl (y3.1, 72, .inl mk)), (f10, .inl (y3.2.1, 72, .inl (fB u4))), (o9, .inl (y3.2.2, 1, .inr (.inl lo)))] H := hP
  have hD : va_D A [(h0, .inr (4, [.ref a0, .ref b0, .ref f0, .ref g0])), (f0, .inr (0, [.ref f1, .int (nI nb), .ref f2, .ref f3, .ref f4, .int (nI nr), .ref f5, .ref f6, .ref f7, .ref f8, .ref f9, .ref f10])), (f1, .inl (y3.1, 16, .inl vb)), (f4, .inl (y3.1, 12, .inl (fN tc))), (f5, .inl (y3.1, 72, .inl (fN lev))), (f6, .inl (y3.1, 72, .inl (fN fo))), (f7, .inl (y3.1, 72, .inl (fN tu))), (f8, .inl (y3.1, 72, .inl wn)), (f9, .inl (y3.1, 72, .inl mk)), (f10, .inl (y3.2.1, 72, .inl (fB u4))), (o9, .inl (y3.2.2, 1, .inr (.inl lo)))] := hD
  rw [hr4.2]
  have jn15 : ∀ (j9 : Int64), (j9 = bL (prvB lev (hldB vb nb fo tu wn mk) (k.toNatClampNeg * 6) ((k.toNatClampNeg * 6) + (tc k.toNatClampNeg)))) → ∀ (H : Heap) (locs : List Loc), va_P D vwCl [(h0, .inr (4, [.ref a0, .ref b0, .ref f0, .ref g0])), (f0, .inr (0, [.ref f1, .int (nI nb), .ref f2, .ref f3, .ref f4, .int (nI nr), .ref f5, .ref f6, .ref f7, .ref f8, .ref f9, .ref f10])), (f1, .inl (y3.1, 16, .inl vb)), (f4, .inl (y3.1, 12, .inl (fN tc))), (f5, .inl (y3.1, 72, .inl (fN lev))), (f6, .inl (y3.1, 72, .inl (fN fo))), (f7, .inl (y3.1, 72, .inl (fN tu))), (f8, .inl (y3.1, 72, .inl wn)), (f9, .inl (y3.1, 72, .inl mk)), (f10, .inl (y3.2.1, 72, .inl (fB u4))), (o9, .inl (y3.2.2, 1, .inr (.inl lo)))] H → va_D A [(h0, .inr (4, [.ref a0, .ref b0, .ref f0, .ref g0])), (f0, .inr (0, [.ref f1, .int (nI nb), .ref f2, .ref f3, .ref f4, .int (nI nr), .ref f5, .ref f6, .ref f7, .ref f8, .ref f9, .ref f10])), (f1, .inl (y3.1, 16, .inl vb)), (f4, .inl (y3.1, 12, .inl (fN tc))), (f5, .inl (y3.1, 72, .inl (fN lev))), (f6, .inl (y3.1, 72, .inl (fN fo))), (f7, .inl (y3.1, 72, .inl (fN tu))), (f8, .inl (y3.1, 72, .inl wn)), (f9, .inl (y3.1, 72, .inl mk)), (f10, .inl (y3.2.1, 72, .inl (fB u4))), (o9, .inl (y3.2.2, 1, .inr (.inl lo)))] → va_S A s.heap H locs → ∀ ls : Array Slot, lv_has ls 4 [(0, .ref h0), (1, .int k), (2, .ref o9)] → W p l e (rmO 8 1 6 132) s m args below meth c H locs 0 0 Q (F0 m 15 ls [.long j9, .int (nI 0), .ref o9]) := by
    intro j9 hj9 H locs hP hD hS ls hl
    refine ln_last hx hb hK hP hD hS 10 2 rfl rfl (by omega) (by decide) dL_proves_15 _ rfl (fun H locs hP hD hS => ?_)
    have hP : va_P D vwCl [(h0, .inr (4, [.ref a0, .ref b0, .ref f0, .ref g0])), (f0, .inr (0, [.ref f1, .int (nI nb), .ref f2, .ref f3, .ref f4, .int (nI nr), .ref f5, .ref f6, .ref f7, .ref f8, .ref f9, .ref f10])), (f1, .inl (y3.1, 16, .inl vb)), (f4, .inl (y3.1, 12, .inl (fN tc))), (f5, .inl (y3.1, 72, .inl (fN lev))), (f6, .inl (y3.1, 72, .inl (fN fo))), (f7, .inl (y3.1, 72, .inl (fN tu))), (f8, .inl (y3.1, 72, .inl wn)), (f9, .inl (y3.1, 72, .inl mk)), (f10, .inl (y3.2.1, 72, .inl (fB u4))), (o9, .inl (y3.2.2, 1, .inr (.inl (vp_updL lo 0 j9))))] H := hP
    have hD : va_D A [(h0, .inr (4, [.ref a0, .ref b0, .ref f0, .ref g0])), (f0, .inr (0, [.ref f1, .int (nI nb), .ref f2, .ref f3, .ref f4, .int (nI nr), .ref f5, .ref f6, .ref f7, .ref f8, .ref f9, .ref f10])), (f1, .inl (y3.1, 16, .inl vb)), (f4, .inl (y3.1, 12, .inl (fN tc))), (f5, .inl (y3.1, 72, .inl (fN lev))), (f6, .inl (y3.1, 72, .inl (fN fo))), (f7, .inl (y3.1, 72, .inl (fN tu))), (f8, .inl (y3.1, 72, .inl wn)), (f9, .inl (y3.1, 72, .inl mk)), (f10, .inl (y3.2.1, 72, .inl (fB u4))), (o9, .inl (y3.2.2, 1, .inr (.inl (vp_updL lo 0 j9))))] := hD
    refine lv_goto (tgt := 22) hx hb dL_proves_16 (by decide) ?_
    refine lv_iconst (v := (nI 0)) hx hb dL_proves_22 rfl ?_
    rw [hj9] at hP hD
    exact hret 23 ls H locs _ _ u4 _ hP hD hS (Nat.le_of_ble_eq_true rfl) (Nat.le_of_ble_eq_true rfl) rfl dL_proves_23
  refine lb_if_eq (tgt := 14) hx hb dL_proves_7 (by decide) (fun c7 => ?_) (fun c7 => ?_)
  · refine lv_lconst (v := 0) hx hb dL_proves_14 rfl ?_
    exact jn15 0 (by rw [c7]; rfl) _ _ hP hD hS _ (lv_sub hl [0, 1, 2] rfl)
  · refine lv_lconst (v := 1) hx hb dL_proves_10 rfl ?_
    refine lv_goto (tgt := 15) hx hb dL_proves_11 (by decide) ?_
    exact jn15 1 (by rw [c7]; rfl) _ _ hP hD hS _ (lv_sub hl [0, 1, 2] rfl)

set_option maxHeartbeats 4000000 in
set_option maxRecDepth 100000 in
theorem kL_proves_ex (l : Launch) (hls : l.stackTraces = false) (D : va_G) (y3 : ClassId × ClassId × ClassId) (h0 : Nat) (a0 : Nat) (b0 : Nat) (f0 : Nat) (g0 : Nat) (f1 : Nat) (f2 : Nat) (f3 : Nat) (f4 : Nat) (f5 : Nat) (f6 : Nat) (f7 : Nat) (f8 : Nat) (f9 : Nat) (f10 : Nat) (nb : Nat) (nr : Nat) (vb : Nat → Int32) (tc : Nat → Nat) (lev : Nat → Nat) (fo : Nat → Nat) (tu : Nat → Nat) (wn : Nat → Int32) (mk : Nat → Int32) (ld : Nat → Bool) (k : Int32) (o9 : Nat) (lo : Nat → Int64) (hnr : nr ≤ 12) (hnb : nb ≤ 16) (htc : ∀ q : Nat, tc q ≤ 6) (hlv : ∀ q : Nat, lev q ≤ 5) (hfo : ∀ q : Nat, fo q ≤ 15) (htu : ∀ q : Nat, tu q ≤ 15) (hz : ¬ (ak1 (inB k nr)) = 0) : lxM l yL_proves wsL_proves 8 132 1 6 D y3 [(h0, .inr (4, [.ref a0, .ref b0, .ref f0, .ref g0])), (f0, .inr (0, [.ref f1, .int (nI nb), .ref f2, .ref f3, .ref f4, .int (nI nr), .ref f5, .ref f6, .ref f7, .ref f8, .ref f9, .ref f10])), (f1, .inl (y3.1, 16, .inl vb)), (f4, .inl (y3.1, 12, .inl (fN tc))), (f5, .inl (y3.1, 72, .inl (fN lev))), (f6, .inl (y3.1, 72, .inl (fN fo))), (f7, .inl (y3.1, 72, .inl (fN tu))), (f8, .inl (y3.1, 72, .inl wn)), (f9, .inl (y3.1, 72, .inl mk)), (f10, .inl (y3.2.1, 72, .inl (fB ld))), (o9, .inl (y3.2.2, 1, .inr (.inl lo)))] [.ref h0, .int k, .ref o9] (fun r (_ : Unit) => r = (nI (ak1 (inB k nr)))) (fun (_ : Unit) => [(h0, .inr (4, [.ref a0, .ref b0, .ref f0, .ref g0])), (f0, .inr (0, [.ref f1, .int (nI nb), .ref f2, .ref f3, .ref f4, .int (nI nr), .ref f5, .ref f6, .ref f7, .ref f8, .ref f9, .ref f10])), (f1, .inl (y3.1, 16, .inl vb)), (f4, .inl (y3.1, 12, .inl (fN tc))), (f5, .inl (y3.1, 72, .inl (fN lev))), (f6, .inl (y3.1, 72, .inl (fN fo))), (f7, .inl (y3.1, 72, .inl (fN tu))), (f8, .inl (y3.1, 72, .inl wn)), (f9, .inl (y3.1, 72, .inl mk)), (f10, .inl (y3.2.1, 72, .inl (fB ld))), (o9, .inl (y3.2.2, 1, .inr (.inl lo)))]) := by
  refine lx_of (cc := cL_proves) (maxL := 4) (by decide) rfl (Nat.le_of_ble_eq_true rfl) ?_
  intro p e s m args below meth c A Q hx hb hml hown hts htab hP hK hD hA hS hT hret ls hl
  have hown : s.vm.findClass RL = some m.cls := hown
  replace hl : lv_has ls 4 [(0, .ref h0), (1, .int k), (2, .ref o9)] := hl
  have hk13 := hts (.classLink RL 13 xIO) (by decide +kernel)
  refine lv_aload_n hx hb dL_proves_0 rfl (lv_at hl 2 rfl) ?_
  refine lv_iconst (v := (nI 0)) hx hb dL_proves_1 rfl ?_
  refine lv_aload_n hx hb dL_proves_2 rfl (lv_at hl 0 rfl) ?_
  refine lv_iload_n hx hb dL_proves_3 rfl (lv_at hl 1 rfl) ?_
  refine tx_V (ci := 4) (q0 := 0) (own := RL) (As := [.int k]) (rest := [.int (nI 0), .ref o9]) (bytes := cX4_proves) (maxL := 2) (wr := [(o9, .inl (y3.2.2, 1, .inr (.inl lo)))]) (w3 := (fun (u1 : Nat → Bool) => [(h0, .inr (4, [.ref a0, .ref b0, .ref f0, .ref g0])), (f0, .inr (0, [.ref f1, .int (nI nb), .ref f2, .ref f3, .ref f4, .int (nI nr), .ref f5, .ref f6, .ref f7, .ref f8, .ref f9, .ref f10])), (f1, .inl (y3.1, 16, .inl vb)), (f4, .inl (y3.1, 12, .inl (fN tc))), (f5, .inl (y3.1, 72, .inl (fN lev))), (f6, .inl (y3.1, 72, .inl (fN fo))), (f7, .inl (y3.1, 72, .inl (fN tu))), (f8, .inl (y3.1, 72, .inl wn)), (f9, .inl (y3.1, 72, .inl mk)), (f10, .inl (y3.2.1, 72, .inl (fB u1))), (o9, .inl (y3.2.2, 1, .inr (.inl lo)))])) ⟨hx, hb, hml, hown, hts⟩ (kX4_proves l hls D y3 h0 a0 b0 f0 g0 f1 f2 f3 f4 f5 f6 f7 f8 f9 f10 nb nr vb tc lev fo tu wn mk ld k (by omega) (by omega) (by assumption) (by assumption) (by assumption) (by assumption)) gL_proves_X4_proves rfl hvX4_proves ⟨Nat.le_of_ble_eq_true rfl, Nat.le_of_ble_eq_true rfl⟩ hP hK hD hS hA hT [0, 1, 2, 3, 4, 5, 6, 7, 8, 9] [10] [1, 2, 3, 4, 5, 6, 7, 8, 9, 10, 0] rfl rfl rfl rfl (by decide) (fun _ => rfl) rfl rfl rfl rfl hl.1 rfl (Nat.le_of_ble_eq_true rfl) dL_proves_4 ⟨Nat.le_of_ble_eq_true rfl, Nat.le_of_ble_eq_true rfl⟩ (fun E ce q9 H locs hE hP hD hS h7 h8 h9 => ?_) (fun r4 u1 H locs hr4 hP hD hS => absurd hr4.1 hz)
  obtain ⟨hz9, rfl⟩ := xcd_1 hE
  refine vx_catch (own := RL) (name := xIO) hown [] ⟨0, 16, 19, 13⟩ [] htab (fun z h => (by cases h)) rfl (by decide) hk13 (lx_c hT (by simp [xE3])) h7 h8 h9 ?_
  refine lv_astore_n (lv' := [(3, .ref q9), (0, .ref h0), (1, .int k), (2, .ref o9)]) hx hb dL_proves_19 rfl hl (by decide) rfl (fun ls hl => ?_)
  refine lv_iconst (v := (nI 1)) hx hb dL_proves_20 rfl ?_
  exact hret 21 ls H locs _ _ () _ hP hD hS (Nat.le_of_ble_eq_true rfl) (Nat.le_of_ble_eq_true rfl) (by rw [hz9]) dL_proves_21

set_option maxHeartbeats 4000000 in
set_option maxRecDepth 100000 in
theorem kL_program_ok (l : Launch) (hls : l.stackTraces = false) (D : va_G) (y3 : ClassId × ClassId × ClassId) (h0 : Nat) (a0 : Nat) (b0 : Nat) (f0 : Nat) (g0 : Nat) (a1 : Nat) (nk : Nat) (g1 : Nat) (g2 : Nat) (st : Nat → Int32) (i : Int32) (k : Int32) (pg : Int32) (sv : Int32) (o9 : Nat) (lo : Nat → Int64) (hk : nk ≤ 14) (hz : (ak2 (inB k nk) (rgB i (nI 0) (nI 2) && (rgB pg (nI 0) (nI 9) && rgB sv (nI 0) (nI 2)))) = 0) : lxM l yL_program wsL_program 9 156 1 6 D y3 [(h0, .inr (4, [.ref a0, .ref b0, .ref f0, .ref g0])), (a0, .inr (1, [.ref a1, .int (nI nk)])), (g0, .inr (3, [.ref g1, .ref g2])), (g1, .inl (y3.1, 420, .inl st)), (o9, .inl (y3.2.2, 1, .inr (.inl lo)))] [.ref h0, .int i, .int k, .int pg, .int sv, .ref o9] (fun r (_ : Unit) => r = (nI 0)) (fun (_ : Unit) => [(h0, .inr (4, [.ref a0, .ref b0, .ref f0, .ref g0])), (a0, .inr (1, [.ref a1, .int (nI nk)])), (g0, .inr (3, [.ref g1, .ref g2])), (g1, .inl (y3.1, 420, .inl (upd st ((((i.toNatClampNeg * 14) + k.toNatClampNeg) * 10) + pg.toNatClampNeg) sv))), (o9, .inl (y3.2.2, 1, .inr (.inl (vp_updL lo 0 ((st ((((i.toNatClampNeg * 14) + k.toNatClampNeg) * 10) + pg.toNatClampNeg))).toInt64))))]) := by
  refine lx_of (cc := cL_program) (maxL := 7) (by decide) rfl (Nat.le_of_ble_eq_true rfl) ?_
  intro p e s m args below meth c A Q hx hb hml hown hts htab hP hK hD hA hS hT hret ls hl
  have hown : s.vm.findClass RL = some m.cls := hown
  replace hl : lv_has ls 7 [(0, .ref h0), (1, .int i), (2, .int k), (3, .int pg), (4, .int sv), (5, .ref o9)] := hl
  refine lv_aload hx hb dL_program_0 (lv_at hl 5 rfl) ?_
  refine lv_iconst (v := (nI 0)) hx hb dL_program_2 rfl ?_
  refine lv_aload_n hx hb dL_program_3 rfl (lv_at hl 0 rfl) ?_
  refine lv_iload_n hx hb dL_program_4 rfl (lv_at hl 1 rfl) ?_
  refine lv_iload_n hx hb dL_program_5 rfl (lv_at hl 2 rfl) ?_
  refine lv_iload_n hx hb dL_program_6 rfl (lv_at hl 3 rfl) ?_
  refine lv_iload hx hb dL_program_7 (lv_at hl 4 rfl) ?_
  refine tx_V (ci := 4) (q0 := 0) (own := RL) (As := [.int i, .int k, .int pg, .int sv]) (rest := [.int (nI 0), .ref o9]) (bytes := cX4_program) (maxL := 5) (wr := [(o9, .inl (y3.2.2, 1, .inr (.inl lo)))]) (w3 := (fun (_ : Unit) => [(h0, .inr (4, [.ref a0, .ref b0, .ref f0, .ref g0])), (a0, .inr (1, [.ref a1, .int (nI nk)])), (g0, .inr (3, [.ref g1, .ref g2])), (g1, .inl (y3.1, 420, .inl (upd st ((((i.toNatClampNeg * 14) + k.toNatClampNeg) * 10) + pg.toNatClampNeg) sv))), (o9, .inl (y3.2.2, 1, .inr (.inl lo)))])) ⟨hx, hb, hml, hown, hts⟩ (kX4_program l hls D y3 h0 a0 b0 f0 g0 a1 nk g1 g2 st i k pg sv (by omega)) gL_program_X4_program rfl hvX4_program ⟨Nat.le_of_ble_eq_true rfl, Nat.le_of_ble_eq_true rfl⟩ hP hK hD hS hA hT [0, 1, 2, 3] [4] [1, 2, 3, 4, 0] rfl rfl rfl rfl (by decide) (fun _ => rfl) rfl rfl rfl rfl hl.1 rfl (Nat.le_of_ble_eq_true rfl) dL_program_9 ⟨Nat.le_of_ble_eq_true rfl, Nat.le_of_ble_eq_true rfl⟩ (fun E ce q9 H locs hE hP hD hS h7 h8 h9 => xcd_no hz hE) (fun r9 u9 H locs hr9 hP hD hS => ?_)
  have hP : va_P D vwCl [(h0, .inr (4, [.ref a0, .ref b0, .ref f0, .ref g0])), (a0, .inr (1, [.ref a1, .int (nI nk)])), (g0, .inr (3, [.ref g1, .ref g2])), (g1, .inl (y3.1, 420, .inl (upd st ((((i.toNatClampNeg * 14) + k.toNatClampNeg) * 10) + pg.toNatClampNeg) sv))), (o9, .inl (y3.2.2, 1, .inr (.inl lo)))] H := hP
  have hD : va_D A [(h0, .inr (4, [.ref a0, .ref b0, .ref f0, .ref g0])), (a0, .inr (1, [.ref a1, .int (nI nk)])), (g0, .inr (3, [.ref g1, .ref g2])), (g1, .inl (y3.1, 420, .inl (upd st ((((i.toNatClampNeg * 14) + k.toNatClampNeg) * 10) + pg.toNatClampNeg) sv))), (o9, .inl (y3.2.2, 1, .inr (.inl lo)))] := hD
  rw [hr9.2]
  refine lv_i2l (v := (st ((((i.toNatClampNeg * 14) + k.toNatClampNeg) * 10) + pg.toNatClampNeg)).toInt64) hx hb dL_program_12 rfl ?_
  refine ln_last hx hb hK hP hD hS 4 2 rfl rfl (by omega) (by decide) dL_program_13 _ rfl (fun H locs hP hD hS => ?_)
  have hP : va_P D vwCl [(h0, .inr (4, [.ref a0, .ref b0, .ref f0, .ref g0])), (a0, .inr (1, [.ref a1, .int (nI nk)])), (g0, .inr (3, [.ref g1, .ref g2])), (g1, .inl (y3.1, 420, .inl (upd st ((((i.toNatClampNeg * 14) + k.toNatClampNeg) * 10) + pg.toNatClampNeg) sv))), (o9, .inl (y3.2.2, 1, .inr (.inl (vp_updL lo 0 ((st ((((i.toNatClampNeg * 14) + k.toNatClampNeg) * 10) + pg.toNatClampNeg)).toInt64)))))] H := hP
  have hD : va_D A [(h0, .inr (4, [.ref a0, .ref b0, .ref f0, .ref g0])), (a0, .inr (1, [.ref a1, .int (nI nk)])), (g0, .inr (3, [.ref g1, .ref g2])), (g1, .inl (y3.1, 420, .inl (upd st ((((i.toNatClampNeg * 14) + k.toNatClampNeg) * 10) + pg.toNatClampNeg) sv))), (o9, .inl (y3.2.2, 1, .inr (.inl (vp_updL lo 0 ((st ((((i.toNatClampNeg * 14) + k.toNatClampNeg) * 10) + pg.toNatClampNeg)).toInt64)))))] := hD
  refine lv_goto (tgt := 25) hx hb dL_program_14 (by decide) ?_
  refine lv_iconst (v := (nI 0)) hx hb dL_program_25 rfl ?_
  exact hret 26 ls H locs _ _ () _ hP hD hS (Nat.le_of_ble_eq_true rfl) (Nat.le_of_ble_eq_true rfl) rfl dL_program_26

set_option maxHeartbeats 4000000 in
set_option maxRecDepth 100000 in
theorem kL_program_ex (l : Launch) (hls : l.stackTraces = false) (D : va_G) (y3 : ClassId × ClassId × ClassId) (h0 : Nat) (a0 : Nat) (b0 : Nat) (f0 : Nat) (g0 : Nat) (a1 : Nat) (nk : Nat) (g1 : Nat) (g2 : Nat) (st : Nat → Int32) (i : Int32) (k : Int32) (pg : Int32) (sv : Int32) (o9 : Nat) (lo : Nat → Int64) (hk : nk ≤ 14) (hz : ¬ (ak2 (inB k nk) (rgB i (nI 0) (nI 2) && (rgB pg (nI 0) (nI 9) && rgB sv (nI 0) (nI 2)))) = 0) : lxM l yL_program wsL_program 9 156 1 6 D y3 [(h0, .inr (4, [.ref a0, .ref b0, .ref f0, .ref g0])), (a0, .inr (1, [.ref a1, .int (nI nk)])), (g0, .inr (3, [.ref g1, .ref g2])), (g1, .inl (y3.1, 420, .inl st)), (o9, .inl (y3.2.2, 1, .inr (.inl lo)))] [.ref h0, .int i, .int k, .int pg, .int sv, .ref o9] (fun r (_ : Unit) => r = (nI (ak2 (inB k nk) (rgB i (nI 0) (nI 2) && (rgB pg (nI 0) (nI 9) && rgB sv (nI 0) (nI 2)))))) (fun (_ : Unit) => [(h0, .inr (4, [.ref a0, .ref b0, .ref f0, .ref g0])), (a0, .inr (1, [.ref a1, .int (nI nk)])), (g0, .inr (3, [.ref g1, .ref g2])), (g1, .inl (y3.1, 420, .inl st)), (o9, .inl (y3.2.2, 1, .inr (.inl lo)))]) := by
  refine lx_of (cc := cL_program) (maxL := 7) (by decide) rfl (Nat.le_of_ble_eq_true rfl) ?_
  intro p e s m args below meth c A Q hx hb hml hown hts htab hP hK hD hA hS hT hret ls hl
  have hown : s.vm.findClass RL = some m.cls := hown
  replace hl : lv_has ls 7 [(0, .ref h0), (1, .int i), (2, .int k), (3, .int pg), (4, .int sv), (5, .ref o9)] := hl
  have hk13 := hts (.classLink RL 13 xIO) (by decide +kernel)
  have hk21 := hts (.classLink RL 21 xIA) (by decide +kernel)
  refine lv_aload hx hb dL_program_0 (lv_at hl 5 rfl) ?_
  refine lv_iconst (v := (nI 0)) hx hb dL_program_2 rfl ?_
  refine lv_aload_n hx hb dL_program_3 rfl (lv_at hl 0 rfl) ?_
  refine lv_iload_n hx hb dL_program_4 rfl (lv_at hl 1 rfl) ?_
  refine lv_iload_n hx hb dL_program_5 rfl (lv_at hl 2 rfl) ?_
  refine lv_iload_n hx hb dL_program_6 rfl (lv_at hl 3 rfl) ?_
  refine lv_iload hx hb dL_program_7 (lv_at hl 4 rfl) ?_
  refine tx_V (ci := 4) (q0 := 0) (own := RL) (As := [.int i, .int k, .int pg, .int sv]) (rest := [.int (nI 0), .ref o9]) (bytes := cX4_program) (maxL := 5) (wr := [(o9, .inl (y3.2.2, 1, .inr (.inl lo)))]) (w3 := (fun (_ : Unit) => [(h0, .inr (4, [.ref a0, .ref b0, .ref f0, .ref g0])), (a0, .inr (1, [.ref a1, .int (nI nk)])), (g0, .inr (3, [.ref g1, .ref g2])), (g1, .inl (y3.1, 420, .inl (upd st ((((i.toNatClampNeg * 14) + k.toNatClampNeg) * 10) + pg.toNatClampNeg) sv))), (o9, .inl (y3.2.2, 1, .inr (.inl lo)))])) ⟨hx, hb, hml, hown, hts⟩ (kX4_program l hls D y3 h0 a0 b0 f0 g0 a1 nk g1 g2 st i k pg sv (by omega)) gL_program_X4_program rfl hvX4_program ⟨Nat.le_of_ble_eq_true rfl, Nat.le_of_ble_eq_true rfl⟩ hP hK hD hS hA hT [0, 1, 2, 3] [4] [1, 2, 3, 4, 0] rfl rfl rfl rfl (by decide) (fun _ => rfl) rfl rfl rfl rfl hl.1 rfl (Nat.le_of_ble_eq_true rfl) dL_program_9 ⟨Nat.le_of_ble_eq_true rfl, Nat.le_of_ble_eq_true rfl⟩ (fun E ce q9 H locs hE hP hD hS h7 h8 h9 => ?_) (fun r9 u1 H locs hr9 hP hD hS => absurd hr9.1 hz)
  rcases xcd_2 hE with ⟨hz9, rfl⟩ | ⟨hz9, rfl⟩
  · refine vx_catch (own := RL) (name := xIO) hown [] ⟨0, 14, 17, 13⟩ [⟨0, 14, 21, 21⟩] htab (fun z h => (by cases h)) rfl (by decide) hk13 (lx_c hT (by simp [xE3])) h7 h8 h9 ?_
    refine lv_astore (lv' := [(6, .ref q9), (0, .ref h0), (1, .int i), (2, .int k), (3, .int pg), (4, .int sv), (5, .ref o9)]) hx hb dL_program_17 hl (by decide) rfl (fun ls hl => ?_)
    refine lv_iconst (v := (nI 1)) hx hb dL_program_19 rfl ?_
    exact hret 20 ls H locs _ _ () _ hP hD hS (Nat.le_of_ble_eq_true rfl) (Nat.le_of_ble_eq_true rfl) (by rw [hz9]) dL_program_20
  · refine vx_catch (own := RL) (name := xIA) hown [⟨0, 14, 17, 13⟩] ⟨0, 14, 21, 21⟩ [] htab (fun z h => by
        simp only [List.mem_cons, List.not_mem_nil, or_false] at h
        subst h
        exact Or.inr ⟨by decide, xIO, hk13, lx_IA hT⟩) rfl (by decide) hk21 (lx_c hT (by simp [xE3])) h7 h8 h9 ?_
    refine lv_astore (lv' := [(6, .ref q9), (0, .ref h0), (1, .int i), (2, .int k), (3, .int pg), (4, .int sv), (5, .ref o9)]) hx hb dL_program_21 hl (by decide) rfl (fun ls hl => ?_)
    refine lv_iconst (v := (nI 2)) hx hb dL_program_23 rfl ?_
    exact hret 24 ls H locs _ _ () _ hP hD hS (Nat.le_of_ble_eq_true rfl) (Nat.le_of_ble_eq_true rfl) (by rw [hz9]) dL_program_24

set_option maxHeartbeats 4000000 in
set_option maxRecDepth 100000 in
theorem kL_setDefault_ok (l : Launch) (hls : l.stackTraces = false) (D : va_G) (y3 : ClassId × ClassId × ClassId) (h0 : Nat) (a0 : Nat) (b0 : Nat) (f0 : Nat) (g0 : Nat) (a1 : Nat) (nk : Nat) (g1 : Nat) (g2 : Nat) (df : Nat → Int32) (i : Int32) (k : Int32) (sv : Int32) (o9 : Nat) (lo : Nat → Int64) (hk : nk ≤ 14) (hz : (ak2 (inB k nk) (rgB i (nI 0) (nI 2) && rgB sv (-1) (nI 9))) = 0) : lxM l yL_setDefault wsL_setDefault 9 155 1 6 D y3 [(h0, .inr (4, [.ref a0, .ref b0, .ref f0, .ref g0])), (a0, .inr (1, [.ref a1, .int (nI nk)])), (g0, .inr (3, [.ref g1, .ref g2])), (g2, .inl (y3.1, 42, .inl df)), (o9, .inl (y3.2.2, 1, .inr (.inl lo)))] [.ref h0, .int i, .int k, .int sv, .ref o9] (fun r (_ : Unit) => r = (nI 0)) (fun (_ : Unit) => [(h0, .inr (4, [.ref a0, .ref b0, .ref f0, .ref g0])), (a0, .inr (1, [.ref a1, .int (nI nk)])), (g0, .inr (3, [.ref g1, .ref g2])), (g2, .inl (y3.1, 42, .inl (upd df ((i.toNatClampNeg * 14) + k.toNatClampNeg) sv))), (o9, .inl (y3.2.2, 1, .inr (.inl (vp_updL lo 0 ((df ((i.toNatClampNeg * 14) + k.toNatClampNeg))).toInt64))))]) := by
  refine lx_of (cc := cL_setDefault) (maxL := 6) (by decide) rfl (Nat.le_of_ble_eq_true rfl) ?_
  intro p e s m args below meth c A Q hx hb hml hown hts htab hP hK hD hA hS hT hret ls hl
  have hown : s.vm.findClass RL = some m.cls := hown
  replace hl : lv_has ls 6 [(0, .ref h0), (1, .int i), (2, .int k), (3, .int sv), (4, .ref o9)] := hl
  refine lv_aload hx hb dL_setDefault_0 (lv_at hl 4 rfl) ?_
  refine lv_iconst (v := (nI 0)) hx hb dL_setDefault_2 rfl ?_
  refine lv_aload_n hx hb dL_setDefault_3 rfl (lv_at hl 0 rfl) ?_
  refine lv_iload_n hx hb dL_setDefault_4 rfl (lv_at hl 1 rfl) ?_
  refine lv_iload_n hx hb dL_setDefault_5 rfl (lv_at hl 2 rfl) ?_
  refine lv_iload_n hx hb dL_setDefault_6 rfl (lv_at hl 3 rfl) ?_
  refine tx_V (ci := 4) (q0 := 0) (own := RL) (As := [.int i, .int k, .int sv]) (rest := [.int (nI 0), .ref o9]) (bytes := cX4_setDefault) (maxL := 4) (wr := [(o9, .inl (y3.2.2, 1, .inr (.inl lo)))]) (w3 := (fun (_ : Unit) => [(h0, .inr (4, [.ref a0, .ref b0, .ref f0, .ref g0])), (a0, .inr (1, [.ref a1, .int (nI nk)])), (g0, .inr (3, [.ref g1, .ref g2])), (g2, .inl (y3.1, 42, .inl (upd df ((i.toNatClampNeg * 14) + k.toNatClampNeg) sv))), (o9, .inl (y3.2.2, 1, .inr (.inl lo)))])) ⟨hx, hb, hml, hown, hts⟩ (kX4_setDefault l hls D y3 h0 a0 b0 f0 g0 a1 nk g1 g2 df i k sv (by omega)) gL_setDefault_X4_setDefault rfl hvX4_setDefault ⟨Nat.le_of_ble_eq_true rfl, Nat.le_of_ble_eq_true rfl⟩ hP hK hD hS hA hT [0, 1, 2, 3] [4] [1, 2, 3, 4, 0] rfl rfl rfl rfl (by decide) (fun _ => rfl) rfl rfl rfl rfl hl.1 rfl (Nat.le_of_ble_eq_true rfl) dL_setDefault_7 ⟨Nat.le_of_ble_eq_true rfl, Nat.le_of_ble_eq_true rfl⟩ (fun E ce q9 H locs hE hP hD hS h7 h8 h9 => xcd_no hz hE) (fun r7 u7 H locs hr7 hP hD hS => ?_)
  have hP : va_P D vwCl [(h0, .inr (4, [.ref a0, .ref b0, .ref f0, .ref g0])), (a0, .inr (1, [.ref a1, .int (nI nk)])), (g0, .inr (3, [.ref g1, .ref g2])), (g2, .inl (y3.1, 42, .inl (upd df ((i.toNatClampNeg * 14) + k.toNatClampNeg) sv))), (o9, .inl (y3.2.2, 1, .inr (.inl lo)))] H := hP
  have hD : va_D A [(h0, .inr (4, [.ref a0, .ref b0, .ref f0, .ref g0])), (a0, .inr (1, [.ref a1, .int (nI nk)])), (g0, .inr (3, [.ref g1, .ref g2])), (g2, .inl (y3.1, 42, .inl (upd df ((i.toNatClampNeg * 14) + k.toNatClampNeg) sv))), (o9, .inl (y3.2.2, 1, .inr (.inl lo)))] := hD
  rw [hr7.2]
  refine lv_i2l (v := (df ((i.toNatClampNeg * 14) + k.toNatClampNeg)).toInt64) hx hb dL_setDefault_10 rfl ?_
  refine ln_last hx hb hK hP hD hS 4 2 rfl rfl (by omega) (by decide) dL_setDefault_11 _ rfl (fun H locs hP hD hS => ?_)
  have hP : va_P D vwCl [(h0, .inr (4, [.ref a0, .ref b0, .ref f0, .ref g0])), (a0, .inr (1, [.ref a1, .int (nI nk)])), (g0, .inr (3, [.ref g1, .ref g2])), (g2, .inl (y3.1, 42, .inl (upd df ((i.toNatClampNeg * 14) + k.toNatClampNeg) sv))), (o9, .inl (y3.2.2, 1, .inr (.inl (vp_updL lo 0 ((df ((i.toNatClampNeg * 14) + k.toNatClampNeg)).toInt64)))))] H := hP
  have hD : va_D A [(h0, .inr (4, [.ref a0, .ref b0, .ref f0, .ref g0])), (a0, .inr (1, [.ref a1, .int (nI nk)])), (g0, .inr (3, [.ref g1, .ref g2])), (g2, .inl (y3.1, 42, .inl (upd df ((i.toNatClampNeg * 14) + k.toNatClampNeg) sv))), (o9, .inl (y3.2.2, 1, .inr (.inl (vp_updL lo 0 ((df ((i.toNatClampNeg * 14) + k.toNatClampNeg)).toInt64)))))] := hD
  refine lv_goto (tgt := 23) hx hb dL_setDefault_12 (by decide) ?_
  refine lv_iconst (v := (nI 0)) hx hb dL_setDefault_23 rfl ?_
  exact hret 24 ls H locs _ _ () _ hP hD hS (Nat.le_of_ble_eq_true rfl) (Nat.le_of_ble_eq_true rfl) rfl dL_setDefault_24

set_option maxHeartbeats 4000000 in
set_option maxRecDepth 100000 in
theorem kL_setDefault_ex (l : Launch) (hls : l.stackTraces = false) (D : va_G) (y3 : ClassId × ClassId × ClassId) (h0 : Nat) (a0 : Nat) (b0 : Nat) (f0 : Nat) (g0 : Nat) (a1 : Nat) (nk : Nat) (g1 : Nat) (g2 : Nat) (df : Nat → Int32) (i : Int32) (k : Int32) (sv : Int32) (o9 : Nat) (lo : Nat → Int64) (hk : nk ≤ 14) (hz : ¬ (ak2 (inB k nk) (rgB i (nI 0) (nI 2) && rgB sv (-1) (nI 9))) = 0) : lxM l yL_setDefault wsL_setDefault 9 155 1 6 D y3 [(h0, .inr (4, [.ref a0, .ref b0, .ref f0, .ref g0])), (a0, .inr (1, [.ref a1, .int (nI nk)])), (g0, .inr (3, [.ref g1, .ref g2])), (g2, .inl (y3.1, 42, .inl df)), (o9, .inl (y3.2.2, 1, .inr (.inl lo)))] [.ref h0, .int i, .int k, .int sv, .ref o9] (fun r (_ : Unit) => r = (nI (ak2 (inB k nk) (rgB i (nI 0) (nI 2) && rgB sv (-1) (nI 9))))) (fun (_ : Unit) => [(h0, .inr (4, [.ref a0, .ref b0, .ref f0, .ref g0])), (a0, .inr (1, [.ref a1, .int (nI nk)])), (g0, .inr (3, [.ref g1, .ref g2])), (g2, .inl (y3.1, 42, .inl df)), (o9, .inl (y3.2.2, 1, .inr (.inl lo)))]) := by
  refine lx_of (cc := cL_setDefault) (maxL := 6) (by decide) rfl (Nat.le_of_ble_eq_true rfl) ?_
  intro p e s m args below meth c A Q hx hb hml hown hts htab hP hK hD hA hS hT hret ls hl
  have hown : s.vm.findClass RL = some m.cls := hown
  replace hl : lv_has ls 6 [(0, .ref h0), (1, .int i), (2, .int k), (3, .int sv), (4, .ref o9)] := hl
  have hk13 := hts (.classLink RL 13 xIO) (by decide +kernel)
  have hk21 := hts (.classLink RL 21 xIA) (by decide +kernel)
  refine lv_aload hx hb dL_setDefault_0 (lv_at hl 4 rfl) ?_
  refine lv_iconst (v := (nI 0)) hx hb dL_setDefault_2 rfl ?_
  refine lv_aload_n hx hb dL_setDefault_3 rfl (lv_at hl 0 rfl) ?_
  refine lv_iload_n hx hb dL_setDefault_4 rfl (lv_at hl 1 rfl) ?_
  refine lv_iload_n hx hb dL_setDefault_5 rfl (lv_at hl 2 rfl) ?_
  refine lv_iload_n hx hb dL_setDefault_6 rfl (lv_at hl 3 rfl) ?_
  refine tx_V (ci := 4) (q0 := 0) (own := RL) (As := [.int i, .int k, .int sv]) (rest := [.int (nI 0), .ref o9]) (bytes := cX4_setDefault) (maxL := 4) (wr := [(o9, .inl (y3.2.2, 1, .inr (.inl lo)))]) (w3 := (fun (_ : Unit) => [(h0, .inr (4, [.ref a0, .ref b0, .ref f0, .ref g0])), (a0, .inr (1, [.ref a1, .int (nI nk)])), (g0, .inr (3, [.ref g1, .ref g2])), (g2, .inl (y3.1, 42, .inl (upd df ((i.toNatClampNeg * 14) + k.toNatClampNeg) sv))), (o9, .inl (y3.2.2, 1, .inr (.inl lo)))])) ⟨hx, hb, hml, hown, hts⟩ (kX4_setDefault l hls D y3 h0 a0 b0 f0 g0 a1 nk g1 g2 df i k sv (by omega)) gL_setDefault_X4_setDefault rfl hvX4_setDefault ⟨Nat.le_of_ble_eq_true rfl, Nat.le_of_ble_eq_true rfl⟩ hP hK hD hS hA hT [0, 1, 2, 3] [4] [1, 2, 3, 4, 0] rfl rfl rfl rfl (by decide) (fun _ => rfl) rfl rfl rfl rfl hl.1 rfl (Nat.le_of_ble_eq_true rfl) dL_setDefault_7 ⟨Nat.le_of_ble_eq_true rfl, Nat.le_of_ble_eq_true rfl⟩ (fun E ce q9 H locs hE hP hD hS h7 h8 h9 => ?_) (fun r7 u1 H locs hr7 hP hD hS => absurd hr7.1 hz)
  rcases xcd_2 hE with ⟨hz9, rfl⟩ | ⟨hz9, rfl⟩
  · refine vx_catch (own := RL) (name := xIO) hown [] ⟨0, 12, 15, 13⟩ [⟨0, 12, 19, 21⟩] htab (fun z h => (by cases h)) rfl (by decide) hk13 (lx_c hT (by simp [xE3])) h7 h8 h9 ?_
    refine lv_astore (lv' := [(5, .ref q9), (0, .ref h0), (1, .int i), (2, .int k), (3, .int sv), (4, .ref o9)]) hx hb dL_setDefault_15 hl (by decide) rfl (fun ls hl => ?_)
    refine lv_iconst (v := (nI 1)) hx hb dL_setDefault_17 rfl ?_
    exact hret 18 ls H locs _ _ () _ hP hD hS (Nat.le_of_ble_eq_true rfl) (Nat.le_of_ble_eq_true rfl) (by rw [hz9]) dL_setDefault_18
  · refine vx_catch (own := RL) (name := xIA) hown [⟨0, 12, 15, 13⟩] ⟨0, 12, 19, 21⟩ [] htab (fun z h => by
        simp only [List.mem_cons, List.not_mem_nil, or_false] at h
        subst h
        exact Or.inr ⟨by decide, xIO, hk13, lx_IA hT⟩) rfl (by decide) hk21 (lx_c hT (by simp [xE3])) h7 h8 h9 ?_
    refine lv_astore (lv' := [(5, .ref q9), (0, .ref h0), (1, .int i), (2, .int k), (3, .int sv), (4, .ref o9)]) hx hb dL_setDefault_19 hl (by decide) rfl (fun ls hl => ?_)
    refine lv_iconst (v := (nI 2)) hx hb dL_setDefault_21 rfl ?_
    exact hret 22 ls H locs _ _ () _ hP hD hS (Nat.le_of_ble_eq_true rfl) (Nat.le_of_ble_eq_true rfl) (by rw [hz9]) dL_setDefault_22

set_option maxHeartbeats 4000000 in
set_option maxRecDepth 100000 in
theorem kL_programs_ok (l : Launch) (hls : l.stackTraces = false) (D : va_G) (y3 : ClassId × ClassId × ClassId) (h0 : Nat) (a0 : Nat) (b0 : Nat) (f0 : Nat) (g0 : Nat) (a1 : Nat) (nk : Nat) (par : Nat → Int32) (g1 : Nat) (g2 : Nat) (st : Nat → Int32) (k : Int32) (o9 : Nat) (lo : Nat → Int64) (hk : nk ≤ 14) (hp : parOK par nk) (hz : (ak1 (inB k nk)) = 0) : lxM l yL_programs wsL_programs 8 132 1 6 D y3 [(h0, .inr (4, [.ref a0, .ref b0, .ref f0, .ref g0])), (a0, .inr (1, [.ref a1, .int (nI nk)])), (a1, .inl (y3.1, 14, .inl par)), (g0, .inr (3, [.ref g1, .ref g2])), (g1, .inl (y3.1, 420, .inl st)), (o9, .inl (y3.2.2, 1, .inr (.inl lo)))] [.ref h0, .int k, .ref o9] (fun r (_ : Unit) => r = (nI 0)) (fun (_ : Unit) => [(h0, .inr (4, [.ref a0, .ref b0, .ref f0, .ref g0])), (a0, .inr (1, [.ref a1, .int (nI nk)])), (a1, .inl (y3.1, 14, .inl par)), (g0, .inr (3, [.ref g1, .ref g2])), (g1, .inl (y3.1, 420, .inl st)), (o9, .inl (y3.2.2, 1, .inr (.inl (vp_updL lo 0 ((nI (cntB (seenB st par 14 (nI k.toNatClampNeg) (fun _ => false)) 10))).toInt64))))]) := by
  refine lx_of (cc := cL_programs) (maxL := 4) (by decide) rfl (Nat.le_of_ble_eq_true rfl) ?_
  intro p e s m args below meth c A Q hx hb hml hown hts htab hP hK hD hA hS hT hret ls hl
  have hown : s.vm.findClass RL = some m.cls := hown
  replace hl : lv_has ls 4 [(0, .ref h0), (1, .int k), (2, .ref o9)] := hl
  refine lv_aload_n hx hb dL_programs_0 rfl (lv_at hl 2 rfl) ?_
  refine lv_iconst (v := (nI 0)) hx hb dL_programs_1 rfl ?_
  refine lv_aload_n hx hb dL_programs_2 rfl (lv_at hl 0 rfl) ?_
  refine lv_iload_n hx hb dL_programs_3 rfl (lv_at hl 1 rfl) ?_
  refine tx_V (ci := 4) (q0 := 0) (own := RL) (As := [.int k]) (rest := [.int (nI 0), .ref o9]) (bytes := cX4_programs) (maxL := 2) (wr := [(o9, .inl (y3.2.2, 1, .inr (.inl lo)))]) (w3 := (fun (_ : Unit) => [(h0, .inr (4, [.ref a0, .ref b0, .ref f0, .ref g0])), (a0, .inr (1, [.ref a1, .int (nI nk)])), (a1, .inl (y3.1, 14, .inl par)), (g0, .inr (3, [.ref g1, .ref g2])), (g1, .inl (y3.1, 420, .inl st)), (o9, .inl (y3.2.2, 1, .inr (.inl lo)))])) ⟨hx, hb, hml, hown, hts⟩ (kX4_programs l hls D y3 h0 a0 b0 f0 g0 a1 nk par g1 g2 st k (by omega) (by assumption)) gL_programs_X4_programs rfl hvX4_programs ⟨Nat.le_of_ble_eq_true rfl, Nat.le_of_ble_eq_true rfl⟩ hP hK hD hS hA hT [0, 1, 2, 3, 4] [5] [1, 2, 3, 4, 5, 0] rfl rfl rfl rfl (by decide) (fun _ => rfl) rfl rfl rfl rfl hl.1 rfl (Nat.le_of_ble_eq_true rfl) dL_programs_4 ⟨Nat.le_of_ble_eq_true rfl, Nat.le_of_ble_eq_true rfl⟩ (fun E ce q9 H locs hE hP hD hS h7 h8 h9 => xcd_no hz hE) (fun r4 u4 H locs hr4 hP hD hS => ?_)
  have hP : va_P D vwCl [(h0, .inr (4, [.ref a0, .ref b0, .ref f0, .ref g0])), (a0, .inr (1, [.ref a1, .int (nI nk)])), (a1, .inl (y3.1, 14, .inl par)), (g0, .inr (3, [.ref g1, .ref g2])), (g1, .inl (y3.1, 420, .inl st)), (o9, .inl (y3.2.2, 1, .inr (.inl lo)))] H := hP
  have hD : va_D A [(h0, .inr (4, [.ref a0, .ref b0, .ref f0, .ref g0])), (a0, .inr (1, [.ref a1, .int (nI nk)])), (a1, .inl (y3.1, 14, .inl par)), (g0, .inr (3, [.ref g1, .ref g2])), (g1, .inl (y3.1, 420, .inl st)), (o9, .inl (y3.2.2, 1, .inr (.inl lo)))] := hD
  rw [hr4.2]
  refine lv_i2l (v := (nI (cntB (seenB st par 14 (nI k.toNatClampNeg) (fun _ => false)) 10)).toInt64) hx hb dL_programs_7 rfl ?_
  refine ln_last hx hb hK hP hD hS 5 2 rfl rfl (by omega) (by decide) dL_programs_8 _ rfl (fun H locs hP hD hS => ?_)
  have hP : va_P D vwCl [(h0, .inr (4, [.ref a0, .ref b0, .ref f0, .ref g0])), (a0, .inr (1, [.ref a1, .int (nI nk)])), (a1, .inl (y3.1, 14, .inl par)), (g0, .inr (3, [.ref g1, .ref g2])), (g1, .inl (y3.1, 420, .inl st)), (o9, .inl (y3.2.2, 1, .inr (.inl (vp_updL lo 0 ((nI (cntB (seenB st par 14 (nI k.toNatClampNeg) (fun _ => false)) 10)).toInt64)))))] H := hP
  have hD : va_D A [(h0, .inr (4, [.ref a0, .ref b0, .ref f0, .ref g0])), (a0, .inr (1, [.ref a1, .int (nI nk)])), (a1, .inl (y3.1, 14, .inl par)), (g0, .inr (3, [.ref g1, .ref g2])), (g1, .inl (y3.1, 420, .inl st)), (o9, .inl (y3.2.2, 1, .inr (.inl (vp_updL lo 0 ((nI (cntB (seenB st par 14 (nI k.toNatClampNeg) (fun _ => false)) 10)).toInt64)))))] := hD
  refine lv_goto (tgt := 15) hx hb dL_programs_9 (by decide) ?_
  refine lv_iconst (v := (nI 0)) hx hb dL_programs_15 rfl ?_
  exact hret 16 ls H locs _ _ () _ hP hD hS (Nat.le_of_ble_eq_true rfl) (Nat.le_of_ble_eq_true rfl) rfl dL_programs_16

set_option maxHeartbeats 4000000 in
set_option maxRecDepth 100000 in
theorem kL_programs_ex (l : Launch) (hls : l.stackTraces = false) (D : va_G) (y3 : ClassId × ClassId × ClassId) (h0 : Nat) (a0 : Nat) (b0 : Nat) (f0 : Nat) (g0 : Nat) (a1 : Nat) (nk : Nat) (par : Nat → Int32) (g1 : Nat) (g2 : Nat) (st : Nat → Int32) (k : Int32) (o9 : Nat) (lo : Nat → Int64) (hk : nk ≤ 14) (hp : parOK par nk) (hz : ¬ (ak1 (inB k nk)) = 0) : lxM l yL_programs wsL_programs 8 132 1 6 D y3 [(h0, .inr (4, [.ref a0, .ref b0, .ref f0, .ref g0])), (a0, .inr (1, [.ref a1, .int (nI nk)])), (a1, .inl (y3.1, 14, .inl par)), (g0, .inr (3, [.ref g1, .ref g2])), (g1, .inl (y3.1, 420, .inl st)), (o9, .inl (y3.2.2, 1, .inr (.inl lo)))] [.ref h0, .int k, .ref o9] (fun r (_ : Unit) => r = (nI (ak1 (inB k nk)))) (fun (_ : Unit) => [(h0, .inr (4, [.ref a0, .ref b0, .ref f0, .ref g0])), (a0, .inr (1, [.ref a1, .int (nI nk)])), (a1, .inl (y3.1, 14, .inl par)), (g0, .inr (3, [.ref g1, .ref g2])), (g1, .inl (y3.1, 420, .inl st)), (o9, .inl (y3.2.2, 1, .inr (.inl lo)))]) := by
  refine lx_of (cc := cL_programs) (maxL := 4) (by decide) rfl (Nat.le_of_ble_eq_true rfl) ?_
  intro p e s m args below meth c A Q hx hb hml hown hts htab hP hK hD hA hS hT hret ls hl
  have hown : s.vm.findClass RL = some m.cls := hown
  replace hl : lv_has ls 4 [(0, .ref h0), (1, .int k), (2, .ref o9)] := hl
  have hk13 := hts (.classLink RL 13 xIO) (by decide +kernel)
  refine lv_aload_n hx hb dL_programs_0 rfl (lv_at hl 2 rfl) ?_
  refine lv_iconst (v := (nI 0)) hx hb dL_programs_1 rfl ?_
  refine lv_aload_n hx hb dL_programs_2 rfl (lv_at hl 0 rfl) ?_
  refine lv_iload_n hx hb dL_programs_3 rfl (lv_at hl 1 rfl) ?_
  refine tx_V (ci := 4) (q0 := 0) (own := RL) (As := [.int k]) (rest := [.int (nI 0), .ref o9]) (bytes := cX4_programs) (maxL := 2) (wr := [(o9, .inl (y3.2.2, 1, .inr (.inl lo)))]) (w3 := (fun (_ : Unit) => [(h0, .inr (4, [.ref a0, .ref b0, .ref f0, .ref g0])), (a0, .inr (1, [.ref a1, .int (nI nk)])), (a1, .inl (y3.1, 14, .inl par)), (g0, .inr (3, [.ref g1, .ref g2])), (g1, .inl (y3.1, 420, .inl st)), (o9, .inl (y3.2.2, 1, .inr (.inl lo)))])) ⟨hx, hb, hml, hown, hts⟩ (kX4_programs l hls D y3 h0 a0 b0 f0 g0 a1 nk par g1 g2 st k (by omega) (by assumption)) gL_programs_X4_programs rfl hvX4_programs ⟨Nat.le_of_ble_eq_true rfl, Nat.le_of_ble_eq_true rfl⟩ hP hK hD hS hA hT [0, 1, 2, 3, 4] [5] [1, 2, 3, 4, 5, 0] rfl rfl rfl rfl (by decide) (fun _ => rfl) rfl rfl rfl rfl hl.1 rfl (Nat.le_of_ble_eq_true rfl) dL_programs_4 ⟨Nat.le_of_ble_eq_true rfl, Nat.le_of_ble_eq_true rfl⟩ (fun E ce q9 H locs hE hP hD hS h7 h8 h9 => ?_) (fun r4 u1 H locs hr4 hP hD hS => absurd hr4.1 hz)
  obtain ⟨hz9, rfl⟩ := xcd_1 hE
  refine vx_catch (own := RL) (name := xIO) hown [] ⟨0, 9, 12, 13⟩ [] htab (fun z h => (by cases h)) rfl (by decide) hk13 (lx_c hT (by simp [xE3])) h7 h8 h9 ?_
  refine lv_astore_n (lv' := [(3, .ref q9), (0, .ref h0), (1, .int k), (2, .ref o9)]) hx hb dL_programs_12 rfl hl (by decide) rfl (fun ls hl => ?_)
  refine lv_iconst (v := (nI 1)) hx hb dL_programs_13 rfl ?_
  exact hret 14 ls H locs _ _ () _ hP hD hS (Nat.le_of_ble_eq_true rfl) (Nat.le_of_ble_eq_true rfl) (by rw [hz9]) dL_programs_14

set_option maxHeartbeats 4000000 in
set_option maxRecDepth 100000 in
theorem kL_programAt_ok (l : Launch) (hls : l.stackTraces = false) (D : va_G) (y3 : ClassId × ClassId × ClassId) (h0 : Nat) (a0 : Nat) (b0 : Nat) (f0 : Nat) (g0 : Nat) (a1 : Nat) (nk : Nat) (par : Nat → Int32) (g1 : Nat) (g2 : Nat) (st : Nat → Int32) (k : Int32) (pl : Int32) (o9 : Nat) (lo : Nat → Int64) (hk : nk ≤ 14) (hp : parOK par nk) (hz : (ak1 (inB k nk && decide (¬ pioI st par k.toNatClampNeg pl = -1))) = 0) : lxM l yL_programAt wsL_programAt 8 134 1 6 D y3 [(h0, .inr (4, [.ref a0, .ref b0, .ref f0, .ref g0])), (a0, .inr (1, [.ref a1, .int (nI nk)])), (a1, .inl (y3.1, 14, .inl par)), (g0, .inr (3, [.ref g1, .ref g2])), (g1, .inl (y3.1, 420, .inl st)), (o9, .inl (y3.2.2, 1, .inr (.inl lo)))] [.ref h0, .int k, .int pl, .ref o9] (fun r (_ : Unit) => r = (nI 0)) (fun (_ : Unit) => [(h0, .inr (4, [.ref a0, .ref b0, .ref f0, .ref g0])), (a0, .inr (1, [.ref a1, .int (nI nk)])), (a1, .inl (y3.1, 14, .inl par)), (g0, .inr (3, [.ref g1, .ref g2])), (g1, .inl (y3.1, 420, .inl st)), (o9, .inl (y3.2.2, 1, .inr (.inl (vp_updL lo 0 ((pioI st par k.toNatClampNeg pl)).toInt64))))]) := by
  refine lx_of (cc := cL_programAt) (maxL := 5) (by decide) rfl (Nat.le_of_ble_eq_true rfl) ?_
  intro p e s m args below meth c A Q hx hb hml hown hts htab hP hK hD hA hS hT hret ls hl
  have hown : s.vm.findClass RL = some m.cls := hown
  replace hl : lv_has ls 5 [(0, .ref h0), (1, .int k), (2, .int pl), (3, .ref o9)] := hl
  refine lv_aload_n hx hb dL_programAt_0 rfl (lv_at hl 3 rfl) ?_
  refine lv_iconst (v := (nI 0)) hx hb dL_programAt_1 rfl ?_
  refine lv_aload_n hx hb dL_programAt_2 rfl (lv_at hl 0 rfl) ?_
  refine lv_iload_n hx hb dL_programAt_3 rfl (lv_at hl 1 rfl) ?_
  refine lv_iload_n hx hb dL_programAt_4 rfl (lv_at hl 2 rfl) ?_
  refine tx_V (ci := 4) (q0 := 0) (own := RL) (As := [.int k, .int pl]) (rest := [.int (nI 0), .ref o9]) (bytes := cX4_programAt) (maxL := 4) (wr := [(o9, .inl (y3.2.2, 1, .inr (.inl lo)))]) (w3 := (fun (_ : Unit) => [(h0, .inr (4, [.ref a0, .ref b0, .ref f0, .ref g0])), (a0, .inr (1, [.ref a1, .int (nI nk)])), (a1, .inl (y3.1, 14, .inl par)), (g0, .inr (3, [.ref g1, .ref g2])), (g1, .inl (y3.1, 420, .inl st)), (o9, .inl (y3.2.2, 1, .inr (.inl lo)))])) ⟨hx, hb, hml, hown, hts⟩ (kX4_programAt l hls D y3 h0 a0 b0 f0 g0 a1 nk par g1 g2 st k pl (by omega) (by assumption)) gL_programAt_X4_programAt rfl hvX4_programAt ⟨Nat.le_of_ble_eq_true rfl, Nat.le_of_ble_eq_true rfl⟩ hP hK hD hS hA hT [0, 1, 2, 3, 4] [5] [1, 2, 3, 4, 5, 0] rfl rfl rfl rfl (by decide) (fun _ => rfl) rfl rfl rfl rfl hl.1 rfl (Nat.le_of_ble_eq_true rfl) dL_programAt_5 ⟨Nat.le_of_ble_eq_true rfl, Nat.le_of_ble_eq_true rfl⟩ (fun E ce q9 H locs hE hP hD hS h7 h8 h9 => xcd_no hz hE) (fun r5 u5 H locs hr5 hP hD hS => ?_)
  have hP : va_P D vwCl [(h0, .inr (4, [.ref a0, .ref b0, .ref f0, .ref g0])), (a0, .inr (1, [.ref a1, .int (nI nk)])), (a1, .inl (y3.1, 14, .inl par)), (g0, .inr (3, [.ref g1, .ref g2])), (g1, .inl (y3.1, 420, .inl st)), (o9, .inl (y3.2.2, 1, .inr (.inl lo)))] H := hP
  have hD : va_D A [(h0, .inr (4, [.ref a0, .ref b0, .ref f0, .ref g0])), (a0, .inr (1, [.ref a1, .int (nI nk)])), (a1, .inl (y3.1, 14, .inl par)), (g0, .inr (3, [.ref g1, .ref g2])), (g1, .inl (y3.1, 420, .inl st)), (o9, .inl (y3.2.2, 1, .inr (.inl lo)))] := hD
  rw [hr5.2]
  refine lv_i2l (v := (pioI st par k.toNatClampNeg pl).toInt64) hx hb dL_programAt_8 rfl ?_
  refine ln_last hx hb hK hP hD hS 5 2 rfl rfl (by omega) (by decide) dL_programAt_9 _ rfl (fun H locs hP hD hS => ?_)
  have hP : va_P D vwCl [(h0, .inr (4, [.ref a0, .ref b0, .ref f0, .ref g0])), (a0, .inr (1, [.ref a1, .int (nI nk)])), (a1, .inl (y3.1, 14, .inl par)), (g0, .inr (3, [.ref g1, .ref g2])), (g1, .inl (y3.1, 420, .inl st)), (o9, .inl (y3.2.2, 1, .inr (.inl (vp_updL lo 0 ((pioI st par k.toNatClampNeg pl).toInt64)))))] H := hP
  have hD : va_D A [(h0, .inr (4, [.ref a0, .ref b0, .ref f0, .ref g0])), (a0, .inr (1, [.ref a1, .int (nI nk)])), (a1, .inl (y3.1, 14, .inl par)), (g0, .inr (3, [.ref g1, .ref g2])), (g1, .inl (y3.1, 420, .inl st)), (o9, .inl (y3.2.2, 1, .inr (.inl (vp_updL lo 0 ((pioI st par k.toNatClampNeg pl).toInt64)))))] := hD
  refine lv_goto (tgt := 17) hx hb dL_programAt_10 (by decide) ?_
  refine lv_iconst (v := (nI 0)) hx hb dL_programAt_17 rfl ?_
  exact hret 18 ls H locs _ _ () _ hP hD hS (Nat.le_of_ble_eq_true rfl) (Nat.le_of_ble_eq_true rfl) rfl dL_programAt_18

set_option maxHeartbeats 4000000 in
set_option maxRecDepth 100000 in
theorem kL_programAt_ex (l : Launch) (hls : l.stackTraces = false) (D : va_G) (y3 : ClassId × ClassId × ClassId) (h0 : Nat) (a0 : Nat) (b0 : Nat) (f0 : Nat) (g0 : Nat) (a1 : Nat) (nk : Nat) (par : Nat → Int32) (g1 : Nat) (g2 : Nat) (st : Nat → Int32) (k : Int32) (pl : Int32) (o9 : Nat) (lo : Nat → Int64) (hk : nk ≤ 14) (hp : parOK par nk) (hz : ¬ (ak1 (inB k nk && decide (¬ pioI st par k.toNatClampNeg pl = -1))) = 0) : lxM l yL_programAt wsL_programAt 8 134 1 6 D y3 [(h0, .inr (4, [.ref a0, .ref b0, .ref f0, .ref g0])), (a0, .inr (1, [.ref a1, .int (nI nk)])), (a1, .inl (y3.1, 14, .inl par)), (g0, .inr (3, [.ref g1, .ref g2])), (g1, .inl (y3.1, 420, .inl st)), (o9, .inl (y3.2.2, 1, .inr (.inl lo)))] [.ref h0, .int k, .int pl, .ref o9] (fun r (_ : Unit) => r = (nI (ak1 (inB k nk && decide (¬ pioI st par k.toNatClampNeg pl = -1))))) (fun (_ : Unit) => [(h0, .inr (4, [.ref a0, .ref b0, .ref f0, .ref g0])), (a0, .inr (1, [.ref a1, .int (nI nk)])), (a1, .inl (y3.1, 14, .inl par)), (g0, .inr (3, [.ref g1, .ref g2])), (g1, .inl (y3.1, 420, .inl st)), (o9, .inl (y3.2.2, 1, .inr (.inl lo)))]) := by
  refine lx_of (cc := cL_programAt) (maxL := 5) (by decide) rfl (Nat.le_of_ble_eq_true rfl) ?_
  intro p e s m args below meth c A Q hx hb hml hown hts htab hP hK hD hA hS hT hret ls hl
  have hown : s.vm.findClass RL = some m.cls := hown
  replace hl : lv_has ls 5 [(0, .ref h0), (1, .int k), (2, .int pl), (3, .ref o9)] := hl
  have hk13 := hts (.classLink RL 13 xIO) (by decide +kernel)
  refine lv_aload_n hx hb dL_programAt_0 rfl (lv_at hl 3 rfl) ?_
  refine lv_iconst (v := (nI 0)) hx hb dL_programAt_1 rfl ?_
  refine lv_aload_n hx hb dL_programAt_2 rfl (lv_at hl 0 rfl) ?_
  refine lv_iload_n hx hb dL_programAt_3 rfl (lv_at hl 1 rfl) ?_
  refine lv_iload_n hx hb dL_programAt_4 rfl (lv_at hl 2 rfl) ?_
  refine tx_V (ci := 4) (q0 := 0) (own := RL) (As := [.int k, .int pl]) (rest := [.int (nI 0), .ref o9]) (bytes := cX4_programAt) (maxL := 4) (wr := [(o9, .inl (y3.2.2, 1, .inr (.inl lo)))]) (w3 := (fun (_ : Unit) => [(h0, .inr (4, [.ref a0, .ref b0, .ref f0, .ref g0])), (a0, .inr (1, [.ref a1, .int (nI nk)])), (a1, .inl (y3.1, 14, .inl par)), (g0, .inr (3, [.ref g1, .ref g2])), (g1, .inl (y3.1, 420, .inl st)), (o9, .inl (y3.2.2, 1, .inr (.inl lo)))])) ⟨hx, hb, hml, hown, hts⟩ (kX4_programAt l hls D y3 h0 a0 b0 f0 g0 a1 nk par g1 g2 st k pl (by omega) (by assumption)) gL_programAt_X4_programAt rfl hvX4_programAt ⟨Nat.le_of_ble_eq_true rfl, Nat.le_of_ble_eq_true rfl⟩ hP hK hD hS hA hT [0, 1, 2, 3, 4] [5] [1, 2, 3, 4, 5, 0] rfl rfl rfl rfl (by decide) (fun _ => rfl) rfl rfl rfl rfl hl.1 rfl (Nat.le_of_ble_eq_true rfl) dL_programAt_5 ⟨Nat.le_of_ble_eq_true rfl, Nat.le_of_ble_eq_true rfl⟩ (fun E ce q9 H locs hE hP hD hS h7 h8 h9 => ?_) (fun r5 u1 H locs hr5 hP hD hS => absurd hr5.1 hz)
  obtain ⟨hz9, rfl⟩ := xcd_1 hE
  refine vx_catch (own := RL) (name := xIO) hown [] ⟨0, 10, 13, 13⟩ [] htab (fun z h => (by cases h)) rfl (by decide) hk13 (lx_c hT (by simp [xE3])) h7 h8 h9 ?_
  refine lv_astore (lv' := [(4, .ref q9), (0, .ref h0), (1, .int k), (2, .int pl), (3, .ref o9)]) hx hb dL_programAt_13 hl (by decide) rfl (fun ls hl => ?_)
  refine lv_iconst (v := (nI 1)) hx hb dL_programAt_15 rfl ?_
  exact hret 16 ls H locs _ _ () _ hP hD hS (Nat.le_of_ble_eq_true rfl) (Nat.le_of_ble_eq_true rfl) (by rw [hz9]) dL_programAt_16

set_option maxHeartbeats 4000000 in
set_option maxRecDepth 100000 in
theorem kL_opener_ok (l : Launch) (hls : l.stackTraces = false) (D : va_G) (y3 : ClassId × ClassId × ClassId) (h0 : Nat) (a0 : Nat) (b0 : Nat) (f0 : Nat) (g0 : Nat) (a1 : Nat) (nk : Nat) (par : Nat → Int32) (g1 : Nat) (g2 : Nat) (st : Nat → Int32) (df : Nat → Int32) (k : Int32) (o9 : Nat) (lo : Nat → Int64) (hk : nk ≤ 14) (hp : parOK par nk) (hdf : ∀ q : Nat, df q = -1 ∨ ∃ z : Nat, z < 10 ∧ df q = nI z) (hz : (ak1 (inB k nk)) = 0) : lxM l yL_opener wsL_opener 8 132 1 6 D y3 [(h0, .inr (4, [.ref a0, .ref b0, .ref f0, .ref g0])), (a0, .inr (1, [.ref a1, .int (nI nk)])), (a1, .inl (y3.1, 14, .inl par)), (g0, .inr (3, [.ref g1, .ref g2])), (g1, .inl (y3.1, 420, .inl st)), (g2, .inl (y3.1, 42, .inl df)), (o9, .inl (y3.2.2, 1, .inr (.inl lo)))] [.ref h0, .int k, .ref o9] (fun r (_ : Unit) => r = (nI 0)) (fun (_ : Unit) => [(h0, .inr (4, [.ref a0, .ref b0, .ref f0, .ref g0])), (a0, .inr (1, [.ref a1, .int (nI nk)])), (a1, .inl (y3.1, 14, .inl par)), (g0, .inr (3, [.ref g1, .ref g2])), (g1, .inl (y3.1, 420, .inl st)), (g2, .inl (y3.1, 42, .inl df)), (o9, .inl (y3.2.2, 1, .inr (.inl (vp_updL lo 0 ((duO st df par 14 (nI k.toNatClampNeg))).toInt64))))]) := by
  refine lx_of (cc := cL_opener) (maxL := 4) (by decide) rfl (Nat.le_of_ble_eq_true rfl) ?_
  intro p e s m args below meth c A Q hx hb hml hown hts htab hP hK hD hA hS hT hret ls hl
  have hown : s.vm.findClass RL = some m.cls := hown
  replace hl : lv_has ls 4 [(0, .ref h0), (1, .int k), (2, .ref o9)] := hl
  refine lv_aload_n hx hb dL_opener_0 rfl (lv_at hl 2 rfl) ?_
  refine lv_iconst (v := (nI 0)) hx hb dL_opener_1 rfl ?_
  refine lv_aload_n hx hb dL_opener_2 rfl (lv_at hl 0 rfl) ?_
  refine lv_iload_n hx hb dL_opener_3 rfl (lv_at hl 1 rfl) ?_
  refine tx_V (ci := 4) (q0 := 0) (own := RL) (As := [.int k]) (rest := [.int (nI 0), .ref o9]) (bytes := cX4_opener) (maxL := 2) (wr := [(o9, .inl (y3.2.2, 1, .inr (.inl lo)))]) (w3 := (fun (_ : Unit) => [(h0, .inr (4, [.ref a0, .ref b0, .ref f0, .ref g0])), (a0, .inr (1, [.ref a1, .int (nI nk)])), (a1, .inl (y3.1, 14, .inl par)), (g0, .inr (3, [.ref g1, .ref g2])), (g1, .inl (y3.1, 420, .inl st)), (g2, .inl (y3.1, 42, .inl df)), (o9, .inl (y3.2.2, 1, .inr (.inl lo)))])) ⟨hx, hb, hml, hown, hts⟩ (kX4_opener l hls D y3 h0 a0 b0 f0 g0 a1 nk par g1 g2 st df k (by omega) (by assumption) (by assumption)) gL_opener_X4_opener rfl hvX4_opener ⟨Nat.le_of_ble_eq_true rfl, Nat.le_of_ble_eq_true rfl⟩ hP hK hD hS hA hT [0, 1, 2, 3, 4, 5] [6] [1, 2, 3, 4, 5, 6, 0] rfl rfl rfl rfl (by decide) (fun _ => rfl) rfl rfl rfl rfl hl.1 rfl (Nat.le_of_ble_eq_true rfl) dL_opener_4 ⟨Nat.le_of_ble_eq_true rfl, Nat.le_of_ble_eq_true rfl⟩ (fun E ce q9 H locs hE hP hD hS h7 h8 h9 => xcd_no hz hE) (fun r4 u4 H locs hr4 hP hD hS => ?_)
  have hP : va_P D vwCl [(h0, .inr (4, [.ref a0, .ref b0, .ref f0, .ref g0])), (a0, .inr (1, [.ref a1, .int (nI nk)])), (a1, .inl (y3.1, 14, .inl par)), (g0, .inr (3, [.ref g1, .ref g2])), (g1, .inl (y3.1, 420, .inl st)), (g2, .inl (y3.1, 42, .inl df)), (o9, .inl (y3.2.2, 1, .inr (.inl lo)))] H := hP
  have hD : va_D A [(h0, .inr (4, [.ref a0, .ref b0, .ref f0, .ref g0])), (a0, .inr (1, [.ref a1, .int (nI nk)])), (a1, .inl (y3.1, 14, .inl par)), (g0, .inr (3, [.ref g1, .ref g2])), (g1, .inl (y3.1, 420, .inl st)), (g2, .inl (y3.1, 42, .inl df)), (o9, .inl (y3.2.2, 1, .inr (.inl lo)))] := hD
  rw [hr4.2]
  refine lv_i2l (v := (duO st df par 14 (nI k.toNatClampNeg)).toInt64) hx hb dL_opener_7 rfl ?_
  refine ln_last hx hb hK hP hD hS 6 2 rfl rfl (by omega) (by decide) dL_opener_8 _ rfl (fun H locs hP hD hS => ?_)
  have hP : va_P D vwCl [(h0, .inr (4, [.ref a0, .ref b0, .ref f0, .ref g0])), (a0, .inr (1, [.ref a1, .int (nI nk)])), (a1, .inl (y3.1, 14, .inl par)), (g0, .inr (3, [.ref g1, .ref g2])), (g1, .inl (y3.1, 420, .inl st)), (g2, .inl (y3.1, 42, .inl df)), (o9, .inl (y3.2.2, 1, .inr (.inl (vp_updL lo 0 ((duO st df par 14 (nI k.toNatClampNeg)).toInt64)))))] H := hP
  have hD : va_D A [(h0, .inr (4, [.ref a0, .ref b0, .ref f0, .ref g0])), (a0, .inr (1, [.ref a1, .int (nI nk)])), (a1, .inl (y3.1, 14, .inl par)), (g0, .inr (3, [.ref g1, .ref g2])), (g1, .inl (y3.1, 420, .inl st)), (g2, .inl (y3.1, 42, .inl df)), (o9, .inl (y3.2.2, 1, .inr (.inl (vp_updL lo 0 ((duO st df par 14 (nI k.toNatClampNeg)).toInt64)))))] := hD
  refine lv_goto (tgt := 15) hx hb dL_opener_9 (by decide) ?_
  refine lv_iconst (v := (nI 0)) hx hb dL_opener_15 rfl ?_
  exact hret 16 ls H locs _ _ () _ hP hD hS (Nat.le_of_ble_eq_true rfl) (Nat.le_of_ble_eq_true rfl) rfl dL_opener_16

set_option maxHeartbeats 4000000 in
set_option maxRecDepth 100000 in
theorem kL_opener_ex (l : Launch) (hls : l.stackTraces = false) (D : va_G) (y3 : ClassId × ClassId × ClassId) (h0 : Nat) (a0 : Nat) (b0 : Nat) (f0 : Nat) (g0 : Nat) (a1 : Nat) (nk : Nat) (par : Nat → Int32) (g1 : Nat) (g2 : Nat) (st : Nat → Int32) (df : Nat → Int32) (k : Int32) (o9 : Nat) (lo : Nat → Int64) (hk : nk ≤ 14) (hp : parOK par nk) (hdf : ∀ q : Nat, df q = -1 ∨ ∃ z : Nat, z < 10 ∧ df q = nI z) (hz : ¬ (ak1 (inB k nk)) = 0) : lxM l yL_opener wsL_opener 8 132 1 6 D y3 [(h0, .inr (4, [.ref a0, .ref b0, .ref f0, .ref g0])), (a0, .inr (1, [.ref a1, .int (nI nk)])), (a1, .inl (y3.1, 14, .inl par)), (g0, .inr (3, [.ref g1, .ref g2])), (g1, .inl (y3.1, 420, .inl st)), (g2, .inl (y3.1, 42, .inl df)), (o9, .inl (y3.2.2, 1, .inr (.inl lo)))] [.ref h0, .int k, .ref o9] (fun r (_ : Unit) => r = (nI (ak1 (inB k nk)))) (fun (_ : Unit) => [(h0, .inr (4, [.ref a0, .ref b0, .ref f0, .ref g0])), (a0, .inr (1, [.ref a1, .int (nI nk)])), (a1, .inl (y3.1, 14, .inl par)), (g0, .inr (3, [.ref g1, .ref g2])), (g1, .inl (y3.1, 420, .inl st)), (g2, .inl (y3.1, 42, .inl df)), (o9, .inl (y3.2.2, 1, .inr (.inl lo)))]) := by
  refine lx_of (cc := cL_opener) (maxL := 4) (by decide) rfl (Nat.le_of_ble_eq_true rfl) ?_
  intro p e s m args below meth c A Q hx hb hml hown hts htab hP hK hD hA hS hT hret ls hl
  have hown : s.vm.findClass RL = some m.cls := hown
  replace hl : lv_has ls 4 [(0, .ref h0), (1, .int k), (2, .ref o9)] := hl
  have hk13 := hts (.classLink RL 13 xIO) (by decide +kernel)
  refine lv_aload_n hx hb dL_opener_0 rfl (lv_at hl 2 rfl) ?_
  refine lv_iconst (v := (nI 0)) hx hb dL_opener_1 rfl ?_
  refine lv_aload_n hx hb dL_opener_2 rfl (lv_at hl 0 rfl) ?_
  refine lv_iload_n hx hb dL_opener_3 rfl (lv_at hl 1 rfl) ?_
  refine tx_V (ci := 4) (q0 := 0) (own := RL) (As := [.int k]) (rest := [.int (nI 0), .ref o9]) (bytes := cX4_opener) (maxL := 2) (wr := [(o9, .inl (y3.2.2, 1, .inr (.inl lo)))]) (w3 := (fun (_ : Unit) => [(h0, .inr (4, [.ref a0, .ref b0, .ref f0, .ref g0])), (a0, .inr (1, [.ref a1, .int (nI nk)])), (a1, .inl (y3.1, 14, .inl par)), (g0, .inr (3, [.ref g1, .ref g2])), (g1, .inl (y3.1, 420, .inl st)), (g2, .inl (y3.1, 42, .inl df)), (o9, .inl (y3.2.2, 1, .inr (.inl lo)))])) ⟨hx, hb, hml, hown, hts⟩ (kX4_opener l hls D y3 h0 a0 b0 f0 g0 a1 nk par g1 g2 st df k (by omega) (by assumption) (by assumption)) gL_opener_X4_opener rfl hvX4_opener ⟨Nat.le_of_ble_eq_true rfl, Nat.le_of_ble_eq_true rfl⟩ hP hK hD hS hA hT [0, 1, 2, 3, 4, 5] [6] [1, 2, 3, 4, 5, 6, 0] rfl rfl rfl rfl (by decide) (fun _ => rfl) rfl rfl rfl rfl hl.1 rfl (Nat.le_of_ble_eq_true rfl) dL_opener_4 ⟨Nat.le_of_ble_eq_true rfl, Nat.le_of_ble_eq_true rfl⟩ (fun E ce q9 H locs hE hP hD hS h7 h8 h9 => ?_) (fun r4 u1 H locs hr4 hP hD hS => absurd hr4.1 hz)
  obtain ⟨hz9, rfl⟩ := xcd_1 hE
  refine vx_catch (own := RL) (name := xIO) hown [] ⟨0, 9, 12, 13⟩ [] htab (fun z h => (by cases h)) rfl (by decide) hk13 (lx_c hT (by simp [xE3])) h7 h8 h9 ?_
  refine lv_astore_n (lv' := [(3, .ref q9), (0, .ref h0), (1, .int k), (2, .ref o9)]) hx hb dL_opener_12 rfl hl (by decide) rfl (fun ls hl => ?_)
  refine lv_iconst (v := (nI 1)) hx hb dL_opener_13 rfl ?_
  exact hret 14 ls H locs _ _ () _ hP hD hS (Nat.le_of_ble_eq_true rfl) (Nat.le_of_ble_eq_true rfl) (by rw [hz9]) dL_opener_14
