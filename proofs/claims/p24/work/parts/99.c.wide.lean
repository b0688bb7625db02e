/-! ===== what comes of it: in the room that it needs the law holds; in the claim's room it doesn't ===== -/
def r_P (b : Addr) (xs : List Int32) (args : Array Value) (s : State) : Prop := args = #[.ref b] ∧ s.IntsAt b xs ∧ xs.length ≤ 260 ∧ (Jvm.Cond.and given_1 narrow_1).before args s = true
set_option maxHeartbeats 4000000 in
theorem r_walk (l : Launch) (hflags : l.flags = flags0) (b : Addr) (xs : List Int32) : MetFree l x (headSpec (Jvm.Cond.code x code maxLocals ret :: tables_1) RW) (r_P b xs) (fun _ _ _ _ _ => True) r_Q := by
  refine MetFree.of_bodyS (code := code) (maxLocals := maxLocals) (ret := ret) (by decide) ?_ ?_
  · intro args s m h hn
    obtain ⟨meth, c, h1, h2, h3, h4, h5, h6, -, -⟩ := Cond.code_spec hn (atoms_spec (ws := Jvm.Cond.code x code maxLocals ret :: tables_1) h _ List.mem_cons_self)
    exact ⟨meth, c, h1, h2, h3, h4, h5, h6⟩
  · intro p e s m args below meth c s₁ B hml0 hP _
    obtain ⟨rfl, hx, hbd, hgv⟩ := hP
    obtain ⟨scr, harrAt, hlist, hof, hsmall⟩ := hx
    obtain ⟨hcb, hkn, -, -⟩ := State.arrayAt?_spec harrAt
    have hown : s.vm.findClass RL = some m.cls := findClass_of_methodNamed B.named
    have hts0 : ∀ c ∈ (Jvm.Cond.code x code maxLocals ret :: tables_1), c.before #[Value.ref b] s = true := atoms_spec (ws := Jvm.Cond.code x code maxLocals ret :: tables_1) B.pre
    have htl : ∀ w ∈ lw_tbl, w.before #[Value.ref b] s = true := k2_hts_sels lw_privs (fun w hw => hts0 w (List.mem_cons_of_mem _ hw)) lw_privs_ok
    have hts : ∀ w ∈ wsL_law, w.before #[Value.ref b] s = true := fun w h => htl w (wsL_law_in w h)
    have hml : c.maxLocals = 19 := B.maxLocals_eq (hts0 _ List.mem_cons_self)
    have X₀ : Stand p l e RW s m #[Value.ref b] below meth c s₁ [] 0 0 := Stand.of_body B
    have hh0 : s₁.heap = s.heap := by rw [B.state]; rfl
    have hsz : scr.slots.size = xs.length := by rw [← Array.length_toList, hlist, List.length_map]
    have hval : ∀ j : Nat, j < xs.length → scr.slots[j]? = some (.int (xs.getD j 0)) := fun j hj => by
      rw [← Array.getElem?_toList, hlist]
      simp [hj]
    have hbl : b < s.heap.size := (Array.getElem?_eq_some_iff.mp hcb).1
    have hX : va_X b xs.length (fun j => xs.getD j 0) s s.heap := ⟨scr, hcb, hof, hkn, hsz, hval⟩
    have hls : l.stackTraces = false := by unfold Launch.stackTraces; rw [hflags]; decide
    obtain ⟨D, y3, hK⟩ := st_K htl
    have C0 : lwX p l s m #[Value.ref b] c (fun q : Nat => s.heap.size ≤ q) b xs.length (fun j => xs.getD j 0) D y3 := ⟨hls, B.exec, B.bytes, hml, hown, hts, fun _ h => h, hK, st_teE htl hgv, hX, hbl, Nat.not_le.mpr hbl, by omega⟩
    have K : W p l e RW s m #[Value.ref b] below meth c s₁.heap [] 0 0 (r_Z below #[Value.ref b] s) (entryFrame m ([Value.ref b] : List Value).toArray 19) := by
      rw [hh0]
      exact r_start B.returns B.notSynchronized C0 (st_nc htl)
    obtain ⟨t, a1, o, b1, b2, b3⟩ := K s₁ rfl X₀
    exact ⟨t, o, a1, b1, b2, b3⟩
theorem r_pre_spec {args : Array Value} {s : State} (h : (Jvm.Cond.and given_1 narrow_1).before args s = true) (hr : rest_1_c.before args s = true) : ∃ (b : Addr) (xs : List Int32), r_P b xs args s := by
  have hs := flat_of_before _ h
  have hq := flat_of_before _ hr
  have hc : (Cond.count 1).before args s = true := hs _ (by decide +kernel)
  have harr : (Cond.arrayOf (.arg 0) .int).before args s = true := hs _ (by decide +kernel)
  have hle : (Cond.le (.length (.arg 0)) (.int 260)).before args s = true := hs _ (by decide +kernel)
  have hlen : (Cond.isInt (.length (.arg 0))).before args s = true := hq _ (by decide +kernel)
  have hall : (Cond.all (.arg 0) (.isInt (.elem (.arg 0) (.index 0)))).before args s = true := hq _ (by decide +kernel)
  obtain ⟨b, xs, hb, hx⟩ := State.ints_of_pre rfl harr hlen hall
  have hsm : xs.length < 2 ^ 31 := hx.choose_spec.2.2.2
  have hev : (Term.length (.arg 0)).eval args s none [] s = some (.int xs.length.toInt32) := hx.length_eval hb
  have hv := Cond.le_ints hev (show (Term.int 260).eval args s none [] s = some (.int 260) from rfl)
  have hd : xs.length.toInt32 ≤ 260 := by
    simpa [Cond.before, Cond.holds, hv] using hle
  have hN : xs.length ≤ 260 := (Int32.ofNat_le_ofNat hsm (by decide)).mp (show Int32.ofNat xs.length ≤ Int32.ofNat 260 from hd)
  exact ⟨b, xs, Cond.one_arg hc (show args[0]? = some (.ref b) from hb), hx, hN, h⟩
/-- p24's words, in a room of 2,690 cells and 18,558 slots: on every script of at most 260 ints the law returns, and answers 1 -/
theorem p24_wide (l : Launch) (hflags : l.flags = flags0) : Comes l x (Jvm.Cond.code x code maxLocals ret :: tables_1) RW (fun tb e args s => Calls_1 tb e args s ∧ rest_1 tb e args s ∧ Pre_1 tb e args s)
    (fun _ _ args s o t => r_Q args s o t) := by
  intro p e ha hc hk s m args below hf hfit hheap happ hpre
  obtain ⟨b, xs, hP⟩ := r_pre_spec hpre.2.2 hpre.2.1
  obtain ⟨k, o, h1, h2, h3, hQ⟩ := r_walk l hflags b xs p e ha hc hk s m args below hf ((Spec.applies_iff_loose hf).mp happ).1 hP trivial
  exact ⟨k, o, h1, h2, h3, hQ⟩
set_option maxRecDepth 16384 in
theorem r_room : start1.about.hasRoom start1.e0.platform RW = true := launch0.hasRoom_least start1.about RW (by decide +kernel) (by decide +kernel) (by decide +kernel) (by decide +kernel) (by decide +kernel) (by decide +kernel)
/-- the printed start's run comes to its end, and answers 1 -/
theorem r_end : ∃ (n : Nat) (o : Outcome), (∀ k, k < n → Within (stepsAlone start1.p0.tables start1.e0 k start1.about) Lib.HandBits.below0) ∧ (stepsAlone start1.p0.tables start1.e0 n start1.about).status = Status.running ∧ Ended (stepsAlone start1.p0.tables start1.e0 n start1.about) Lib.HandBits.below0 o ∧ o = .returned (some (.int 1)) := by
  obtain ⟨hL, hW, hadm, hleast, hcas, hclk, hfr, hfit, hheap, happ, hcalls, hrest, hpre⟩ := start1.atStart
  have h := (Spec.applies_iff_loose hfr).mp happ
  obtain ⟨k1, k2, k3, k4, k5, k6, k7, k8⟩ := (Spec.appliesLoose_iff hfr).mp h.1
  obtain ⟨n, o, h1, h2, h3, h4⟩ := p24_wide launch0 rfl start1.p0 start1.e0 hadm hcas hclk start1.about ⟨0, 0⟩ start1.args0 Lib.HandBits.below0 hfr hfit hheap ((Spec.applies_iff_loose hfr).mpr ⟨(Spec.appliesLoose_iff hfr).mpr ⟨k1, k2, k3, k4, k5, k6, r_room, k8⟩, h.2⟩) ⟨hcalls, hrest, hpre⟩
  exact ⟨n, o, h1, h2, h3, h4.1⟩
theorem r_big {n : Nat} {o : Outcome} (hend : Ended (stepsAlone start1.p0.tables start1.e0 n start1.about) Lib.HandBits.below0 o) : ¬ (stepsAlone start1.p0.tables start1.e0 n start1.about).heap.size ≤ start1.about.heap.size + 135 := fun hsz => by
  obtain ⟨n1, hw1, hq1⟩ := q_run
  by_cases h : n < n1
  · exact hend.not_within (hw1 n h)
  · obtain ⟨d, rfl⟩ : ∃ d, n = n1 + d := ⟨n - n1, by omega⟩
    have h9 := stepsAlone_heap_le start1.p0.tables start1.e0 d (stepsAlone start1.p0.tables start1.e0 n1 start1.about)
    rw [stepsAlone_add] at hsz
    omega
/-- the refutations in the Statement's own form: a run from a start that it allows, that ends otherwise than it promises -/
theorem refuted_1_1 : RefutedClaimed_1_1 := by
  obtain ⟨n, o, h1, h2, h3, -⟩ := r_end
  exact ⟨launch0, start1.p0, start1.e0, start1.about, ⟨0, 0⟩, start1.args0, Lib.HandBits.below0, rfl, start1.atStart, n, o, h1, h2, h3, fun hpost => r_big h3 hpost.2.2.2.2.2.1⟩
theorem refuted_1_2 : RefutedClaimed_1_2 := by
  obtain ⟨n, o, h1, h2, h3, -⟩ := r_end
  exact ⟨launch0, start1.p0, start1.e0, start1.about, ⟨0, 0⟩, start1.args0, Lib.HandBits.below0, rfl, start1.atStart, n, o, h1, h2, h3, fun hpost => r_big h3 hpost.2.2.2.2.2.1⟩
