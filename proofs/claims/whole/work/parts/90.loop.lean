/-! THE CLAIM OUT OF ONE WALK OF THE LAW'S BODY. Your part is whole_start (and what it stands on); all else here is the same for every law, but numbers. -/
def R_law : String := "KindGuesserLaw"
def lw_P (b : Addr) (xs : List Int32) (args : Array Value) (s : State) : Prop := args = #[.ref b] ∧ s.IntsAt b xs ∧ xs.length ≤ 3584 ∧ (Jvm.Cond.and given_1 narrow_1).before args s = true
def lw_Q (_ : Array Value) (s : State) (o : Outcome) (t : State) : Prop := o = .returned (some (.int 1)) ∧ Framed s o t [] 1081 10788
def lw_Z (below : List Frame) (a : Array Value) (s : State) : State → Prop := fun t => ∃ o, t.status = .running ∧ Ended t below o ∧ lw_Q a s o t
/-- the law's own end, with 1 on the stack, nothing written that was there before, its room as the claim has it -/
theorem lw_ret {p : Program} {l : Launch} {e : Env} {s : State} {m : MethodId} {below : List Frame} {meth : Method} {c : Code} {b : Nat} (hx : p.tables.exec = Jvm.exec) (hb : c.code = code) (hr : meth.sig.returnType = ret) (hlocks : meth.locks = false) {pc : Nat} {H : Heap} {ls : Array Slot} (hdg : decode code pc = .ok (.ireturn, 1)) : W p l e room_1 s m #[Value.ref b] below meth c H [] 1081 10788 (lw_Z below #[Value.ref b] s) (F0 m pc ls [.int 1]) := by
  intro T hT X
  obtain ⟨fs, hret, hrun, hended, hW, hframe⟩ := X.leave (v := some (.int 1)) (hlocks := hlocks) (fun h => by rw [hr] at h; cases h)
  have hmeth' : T.vm.method? m = some meth := X.method'
  refine ⟨T.setFrames fs, ?_, .returned (some (.int 1)), hrun, hended, rfl, ⟨_, rfl⟩, hW, hframe⟩
  jvm_step X.here [X.here.top, hx, hb, hdg, hmeth', hr, ret, narrow_b1]
  (try refine ⟨rfl, ?_⟩); (try refine ⟨rfl, ?_⟩)
  first | (intro acts; rw [hret _ acts rfl rfl rfl]) | rw [hret _ _ rfl rfl rfl]
  exact Steps.refl _
/-- what holds at the law's entry: the machine, the code, the tables' words (any of lw_tbl by 'hts w (by decide +kernel)'), the script of L ints xs at the cell b, what the Statement gives of the start (any of its parts by flat_of_before) -/
def lw_At (p : Program) (s : State) (m : MethodId) (meth : Method) (c : Code) (b L : Nat) (xs : Nat → Int32) : Prop :=
  p.tables.exec = Jvm.exec ∧ c.code = code ∧ meth.sig.returnType = ret ∧ c.maxLocals = 7 ∧ s.vm.findClass R_law = some m.cls ∧ (∀ w ∈ lw_tbl, w.before #[Value.ref b] s = true) ∧ va_X b L xs s s.heap ∧ b < s.heap.size ∧ meth.locks = false ∧ (Jvm.Cond.and given_1 narrow_1).before #[Value.ref b] s = true
theorem lw_gt {i L : Nat} (hi : i ≤ 3584) (hL : L ≤ 3584) : (nI L - nI 7 < nI i) ↔ L < i + 7 := by
  have hi2 := nI_toInt (n := i) (by omega)
  have hc : (nI L - nI 7).toInt = (L : Int) - 7 := by
    rcases Nat.lt_or_ge L 7 with q | q
    · rcases (show L = 0 ∨ L = 1 ∨ L = 2 ∨ L = 3 ∨ L = 4 ∨ L = 5 ∨ L = 6 by omega) with r | r | r | r | r | r | r <;> (rw [r]; decide)
    · rw [nI_sub q, nI_toInt (by omega)]; omega
  rw [Int32.lt_iff_toInt_lt, hi2, hc]
  omega
theorem lw_sw (x : Int32) : (∃ k : Nat, k < 21 ∧ x = nI k) ∨ (x.toInt < 0 ∨ (20 : Int) < x.toInt) := by
  by_cases h1 : x.toInt < 0
  · exact Or.inr (Or.inl h1)
  · by_cases h2 : (20 : Int) < x.toInt
    · exact Or.inr (Or.inr h2)
    · refine Or.inl ⟨x.toInt.toNat, by omega, ?_⟩
      apply Int32.toInt_inj.mp
      rw [nI_toInt (by omega)]
      omega
set_option maxHeartbeats 4000000 in
set_option maxRecDepth 100000 in
theorem lw_loop {p : Program} {e : Env} {s : State} {m : MethodId} {below : List Frame} {meth : Method} {c : Code} {l : Launch} {b L : Nat} {xs : Nat → Int32} {D : va_G} {y3 : ClassId × ClassId × ClassId} {ad : Nat → Nat} (hr : meth.sig.returnType = ret) (hlocks : meth.locks = false) (C1 : lwC p l s m #[Value.ref b] c (fun q => s.heap.size ≤ q) b L xs D y3) :
    ∀ (n t : Nat), L < 7 * t + n → 7 * t ≤ L → ∀ (nk : Nat) (np : Nat) (nt : Nat) (nl : Nat) (nr : Nat) (nb : Nat) (zo : Nat) (par : Nat → Int32) (wt : Nat → Int32) (tk : Nat → Int32) (lt : Nat → Int32) (vb : Nat → Int32) (pr : Nat → Int32) (wn : Nat → Int32) (mk : Nat → Int32) (st : Nat → Int32) (df : Nat → Int32) (kp : Nat → Nat) (ln : Nat → Nat) (kr : Nat → Nat) (tc : Nat → Nat) (lev : Nat → Nat) (fo : Nat → Nat) (tu : Nat → Nat) (th : Nat → Bool) (dr : Nat → Bool) (tb : Nat → Bool) (ld : Nat → Bool) (lo : Nat → Int64), LI nk np nt nl nr nb par kp ln th dr tb kr tc lev fo tu st df → ∀ (H : Heap) (locs : List Loc) (ls : Array Slot), va_P D vwCl (LW y3 ad nk np nt nl nr nb zo par wt tk lt vb pr wn mk st df kp ln kr tc lev fo tu th dr tb ld lo) H → va_D (fun q => s.heap.size ≤ q) (LW y3 ad nk np nt nl nr nb zo par wt tk lt vb pr wn mk st df kp ln kr tc lev fo tu th dr tb ld lo) → va_S (fun q => s.heap.size ≤ q) s.heap H locs → lv_has ls 7 [(4, .int (nI (7 * t))), (3, .ref (ad 44)), (2, .ref (ad 25)), (1, .ref (ad 0)), (0, .ref b)] → W p l e room_1 s m #[Value.ref b] below meth c H locs (45 + t) (2524 + 6 * t) (lw_Z below #[Value.ref b] s) (F0 m 23 ls []) := by
  intro n
  induction n with
  | zero => intro t h1 h2; exact absurd h1 (by omega)
  | succ n ih =>
    intro t h1 h2 nk np nt nl nr nb zo par wt tk lt vb pr wn mk st df kp ln kr tc lev fo tu th dr tb ld lo hI H locs ls hP hD hS hl
    obtain ⟨hls, hx, hb, hml, hown, hts, hX, hbl, hbA, hA, hK, hTE, hL⟩ := id C1
    refine lv_iload hx hb dL_law_23 (lv_at hl 0 rfl) ?_
    refine lv_aload_n hx hb dL_law_25 rfl (lv_at hl 4 rfl) ?_
    refine va_slen hx hb hX hbl hbA hS dL_law_26 ?_
    refine lv_bipush (v := (nI 7)) hx hb dL_law_27 rfl ?_
    refine lv_isub hx hb dL_law_29 ?_
    refine lv_icmp_gt (tgt := 1341) hx hb dL_law_30 (by decide) (fun _ => ?_) (fun c30 => ?_)
    · refine lv_iconst (v := 1) hx hb dL_law_1341 (by decide) ?_
      refine va_forget (fun q hq => hS.2.2 q hq) ?_
      refine W.widen (k := 1081) (n := 10788) (by omega) (by omega) ?_
      exact lw_ret hx hb hr hlocks dL_law_1342
    · have hj : 7 * t + 7 ≤ L := by
        have h9 : ¬ (nI L - nI 7 < nI (7 * t)) := c30
        rw [lw_gt (by omega) hL] at h9
        omega
      refine lv_aload_n hx hb dL_law_33 rfl (lv_at hl 4 rfl) ?_
      refine lv_iload hx hb dL_law_34 (lv_at hl 0 rfl) ?_
      refine ln_sld hx hb hX hbl hbA hS hL (j := 7 * t) (by omega) dL_law_36 ?_
      refine lv_bipush (v := (nI 31)) hx hb dL_law_37 rfl ?_
      refine lv_iand hx hb dL_law_39 ?_
      have hE : lwE p l e s m #[Value.ref b] below meth c (fun q => s.heap.size ≤ q) (lw_Z below #[Value.ref b] s) b D y3 ad (7 * t) (45 + t + 1) (2524 + 6 * t + 6) := by
        intro nk np nt nl nr nb zo par wt tk lt vb pr wn mk st df kp ln kr tc lev fo tu th dr tb ld lo hI H locs ls hP hD hS hl
        refine lv_iinc (v := (nI (7 * t + 7))) (lv' := [(4, .int (nI (7 * t + 7))), (3, .ref (ad 44)), (2, .ref (ad 25)), (1, .ref (ad 0)), (0, .ref b)]) hx hb dL_law_1335 hl (k := 0) rfl (nI_add _ _) (by decide) rfl (fun ls hl => ?_)
        refine lv_goto (tgt := 23) hx hb dL_law_1338 (by decide) ?_
        refine W.widen (k := 45 + (t + 1)) (n := 2524 + 6 * (t + 1)) (by omega) (by omega) ?_
        exact ih (t + 1) (by omega) (by omega) nk np nt nl nr nb zo par wt tk lt vb pr wn mk st df kp ln kr tc lev fo tu th dr tb ld lo hI H locs ls hP hD hS hl
      rcases lw_sw (xs (7 * t) &&& nI 31) with ⟨k, hk, ek⟩ | ho
      · rw [ek]
        rcases (show k = 0 ∨ k = 1 ∨ k = 2 ∨ k = 3 ∨ k = 4 ∨ k = 5 ∨ k = 6 ∨ k = 7 ∨ k = 8 ∨ k = 9 ∨ k = 10 ∨ k = 11 ∨ k = 12 ∨ k = 13 ∨ k = 14 ∨ k = 15 ∨ k = 16 ∨ k = 17 ∨ k = 18 ∨ k = 19 ∨ k = 20 by omega) with rfl | rfl | rfl | rfl | rfl | rfl | rfl | rfl | rfl | rfl | rfl | rfl | rfl | rfl | rfl | rfl | rfl | rfl | rfl | rfl | rfl
        · exact lv_tableIn (off := 100) (tgt := 140) hx hb dL_law_40 (by decide) (by decide) rfl (by decide) (lc_kind C1 hI (by omega) (by omega) (by omega) hE hP hD hS hl)
        · exact lv_tableIn (off := 156) (tgt := 196) hx hb dL_law_40 (by decide) (by decide) rfl (by decide) (lc_pattern C1 hI (by omega) (by omega) (by omega) hE hP hD hS hl)
        · exact lv_tableIn (off := 260) (tgt := 300) hx hb dL_law_40 (by decide) (by decide) rfl (by decide) (lc_drop C1 hI (by omega) (by omega) (by omega) hE hP hD hS hl)
        · exact lv_tableIn (off := 316) (tgt := 356) hx hb dL_law_40 (by decide) (by decide) rfl (by decide) (lc_rule C1 hI (by omega) (by omega) (by omega) hE hP hD hS hl)
        · exact lv_tableIn (off := 384) (tgt := 424) hx hb dL_law_40 (by decide) (by decide) rfl (by decide) (lc_test C1 hI (by omega) (by omega) (by omega) hE hP hD hS hl)
        · exact lv_tableIn (off := 502) (tgt := 542) hx hb dL_law_40 (by decide) (by decide) rfl (by decide) (lc_kinds C1 hI (by omega) (by omega) (by omega) hE hP hD hS hl)
        · exact lv_tableIn (off := 515) (tgt := 555) hx hb dL_law_40 (by decide) (by decide) rfl (by decide) (lc_isSpecial C1 hI (by omega) (by omega) (by omega) hE hP hD hS hl)
        · exact lv_tableIn (off := 590) (tgt := 630) hx hb dL_law_40 (by decide) (by decide) rfl (by decide) (lc_letter C1 hI (by omega) (by omega) (by omega) hE hP hD hS hl)
        · exact lv_tableIn (off := 646) (tgt := 686) hx hb dL_law_40 (by decide) (by decide) rfl (by decide) (lc_put C1 hI (by omega) (by omega) (by omega) hE hP hD hS hl)
        · exact lv_tableIn (off := 702) (tgt := 742) hx hb dL_law_40 (by decide) (by decide) rfl (by decide) (lc_empty C1 hI (by omega) (by omega) (by omega) hE hP hD hS hl)
        · exact lv_tableIn (off := 715) (tgt := 755) hx hb dL_law_40 (by decide) (by decide) rfl (by decide) (lc_fits C1 hI (by omega) (by omega) (by omega) hE hP hD hS hl)
        · exact lv_tableIn (off := 778) (tgt := 818) hx hb dL_law_40 (by decide) (by decide) rfl (by decide) (lc_fitsByTable C1 hI (by omega) (by omega) (by omega) hE hP hD hS hl)
        · exact lv_tableIn (off := 841) (tgt := 881) hx hb dL_law_40 (by decide) (by decide) rfl (by decide) (lc_proves C1 hI (by omega) (by omega) (by omega) hE hP hD hS hl)
        · exact lv_tableIn (off := 904) (tgt := 944) hx hb dL_law_40 (by decide) (by decide) rfl (by decide) (lc_byName C1 hI (by omega) (by omega) (by omega) hE hP hD hS hl)
        · exact lv_tableIn (off := 917) (tgt := 957) hx hb dL_law_40 (by decide) (by decide) rfl (by decide) (lc_byBytes C1 hI (by omega) (by omega) (by omega) hE hP hD hS hl)
        · exact lv_tableIn (off := 930) (tgt := 970) hx hb dL_law_40 (by decide) (by decide) rfl (by decide) (lc_guess C1 hI (by omega) (by omega) (by omega) hE hP hD hS hl)
        · exact lv_tableIn (off := 943) (tgt := 983) hx hb dL_law_40 (by decide) (by decide) rfl (by decide) (lc_program C1 hI (by omega) (by omega) (by omega) hE hP hD hS hl)
        · exact lv_tableIn (off := 1035) (tgt := 1075) hx hb dL_law_40 (by decide) (by decide) rfl (by decide) (lc_setDefault C1 hI (by omega) (by omega) (by omega) hE hP hD hS hl)
        · exact lv_tableIn (off := 1115) (tgt := 1155) hx hb dL_law_40 (by decide) (by decide) rfl (by decide) (lc_programs C1 hI (by omega) (by omega) (by omega) hE hP hD hS hl)
        · exact lv_tableIn (off := 1171) (tgt := 1211) hx hb dL_law_40 (by decide) (by decide) rfl (by decide) (lc_programAt C1 hI (by omega) (by omega) (by omega) hE hP hD hS hl)
        · exact lv_tableIn (off := 1239) (tgt := 1279) hx hb dL_law_40 (by decide) (by decide) rfl (by decide) (lc_opener C1 hI (by omega) (by omega) (by omega) hE hP hD hS hl)
      · refine lv_tableOut (tgt := 1335) hx hb dL_law_40 ho (by decide) ?_
        refine W.widen (k := 45 + t + 1) (n := 2524 + 6 * t + 6) (by omega) (by omega) ?_
        exact hE nk np nt nl nr nb zo par wt tk lt vb pr wn mk st df kp ln kr tc lev fo tu th dr tb ld lo hI H locs ls hP hD hS hl
