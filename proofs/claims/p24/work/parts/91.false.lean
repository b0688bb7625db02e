/-! ===== the room of 135 cells doesn't hold what the run makes: the claim is false ===== -/
theorem LJ_mk {nk np nb : Nat} {par : Nat → Int32} {kp ln : Nat → Nat} (h1 : nk ≤ 14) (h2 : parOK par nk) (h3 : np ≤ 20) (h4 : nb ≤ 16) (h5 : ∀ q : Nat, q < np → kp q < nk) (h6 : ∀ q : Nat, ln q ≤ 8) : LJ nk np 0 0 nb par kp ln (fun _ => 0) (fun _ => 0) (fun _ => 0) (fun _ => 0) (fun _ => false) (fun _ => false) :=
  ⟨h1, h2, h3, Nat.zero_le _, Nat.zero_le _, h4, h5, h6, fun _ => Nat.zero_le _, fun _ => Nat.zero_le _, fun _ => Nat.zero_le _, fun _ => Nat.zero_le _, fun _ _ _ => rfl, fun _ _ _ => rfl⟩
theorem parOK_up {par : Nat → Int32} {n : Nat} (h : parOK par n) : parOK (upd par n (-1)) (n + 1) := fun i hi => by
  by_cases e : i = n
  · subst e; rw [pk_us]; exact Or.inl rfl
  · rw [pk_un e]; exact h i (by omega)
theorem no_pat {th : Nat → Bool} (n : Nat) (hn : n < 20) : hasP th 0 (nI n) = false := hasP_no (by rw [inB_nI (by omega)]; exact decide_eq_false (by omega))
theorem no_rule (n : Nat) (hn : n < 12) : inB (nI n) 0 = false := by rw [inB_nI (by omega)]; exact decide_eq_false (by omega)
theorem par_0 : parOK (fun _ => 0) 0 := fun i hi => absurd hi (by omega)
theorem J0 : LJ 0 0 0 0 0 (fun _ => 0) (fun _ => 0) (fun _ => 0) (fun _ => 0) (fun _ => 0) (fun _ => 0) (fun _ => 0) (fun _ => false) (fun _ => false) := LJ_mk (by omega) par_0 (by omega) (by omega) (fun q hq => absurd hq (by omega)) (fun _ => Nat.zero_le _)
abbrev q_p1 : Nat → Int32 := upd (fun _ => 0) 0 (-1)
abbrev q_p2 : Nat → Int32 := upd q_p1 1 (-1)
theorem J1 : LJ 1 0 0 0 0 q_p1 (fun _ => 0) (fun _ => 0) (fun _ => 0) (fun _ => 0) (fun _ => 0) (fun _ => 0) (fun _ => false) (fun _ => false) := LJ_mk (by omega) (parOK_up par_0) (by omega) (by omega) (fun q hq => absurd hq (by omega)) (fun _ => Nat.zero_le _)
theorem J2 {nb : Nat} (h : nb ≤ 16) : LJ 2 0 0 0 nb q_p2 (fun _ => 0) (fun _ => 0) (fun _ => 0) (fun _ => 0) (fun _ => 0) (fun _ => 0) (fun _ => false) (fun _ => false) := LJ_mk (by omega) (parOK_up (parOK_up par_0)) (by omega) h (fun q hq => absurd hq (by omega)) (fun _ => Nat.zero_le _)
theorem J4 : LJ 2 1 0 0 1 q_p2 (va_up (fun _ => 0) 0 0) (va_up (fun _ => 0) 0 0) (fun _ => 0) (fun _ => 0) (fun _ => 0) (fun _ => 0) (fun _ => false) (fun _ => false) := LJ_mk (by omega) (parOK_up (parOK_up par_0)) (by omega) (by omega) (fun q hq => by unfold va_up; split <;> omega) (fun q => by unfold va_up; split <;> exact Nat.zero_le _)
theorem q_th : hasP (va_up (fun _ => false) 0 true) 1 (nI 0) = true := by decide +kernel
set_option maxHeartbeats 4000000 in
set_option maxRecDepth 100000 in
theorem q_all {p : Program} {l : Launch} {e : Env} {s : State} {m : MethodId} {args : Array Value} {below : List Frame} {meth : Method} {c : Code} {A : Nat → Prop} {b : Nat} {xs : Nat → Int32} {D : va_G} {y3 : ClassId × ClassId × ClassId} {ad : Nat → Nat} {H : Heap} {locs : List Loc} {ls : Array Slot} (C0 : lwC p l s m args c A D y3) (h0 : xs 0 = (-49)) (h1 : xs 1 = (-12)) (h2 : xs 2 = 25) (h3 : xs 3 = 62) (h4 : xs 4 = 99) (hP : va_P D vwCl (LW y3 ad b xs 0 0 0 0 0 0 (fun _ => 0) (fun _ => 0) (fun _ => 0) (fun _ => 0) (fun _ => 0) (fun _ => 0) (fun _ => 0) (fun _ => 0) (fun _ => 0) (fun _ => -1) (fun _ => 0) (fun _ => 0) (fun _ => 0) (fun _ => 0) (fun _ => 0) (fun _ => 0) (fun _ => 0) (fun _ => false) (fun _ => false) (fun _ => false) (fun _ => false) (fun _ => false)) H) (hD : va_D A (LW y3 ad b xs 0 0 0 0 0 0 (fun _ => 0) (fun _ => 0) (fun _ => 0) (fun _ => 0) (fun _ => 0) (fun _ => 0) (fun _ => 0) (fun _ => 0) (fun _ => 0) (fun _ => -1) (fun _ => 0) (fun _ => 0) (fun _ => 0) (fun _ => 0) (fun _ => 0) (fun _ => 0) (fun _ => 0) (fun _ => false) (fun _ => false) (fun _ => false) (fun _ => false) (fun _ => false))) (hS : va_S A s.heap H locs) (hz : s.heap.size + (50 + 0) ≤ H.size) (hl : lv_has ls 19 [(4, .int (nI 0)), (3, .int (nI 1)), (2, .ref (ad 25)), (1, .ref (ad 0)), (0, .ref b)]) : W p l e RB s m args below meth c H locs 50 2718 (fun t => s.heap.size + 136 ≤ t.heap.size) (F0 m 21 ls []) := by
  refine q_s0 (z := 50) C0 J0 h0 (by omega) (by omega) hP hD hS hz hl (fun H locs ls hP hD hS hz hl => ?_)
  refine q_cmp (k := 0) (k0 := 0) (z := 50) C0 J1 (by omega) rfl (by omega) (by omega) hP hD hS hz hl (fun lda ldb H locs ls hP hD hS hz hl => ?_)
  refine q_rounds (k := 0) (k0 := 0) (z := 50) C0 J1 (by omega) (by omega) (by omega) (by omega) no_pat no_rule hP hD hS hz hl (fun H locs ls hP hD hS hz hl => ?_)
  refine q_s1 (z := 70) C0 J1 h1 (by omega) (by omega) hP hD hS hz hl (fun H locs ls hP hD hS hz hl => ?_)
  refine q_cmp (k := 1) (k0 := 1) (z := 70) C0 (J2 (by omega)) (by omega) rfl (by omega) (by omega) hP hD hS hz hl (fun lda ldb H locs ls hP hD hS hz hl => ?_)
  refine q_rounds (k := 1) (k0 := 1) (z := 70) C0 (J2 (by omega)) (by omega) (by omega) (by omega) (by omega) no_pat no_rule hP hD hS hz hl (fun H locs ls hP hD hS hz hl => ?_)
  refine q_s2 (z := 90) C0 (J2 (by omega)) h2 (by omega) (by omega) hP hD hS hz hl (fun H locs ls hP hD hS hz hl => ?_)
  refine q_cmp (k := 2) (k0 := 2) (z := 92) C0 (J2 (by omega)) (by omega) rfl (by omega) (by omega) hP hD hS hz hl (fun lda ldb H locs ls hP hD hS hz hl => ?_)
  refine q_rounds (k := 2) (k0 := 2) (z := 92) C0 (J2 (by omega)) (by omega) (by omega) (by omega) (by omega) no_pat no_rule hP hD hS hz hl (fun H locs ls hP hD hS hz hl => ?_)
  refine q_s3 (z := 112) C0 (J2 (by omega)) h3 (by omega) (by omega) hP hD hS hz hl (fun H locs ls hP hD hS hz hl => ?_)
  refine q_cmp (k := 3) (k0 := 3) (z := 112) C0 (J2 (by omega)) (by omega) rfl (by omega) (by omega) hP hD hS hz hl (fun lda ldb H locs ls hP hD hS hz hl => ?_)
  refine q_rounds (k := 3) (k0 := 3) (z := 112) C0 (J2 (by omega)) (by omega) (by omega) (by omega) (by omega) no_pat no_rule hP hD hS hz hl (fun H locs ls hP hD hS hz hl => ?_)
  refine q_s4 (z := 132) C0 (J2 (by omega)) h4 (by omega) (by omega) hP hD hS hz hl (fun H locs ls hP hD hS hz hl => ?_)
  refine q_cmp (k := 4) (k0 := 0) (z := 132) C0 J4 (by omega) rfl (by omega) (by omega) hP hD hS hz hl (fun lda ldb H locs ls hP hD hS hz hl => ?_)
  refine q_s5 (z := 132) C0 J4 q_th (by omega) (by omega) hP hD hS hz hl (fun H locs ls hP hD hS hz hl => ?_)
  refine q_in (n := 4) (k := 4) (z := 134) C0 J4 (by omega) (by omega) (by omega) (hasP_no (by decide +kernel)) (by decide +kernel) hP hD hS hz hl (fun H locs ls hP hD hS hz hl => ?_)
  intro T hT X
  refine ⟨_, Steps.refl _, ?_⟩
  show s.heap.size + 136 ≤ T.heap.size
  rw [hT]
  omega
theorem inlX0 : ∀ w ∈ wsX00, w ∈ wsL_law := fun _ h => List.mem_append_left _ (List.mem_append_left _ (List.mem_append_left _ (List.mem_append_left _ (List.mem_append_left _ (List.mem_append_right _ h)))))
theorem inX0 : ∀ w ∈ wsX00, w ∈ lw_tbl := fun w h => wsL_law_in w (inlX0 w h)
theorem inlX1 : ∀ w ∈ wsX10, w ∈ wsL_law := fun _ h => List.mem_append_left _ (List.mem_append_left _ (List.mem_append_left _ (List.mem_append_left _ (List.mem_append_left _ (List.mem_append_left _ (List.mem_append_left _ (List.mem_append_right _ h)))))))
theorem inX1 : ∀ w ∈ wsX10, w ∈ lw_tbl := fun w h => wsL_law_in w (inlX1 w h)
theorem inlX2 : ∀ w ∈ wsX20, w ∈ wsL_law := fun _ h => List.mem_append_left _ (List.mem_append_left _ (List.mem_append_left _ (List.mem_append_left _ (List.mem_append_left _ (List.mem_append_left _ (List.mem_append_right _ h))))))
theorem inX2 : ∀ w ∈ wsX20, w ∈ lw_tbl := fun w h => wsL_law_in w (inlX2 w h)
theorem inlX3 : ∀ w ∈ wsX30, w ∈ wsL_law := fun _ h => List.mem_append_left _ (List.mem_append_left _ (List.mem_append_left _ (List.mem_append_left _ (List.mem_append_right _ h))))
theorem inX3 : ∀ w ∈ wsX30, w ∈ lw_tbl := fun w h => wsL_law_in w (inlX3 w h)
theorem inlX4 : ∀ w ∈ wsX40, w ∈ wsL_law := fun _ h => List.mem_append_left _ (List.mem_append_left _ (List.mem_append_left _ (List.mem_append_left _ (List.mem_append_left _ (List.mem_append_left _ (List.mem_append_left _ (List.mem_append_left _ (List.mem_append_right _ h))))))))
theorem inX4 : ∀ w ∈ wsX40, w ∈ lw_tbl := fun w h => wsL_law_in w (inlX4 w h)
theorem inX5 : ∀ w ∈ wsX50, w ∈ lw_tbl := by decide +kernel
theorem st_str {A : Array Value} {s : State} {k : Nat} {tx : String} (h1 : (Cond.stringRef RX4 k tx).before A s = true) (h2 : (Cond.exactly (.string RX4 k) "java/lang/String").before A s = true) : ∃ sa, vk_R RX4 k tx sa s := by
  obtain ⟨a, _, _, _, he, _⟩ := Cond.exactly_spec h2
  exact ⟨a, vk_R.of h1 he⟩
set_option maxRecDepth 100000 in
theorem st_teE {s : State} {b : Nat} (hts : ∀ w ∈ lw_tbl, w.before #[Value.ref b] s = true) (hgv : (Jvm.Cond.and given_1 narrow_1).before #[Value.ref b] s = true) : teE (fun q => s.heap.size ≤ q) s s.heap := by
  have hs := flat_of_before _ hgv
  have hA : ∀ a : Nat, a < s.heap.size → ¬ (fun q : Nat => s.heap.size ≤ q) a := fun a h => Nat.not_le.mpr h
  refine ⟨vx_Zqof (hts (.laysStatic Bundle.tN "UNASSIGNED_STACK" Bundle.steD) (by decide +kernel)) (hts (.initialized Bundle.tN) (by decide +kernel)) (hs (.isRef (.static Bundle.tN "UNASSIGNED_STACK" Bundle.steD)) (by decide +kernel)) hA, vx_Zqof (hts (.laysStatic Bundle.tN "SUPPRESSED_SENTINEL" Bundle.listD) (by decide +kernel)) (hts (.initialized Bundle.tN) (by decide +kernel)) (hs (.isRef (.static Bundle.tN "SUPPRESSED_SENTINEL" Bundle.listD)) (by decide +kernel)) hA, ?_, ?_, ?_, ?_⟩
  · intro E hE
    simp only [xE3, List.mem_cons, List.not_mem_nil, or_false] at hE
    rcases hE with rfl | rfl | rfl
    · exact va_Nw.of rfl (hts (.castable xIO xIO) (by decide +kernel))
    · exact va_Nw.of rfl (hts (.castable xIS xIS) (by decide +kernel))
    · exact va_Nw.of rfl (hts (.castable xIA xIA) (by decide +kernel))
  · intro q hq
    simp only [xN3, List.mem_cons, List.not_mem_nil, or_false] at hq
    rcases hq with rfl | rfl | rfl
    · exact va_Nc.of (hs (.not (.castable xIA xIO)) (by decide +kernel))
    · exact va_Nc.of (hs (.not (.castable xIS xIO)) (by decide +kernel))
    · exact va_Nc.of (hs (.not (.castable xIS xIA)) (by decide +kernel))
  · intro q hq
    simp only [xS12, List.mem_cons, List.not_mem_nil, or_false] at hq
    rcases hq with rfl | rfl | rfl | rfl | rfl | rfl | rfl | rfl | rfl | rfl | rfl
    · exact st_str (k := 43) (tx := "no such parent") (hts (.stringRef RX4 43 "no such parent") (by decide +kernel)) (hs (.exactly (.string RX4 43) "java/lang/String") (by decide +kernel))
    · exact st_str (k := 54) (tx := "there are 14 kinds") (hts (.stringRef RX4 54 "there are 14 kinds") (by decide +kernel)) (hs (.exactly (.string RX4 54) "java/lang/String") (by decide +kernel))
    · exact st_str (k := 80) (tx := "there were 20 patterns") (hts (.stringRef RX4 80 "there were 20 patterns") (by decide +kernel)) (hs (.exactly (.string RX4 80) "java/lang/String") (by decide +kernel))
    · exact st_str (k := 98) (tx := "there are 12 rules") (hts (.stringRef RX4 98 "there are 12 rules") (by decide +kernel)) (hs (.exactly (.string RX4 98) "java/lang/String") (by decide +kernel))
    · exact st_str (k := 113) (tx := "the rule has 6 tests") (hts (.stringRef RX4 113 "the rule has 6 tests") (by decide +kernel)) (hs (.exactly (.string RX4 113) "java/lang/String") (by decide +kernel))
    · exact st_str (k := 130) (tx := "the name has 12 letters") (hts (.stringRef RX4 130 "the name has 12 letters") (by decide +kernel)) (hs (.exactly (.string RX4 130) "java/lang/String") (by decide +kernel))
    · exact st_str (k := 138) (tx := "there are 16 bytes") (hts (.stringRef RX4 138 "there are 16 bytes") (by decide +kernel)) (hs (.exactly (.string RX4 138) "java/lang/String") (by decide +kernel))
    · exact st_str (k := 197) (tx := "no such kind") (hts (.stringRef RX4 197 "no such kind") (by decide +kernel)) (hs (.exactly (.string RX4 197) "java/lang/String") (by decide +kernel))
    · exact st_str (k := 202) (tx := "no such pattern") (hts (.stringRef RX4 202 "no such pattern") (by decide +kernel)) (hs (.exactly (.string RX4 202) "java/lang/String") (by decide +kernel))
    · exact st_str (k := 207) (tx := "no such rule") (hts (.stringRef RX4 207 "no such rule") (by decide +kernel)) (hs (.exactly (.string RX4 207) "java/lang/String") (by decide +kernel))
    · exact st_str (k := 211) (tx := "out of range") (hts (.stringRef RX4 211 "out of range") (by decide +kernel)) (hs (.exactly (.string RX4 211) "java/lang/String") (by decide +kernel))
  · intro Y hY
    simp only [xY3, List.mem_cons, List.not_mem_nil, or_false] at hY
    rcases hY with rfl | rfl | rfl
    · exact va_Nw.of rfl (hts (.declares (Bundle.initS "java/lang/RuntimeException")) (by decide +kernel))
    · exact va_Nw.of rfl (hts (.declares (Bundle.initS "java/lang/Exception")) (by decide +kernel))
    · exact va_Nw.of rfl (hts (.declares (Bundle.initS Bundle.tN)) (by decide +kernel))
set_option maxRecDepth 100000 in
theorem st_nc {s : State} {b : Nat} (hts : ∀ w ∈ lw_tbl, w.before #[Value.ref b] s = true) : ncE s :=
  ⟨va_Nw.of rfl (hts (.methodLinkNest RX4 9 yX1_init RX4) (by decide +kernel)), va_Nw.of rfl (hts (.methodLinkNest RX4 18 yX2_init RX4) (by decide +kernel)), va_Nw.of rfl (hts (.methodLinkNest RX4 25 yX0_init RX4) (by decide +kernel))⟩
theorem st_arr {A : Array Value} {s : State} {ty : FieldType} (h : (Cond.arrayClass ty).before A s = true) : ∃ cA : ClassId, ArrOfT s cA ty ∧ s.vm.findClass ("[" ++ ty.toString) = some cA := by
  obtain ⟨cA, kA, comp, h1, h2, h3⟩ := Cond.arrayClass_spec h
  exact ⟨cA, fun n z => ⟨fun k h => (by cases h), kA, h2, comp, h3⟩, h1⟩
set_option maxRecDepth 100000 in
theorem st_K {s : State} {b : Nat} (hts : ∀ w ∈ lw_tbl, w.before #[Value.ref b] s = true) : ∃ (D : va_G) (y3 : ClassId × ClassId × ClassId), va_K D vwCl (ty3 y3) s := by
  obtain ⟨c0, i0, k0⟩ := u_known (C := RX0) (T := TX0) (N := 12) (n := 12) hts inX0 (hts (.instantiable RX0 12) (by decide +kernel))
  obtain ⟨c1, i1, k1⟩ := u_known (C := RX1) (T := TX1) (N := 2) (n := 2) hts inX1 (hts (.instantiable RX1 2) (by decide +kernel))
  obtain ⟨c2, i2, k2⟩ := u_known (C := RX2) (T := TX2) (N := 10) (n := 10) hts inX2 (hts (.instantiable RX2 10) (by decide +kernel))
  obtain ⟨c3, i3, k3⟩ := u_known (C := RX3) (T := TX3) (N := 2) (n := 2) hts inX3 (hts (.instantiable RX3 2) (by decide +kernel))
  obtain ⟨c4, i4, k4⟩ := u_known (C := RX4) (T := TX4) (N := 4) (n := 4) hts inX4 (hts (.instantiable RX4 4) (by decide +kernel))
  obtain ⟨ya, ea, na⟩ := st_arr (hts (.arrayClass .int) (by decide +kernel))
  obtain ⟨yb, eb, nb⟩ := st_arr (hts (.arrayClass .boolean) (by decide +kernel))
  refine ⟨(fun k => match k with | 0 => c0 | 1 => c1 | 2 => c2 | 3 => c3 | _ => c4, fun k => match k with | 0 => i0 | 1 => i1 | 2 => i2 | 3 => i3 | _ => i4), (ya, yb, yb), ?_, ?_⟩
  · intro k q hq
    match k, hq with
    | 0, hq => cases hq; exact k0
    | 1, hq => cases hq; exact k1
    | 2, hq => cases hq; exact k2
    | 3, hq => cases hq; exact k3
    | 4, hq => cases hq; exact k4
    | k + 5, hq => simp [vwCl] at hq
  · intro k q hq
    match k, hq with
    | 0, hq => cases hq; exact ⟨ea, na⟩
    | 1, hq => cases hq; exact ⟨eb, nb⟩
    | k + 2, hq => simp [ty3] at hq

/-- the run from the printed start comes, within the law, to a heap of 136 new cells at least -/
def q_xs : Nat → Int32 := fun j => match start1.cells0[j]? with
  | some (.int v) => v
  | _ => 0
set_option maxRecDepth 16384 in
theorem q_script : start1.cells0 = Array.ofFn (n := 100) (fun j => Value.int (q_xs j.val)) := by decide +kernel
set_option maxRecDepth 16384 in
theorem q_room : start1.about.hasRoom start1.e0.platform RB = true := launch0.hasRoom_least start1.about RB (by decide +kernel) (by decide +kernel) (by decide +kernel) (by decide +kernel) (by decide +kernel) (by decide +kernel)
theorem q_applies : (headSpec (Jvm.Cond.code x code maxLocals ret :: tables_1) RB).appliesLoose x start1.e0.platform start1.about = true := by
  obtain ⟨hL, hW, hadm, hleast, hcas, hclk, hfr, hfit, hheap, happ, hcalls, hrest, hpre⟩ := start1.atStart
  obtain ⟨k1, k2, k3, k4, k5, k6, k7, k8⟩ := (Spec.appliesLoose_iff hfr).mp ((Spec.applies_iff_loose hfr).mp happ).1
  exact (Spec.appliesLoose_iff hfr).mpr ⟨k1, k2, k3, k4, k5, k6, q_room, k8⟩
set_option maxRecDepth 16384 in
theorem q_int : start1.about.vm.findClass "[I" = some 17 := by decide +kernel
theorem q_pre : (Jvm.Cond.and given_1 narrow_1).before start1.args0 start1.about = true := start1.atStart.2.2.2.2.2.2.2.2.2.2.2.2
/-- a start, in a room as wide as RB, at a script that begins with these five numbers: the run makes 136 cells at least -/
theorem q_from {l : Launch} {e : Env} {p : Program} {s : State} {m : MethodId} {below : List Frame} {b : Nat} {xs : Nat → Int32} (hflags : l.flags = flags0) (ha : l.admits e) (hc : FairCas e.choices) (hk : FairClock e.choices)
    (hf : s.frames = Frame.invoking m #[Value.ref b] :: below) (happ : (headSpec (Jvm.Cond.code x code maxLocals ret :: tables_1) RB).appliesLoose x e.platform s = true) (hgv : (Jvm.Cond.and given_1 narrow_1).before #[Value.ref b] s = true)
    (hscr : ∀ cA : ClassId, s.vm.findClass ("[" ++ FieldType.int.toString) = some cA → s.heap[b]? = some (vp_cell cA (100, .inl xs)))
    (h0 : xs 0 = (-49)) (h1 : xs 1 = (-12)) (h2 : xs 2 = 25) (h3 : xs 3 = 62) (h4 : xs 4 = 99) :
    ∃ n : Nat, (∀ k, k < n → Within (stepsAlone p.tables e k s) below) ∧ s.heap.size + 136 ≤ (stepsAlone p.tables e n s).heap.size := by
  obtain ⟨hrun, hable, halone, hname, hhears, hinit, hroom, hpre⟩ := (Spec.appliesLoose_iff hf).mp happ
  have hts0 : ∀ w ∈ (Jvm.Cond.code x code maxLocals ret :: tables_1), w.before #[Value.ref b] s = true := atoms_spec (ws := Jvm.Cond.code x code maxLocals ret :: tables_1) hpre
  obtain ⟨meth, c, hmeth, hcode, hbytes, hlocals, hret, hlocks, -⟩ := Cond.code_spec hname (hts0 _ List.mem_cons_self)
  have hlocals : c.maxLocals = 19 := hlocals
  have hcur := State.cur_lt_of_frames hf
  have hf1 : (s.setFrames (.java (entryFrame m #[Value.ref b] 19) :: below)).frames = .java (entryFrame m #[Value.ref b] 19) :: below := State.frames_setFrames _ hcur
  have ht1 := State.topJava?_of_frames hf1
  have hplain : (s.setFrames (.java (entryFrame m #[Value.ref b] 19) :: below)).plainMethod m := State.plainMethod.of_named (s := s) (plainFor_of_name (by decide)) hname hmeth
  have hAt : At (s.setFrames (.java (entryFrame m #[Value.ref b] 19) :: below)) m c below :=
    ⟨by rw [ht1]; rfl, ⟨[], by rw [hf1]; rfl⟩, hrun, by simpa using hable, by simpa using halone, by rw [State.code?_eq]; simp [State.setFrames, hmeth, hcode], hplain⟩
  have hstep : (stepThread p.tables e s).1 = (s.setFrames (.java (entryFrame m #[Value.ref b] 19) :: below)).setTop (entryFrame m #[Value.ref b] 19) := by
    have hfull : e.platform.stackFull (s.setFrames below).me (s.setFrames below).frames c.maxLocals = false := by
      obtain ⟨-, q1, -, q2⟩ := State.hasRoom_stack hroom
      rw [hf, List.length_cons] at q1
      rw [State.localsInUse_invoking hf hmeth hcode] at q2
      have hw := stackUse_le_stackWeight below
      rw [State.frames_setFrames _ hcur]
      exact Platform.stackFull_eq_false (by rw [State.stackLimits_setFrames]; omega) (by rw [State.stackLimits_setFrames]; omega)
    rw [stepThread_invoking hf, (doInvoke_java (s := s.setFrames below) (e := e) (meth := meth) (code := c) hmeth hcode hlocks hfull).1, State.setTop_self ht1]
    simp only [State.pushFrame, State.frames_setFrames _ hcur, State.setFrames_setFrames, hlocals, entryFrame]
  have B : BodyLoose p l x (headSpec (Jvm.Cond.code x code maxLocals ret :: tables_1) RB) code 19 ret e s m #[Value.ref b] below meth c (s.setFrames (.java (entryFrame m #[Value.ref b] 19) :: below)) :=
    ⟨ha, hc, hk, by cases p <;> rfl, hf, hname, hhears, hinit, hroom, hpre, hmeth, hret, hlocks, hbytes, rfl, hAt⟩
  have hls : l.stackTraces = false := by unfold Launch.stackTraces; rw [hflags]; decide
  have htl : ∀ w ∈ lw_tbl, w.before #[Value.ref b] s = true := k2_hts_sels lw_privs (fun w hw => hts0 w (List.mem_cons_of_mem _ hw)) lw_privs_ok
  have hts : ∀ w ∈ wsL_law, w.before #[Value.ref b] s = true := fun w h => htl w (wsL_law_in w h)
  obtain ⟨D, y3, hK⟩ := st_K htl
  have hN := st_nc htl
  have hsb := hscr y3.1 (hK.2 0 (y3.1, .int) rfl).2
  have hTE := (st_teE htl hgv).wide hsb rfl
  have hb : c.code = cL_law := hbytes
  have hown : s.vm.findClass RL = some m.cls := findClass_of_methodNamed hname
  have C0 : lwC p l s m #[Value.ref b] c (fun q : Nat => s.heap.size ≤ q ∨ q = b) D y3 := ⟨hls, B.exec, hb, hlocals, hown, hts, fun q h => Or.inl h, hK, hTE⟩
  have X₀ : Stand p l e RB s m #[Value.ref b] below meth c _ [] 0 0 := Stand.of_body B
  have K : W p l e RB s m #[Value.ref b] below meth c s.heap [] 0 0 (fun t => s.heap.size + 136 ≤ t.heap.size) (entryFrame m ([Value.ref b] : List Value).toArray 19) :=
    q_start C0 hN hsb (fun ad H locs ls hP hD hS hz hl => q_all C0 h0 h1 h2 h3 h4 hP hD hS hz hl)
  obtain ⟨t, a1, hq⟩ := K (s.setFrames (.java (entryFrame m #[Value.ref b] 19) :: below)) rfl X₀
  obtain ⟨n, hn, hw⟩ := Steps.head (tb := p.tables) (e := e) ⟨hrun, hable, halone⟩ ⟨[.invoking m #[Value.ref b]], hf, by simp, by simp⟩ (hstep ▸ a1)
  exact ⟨n, hw, by rw [hn]; exact hq⟩
set_option maxRecDepth 16384 in
theorem q_run : ∃ n : Nat, (∀ k, k < n → Within (stepsAlone start1.p0.tables start1.e0 k start1.about) Lib.HandBits.below0) ∧ start1.about.heap.size + 136 ≤ (stepsAlone start1.p0.tables start1.e0 n start1.about).heap.size := by
  obtain ⟨hL, hW, hadm, hleast, hcas, hclk, hfr, hfit, hheap, happ, hcalls, hrest, hpre⟩ := start1.atStart
  refine q_from (l := launch0) (b := 0) (xs := q_xs) rfl hadm hcas hclk hfr q_applies q_pre (fun cA h => ?_) (by decide +kernel) (by decide +kernel) (by decide +kernel) (by decide +kernel) (by decide +kernel)
  have e9 : cA = 17 := Option.some.inj (h.symm.trans q_int)
  subst e9
  have e1 : start1.about.heap[0]? = some ({ cls := 17, slots := start1.cells0, vm := .none } : Cell) := rfl
  rw [e1, q_script]
  rfl
theorem p24_false : ¬ Claimed_1_1 := by
  intro hC
  obtain ⟨hL, hW, hadm, hleast, hcas, hclk, hfr, hfit, hheap, happ, hcalls, hrest, hpre⟩ := start1.atStart
  obtain ⟨n, o, hwin, hrun, hend, hpost⟩ := hC launch0 rfl hL hW start1.p0 start1.e0 hadm hcas hclk start1.about ⟨0, 0⟩ start1.args0 Lib.HandBits.below0 hfr hfit hheap happ ⟨hcalls, hrest, hpre⟩
  obtain ⟨n1, hw1, hq1⟩ := q_run
  obtain ⟨_, _, hs⟩ := hpost.2
  have hsz : (stepsAlone start1.p0.tables start1.e0 n start1.about).heap.size ≤ start1.about.heap.size + 135 := hs.2.2.1
  by_cases h : n < n1
  · exact hend.not_within (hw1 n h)
  · obtain ⟨d, rfl⟩ : ∃ d, n = n1 + d := ⟨n - n1, by omega⟩
    have h9 := stepsAlone_heap_le start1.p0.tables start1.e0 d (stepsAlone start1.p0.tables start1.e0 n1 start1.about)
    rw [stepsAlone_add] at hsz
    omega
theorem p24_refuted : ¬ (Claimed_1_1 ∧ Claimed_1_2) := fun h => p24_false h.1

