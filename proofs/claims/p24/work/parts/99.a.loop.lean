section L99
variable {p : Program} {l : Launch} {e : Env} {s : State} {m : MethodId} {args : Array Value} {below : List Frame} {meth : Method} {c : Code} {A : Nat → Prop} {Q : State → Prop} {b L : Nat} {xs : Nat → Int32} {D : va_G} {y3 : ClassId × ClassId × ClassId} {ad : Nat → Nat}
variable {nk : Nat} {np : Nat} {nt : Nat} {nl : Nat} {nr : Nat} {nb : Nat} {par : Nat → Int32} {wt : Nat → Int32} {vb : Nat → Int32} {pr : Nat → Int32} {wn : Nat → Int32} {mk : Nat → Int32} {st : Nat → Int32} {df : Nat → Int32} {lta : Nat → Int32} {ltb : Nat → Int32} {tka : Nat → Int32} {tkb : Nat → Int32} {kp : Nat → Nat} {ln : Nat → Nat} {kr : Nat → Nat} {tc : Nat → Nat} {lev : Nat → Nat} {fo : Nat → Nat} {tu : Nat → Nat} {th : Nat → Bool} {tba : Nat → Bool} {tbb : Nat → Bool} {lda : Nat → Bool} {ldb : Nat → Bool} {dr : Nat → Bool} {cs sl : Nat} {H : Heap} {locs : List Loc} {ls : Array Slot}
set_option maxHeartbeats 4000000 in
set_option maxRecDepth 100000 in
theorem r_step {k : Nat} (C0 : lwX p l s m args c A b L xs D y3) (hJ : LK nk np nt nl nr nb par kp ln th dr tba tbb kr tc lev fo tu lta ltb tka tkb) (hk2 : k < 120) (hcs : cs + 22 ≤ 2690) (hsl : sl + 132 ≤ 18558) (hP : va_P D vwCl (LX y3 ad nk np nt nl nr nb par wt vb pr wn mk st df lta ltb tka tkb kp ln kr tc lev fo tu th tba tbb lda ldb) H) (hD : va_D A (LX y3 ad nk np nt nl nr nb par wt vb pr wn mk st df lta ltb tka tkb kp ln kr tc lev fo tu th tba tbb lda ldb)) (hS : va_S A s.heap H locs) (hl : lv_has ls 19 [(4, .int (nI k)), (3, .int (nI 1)), (2, .ref (ad 25)), (1, .ref (ad 0)), (0, .ref b)])
    (hend : lwK p l e s m args below meth c A Q b D y3 ad (k + 1) 21 (cs + 22) (sl + 132)) : W p l e RW s m args below meth c H locs cs sl Q (F0 m 21 ls []) := by
  have h695 : lwK p l e s m args below meth c A Q b D y3 ad k 695 (cs + 2) (sl + 12) := by
    intro nk np nt nl nr nb par wt vb pr wn mk st df lta ltb tka tkb kp ln kr tc lev fo tu th tba tbb lda ldb dr hJ H locs ls hP hD hS hl
    refine r_cmp (k := k) C0 hJ hk2 (by omega) (by omega) hP hD hS hl (fun lda ldb H locs ls hP hD hS hl => ?_)
    exact r_rounds C0 hk2 (fun tba tbb lda ldb hJ H locs ls hP hD hS hl => hend nk np nt nl nr nb par wt vb pr wn mk st df lta ltb tka tkb kp ln kr tc lev fo tu th tba tbb lda ldb dr hJ H locs ls hP hD hS hl) 5 (k % 4) (cs + 2) (sl + 12) (by omega) (by omega) (by omega) (by omega) hcs hsl tba tbb lda ldb hJ H locs ls hP hD hS hl
  refine r_pre (k := k) C0 hJ hk2 (by omega) (by omega) hP hD hS hl (fun kd v it hkd hv hit ls hl => ?_)
  refine r_disp (k := k) (kd := kd) (v := v) (it := it) C0 hJ hkd (by omega) (by omega) hP hD hS hl (fun ls hl => r_b0 C0 hJ hv hit (by omega) (by omega) hP hD hS hl h695) (fun ls hl => r_b1 C0 hJ hv hit (by omega) (by omega) hP hD hS hl h695) (fun ls hl => r_b2 C0 hJ hv hit (by omega) (by omega) hP hD hS hl h695) (fun ls hl => r_b3 C0 hJ hv hit (by omega) (by omega) hP hD hS hl h695) (fun ls hl => r_b4 C0 hJ hv hit (by omega) (by omega) hP hD hS hl h695) (fun ls hl => r_b5 C0 hJ hv hit (by omega) (by omega) hP hD hS hl h695) (fun ls hl => r_b6 C0 hJ hv hit (by omega) (by omega) hP hD hS hl h695) (fun ls hl => r_b7 C0 hJ hv hit (by omega) (by omega) hP hD hS hl h695)
end L99
/-- what the law's run promises in the room that it needs -/
def r_Q (_ : Array Value) (s : State) (o : Outcome) (t : State) : Prop := o = .returned (some (.int 1)) ∧ Framed s o t [] 2690 18558
def r_Z (below : List Frame) (a : Array Value) (s : State) : State → Prop := fun t => ∃ o, t.status = .running ∧ Ended t below o ∧ r_Q a s o t
theorem r_ret {p : Program} {l : Launch} {e : Env} {s : State} {m : MethodId} {below : List Frame} {meth : Method} {c : Code} {b : Nat} (hx : p.tables.exec = Jvm.exec) (hb : c.code = code) (hr : meth.sig.returnType = ret) (hlocks : meth.locks = false) {pc : Nat} {H : Heap} {ls : Array Slot} (hdg : decode code pc = .ok (.ireturn, 1)) : W p l e RW s m #[Value.ref b] below meth c H [] 2690 18558 (r_Z below #[Value.ref b] s) (F0 m pc ls [.int 1]) := by
  intro T hT X
  obtain ⟨fs, hret, hrun, hended, hW, hframe⟩ := X.leave (v := some (.int 1)) (hlocks := hlocks) (fun h => by rw [hr] at h; cases h)
  have hmeth' : T.vm.method? m = some meth := X.method'
  refine ⟨T.setFrames fs, ?_, .returned (some (.int 1)), hrun, hended, rfl, ⟨_, rfl⟩, hW, hframe⟩
  jvm_step X.here [X.here.top, hx, hb, hdg, hmeth', hr, ret, narrow_b1]
  (try refine ⟨rfl, ?_⟩); (try refine ⟨rfl, ?_⟩)
  first | (intro acts; rw [hret _ acts rfl rfl rfl]) | rw [hret _ _ rfl rfl rfl]
  exact Steps.refl _
set_option maxHeartbeats 4000000 in
set_option maxRecDepth 100000 in
theorem r_loop {p : Program} {l : Launch} {e : Env} {s : State} {m : MethodId} {below : List Frame} {meth : Method} {c : Code} {b L : Nat} {xs : Nat → Int32} {D : va_G} {y3 : ClassId × ClassId × ClassId} {ad : Nat → Nat} (hr : meth.sig.returnType = ret) (hlocks : meth.locks = false) (C0 : lwX p l s m #[Value.ref b] c (fun q => s.heap.size ≤ q) b L xs D y3) :
    ∀ (f k : Nat), k + f = 120 → lwK p l e s m #[Value.ref b] below meth c (fun q => s.heap.size ≤ q) (r_Z below #[Value.ref b] s) b D y3 ad k 21 (50 + 22 * k) (2718 + 132 * k) := by
  obtain ⟨hls, hx, hb, hml, hown, hts, hA, hK, hTE, hX, hbl, hbA, hL31⟩ := id C0
  intro f
  induction f with
  | zero =>
    intro k hk nk np nt nl nr nb par wt vb pr wn mk st df lta ltb tka tkb kp ln kr tc lev fo tu th tba tbb lda ldb dr hJ H locs ls hP hD hS hl
    refine lv_iload hx hb dL_law_21 (lv_at hl 0 rfl) ?_
    refine lv_bipush (v := (nI 120)) hx hb dL_law_23 rfl ?_
    refine ln_icmp_ge (tgt := 830) hx hb (by omega) (by omega) dL_law_25 (by decide) (fun _ => ?_) (fun h9 => absurd h9 (by omega))
    refine lv_iload_n hx hb dL_law_830 rfl (lv_at hl 1 rfl) ?_
    refine va_forget (fun q hq => hS.2.2 q hq) ?_
    refine W.widen (k := 2690) (n := 18558) (by omega) (by omega) ?_
    exact r_ret hx hb hr hlocks dL_law_831
  | succ f ih =>
    intro k hk nk np nt nl nr nb par wt vb pr wn mk st df lta ltb tka tkb kp ln kr tc lev fo tu th tba tbb lda ldb dr hJ H locs ls hP hD hS hl
    refine r_step (k := k) C0 hJ (by omega) (by omega) (by omega) hP hD hS hl ?_
    have h := ih (k + 1) (by omega)
    rw [show 50 + 22 * (k + 1) = 50 + 22 * k + 22 by omega, show 2718 + 132 * (k + 1) = 2718 + 132 * k + 132 by omega] at h
    exact h
