section L97
variable {p : Program} {l : Launch} {e : Env} {s : State} {m : MethodId} {args : Array Value} {below : List Frame} {meth : Method} {c : Code} {A : Nat → Prop} {Q : State → Prop} {b L : Nat} {xs : Nat → Int32} {D : va_G} {y3 : ClassId × ClassId × ClassId} {ad : Nat → Nat}
variable {nk : Nat} {np : Nat} {nt : Nat} {nl : Nat} {nr : Nat} {nb : Nat} {par : Nat → Int32} {wt : Nat → Int32} {vb : Nat → Int32} {pr : Nat → Int32} {wn : Nat → Int32} {mk : Nat → Int32} {st : Nat → Int32} {df : Nat → Int32} {lta : Nat → Int32} {ltb : Nat → Int32} {tka : Nat → Int32} {tkb : Nat → Int32} {kp : Nat → Nat} {ln : Nat → Nat} {kr : Nat → Nat} {tc : Nat → Nat} {lev : Nat → Nat} {fo : Nat → Nat} {tu : Nat → Nat} {th : Nat → Bool} {dr : Nat → Bool} {cz sz : Nat}
set_option maxHeartbeats 4000000 in
set_option maxRecDepth 100000 in
theorem r_rounds {k : Nat} (C0 : lwX p l s m args c A b L xs D y3) (hk2 : k < 120) (kk : ∀ (tba tbb lda ldb : Nat → Bool), LK nk np nt nl nr nb par kp ln th dr tba tbb kr tc lev fo tu lta ltb tka tkb → ∀ (H : Heap) (locs : List Loc) (ls : Array Slot), va_P D vwCl (LX y3 ad nk np nt nl nr nb par wt vb pr wn mk st df lta ltb tka tkb kp ln kr tc lev fo tu th tba tbb lda ldb) H → va_D A (LX y3 ad nk np nt nl nr nb par wt vb pr wn mk st df lta ltb tka tkb kp ln kr tc lev fo tu th tba tbb lda ldb) → va_S A s.heap H locs → lv_has ls 19 [(4, .int (nI (k + 1))), (3, .int (nI 1)), (2, .ref (ad 25)), (1, .ref (ad 0)), (0, .ref b)] → W p l e RW s m args below meth c H locs cz sz Q (F0 m 21 ls [])) :
    ∀ (f n cs sl : Nat), n < 24 → 20 ≤ n + 4 * f → cs + 4 * f ≤ cz → sl + 24 * f ≤ sz → cz ≤ 2690 → sz ≤ 18558 → ∀ (tba tbb lda ldb : Nat → Bool), LK nk np nt nl nr nb par kp ln th dr tba tbb kr tc lev fo tu lta ltb tka tkb → ∀ (H : Heap) (locs : List Loc) (ls : Array Slot), va_P D vwCl (LX y3 ad nk np nt nl nr nb par wt vb pr wn mk st df lta ltb tka tkb kp ln kr tc lev fo tu th tba tbb lda ldb) H → va_D A (LX y3 ad nk np nt nl nr nb par wt vb pr wn mk st df lta ltb tka tkb kp ln kr tc lev fo tu th tba tbb lda ldb) → va_S A s.heap H locs → lv_has ls 19 [(10, .int (nI n)), (4, .int (nI k)), (3, .int (nI 1)), (2, .ref (ad 25)), (1, .ref (ad 0)), (0, .ref b)] → W p l e RW s m args below meth c H locs cs sl Q (F0 m 755 ls []) := by
  obtain ⟨hls, hx, hb, hml, hown, hts, hA, hK, hTE, hX, hbl, hbA, hL31⟩ := id C0
  intro f
  induction f with
  | zero =>
    intro n cs sl hn hf hcs hsl hcz hsz tba tbb lda ldb hJ H locs ls hP hD hS hl
    refine lv_iload hx hb dL_law_755 (lv_at hl 0 rfl) ?_
    refine lv_bipush (v := (nI 20)) hx hb dL_law_757 rfl ?_
    refine ln_icmp_ge (tgt := 824) hx hb (by omega) (by omega) dL_law_759 (by decide) (fun c759 => ?_) (fun c759 => ?_)
    · refine lv_iinc (v := (nI (k + 1))) (lv' := [(4, .int (nI (k + 1))), (10, .int (nI n)), (3, .int (nI 1)), (2, .ref (ad 25)), (1, .ref (ad 0)), (0, .ref b)]) hx hb dL_law_824 hl (k := 1) rfl (nI_add _ _) (by decide) rfl (fun ls hl => ?_)
      refine lv_goto (tgt := 21) hx hb dL_law_827 (by decide) ?_
      refine W.widen (k := cz) (n := sz) (by omega) (by omega) ?_
      exact kk tba tbb lda ldb hJ H locs ls hP hD hS (lv_sub hl [0, 2, 3, 4, 5] rfl)
    · exact absurd c759 (by omega)
  | succ f ih =>
    intro n cs sl hn hf hcs hsl hcz hsz tba tbb lda ldb hJ H locs ls hP hD hS hl
    by_cases hn2 : 20 ≤ n
    · refine lv_iload hx hb dL_law_755 (lv_at hl 0 rfl) ?_
      refine lv_bipush (v := (nI 20)) hx hb dL_law_757 rfl ?_
      refine ln_icmp_ge (tgt := 824) hx hb (by omega) (by omega) dL_law_759 (by decide) (fun c759 => ?_) (fun c759 => ?_)
      · refine lv_iinc (v := (nI (k + 1))) (lv' := [(4, .int (nI (k + 1))), (10, .int (nI n)), (3, .int (nI 1)), (2, .ref (ad 25)), (1, .ref (ad 0)), (0, .ref b)]) hx hb dL_law_824 hl (k := 1) rfl (nI_add _ _) (by decide) rfl (fun ls hl => ?_)
        refine lv_goto (tgt := 21) hx hb dL_law_827 (by decide) ?_
        refine W.widen (k := cz) (n := sz) (by omega) (by omega) ?_
        exact kk tba tbb lda ldb hJ H locs ls hP hD hS (lv_sub hl [0, 2, 3, 4, 5] rfl)
      · exact absurd c759 (by omega)
    · refine lv_iload hx hb dL_law_755 (lv_at hl 0 rfl) ?_
      refine lv_bipush (v := (nI 20)) hx hb dL_law_757 rfl ?_
      refine ln_icmp_ge (tgt := 824) hx hb (by omega) (by omega) dL_law_759 (by decide) (fun c759 => ?_) (fun c759 => ?_)
      · exact absurd c759 (by omega)
      · refine lv_iload_n hx hb dL_law_762 rfl (lv_at hl 2 rfl) ?_
        refine lv_if_eq (tgt := 824) hx hb dL_law_763 (by decide) (fun h9 => absurd h9 (by decide +kernel)) (fun _ => ?_)
        refine r_p (n := n) (k := k) C0 hJ (by omega) (by omega) (by omega) hP hD hS (lv_sub hl [0, 1, 2, 3, 4, 5] rfl) (fun tba tbb hJ H locs ls hP hD hS hl => ?_)
        refine r_r (n := n) (k := k) C0 hJ (by omega) (by omega) (by omega) hP hD hS hl (fun lda ldb H locs ls hP hD hS hl => ?_)
        exact ih (n + 4) (cs + 2 + 2) (sl + 12 + 12) (by omega) (by omega) (by omega) (by omega) hcz hsz tba tbb lda ldb hJ H locs ls hP hD hS hl
end L97
