theorem rg_N {j n : Nat} (h : j ≤ n) (hn : n < 2 ^ 31) : rgB (nI j) (nI 0) (nI n) = true := rgB_t (show nI 0 ≤ nI j from nI_pos' (by omega)) ((nI_leI (by omega) hn).mpr h)
theorem hrA_0 {t : Nat → Nat} {n : Nat} : hrA t n n = 0 := by
  unfold hrA
  rw [show mnN n 4 - n = 0 by unfold mnN; split <;> omega]; rfl
theorem hrB_0 {t : Nat → Nat} {n : Nat} : hrB t n n = 0 := by
  unfold hrB
  rw [show n - mxN n 4 = 0 by unfold mxN; split <;> omega]; rfl
section L98a
variable {p : Program} {l : Launch} {e : Env} {s : State} {m : MethodId} {args : Array Value} {below : List Frame} {meth : Method} {c : Code} {A : Nat → Prop} {Q : State → Prop} {b L : Nat} {xs : Nat → Int32} {D : va_G} {y3 : ClassId × ClassId × ClassId} {ad : Nat → Nat}
variable {nk : Nat} {np : Nat} {nt : Nat} {nl : Nat} {nr : Nat} {nb : Nat} {par : Nat → Int32} {wt : Nat → Int32} {vb : Nat → Int32} {pr : Nat → Int32} {wn : Nat → Int32} {mk : Nat → Int32} {st : Nat → Int32} {df : Nat → Int32} {lta : Nat → Int32} {ltb : Nat → Int32} {tka : Nat → Int32} {tkb : Nat → Int32} {kp : Nat → Nat} {ln : Nat → Nat} {kr : Nat → Nat} {tc : Nat → Nat} {lev : Nat → Nat} {fo : Nat → Nat} {tu : Nat → Nat} {th : Nat → Bool} {tba : Nat → Bool} {tbb : Nat → Bool} {lda : Nat → Bool} {ldb : Nat → Bool} {dr : Nat → Bool} {cs sl : Nat} {H : Heap} {locs : List Loc} {ls : Array Slot}
set_option maxHeartbeats 4000000 in
set_option maxRecDepth 100000 in
theorem r_pre {k : Nat} (C0 : lwX p l s m args c A b L xs D y3) (hJ : LK nk np nt nl nr nb par kp ln th dr tba tbb kr tc lev fo tu lta ltb tka tkb) (hk2 : k < 120) (hcs : cs ≤ 2690) (hsl : sl ≤ 18558) (hP : va_P D vwCl (LX y3 ad nk np nt nl nr nb par wt vb pr wn mk st df lta ltb tka tkb kp ln kr tc lev fo tu th tba tbb lda ldb) H) (hD : va_D A (LX y3 ad nk np nt nl nr nb par wt vb pr wn mk st df lta ltb tka tkb kp ln kr tc lev fo tu th tba tbb lda ldb)) (hS : va_S A s.heap H locs) (hl : lv_has ls 19 [(4, .int (nI k)), (3, .int (nI 1)), (2, .ref (ad 25)), (1, .ref (ad 0)), (0, .ref b)])
    (kk : ∀ (kd v it : Nat), kd < 2 ^ 31 → v < 2 ^ 28 → it < 2 ^ 31 → ∀ ls : Array Slot, lv_has ls 19 [(9, .int (nI it)), (7, .int (nI v)), (6, .int (nI kd)), (4, .int (nI k)), (3, .int (nI 1)), (2, .ref (ad 25)), (1, .ref (ad 0)), (0, .ref b)] → W p l e RW s m args below meth c H locs cs sl Q (F0 m 105 ls [])) : W p l e RW s m args below meth c H locs cs sl Q (F0 m 21 ls []) := by
  obtain ⟨hls, hx, hb, hml, hown, hts, hA, hK, hTE, hX, hbl, hbA, hL31⟩ := C0
  obtain ⟨hI, htbb, hLT, hTK⟩ := id hJ
  have hntp := LI.ntp hI
  obtain ⟨hk, hp, hnp, hkp, hln, hnt, hdr, hdz, hta, hnl, hnb, hnr, hkr, htc, htz, hlv, hfo, htu, hlL⟩ := id hI
  have hP : va_P D vwCl [((ad 0), .inr (4, [.ref (ad 1), .ref (ad 3), .ref (ad 11), .ref (ad 22)])), ((ad 1), .inr (1, [.ref (ad 2), .int (nI nk)])), ((ad 2), .inl (y3.1, 14, .inl par)), ((ad 3), .inr (2, [.ref (ad 4), .int (nI nl), .ref (ad 5), .ref (ad 6), .ref (ad 7), .ref (ad 8), .ref (ad 9), .int (nI np), .int (nI nt), .ref (ad 10)])), ((ad 4), .inl (y3.1, 12, .inl lta)), ((ad 5), .inl (y3.1, 20, .inl (fN kp))), ((ad 6), .inl (y3.1, 20, .inl wt)), ((ad 7), .inl (y3.1, 20, .inl (fN ln))), ((ad 8), .inl (y3.2.1, 20, .inl (fB th))), ((ad 9), .inl (y3.1, 160, .inl tka)), ((ad 10), .inl (y3.2.1, 117, .inl (fB tba))), ((ad 11), .inr (0, [.ref (ad 12), .int (nI nb), .ref (ad 13), .ref (ad 14), .ref (ad 15), .int (nI nr), .ref (ad 16), .ref (ad 17), .ref (ad 18), .ref (ad 19), .ref (ad 20), .ref (ad 21)])), ((ad 12), .inl (y3.1, 16, .inl vb)), ((ad 13), .inl (y3.1, 12, .inl (fN kr))), ((ad 14), .inl (y3.1, 12, .inl pr)), ((ad 15), .inl (y3.1, 12, .inl (fN tc))), ((ad 16), .inl (y3.1, 72, .inl (fN lev))), ((ad 17), .inl (y3.1, 72, .inl (fN fo))), ((ad 18), .inl (y3.1, 72, .inl (fN tu))), ((ad 19), .inl (y3.1, 72, .inl wn)), ((ad 20), .inl (y3.1, 72, .inl mk)), ((ad 21), .inl (y3.2.1, 72, .inl (fB lda))), ((ad 22), .inr (3, [.ref (ad 23), .ref (ad 24)])), ((ad 23), .inl (y3.1, 420, .inl st)), ((ad 24), .inl (y3.1, 42, .inl df)), ((ad 25), .inr (4, [.ref (ad 26), .ref (ad 28), .ref (ad 36), .ref (ad 47)])), ((ad 26), .inr (1, [.ref (ad 27), .int (nI nk)])), ((ad 27), .inl (y3.1, 14, .inl par)), ((ad 28), .inr (2, [.ref (ad 29), .int (nI nl), .ref (ad 30), .ref (ad 31), .ref (ad 32), .ref (ad 33), .ref (ad 34), .int (nI np), .int (nI nt), .ref (ad 35)])), ((ad 29), .inl (y3.1, 12, .inl ltb)), ((ad 30), .inl (y3.1, 20, .inl (fN kp))), ((ad 31), .inl (y3.1, 20, .inl wt)), ((ad 32), .inl (y3.1, 20, .inl (fN ln))), ((ad 33), .inl (y3.2.1, 20, .inl (fB th))), ((ad 34), .inl (y3.1, 160, .inl tkb)), ((ad 35), .inl (y3.2.1, 117, .inl (fB tbb))), ((ad 36), .inr (0, [.ref (ad 37), .int (nI nb), .ref (ad 38), .ref (ad 39), .ref (ad 40), .int (nI nr), .ref (ad 41), .ref (ad 42), .ref (ad 43), .ref (ad 44), .ref (ad 45), .ref (ad 46)])), ((ad 37), .inl (y3.1, 16, .inl vb)), ((ad 38), .inl (y3.1, 12, .inl (fN kr))), ((ad 39), .inl (y3.1, 12, .inl pr)), ((ad 40), .inl (y3.1, 12, .inl (fN tc))), ((ad 41), .inl (y3.1, 72, .inl (fN lev))), ((ad 42), .inl (y3.1, 72, .inl (fN fo))), ((ad 43), .inl (y3.1, 72, .inl (fN tu))), ((ad 44), .inl (y3.1, 72, .inl wn)), ((ad 45), .inl (y3.1, 72, .inl mk)), ((ad 46), .inl (y3.2.1, 72, .inl (fB ldb))), ((ad 47), .inr (3, [.ref (ad 48), .ref (ad 49)])), ((ad 48), .inl (y3.1, 420, .inl st)), ((ad 49), .inl (y3.1, 42, .inl df))] H := hP
  have hD : va_D A [((ad 0), .inr (4, [.ref (ad 1), .ref (ad 3), .ref (ad 11), .ref (ad 22)])), ((ad 1), .inr (1, [.ref (ad 2), .int (nI nk)])), ((ad 2), .inl (y3.1, 14, .inl par)), ((ad 3), .inr (2, [.ref (ad 4), .int (nI nl), .ref (ad 5), .ref (ad 6), .ref (ad 7), .ref (ad 8), .ref (ad 9), .int (nI np), .int (nI nt), .ref (ad 10)])), ((ad 4), .inl (y3.1, 12, .inl lta)), ((ad 5), .inl (y3.1, 20, .inl (fN kp))), ((ad 6), .inl (y3.1, 20, .inl wt)), ((ad 7), .inl (y3.1, 20, .inl (fN ln))), ((ad 8), .inl (y3.2.1, 20, .inl (fB th))), ((ad 9), .inl (y3.1, 160, .inl tka)), ((ad 10), .inl (y3.2.1, 117, .inl (fB tba))), ((ad 11), .inr (0, [.ref (ad 12), .int (nI nb), .ref (ad 13), .ref (ad 14), .ref (ad 15), .int (nI nr), .ref (ad 16), .ref (ad 17), .ref (ad 18), .ref (ad 19), .ref (ad 20), .ref (ad 21)])), ((ad 12), .inl (y3.1, 16, .inl vb)), ((ad 13), .inl (y3.1, 12, .inl (fN kr))), ((ad 14), .inl (y3.1, 12, .inl pr)), ((ad 15), .inl (y3.1, 12, .inl (fN tc))), ((ad 16), .inl (y3.1, 72, .inl (fN lev))), ((ad 17), .inl (y3.1, 72, .inl (fN fo))), ((ad 18), .inl (y3.1, 72, .inl (fN tu))), ((ad 19), .inl (y3.1, 72, .inl wn)), ((ad 20), .inl (y3.1, 72, .inl mk)), ((ad 21), .inl (y3.2.1, 72, .inl (fB lda))), ((ad 22), .inr (3, [.ref (ad 23), .ref (ad 24)])), ((ad 23), .inl (y3.1, 420, .inl st)), ((ad 24), .inl (y3.1, 42, .inl df)), ((ad 25), .inr (4, [.ref (ad 26), .ref (ad 28), .ref (ad 36), .ref (ad 47)])), ((ad 26), .inr (1, [.ref (ad 27), .int (nI nk)])), ((ad 27), .inl (y3.1, 14, .inl par)), ((ad 28), .inr (2, [.ref (ad 29), .int (nI nl), .ref (ad 30), .ref (ad 31), .ref (ad 32), .ref (ad 33), .ref (ad 34), .int (nI np), .int (nI nt), .ref (ad 35)])), ((ad 29), .inl (y3.1, 12, .inl ltb)), ((ad 30), .inl (y3.1, 20, .inl (fN kp))), ((ad 31), .inl (y3.1, 20, .inl wt)), ((ad 32), .inl (y3.1, 20, .inl (fN ln))), ((ad 33), .inl (y3.2.1, 20, .inl (fB th))), ((ad 34), .inl (y3.1, 160, .inl tkb)), ((ad 35), .inl (y3.2.1, 117, .inl (fB tbb))), ((ad 36), .inr (0, [.ref (ad 37), .int (nI nb), .ref (ad 38), .ref (ad 39), .ref (ad 40), .int (nI nr), .ref (ad 41), .ref (ad 42), .ref (ad 43), .ref (ad 44), .ref (ad 45), .ref (ad 46)])), ((ad 37), .inl (y3.1, 16, .inl vb)), ((ad 38), .inl (y3.1, 12, .inl (fN kr))), ((ad 39), .inl (y3.1, 12, .inl pr)), ((ad 40), .inl (y3.1, 12, .inl (fN tc))), ((ad 41), .inl (y3.1, 72, .inl (fN lev))), ((ad 42), .inl (y3.1, 72, .inl (fN fo))), ((ad 43), .inl (y3.1, 72, .inl (fN tu))), ((ad 44), .inl (y3.1, 72, .inl wn)), ((ad 45), .inl (y3.1, 72, .inl mk)), ((ad 46), .inl (y3.2.1, 72, .inl (fB ldb))), ((ad 47), .inr (3, [.ref (ad 48), .ref (ad 49)])), ((ad 48), .inl (y3.1, 420, .inl st)), ((ad 49), .inl (y3.1, 42, .inl df))] := hD
  have hXH : va_X b L xs s H := hX.kept (hS.2.1 b hbl hbA)
  obtain ⟨q6, eq6, hq6⟩ : ∃ q6 : Nat, q6 = 1 + k / 60 ∧ (q6 = 1 ∨ q6 = 2) := ⟨_, rfl, by omega⟩
  have hk6 : k % 60 < 2 ^ 31 := by omega
  refine lv_iload hx hb dL_law_21 (lv_at hl 0 rfl) ?_
  refine lv_bipush (v := (nI 120)) hx hb dL_law_23 rfl ?_
  refine ln_icmp_ge (tgt := 830) hx hb (by omega) (by omega) dL_law_25 (by decide) (fun c25 => ?_) (fun c25 => ?_)
  · exact absurd c25 (by omega)
  · refine lv_iload_n hx hb dL_law_28 rfl (lv_at hl 1 rfl) ?_
    refine lv_if_eq (tgt := 830) hx hb dL_law_29 (by decide) (fun h9 => absurd h9 (by decide +kernel)) (fun _ => ?_)
    refine lv_aload_n hx hb dL_law_32 rfl (lv_at hl 4 rfl) ?_
    refine lv_iload hx hb dL_law_33 (lv_at hl 0 rfl) ?_
    refine lv_bipush (v := (nI 60)) hx hb dL_law_35 rfl ?_
    refine ln_irem hx hb (by omega) (by omega) (by omega) dL_law_37 ?_
    refine dw_S (k := k % 60) ⟨hx, hb, hml, hown, hts⟩ hL31 hk6 gL_law_L_drawn hvL_drawn ⟨Nat.le_of_ble_eq_true rfl, Nat.le_of_ble_eq_true rfl⟩ hXH hl.1 rfl (Nat.le_of_ble_eq_true rfl) dL_law_38 ⟨(by show _ ≤ 2690; omega), (by show _ ≤ 18558; omega)⟩ ?_
    obtain ⟨d, hd, ed⟩ := msk_N (if k % 60 < L then xs (k % 60) else nI 12251 * nI (k % 60) + nI 9001)
    refine ln_eqi (y := nI d) ed ?_
    obtain ⟨zz, ezz, hzz⟩ : ∃ zz : Nat, zz = (d / q6) + (5 * (k / 60)) ∧ zz < 2 ^ 31 := ⟨_, rfl, by rcases hq6 with q | q <;> rw [q] <;> omega⟩
    refine lv_iconst (v := (nI 1)) hx hb dL_law_41 rfl ?_
    refine lv_iload hx hb dL_law_42 (lv_at hl 0 rfl) ?_
    refine lv_bipush (v := (nI 60)) hx hb dL_law_44 rfl ?_
    refine ln_idiv hx hb (by omega) (by omega) (by omega) dL_law_46 ?_
    refine ln_iadd (n := 1 + (k / 60)) hx hb rfl dL_law_47 ?_
    refine ln_eqi (y := (nI q6)) (by rw [eq6]) ?_
    refine ln_idiv hx hb (by omega) (by omega) (by omega) dL_law_48 ?_
    refine lv_iconst (v := (nI 5)) hx hb dL_law_49 rfl ?_
    refine lv_iload hx hb dL_law_50 (lv_at hl 0 rfl) ?_
    refine lv_bipush (v := (nI 60)) hx hb dL_law_52 rfl ?_
    refine ln_idiv hx hb (by omega) (by omega) (by omega) dL_law_54 ?_
    refine ln_imul (n := 5 * (k / 60)) hx hb (by omega) dL_law_55 ?_
    refine ln_iadd (n := (d / q6) + (5 * (k / 60))) hx hb (by omega) dL_law_56 ?_
    refine ln_eqi (y := (nI zz)) (by rw [ezz]) ?_
    refine lv_istore (lv' := [(5, .int (nI zz)), (4, .int (nI k)), (3, .int (nI 1)), (2, .ref (ad 25)), (1, .ref (ad 0)), (0, .ref b)]) hx hb dL_law_57 hl (by decide) rfl (fun ls hl => ?_)
    refine lv_iload hx hb dL_law_59 (lv_at hl 1 rfl) ?_
    refine lv_iconst (v := (nI 2)) hx hb dL_law_61 rfl ?_
    refine ln_icmp_ge (tgt := 69) hx hb (by omega) (by omega) dL_law_62 (by decide) (fun c62 => ?_) (fun c62 => ?_)
    · refine lv_iload hx hb dL_law_69 (lv_at hl 0 rfl) ?_
      refine lv_bipush (v := (nI 16)) hx hb dL_law_71 rfl ?_
      refine ln_irem hx hb (by omega) (by omega) (by omega) dL_law_73 ?_
      refine lv_istore (lv' := [(6, .int (nI (zz % 16))), (5, .int (nI zz)), (4, .int (nI k)), (3, .int (nI 1)), (2, .ref (ad 25)), (1, .ref (ad 0)), (0, .ref b)]) hx hb dL_law_74 hl (by decide) rfl (fun ls hl => ?_)
      refine lv_iload hx hb dL_law_76 (lv_at hl 1 rfl) ?_
      refine lv_bipush (v := (nI 16)) hx hb dL_law_78 rfl ?_
      refine ln_idiv hx hb (by omega) (by omega) (by omega) dL_law_80 ?_
      refine lv_istore (lv' := [(7, .int (nI (zz / 16))), (6, .int (nI (zz % 16))), (5, .int (nI zz)), (4, .int (nI k)), (3, .int (nI 1)), (2, .ref (ad 25)), (1, .ref (ad 0)), (0, .ref b)]) hx hb dL_law_81 hl (by decide) rfl (fun ls hl => ?_)
      refine lv_aload_n hx hb dL_law_83 rfl (lv_at hl 6 rfl) ?_
      refine rd_V (ci := 4) (q0 := 0) (own := RL) (As := []) (rest := []) (bytes := cX4_kinds) (maxL := 1) ⟨hx, hb, hml, hown, hts⟩ (kX4_kinds l D y3 (ad 0) (ad 1) (ad 3) (ad 11) (ad 22) (ad 2) nk) gL_law_X4_kinds rfl hvX4_kinds ⟨Nat.le_of_ble_eq_true rfl, Nat.le_of_ble_eq_true rfl⟩ hP hK [0, 1] rfl rfl rfl hl.1 rfl (Nat.le_of_ble_eq_true rfl) dL_law_84 ⟨(by show _ ≤ 2690; omega), (by show _ ≤ 18558; omega)⟩ (fun r1 hr1 => ?_)
      subst hr1
      refine lv_istore (lv' := [(8, .int (nI nk)), (7, .int (nI (zz / 16))), (6, .int (nI (zz % 16))), (5, .int (nI zz)), (4, .int (nI k)), (3, .int (nI 1)), (2, .ref (ad 25)), (1, .ref (ad 0)), (0, .ref b)]) hx hb dL_law_87 hl (by decide) rfl (fun ls hl => ?_)
      refine lv_iload hx hb dL_law_89 (lv_at hl 0 rfl) ?_
      refine ln_if_ne (tgt := 98) hx hb (by omega) dL_law_91 (by decide) (fun c91 => ?_) (fun c91 => ?_)
      · refine lv_iload hx hb dL_law_98 (lv_at hl 1 rfl) ?_
        refine lv_iload hx hb dL_law_100 (lv_at hl 0 rfl) ?_
        refine ln_irem hx hb (by omega) (by omega) (by omega) dL_law_102 ?_
        refine lv_istore (lv' := [(9, .int (nI ((zz / 16) % nk))), (8, .int (nI nk)), (7, .int (nI (zz / 16))), (6, .int (nI (zz % 16))), (5, .int (nI zz)), (4, .int (nI k)), (3, .int (nI 1)), (2, .ref (ad 25)), (1, .ref (ad 0)), (0, .ref b)]) hx hb dL_law_103 hl (by decide) rfl (fun ls hl => ?_)
        exact kk (zz % 16) (zz / 16) ((zz / 16) % nk) (by omega) (by omega) (by first | omega | exact Nat.lt_of_le_of_lt (Nat.mod_le _ _) (by omega)) ls (lv_sub hl [0, 2, 3, 5, 6, 7, 8, 9] rfl)
      · refine lv_iconst (v := (nI 0)) hx hb dL_law_94 rfl ?_
        refine lv_goto (tgt := 103) hx hb dL_law_95 (by decide) ?_
        refine lv_istore (lv' := [(9, .int (nI 0)), (8, .int (nI nk)), (7, .int (nI (zz / 16))), (6, .int (nI (zz % 16))), (5, .int (nI zz)), (4, .int (nI k)), (3, .int (nI 1)), (2, .ref (ad 25)), (1, .ref (ad 0)), (0, .ref b)]) hx hb dL_law_103 hl (by decide) rfl (fun ls hl => ?_)
        exact kk (zz % 16) (zz / 16) 0 (by omega) (by omega) (by first | omega | exact Nat.lt_of_le_of_lt (Nat.mod_le _ _) (by omega)) ls (lv_sub hl [0, 2, 3, 5, 6, 7, 8, 9] rfl)
    · refine lv_iconst (v := (nI 0)) hx hb dL_law_65 rfl ?_
      refine lv_goto (tgt := 74) hx hb dL_law_66 (by decide) ?_
      refine lv_istore (lv' := [(6, .int (nI 0)), (5, .int (nI zz)), (4, .int (nI k)), (3, .int (nI 1)), (2, .ref (ad 25)), (1, .ref (ad 0)), (0, .ref b)]) hx hb dL_law_74 hl (by decide) rfl (fun ls hl => ?_)
      refine lv_iload hx hb dL_law_76 (lv_at hl 1 rfl) ?_
      refine lv_bipush (v := (nI 16)) hx hb dL_law_78 rfl ?_
      refine ln_idiv hx hb (by omega) (by omega) (by omega) dL_law_80 ?_
      refine lv_istore (lv' := [(7, .int (nI (zz / 16))), (6, .int (nI 0)), (5, .int (nI zz)), (4, .int (nI k)), (3, .int (nI 1)), (2, .ref (ad 25)), (1, .ref (ad 0)), (0, .ref b)]) hx hb dL_law_81 hl (by decide) rfl (fun ls hl => ?_)
      refine lv_aload_n hx hb dL_law_83 rfl (lv_at hl 6 rfl) ?_
      refine rd_V (ci := 4) (q0 := 0) (own := RL) (As := []) (rest := []) (bytes := cX4_kinds) (maxL := 1) ⟨hx, hb, hml, hown, hts⟩ (kX4_kinds l D y3 (ad 0) (ad 1) (ad 3) (ad 11) (ad 22) (ad 2) nk) gL_law_X4_kinds rfl hvX4_kinds ⟨Nat.le_of_ble_eq_true rfl, Nat.le_of_ble_eq_true rfl⟩ hP hK [0, 1] rfl rfl rfl hl.1 rfl (Nat.le_of_ble_eq_true rfl) dL_law_84 ⟨(by show _ ≤ 2690; omega), (by show _ ≤ 18558; omega)⟩ (fun r1 hr1 => ?_)
      subst hr1
      refine lv_istore (lv' := [(8, .int (nI nk)), (7, .int (nI (zz / 16))), (6, .int (nI 0)), (5, .int (nI zz)), (4, .int (nI k)), (3, .int (nI 1)), (2, .ref (ad 25)), (1, .ref (ad 0)), (0, .ref b)]) hx hb dL_law_87 hl (by decide) rfl (fun ls hl => ?_)
      refine lv_iload hx hb dL_law_89 (lv_at hl 0 rfl) ?_
      refine ln_if_ne (tgt := 98) hx hb (by omega) dL_law_91 (by decide) (fun c91 => ?_) (fun c91 => ?_)
      · refine lv_iload hx hb dL_law_98 (lv_at hl 1 rfl) ?_
        refine lv_iload hx hb dL_law_100 (lv_at hl 0 rfl) ?_
        refine ln_irem hx hb (by omega) (by omega) (by omega) dL_law_102 ?_
        refine lv_istore (lv' := [(9, .int (nI ((zz / 16) % nk))), (8, .int (nI nk)), (7, .int (nI (zz / 16))), (6, .int (nI 0)), (5, .int (nI zz)), (4, .int (nI k)), (3, .int (nI 1)), (2, .ref (ad 25)), (1, .ref (ad 0)), (0, .ref b)]) hx hb dL_law_103 hl (by decide) rfl (fun ls hl => ?_)
        exact kk 0 (zz / 16) ((zz / 16) % nk) (by omega) (by omega) (by first | omega | exact Nat.lt_of_le_of_lt (Nat.mod_le _ _) (by omega)) ls (lv_sub hl [0, 2, 3, 5, 6, 7, 8, 9] rfl)
      · refine lv_iconst (v := (nI 0)) hx hb dL_law_94 rfl ?_
        refine lv_goto (tgt := 103) hx hb dL_law_95 (by decide) ?_
        refine lv_istore (lv' := [(9, .int (nI 0)), (8, .int (nI nk)), (7, .int (nI (zz / 16))), (6, .int (nI 0)), (5, .int (nI zz)), (4, .int (nI k)), (3, .int (nI 1)), (2, .ref (ad 25)), (1, .ref (ad 0)), (0, .ref b)]) hx hb dL_law_103 hl (by decide) rfl (fun ls hl => ?_)
        exact kk 0 (zz / 16) 0 (by omega) (by omega) (by first | omega | exact Nat.lt_of_le_of_lt (Nat.mod_le _ _) (by omega)) ls (lv_sub hl [0, 2, 3, 5, 6, 7, 8, 9] rfl)
set_option maxHeartbeats 4000000 in
set_option maxRecDepth 100000 in
theorem r_disp {k kd v it : Nat} (C0 : lwX p l s m args c A b L xs D y3) (hJ : LK nk np nt nl nr nb par kp ln th dr tba tbb kr tc lev fo tu lta ltb tka tkb) (hkd : kd < 2 ^ 31) (hcs : cs ≤ 2690) (hsl : sl ≤ 18558) (hP : va_P D vwCl (LX y3 ad nk np nt nl nr nb par wt vb pr wn mk st df lta ltb tka tkb kp ln kr tc lev fo tu th tba tbb lda ldb) H) (hD : va_D A (LX y3 ad nk np nt nl nr nb par wt vb pr wn mk st df lta ltb tka tkb kp ln kr tc lev fo tu th tba tbb lda ldb)) (hS : va_S A s.heap H locs) (hl : lv_has ls 19 [(9, .int (nI it)), (7, .int (nI v)), (6, .int (nI kd)), (4, .int (nI k)), (3, .int (nI 1)), (2, .ref (ad 25)), (1, .ref (ad 0)), (0, .ref b)])
    (k110 : ∀ ls : Array Slot, lv_has ls 19 [(9, .int (nI it)), (7, .int (nI v)), (4, .int (nI k)), (3, .int (nI 1)), (2, .ref (ad 25)), (1, .ref (ad 0)), (0, .ref b)] → W p l e RW s m args below meth c H locs cs sl Q (F0 m 110 ls [])) (k166 : ∀ ls : Array Slot, lv_has ls 19 [(9, .int (nI it)), (7, .int (nI v)), (4, .int (nI k)), (3, .int (nI 1)), (2, .ref (ad 25)), (1, .ref (ad 0)), (0, .ref b)] → W p l e RW s m args below meth c H locs cs sl Q (F0 m 166 ls [])) (k401 : ∀ ls : Array Slot, lv_has ls 19 [(9, .int (nI it)), (7, .int (nI v)), (4, .int (nI k)), (3, .int (nI 1)), (2, .ref (ad 25)), (1, .ref (ad 0)), (0, .ref b)] → W p l e RW s m args below meth c H locs cs sl Q (F0 m 401 ls [])) (k442 : ∀ ls : Array Slot, lv_has ls 19 [(9, .int (nI it)), (7, .int (nI v)), (4, .int (nI k)), (3, .int (nI 1)), (2, .ref (ad 25)), (1, .ref (ad 0)), (0, .ref b)] → W p l e RW s m args below meth c H locs cs sl Q (F0 m 442 ls [])) (k491 : ∀ ls : Array Slot, lv_has ls 19 [(9, .int (nI it)), (7, .int (nI v)), (4, .int (nI k)), (3, .int (nI 1)), (2, .ref (ad 25)), (1, .ref (ad 0)), (0, .ref b)] → W p l e RW s m args below meth c H locs cs sl Q (F0 m 491 ls [])) (k593 : ∀ ls : Array Slot, lv_has ls 19 [(9, .int (nI it)), (7, .int (nI v)), (4, .int (nI k)), (3, .int (nI 1)), (2, .ref (ad 25)), (1, .ref (ad 0)), (0, .ref b)] → W p l e RW s m args below meth c H locs cs sl Q (F0 m 593 ls [])) (k635 : ∀ ls : Array Slot, lv_has ls 19 [(9, .int (nI it)), (7, .int (nI v)), (4, .int (nI k)), (3, .int (nI 1)), (2, .ref (ad 25)), (1, .ref (ad 0)), (0, .ref b)] → W p l e RW s m args below meth c H locs cs sl Q (F0 m 635 ls [])) (k671 : ∀ ls : Array Slot, lv_has ls 19 [(9, .int (nI it)), (7, .int (nI v)), (4, .int (nI k)), (3, .int (nI 1)), (2, .ref (ad 25)), (1, .ref (ad 0)), (0, .ref b)] → W p l e RW s m args below meth c H locs cs sl Q (F0 m 671 ls [])) : W p l e RW s m args below meth c H locs cs sl Q (F0 m 105 ls []) := by
  obtain ⟨hls, hx, hb, hml, hown, hts, hA, hK, hTE, hX, hbl, hbA, hL31⟩ := C0
  obtain ⟨hI, htbb, hLT, hTK⟩ := id hJ
  have hntp := LI.ntp hI
  obtain ⟨hk, hp, hnp, hkp, hln, hnt, hdr, hdz, hta, hnl, hnb, hnr, hkr, htc, htz, hlv, hfo, htu, hlL⟩ := id hI
  have hP : va_P D vwCl [((ad 0), .inr (4, [.ref (ad 1), .ref (ad 3), .ref (ad 11), .ref (ad 22)])), ((ad 1), .inr (1, [.ref (ad 2), .int (nI nk)])), ((ad 2), .inl (y3.1, 14, .inl par)), ((ad 3), .inr (2, [.ref (ad 4), .int (nI nl), .ref (ad 5), .ref (ad 6), .ref (ad 7), .ref (ad 8), .ref (ad 9), .int (nI np), .int (nI nt), .ref (ad 10)])), ((ad 4), .inl (y3.1, 12, .inl lta)), ((ad 5), .inl (y3.1, 20, .inl (fN kp))), ((ad 6), .inl (y3.1, 20, .inl wt)), ((ad 7), .inl (y3.1, 20, .inl (fN ln))), ((ad 8), .inl (y3.2.1, 20, .inl (fB th))), ((ad 9), .inl (y3.1, 160, .inl tka)), ((ad 10), .inl (y3.2.1, 117, .inl (fB tba))), ((ad 11), .inr (0, [.ref (ad 12), .int (nI nb), .ref (ad 13), .ref (ad 14), .ref (ad 15), .int (nI nr), .ref (ad 16), .ref (ad 17), .ref (ad 18), .ref (ad 19), .ref (ad 20), .ref (ad 21)])), ((ad 12), .inl (y3.1, 16, .inl vb)), ((ad 13), .inl (y3.1, 12, .inl (fN kr))), ((ad 14), .inl (y3.1, 12, .inl pr)), ((ad 15), .inl (y3.1, 12, .inl (fN tc))), ((ad 16), .inl (y3.1, 72, .inl (fN lev))), ((ad 17), .inl (y3.1, 72, .inl (fN fo))), ((ad 18), .inl (y3.1, 72, .inl (fN tu))), ((ad 19), .inl (y3.1, 72, .inl wn)), ((ad 20), .inl (y3.1, 72, .inl mk)), ((ad 21), .inl (y3.2.1, 72, .inl (fB lda))), ((ad 22), .inr (3, [.ref (ad 23), .ref (ad 24)])), ((ad 23), .inl (y3.1, 420, .inl st)), ((ad 24), .inl (y3.1, 42, .inl df)), ((ad 25), .inr (4, [.ref (ad 26), .ref (ad 28), .ref (ad 36), .ref (ad 47)])), ((ad 26), .inr (1, [.ref (ad 27), .int (nI nk)])), ((ad 27), .inl (y3.1, 14, .inl par)), ((ad 28), .inr (2, [.ref (ad 29), .int (nI nl), .ref (ad 30), .ref (ad 31), .ref (ad 32), .ref (ad 33), .ref (ad 34), .int (nI np), .int (nI nt), .ref (ad 35)])), ((ad 29), .inl (y3.1, 12, .inl ltb)), ((ad 30), .inl (y3.1, 20, .inl (fN kp))), ((ad 31), .inl (y3.1, 20, .inl wt)), ((ad 32), .inl (y3.1, 20, .inl (fN ln))), ((ad 33), .inl (y3.2.1, 20, .inl (fB th))), ((ad 34), .inl (y3.1, 160, .inl tkb)), ((ad 35), .inl (y3.2.1, 117, .inl (fB tbb))), ((ad 36), .inr (0, [.ref (ad 37), .int (nI nb), .ref (ad 38), .ref (ad 39), .ref (ad 40), .int (nI nr), .ref (ad 41), .ref (ad 42), .ref (ad 43), .ref (ad 44), .ref (ad 45), .ref (ad 46)])), ((ad 37), .inl (y3.1, 16, .inl vb)), ((ad 38), .inl (y3.1, 12, .inl (fN kr))), ((ad 39), .inl (y3.1, 12, .inl pr)), ((ad 40), .inl (y3.1, 12, .inl (fN tc))), ((ad 41), .inl (y3.1, 72, .inl (fN lev))), ((ad 42), .inl (y3.1, 72, .inl (fN fo))), ((ad 43), .inl (y3.1, 72, .inl (fN tu))), ((ad 44), .inl (y3.1, 72, .inl wn)), ((ad 45), .inl (y3.1, 72, .inl mk)), ((ad 46), .inl (y3.2.1, 72, .inl (fB ldb))), ((ad 47), .inr (3, [.ref (ad 48), .ref (ad 49)])), ((ad 48), .inl (y3.1, 420, .inl st)), ((ad 49), .inl (y3.1, 42, .inl df))] H := hP
  have hD : va_D A [((ad 0), .inr (4, [.ref (ad 1), .ref (ad 3), .ref (ad 11), .ref (ad 22)])), ((ad 1), .inr (1, [.ref (ad 2), .int (nI nk)])), ((ad 2), .inl (y3.1, 14, .inl par)), ((ad 3), .inr (2, [.ref (ad 4), .int (nI nl), .ref (ad 5), .ref (ad 6), .ref (ad 7), .ref (ad 8), .ref (ad 9), .int (nI np), .int (nI nt), .ref (ad 10)])), ((ad 4), .inl (y3.1, 12, .inl lta)), ((ad 5), .inl (y3.1, 20, .inl (fN kp))), ((ad 6), .inl (y3.1, 20, .inl wt)), ((ad 7), .inl (y3.1, 20, .inl (fN ln))), ((ad 8), .inl (y3.2.1, 20, .inl (fB th))), ((ad 9), .inl (y3.1, 160, .inl tka)), ((ad 10), .inl (y3.2.1, 117, .inl (fB tba))), ((ad 11), .inr (0, [.ref (ad 12), .int (nI nb), .ref (ad 13), .ref (ad 14), .ref (ad 15), .int (nI nr), .ref (ad 16), .ref (ad 17), .ref (ad 18), .ref (ad 19), .ref (ad 20), .ref (ad 21)])), ((ad 12), .inl (y3.1, 16, .inl vb)), ((ad 13), .inl (y3.1, 12, .inl (fN kr))), ((ad 14), .inl (y3.1, 12, .inl pr)), ((ad 15), .inl (y3.1, 12, .inl (fN tc))), ((ad 16), .inl (y3.1, 72, .inl (fN lev))), ((ad 17), .inl (y3.1, 72, .inl (fN fo))), ((ad 18), .inl (y3.1, 72, .inl (fN tu))), ((ad 19), .inl (y3.1, 72, .inl wn)), ((ad 20), .inl (y3.1, 72, .inl mk)), ((ad 21), .inl (y3.2.1, 72, .inl (fB lda))), ((ad 22), .inr (3, [.ref (ad 23), .ref (ad 24)])), ((ad 23), .inl (y3.1, 420, .inl st)), ((ad 24), .inl (y3.1, 42, .inl df)), ((ad 25), .inr (4, [.ref (ad 26), .ref (ad 28), .ref (ad 36), .ref (ad 47)])), ((ad 26), .inr (1, [.ref (ad 27), .int (nI nk)])), ((ad 27), .inl (y3.1, 14, .inl par)), ((ad 28), .inr (2, [.ref (ad 29), .int (nI nl), .ref (ad 30), .ref (ad 31), .ref (ad 32), .ref (ad 33), .ref (ad 34), .int (nI np), .int (nI nt), .ref (ad 35)])), ((ad 29), .inl (y3.1, 12, .inl ltb)), ((ad 30), .inl (y3.1, 20, .inl (fN kp))), ((ad 31), .inl (y3.1, 20, .inl wt)), ((ad 32), .inl (y3.1, 20, .inl (fN ln))), ((ad 33), .inl (y3.2.1, 20, .inl (fB th))), ((ad 34), .inl (y3.1, 160, .inl tkb)), ((ad 35), .inl (y3.2.1, 117, .inl (fB tbb))), ((ad 36), .inr (0, [.ref (ad 37), .int (nI nb), .ref (ad 38), .ref (ad 39), .ref (ad 40), .int (nI nr), .ref (ad 41), .ref (ad 42), .ref (ad 43), .ref (ad 44), .ref (ad 45), .ref (ad 46)])), ((ad 37), .inl (y3.1, 16, .inl vb)), ((ad 38), .inl (y3.1, 12, .inl (fN kr))), ((ad 39), .inl (y3.1, 12, .inl pr)), ((ad 40), .inl (y3.1, 12, .inl (fN tc))), ((ad 41), .inl (y3.1, 72, .inl (fN lev))), ((ad 42), .inl (y3.1, 72, .inl (fN fo))), ((ad 43), .inl (y3.1, 72, .inl (fN tu))), ((ad 44), .inl (y3.1, 72, .inl wn)), ((ad 45), .inl (y3.1, 72, .inl mk)), ((ad 46), .inl (y3.2.1, 72, .inl (fB ldb))), ((ad 47), .inr (3, [.ref (ad 48), .ref (ad 49)])), ((ad 48), .inl (y3.1, 420, .inl st)), ((ad 49), .inl (y3.1, 42, .inl df))] := hD
  refine lv_iload hx hb dL_law_105 (lv_at hl 2 rfl) ?_
  refine ln_if_ne (tgt := 160) hx hb (by omega) dL_law_107 (by decide) (fun c107 => ?_) (fun c107 => ?_)
  · refine lv_iload hx hb dL_law_160 (lv_at hl 2 rfl) ?_
    refine lv_iconst (v := (nI 5)) hx hb dL_law_162 rfl ?_
    refine ln_icmp_ge (tgt := 395) hx hb (by omega) (by omega) dL_law_163 (by decide) (fun c163 => ?_) (fun c163 => ?_)
    · refine lv_iload hx hb dL_law_395 (lv_at hl 2 rfl) ?_
      refine lv_iconst (v := (nI 5)) hx hb dL_law_397 rfl ?_
      refine ln_icmp_ne (tgt := 435) hx hb (by omega) (by omega) dL_law_398 (by decide) (fun c398 => ?_) (fun c398 => ?_)
      · refine lv_iload hx hb dL_law_435 (lv_at hl 2 rfl) ?_
        refine lv_bipush (v := (nI 8)) hx hb dL_law_437 rfl ?_
        refine ln_icmp_ge (tgt := 484) hx hb (by omega) (by omega) dL_law_439 (by decide) (fun c439 => ?_) (fun c439 => ?_)
        · refine lv_iload hx hb dL_law_484 (lv_at hl 2 rfl) ?_
          refine lv_bipush (v := (nI 10)) hx hb dL_law_486 rfl ?_
          refine ln_icmp_ge (tgt := 586) hx hb (by omega) (by omega) dL_law_488 (by decide) (fun c488 => ?_) (fun c488 => ?_)
          · refine lv_iload hx hb dL_law_586 (lv_at hl 2 rfl) ?_
            refine lv_bipush (v := (nI 13)) hx hb dL_law_588 rfl ?_
            refine ln_icmp_ge (tgt := 628) hx hb (by omega) (by omega) dL_law_590 (by decide) (fun c590 => ?_) (fun c590 => ?_)
            · refine lv_iload hx hb dL_law_628 (lv_at hl 2 rfl) ?_
              refine lv_bipush (v := (nI 15)) hx hb dL_law_630 rfl ?_
              refine ln_icmp_ge (tgt := 671) hx hb (by omega) (by omega) dL_law_632 (by decide) (fun c632 => ?_) (fun c632 => ?_)
              · exact k671 ls (lv_sub hl [0, 1, 3, 4, 5, 6, 7] rfl)
              · exact k635 ls (lv_sub hl [0, 1, 3, 4, 5, 6, 7] rfl)
            · exact k593 ls (lv_sub hl [0, 1, 3, 4, 5, 6, 7] rfl)
          · exact k491 ls (lv_sub hl [0, 1, 3, 4, 5, 6, 7] rfl)
        · exact k442 ls (lv_sub hl [0, 1, 3, 4, 5, 6, 7] rfl)
      · exact k401 ls (lv_sub hl [0, 1, 3, 4, 5, 6, 7] rfl)
    · exact k166 ls (lv_sub hl [0, 1, 3, 4, 5, 6, 7] rfl)
  · exact k110 ls (lv_sub hl [0, 1, 3, 4, 5, 6, 7] rfl)
end L98a
