theorem hvX1_size : yX1_size.cls = RX1 ∧ yX1_size.cls ≠ "java/lang/invoke/MethodHandle" ∧ yX1_size.cls ≠ "java/lang/invoke/VarHandle" ∧ (parseMethodDescriptor yX1_size.desc).map (fun d => d.parameters.length) = some 0 := by decide +kernel
theorem hvX1_has : yX1_has.cls = RX1 ∧ yX1_has.cls ≠ "java/lang/invoke/MethodHandle" ∧ yX1_has.cls ≠ "java/lang/invoke/VarHandle" ∧ (parseMethodDescriptor yX1_has.desc).map (fun d => d.parameters.length) = some 1 := by decide +kernel
theorem hvX1_isFull : yX1_isFull.cls = RX1 ∧ yX1_isFull.cls ≠ "java/lang/invoke/MethodHandle" ∧ yX1_isFull.cls ≠ "java/lang/invoke/VarHandle" ∧ (parseMethodDescriptor yX1_isFull.desc).map (fun d => d.parameters.length) = some 0 := by decide +kernel
theorem hvX1_add : yX1_add.cls = RX1 ∧ yX1_add.cls ≠ "java/lang/invoke/MethodHandle" ∧ yX1_add.cls ≠ "java/lang/invoke/VarHandle" ∧ (parseMethodDescriptor yX1_add.desc).map (fun d => d.parameters.length) = some 1 := by decide +kernel
theorem hvX1_parentOf : yX1_parentOf.cls = RX1 ∧ yX1_parentOf.cls ≠ "java/lang/invoke/MethodHandle" ∧ yX1_parentOf.cls ≠ "java/lang/invoke/VarHandle" ∧ (parseMethodDescriptor yX1_parentOf.desc).map (fun d => d.parameters.length) = some 1 := by decide +kernel
theorem hvX1_leadsUp : yX1_leadsUp.cls = RX1 ∧ yX1_leadsUp.cls ≠ "java/lang/invoke/MethodHandle" ∧ yX1_leadsUp.cls ≠ "java/lang/invoke/VarHandle" ∧ (parseMethodDescriptor yX1_leadsUp.desc).map (fun d => d.parameters.length) = some 2 := by decide +kernel
set_option maxHeartbeats 4000000 in
set_option maxRecDepth 100000 in
theorem kX1_size (l : Launch) (D : va_G) (y3 : ClassId × ClassId × ClassId) (a0 : Nat) (a1 : Nat) (nk : Nat) : rdM l yX1_size wsX1_size 0 0 D y3 [(a0, .inr (1, [.ref a1, .int (nI nk)]))] [.ref a0] (fun r => r = (nI nk)) := by
  refine rd_of (cc := cX1_size) (maxL := 1) (by decide) rfl (Nat.le_of_ble_eq_true rfl) ?_
  intro p e s m args below meth c Q hx hb hml hown hts hP hK hret ls hl
  replace hl : lv_has ls 1 [(0, .ref a0)] := hl
  have hf15 := hts (.fieldLink RX1 15 "KindGuesser$KindTree" "count" "I") (by decide +kernel)
  have hiX1 : ∀ q ∈ wsX10, q ∈ wsX1_size := by decide +kernel
  refine lv_aload_n hx hb dX1_size_0 rfl (lv_at hl 0 rfl) ?_
  refine va_get (D := D) (ci := 1) (v := .int (nI nk)) (C := RX1) (T := TX1) (N := 2) hx hb hts hiX1 hown hK hP 0 rfl rfl 1 (by decide) hf15 (fun _ h9 => h9) rfl dX1_size_1 ?_
  exact hret 4 ls _ rfl dX1_size_4

set_option maxHeartbeats 4000000 in
set_option maxRecDepth 100000 in
theorem kX1_has (l : Launch) (D : va_G) (y3 : ClassId × ClassId × ClassId) (a0 : Nat) (a1 : Nat) (nk : Nat) (k : Int32) (hk : nk ≤ 14) : rdM l yX1_has wsX1_has 0 0 D y3 [(a0, .inr (1, [.ref a1, .int (nI nk)]))] [.ref a0, .int k] (fun r => r = (bI (inB k nk))) := by
  refine rz_of (cc := cX1_has) (maxL := 2) (by decide) rfl (Nat.le_of_ble_eq_true rfl) ?_
  intro p e s m args below meth c Q hx hb hml hown hts hP hK hret ls hl
  replace hl : lv_has ls 2 [(0, .ref a0), (1, .int k)] := hl
  have hf15 := hts (.fieldLink RX1 15 "KindGuesser$KindTree" "count" "I") (by decide +kernel)
  have hiX1 : ∀ q ∈ wsX10, q ∈ wsX1_has := by decide +kernel
  refine lv_iload_n hx hb dX1_has_0 rfl (lv_at hl 1 rfl) ?_
  refine lv_if_lt (tgt := 16) hx hb dX1_has_1 (by decide) (fun c1 => ?_) (fun c1 => ?_)
  · refine lv_iconst (v := (nI 0)) hx hb dX1_has_16 rfl ?_
    exact hret 17 ls _ (bI_f (by first | exact inB_f0 c1 | exact inB_f1 c9 (by omega))) dX1_has_17
  · refine lv_iload_n hx hb dX1_has_4 rfl (lv_at hl 1 rfl) ?_
    refine lv_aload_n hx hb dX1_has_5 rfl (lv_at hl 0 rfl) ?_
    refine va_get (D := D) (ci := 1) (v := .int (nI nk)) (C := RX1) (T := TX1) (N := 2) hx hb hts hiX1 hown hK hP 0 rfl rfl 1 (by decide) hf15 (fun _ h9 => h9) rfl dX1_has_6 ?_
    refine lv_icmp_ge (tgt := 16) hx hb dX1_has_9 (by decide) (fun c9 => ?_) (fun c9 => ?_)
    · refine lv_iconst (v := (nI 0)) hx hb dX1_has_16 rfl ?_
      exact hret 17 ls _ (bI_f (by first | exact inB_f0 c1 | exact inB_f1 c9 (by omega))) dX1_has_17
    · refine lv_iconst (v := (nI 1)) hx hb dX1_has_12 rfl ?_
      refine lv_goto (tgt := 17) hx hb dX1_has_13 (by decide) ?_
      exact hret 17 ls _ (bI_t (inB_t c1 c9 (by omega))) dX1_has_17

set_option maxHeartbeats 4000000 in
set_option maxRecDepth 100000 in
theorem kX1_isFull (l : Launch) (D : va_G) (y3 : ClassId × ClassId × ClassId) (a0 : Nat) (a1 : Nat) (nk : Nat) (hk : nk ≤ 14) : rdM l yX1_isFull wsX1_isFull 0 0 D y3 [(a0, .inr (1, [.ref a1, .int (nI nk)]))] [.ref a0] (fun r => r = (bI (decide (14 ≤ nk)))) := by
  refine rz_of (cc := cX1_isFull) (maxL := 1) (by decide) rfl (Nat.le_of_ble_eq_true rfl) ?_
  intro p e s m args below meth c Q hx hb hml hown hts hP hK hret ls hl
  replace hl : lv_has ls 1 [(0, .ref a0)] := hl
  have hf15 := hts (.fieldLink RX1 15 "KindGuesser$KindTree" "count" "I") (by decide +kernel)
  have hiX1 : ∀ q ∈ wsX10, q ∈ wsX1_isFull := by decide +kernel
  refine lv_aload_n hx hb dX1_isFull_0 rfl (lv_at hl 0 rfl) ?_
  refine va_get (D := D) (ci := 1) (v := .int (nI nk)) (C := RX1) (T := TX1) (N := 2) hx hb hts hiX1 hown hK hP 0 rfl rfl 1 (by decide) hf15 (fun _ h9 => h9) rfl dX1_isFull_1 ?_
  refine lv_bipush (v := (nI 14)) hx hb dX1_isFull_4 rfl ?_
  refine ln_icmp_lt (tgt := 13) hx hb (by omega) (by omega) dX1_isFull_6 (by decide) (fun c6 => ?_) (fun c6 => ?_)
  · refine lv_iconst (v := (nI 0)) hx hb dX1_isFull_13 rfl ?_
    exact hret 14 ls _ (bI_df (by omega)) dX1_isFull_14
  · refine lv_iconst (v := (nI 1)) hx hb dX1_isFull_9 rfl ?_
    refine lv_goto (tgt := 14) hx hb dX1_isFull_10 (by decide) ?_
    exact hret 14 ls _ (bI_dt (by omega)) dX1_isFull_14

set_option maxHeartbeats 4000000 in
set_option maxRecDepth 100000 in
theorem kX1_add (l : Launch) (D : va_G) (y3 : ClassId × ClassId × ClassId) (a0 : Nat) (a1 : Nat) (nk : Nat) (par : Nat → Int32) (k : Int32) (hk : nk < 14) : wrM l yX1_add wsX1_add 0 0 0 0 D y3 [(a0, .inr (1, [.ref a1, .int (nI nk)])), (a1, .inl (y3.1, 14, .inl par))] [.ref a0, .int k] (fun r (_ : Unit) => r = (nI nk)) (fun (_ : Unit) => [(a0, .inr (1, [.ref a1, .int (nI (nk + 1))])), (a1, .inl (y3.1, 14, .inl (upd par nk k)))]) := by
  refine wr_of (cc := cX1_add) (maxL := 2) (by decide) rfl (Nat.le_of_ble_eq_true rfl) ?_
  intro p e s m args below meth c A Q hx hb hml hown hts hP hK hD hA hS hret ls hl
  replace hl : lv_has ls 2 [(0, .ref a0), (1, .int k)] := hl
  have hf15 := hts (.fieldLink RX1 15 "KindGuesser$KindTree" "count" "I") (by decide +kernel)
  have hf9 := hts (.fieldLink RX1 9 "KindGuesser$KindTree" "parents" "[I") (by decide +kernel)
  have hiX1 : ∀ q ∈ wsX10, q ∈ wsX1_add := by decide +kernel
  refine lv_aload_n hx hb dX1_add_0 rfl (lv_at hl 0 rfl) ?_
  refine va_get (D := D) (ci := 1) (v := .ref a1) (C := RX1) (T := TX1) (N := 2) hx hb hts hiX1 hown hK hP 0 rfl rfl 0 (by decide) hf9 (fun _ h9 => h9) rfl dX1_add_1 ?_
  refine lv_aload_n hx hb dX1_add_4 rfl (lv_at hl 0 rfl) ?_
  refine va_get (D := D) (ci := 1) (v := .int (nI nk)) (C := RX1) (T := TX1) (N := 2) hx hb hts hiX1 hown hK hP 0 rfl rfl 1 (by decide) hf15 (fun _ h9 => h9) rfl dX1_add_5 ?_
  refine lv_iload_n hx hb dX1_add_8 rfl (lv_at hl 1 rfl) ?_
  refine ln_iast hx hb hK hP hD hS 1 0 rfl rfl (by omega) (by decide) dX1_add_9 _ rfl (fun H locs hP hD hS => ?_)
  have hP : va_P D vwCl [(a0, .inr (1, [.ref a1, .int (nI nk)])), (a1, .inl (y3.1, 14, .inl (upd par nk k)))] H := hP
  have hD : va_D A [(a0, .inr (1, [.ref a1, .int (nI nk)])), (a1, .inl (y3.1, 14, .inl (upd par nk k)))] := hD
  refine lv_aload_n hx hb dX1_add_10 rfl (lv_at hl 0 rfl) ?_
  refine lv_dup hx hb dX1_add_11 rfl ?_
  refine va_get (D := D) (ci := 1) (v := .int (nI nk)) (C := RX1) (T := TX1) (N := 2) hx hb hts hiX1 hown hK hP 0 rfl rfl 1 (by decide) hf15 (fun _ h9 => h9) rfl dX1_add_12 ?_
  refine lv_iconst (v := (nI 1)) hx hb dX1_add_15 rfl ?_
  refine ln_iadd (n := nk + 1) hx hb rfl dX1_add_16 ?_
  refine va_put (D := D) (ci := 1) (v := .int (nI (nk + 1))) (ty := .int) (C := RX1) (T := TX1) (N := 2) hx hb hts hiX1 tyX1 tyX1_ok nmX1 hown hK hP hD hS 0 rfl rfl 1 (by decide) hf15 (fun _ h9 => h9) rfl (by decide +kernel) rfl rfl (Nat.le_of_ble_eq_true rfl) dX1_add_17 (fun H locs hP hD hS => ?_)
  have hP : va_P D vwCl [(a0, .inr (1, [.ref a1, .int (nI (nk + 1))])), (a1, .inl (y3.1, 14, .inl (upd par nk k)))] H := hP
  have hD : va_D A [(a0, .inr (1, [.ref a1, .int (nI (nk + 1))])), (a1, .inl (y3.1, 14, .inl (upd par nk k)))] := hD
  refine lv_aload_n hx hb dX1_add_20 rfl (lv_at hl 0 rfl) ?_
  refine va_get (D := D) (ci := 1) (v := .int (nI (nk + 1))) (C := RX1) (T := TX1) (N := 2) hx hb hts hiX1 hown hK hP 0 rfl rfl 1 (by decide) hf15 (fun _ h9 => h9) rfl dX1_add_21 ?_
  refine lv_iconst (v := (nI 1)) hx hb dX1_add_24 rfl ?_
  refine ln_isub (n := nk) hx hb (by omega) (by omega) dX1_add_25 ?_
  exact hret 26 ls H locs _ _ () _ hP hD hS (Nat.le_of_ble_eq_true rfl) (Nat.le_of_ble_eq_true rfl) rfl dX1_add_26

set_option maxHeartbeats 4000000 in
set_option maxRecDepth 100000 in
theorem kX1_parentOf (l : Launch) (D : va_G) (y3 : ClassId × ClassId × ClassId) (a0 : Nat) (a1 : Nat) (nk : Nat) (par : Nat → Int32) (k : Int32) (hk : nk ≤ 14) : rdM l yX1_parentOf wsX1_parentOf 1 21 D y3 [(a0, .inr (1, [.ref a1, .int (nI nk)])), (a1, .inl (y3.1, 14, .inl par))] [.ref a0, .int k] (fun r => r = (parO par nk k)) := by
  refine rd_of (cc := cX1_parentOf) (maxL := 2) (by decide) rfl (Nat.le_of_ble_eq_true rfl) ?_
  intro p e s m args below meth c Q hx hb hml hown hts hP hK hret ls hl
  replace hl : lv_has ls 2 [(0, .ref a0), (1, .int k)] := hl
  have hf9 := hts (.fieldLink RX1 9 "KindGuesser$KindTree" "parents" "[I") (by decide +kernel)
  have hiX1 : ∀ q ∈ wsX10, q ∈ wsX1_parentOf := by decide +kernel
  refine lv_aload_n hx hb dX1_parentOf_0 rfl (lv_at hl 0 rfl) ?_
  refine lv_iload_n hx hb dX1_parentOf_1 rfl (lv_at hl 1 rfl) ?_
  refine rd_V (ci := 1) (q0 := 0) (own := RX1) (As := [.int k]) (rest := []) (bytes := cX1_has) (maxL := 2) ⟨hx, hb, hml, hown, hts⟩ (kX1_has l D y3 a0 a1 nk k (by omega)) gX1_parentOf_X1_has rfl hvX1_has ⟨Nat.le_of_ble_eq_true rfl, Nat.le_of_ble_eq_true rfl⟩ hP hK [0] rfl rfl rfl hl.1 rfl (Nat.le_of_ble_eq_true rfl) dX1_parentOf_2 ⟨Nat.zero_le _, Nat.zero_le _⟩ (fun r1 hr1 => ?_)
  subst hr1
  refine lb_if_eq (tgt := 17) hx hb dX1_parentOf_5 (by decide) (fun c5 => ?_) (fun c5 => ?_)
  · refine lv_iconst (v := (-1)) hx hb dX1_parentOf_17 rfl ?_
    exact hret 18 ls _ (by unfold parO; rw [c5]; rfl) dX1_parentOf_18
  · refine lv_aload_n hx hb dX1_parentOf_8 rfl (lv_at hl 0 rfl) ?_
    refine va_get (D := D) (ci := 1) (v := .ref a1) (C := RX1) (T := TX1) (N := 2) hx hb hts hiX1 hown hK hP 0 rfl rfl 0 (by decide) hf9 (fun _ h9 => h9) rfl dX1_parentOf_9 ?_
    refine lv_iload_n hx hb dX1_parentOf_12 rfl (lv_at hl 1 rfl) ?_
    obtain ⟨j, hj, ej⟩ := inB_N c5 (by omega)
    refine ln_eqi (y := (nI j)) ej ?_
    refine ln_iald hx hb hK hP 1 0 rfl rfl (by omega) (by decide) dX1_parentOf_13 ?_
    refine lv_goto (tgt := 18) hx hb dX1_parentOf_14 (by decide) ?_
    exact hret 18 ls _ (by rw [ej, parO_N hj (by omega)]) dX1_parentOf_18

set_option maxHeartbeats 4000000 in
set_option maxRecDepth 100000 in
theorem kX1_leadsUp (l : Launch) (D : va_G) (y3 : ClassId × ClassId × ClassId) (a0 : Nat) (a1 : Nat) (nk : Nat) (par : Nat → Int32) (j : Nat) (o : Int32) (hk : nk ≤ 14) (hp : parOK par nk) (hj : j < nk) : rdM l yX1_leadsUp wsX1_leadsUp 2 42 D y3 [(a0, .inr (1, [.ref a1, .int (nI nk)])), (a1, .inl (y3.1, 14, .inl par))] [.ref a0, .int (nI j), .int o] (fun r => r = (bI (spc par 14 (nI j) o))) := by
  refine rz_of (cc := cX1_leadsUp) (maxL := 5) (by decide) rfl (Nat.le_of_ble_eq_true rfl) ?_
  intro p e s m args below meth c Q hx hb hml hown hts hP hK hret ls hl
  replace hl : lv_has ls 5 [(0, .ref a0), (1, .int (nI j)), (2, .int o)] := hl
  refine lv_iload_n hx hb dX1_leadsUp_0 rfl (lv_at hl 1 rfl) ?_
  refine lv_istore_n (lv' := [(3, .int (nI j)), (0, .ref a0), (1, .int (nI j)), (2, .int o)]) hx hb dX1_leadsUp_1 rfl hl (by decide) rfl (fun ls hl => ?_)
  refine lv_iconst (v := (nI 0)) hx hb dX1_leadsUp_2 rfl ?_
  refine lv_istore (lv' := [(4, .int (nI 0)), (3, .int (nI j)), (0, .ref a0), (1, .int (nI j)), (2, .int o)]) hx hb dX1_leadsUp_3 hl (by decide) rfl (fun ls hl => ?_)
  have lp5 : ∀ (n1 : Nat) (t : Nat) (u : Int32), 14 - t < n1 → (t ≤ 14) → (u = -1 ∨ ∃ i : Nat, i < nk ∧ u = nI i) → (spc par (14 - t) u o = spc par 14 (nI j) o) → ∀ ls : Array Slot, lv_has ls 5 [(4, .int (nI t)), (3, .int u), (0, .ref a0), (1, .int (nI j)), (2, .int o)] → W p l e (rmO 2 0 0 42) s m args below meth c s.heap [] 0 0 Q (F0 m 5 ls []) := by
    intro n1
    induction n1 with
    | zero => intro t u hm; exact absurd hm (Nat.not_lt_zero _)
    | succ n1 ih5 =>
      intro t u hm5 h1 h2 h3 ls hl
      refine lv_iload hx hb dX1_leadsUp_5 (lv_at hl 0 rfl) ?_
      refine lv_bipush (v := (nI 14)) hx hb dX1_leadsUp_7 rfl ?_
      refine ln_icmp_ge (tgt := 36) hx hb (by omega) (by omega) dX1_leadsUp_9 (by decide) (fun c9 => ?_) (fun c9 => ?_)
      · refine lv_iconst (v := (nI 0)) hx hb dX1_leadsUp_36 rfl ?_
        exact hret 37 ls _ (bI_f (by first | (rw [← h3, c14, spc_m1]; done) | (rw [← h3, show 14 - t = 0 from by omega]; rfl))) dX1_leadsUp_37
      · refine lv_iload_n hx hb dX1_leadsUp_12 rfl (lv_at hl 1 rfl) ?_
        refine lv_iconst (v := (-1)) hx hb dX1_leadsUp_13 rfl ?_
        refine lv_icmp_eq (tgt := 36) hx hb dX1_leadsUp_14 (by decide) (fun c14 => ?_) (fun c14 => ?_)
        · refine lv_iconst (v := (nI 0)) hx hb dX1_leadsUp_36 rfl ?_
          exact hret 37 ls _ (bI_f (by first | (rw [← h3, c14, spc_m1]; done) | (rw [← h3, show 14 - t = 0 from by omega]; rfl))) dX1_leadsUp_37
        · refine lv_iload_n hx hb dX1_leadsUp_17 rfl (lv_at hl 1 rfl) ?_
          refine lv_iload_n hx hb dX1_leadsUp_18 rfl (lv_at hl 4 rfl) ?_
          refine lv_icmp_ne (tgt := 24) hx hb dX1_leadsUp_19 (by decide) (fun c19 => ?_) (fun c19 => ?_)
          · obtain ⟨i, hi, ei⟩ := h2.resolve_left c14
            refine lv_aload_n hx hb dX1_leadsUp_24 rfl (lv_at hl 2 rfl) ?_
            refine lv_iload_n hx hb dX1_leadsUp_25 rfl (lv_at hl 1 rfl) ?_
            refine rd_V (ci := 1) (q0 := 0) (own := RX1) (As := [.int u]) (rest := []) (bytes := cX1_parentOf) (maxL := 2) ⟨hx, hb, hml, hown, hts⟩ (kX1_parentOf l D y3 a0 a1 nk par u (by omega)) gX1_leadsUp_X1_parentOf rfl hvX1_parentOf ⟨Nat.le_of_ble_eq_true rfl, Nat.le_of_ble_eq_true rfl⟩ hP hK [0, 1] rfl rfl rfl hl.1 rfl (Nat.le_of_ble_eq_true rfl) dX1_leadsUp_26 ⟨Nat.zero_le _, Nat.zero_le _⟩ (fun r2 hr2 => ?_)
            subst hr2
            refine lv_istore_n (lv' := [(3, .int (parO par nk u)), (4, .int (nI t)), (0, .ref a0), (1, .int (nI j)), (2, .int o)]) hx hb dX1_leadsUp_29 rfl hl (by decide) rfl (fun ls hl => ?_)
            refine lv_iinc (v := (nI (t + 1))) (lv' := [(4, .int (nI (t + 1))), (3, .int (parO par nk u)), (0, .ref a0), (1, .int (nI j)), (2, .int o)]) hx hb dX1_leadsUp_30 hl (k := 1) rfl (nI_add _ _) (by decide) rfl (fun ls hl => ?_)
            refine lv_goto (tgt := 5) hx hb dX1_leadsUp_33 (by decide) ?_
            exact ih5 (t + 1) (parO par nk u) (by omega) (by omega) (by rw [ei, parO_N hi (by omega)]; exact (hp i hi).imp id (fun ⟨q, hq, e⟩ => ⟨q, by omega, e⟩)) (by rw [ei, parO_N hi (by omega), ← h3, ei, show 14 - t = (14 - (t + 1)) + 1 from by omega, spc_up (by rw [← ei]; exact c14) (by rw [← ei]; exact c19), nI_clamp (by omega)]) _ (lv_sub hl [0, 1, 2, 3, 4] rfl)
          · refine lv_iconst (v := (nI 1)) hx hb dX1_leadsUp_22 rfl ?_
            exact hret 23 ls _ (bI_t (by rw [← h3, show 14 - t = (14 - (t + 1)) + 1 from by omega, spc_eq c14 c19])) dX1_leadsUp_23
  exact lp5 _ 0 (nI j) (Nat.lt_succ_self _) (Nat.zero_le _) (Or.inr ⟨j, hj, rfl⟩) rfl _ (lv_sub hl [0, 1, 2, 3, 4] rfl)
