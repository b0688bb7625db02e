def hasP (th : Nat → Bool) (np : Nat) (k : Int32) : Bool := inB k np && th k.toNatClampNeg
theorem hasP_N {th : Nat → Bool} {np j : Nat} (hj : j < np) (hn : np < 2 ^ 31) : hasP th np (nI j) = th j := by
  unfold hasP
  rw [inB_nI (by omega), decide_eq_true hj, nI_clamp (by omega), Bool.true_and]
theorem hasP_no {th : Nat → Bool} {np : Nat} {k : Int32} (h : inB k np = false) : hasP th np k = false := by unfold hasP; rw [h]; rfl
theorem hasP_yes {th : Nat → Bool} {np : Nat} {k : Int32} (h : hasP th np k = true) (hn : np < 2 ^ 31) : ∃ j, j < np ∧ k = nI j ∧ th j = true := by
  have h1 := Bool.and_eq_true_iff.mp h
  obtain ⟨j, hj, e⟩ := inB_N h1.1 hn
  exact ⟨j, hj, e, by have h2 := h1.2; rw [e, nI_clamp (by omega)] at h2; exact h2⟩
def kndO (th : Nat → Bool) (np : Nat) (kp : Nat → Nat) (k : Int32) : Int32 := if hasP th np k = true then nI (kp k.toNatClampNeg) else -1
theorem kndO_N {th : Nat → Bool} {np : Nat} {kp : Nat → Nat} {j : Nat} (hj : j < np) (hn : np < 2 ^ 31) : kndO th np kp (nI j) = if th j = true then nI (kp j) else -1 := by
  unfold kndO
  rw [hasP_N hj hn, nI_clamp (by omega)]
theorem ff_no {t a x : Bool} (h : (t && a) = false) : a = false ∨ (t && x) = false := by cases t <;> simp_all
theorem cnP_n1 {par : Nat → Int32} {kp : Nat → Nat} {th : Nat → Bool} {lt : Nat → Int32} {nl : Nat} {tk : Nat → Int32} {ln : Nat → Nat} {g : Int32} {j : Nat} (h : isO par kp g j = false) : cnP par kp th lt nl tk ln g j = false := by unfold cnP; rw [h, Bool.false_and, Bool.and_false]
theorem cnP_n2 {par : Nat → Int32} {kp : Nat → Nat} {th : Nat → Bool} {lt : Nat → Int32} {nl : Nat} {tk : Nat → Int32} {ln : Nat → Nat} {g : Int32} {j : Nat} (h : fitB lt nl tk ln j = false) : cnP par kp th lt nl tk ln g j = false := by unfold cnP; rw [h, Bool.and_false, Bool.and_false]
theorem stpB_z {lt : Nat → Int32} {tok : Int32} {R : Nat → Bool} : stpB lt tok R 0 = (decide (tok = nI 10) && R 0) := by
  by_cases h : tok = nI 10
  · rw [stpB_ok h, decide_eq_true h]; rfl
  · rw [stpB_0 h, decide_eq_false h]; rfl
theorem fl_10 {lt : Nat → Int32} {tok : Int32} {R : Nat → Bool} {c : Nat} (h : tok = nI 10) (h1 : 1 ≤ c) : stpB lt tok R c = (stpB lt tok R (c - 1) || R c) := by
  obtain ⟨q, rfl⟩ : ∃ q, c = q + 1 := ⟨c - 1, by omega⟩
  rw [stpB_ok h, stpB_ok h]; rfl
theorem fl_n {lt : Nat → Int32} {tok : Int32} {R : Nat → Bool} {c : Nat} (h : ¬ tok = nI 10) (h1 : 1 ≤ c) : stpB lt tok R c = (R (c - 1) && stB lt tok (c - 1)) := by
  obtain ⟨q, rfl⟩ : ∃ q, c = q + 1 := ⟨c - 1, by omega⟩
  rw [stpB_s h]; rfl
/-- a line of the table, filled out of the one ahead of it -/
def flP (lt : Nat → Int32) (nl : Nat) (tok : Int32) (tb : Nat → Bool) (t : Nat) (u : Nat → Bool) : Prop := (∀ q : Nat, (q < t * 13 ∨ t * 13 + 13 ≤ q) → u q = tb q) ∧ ∀ i : Nat, i ≤ nl → u (t * 13 + i) = stpB lt tok (fun i => tb (t * 13 - 13 + i)) i
theorem hvX2_isFullOfLetters : yX2_isFullOfLetters.cls = RX2 ∧ yX2_isFullOfLetters.cls ≠ "java/lang/invoke/MethodHandle" ∧ yX2_isFullOfLetters.cls ≠ "java/lang/invoke/VarHandle" ∧ (parseMethodDescriptor yX2_isFullOfLetters.desc).map (fun d => d.parameters.length) = some 0 := by decide +kernel
theorem hvX2_addLetter : yX2_addLetter.cls = RX2 ∧ yX2_addLetter.cls ≠ "java/lang/invoke/MethodHandle" ∧ yX2_addLetter.cls ≠ "java/lang/invoke/VarHandle" ∧ (parseMethodDescriptor yX2_addLetter.desc).map (fun d => d.parameters.length) = some 1 := by decide +kernel
theorem hvX2_clearName : yX2_clearName.cls = RX2 ∧ yX2_clearName.cls ≠ "java/lang/invoke/MethodHandle" ∧ yX2_clearName.cls ≠ "java/lang/invoke/VarHandle" ∧ (parseMethodDescriptor yX2_clearName.desc).map (fun d => d.parameters.length) = some 0 := by decide +kernel
theorem hvX2_hasPattern : yX2_hasPattern.cls = RX2 ∧ yX2_hasPattern.cls ≠ "java/lang/invoke/MethodHandle" ∧ yX2_hasPattern.cls ≠ "java/lang/invoke/VarHandle" ∧ (parseMethodDescriptor yX2_hasPattern.desc).map (fun d => d.parameters.length) = some 1 := by decide +kernel
theorem hvX2_isFullOfPatterns : yX2_isFullOfPatterns.cls = RX2 ∧ yX2_isFullOfPatterns.cls ≠ "java/lang/invoke/MethodHandle" ∧ yX2_isFullOfPatterns.cls ≠ "java/lang/invoke/VarHandle" ∧ (parseMethodDescriptor yX2_isFullOfPatterns.desc).map (fun d => d.parameters.length) = some 0 := by decide +kernel
theorem hvX2_writeToken : yX2_writeToken.cls = RX2 ∧ yX2_writeToken.cls ≠ "java/lang/invoke/MethodHandle" ∧ yX2_writeToken.cls ≠ "java/lang/invoke/VarHandle" ∧ (parseMethodDescriptor yX2_writeToken.desc).map (fun d => d.parameters.length) = some 2 := by decide +kernel
theorem hvX2_addPattern : yX2_addPattern.cls = RX2 ∧ yX2_addPattern.cls ≠ "java/lang/invoke/MethodHandle" ∧ yX2_addPattern.cls ≠ "java/lang/invoke/VarHandle" ∧ (parseMethodDescriptor yX2_addPattern.desc).map (fun d => d.parameters.length) = some 3 := by decide +kernel
theorem hvX2_dropPattern : yX2_dropPattern.cls = RX2 ∧ yX2_dropPattern.cls ≠ "java/lang/invoke/MethodHandle" ∧ yX2_dropPattern.cls ≠ "java/lang/invoke/VarHandle" ∧ (parseMethodDescriptor yX2_dropPattern.desc).map (fun d => d.parameters.length) = some 1 := by decide +kernel
theorem hvX2_kindOf : yX2_kindOf.cls = RX2 ∧ yX2_kindOf.cls ≠ "java/lang/invoke/MethodHandle" ∧ yX2_kindOf.cls ≠ "java/lang/invoke/VarHandle" ∧ (parseMethodDescriptor yX2_kindOf.desc).map (fun d => d.parameters.length) = some 1 := by decide +kernel
theorem hvX2_isAhead : yX2_isAhead.cls = RX2 ∧ yX2_isAhead.cls ≠ "java/lang/invoke/MethodHandle" ∧ yX2_isAhead.cls ≠ "java/lang/invoke/VarHandle" ∧ (parseMethodDescriptor yX2_isAhead.desc).map (fun d => d.parameters.length) = some 2 := by decide +kernel
theorem hvX2_isReached : yX2_isReached.cls ≠ "java/lang/invoke/MethodHandle" ∧ yX2_isReached.cls ≠ "java/lang/invoke/VarHandle" ∧ (parseMethodDescriptor yX2_isReached.desc).map (fun d => d.parameters.length) = some 2 := by decide +kernel
theorem hvX2_standsFor : yX2_standsFor.cls = RX2 ∧ yX2_standsFor.cls ≠ "java/lang/invoke/MethodHandle" ∧ yX2_standsFor.cls ≠ "java/lang/invoke/VarHandle" ∧ (parseMethodDescriptor yX2_standsFor.desc).map (fun d => d.parameters.length) = some 2 := by decide +kernel
theorem hvX2_reachedAfter : yX2_reachedAfter.cls = RX2 ∧ yX2_reachedAfter.cls ≠ "java/lang/invoke/MethodHandle" ∧ yX2_reachedAfter.cls ≠ "java/lang/invoke/VarHandle" ∧ (parseMethodDescriptor yX2_reachedAfter.desc).map (fun d => d.parameters.length) = some 2 := by decide +kernel
theorem hvX2_fitsName : yX2_fitsName.cls = RX2 ∧ yX2_fitsName.cls ≠ "java/lang/invoke/MethodHandle" ∧ yX2_fitsName.cls ≠ "java/lang/invoke/VarHandle" ∧ (parseMethodDescriptor yX2_fitsName.desc).map (fun d => d.parameters.length) = some 1 := by decide +kernel
theorem hvX2_isOf : yX2_isOf.cls = RX2 ∧ yX2_isOf.cls ≠ "java/lang/invoke/MethodHandle" ∧ yX2_isOf.cls ≠ "java/lang/invoke/VarHandle" ∧ (parseMethodDescriptor yX2_isOf.desc).map (fun d => d.parameters.length) = some 3 := by decide +kernel
theorem hvX2_firstFitting : yX2_firstFitting.cls = RX2 ∧ yX2_firstFitting.cls ≠ "java/lang/invoke/MethodHandle" ∧ yX2_firstFitting.cls ≠ "java/lang/invoke/VarHandle" ∧ (parseMethodDescriptor yX2_firstFitting.desc).map (fun d => d.parameters.length) = some 2 := by decide +kernel
theorem hvX2_fillLine : yX2_fillLine.cls = RX2 ∧ yX2_fillLine.cls ≠ "java/lang/invoke/MethodHandle" ∧ yX2_fillLine.cls ≠ "java/lang/invoke/VarHandle" ∧ (parseMethodDescriptor yX2_fillLine.desc).map (fun d => d.parameters.length) = some 2 := by decide +kernel
theorem hvX2_fitsNameByTable : yX2_fitsNameByTable.cls = RX2 ∧ yX2_fitsNameByTable.cls ≠ "java/lang/invoke/MethodHandle" ∧ yX2_fitsNameByTable.cls ≠ "java/lang/invoke/VarHandle" ∧ (parseMethodDescriptor yX2_fitsNameByTable.desc).map (fun d => d.parameters.length) = some 1 := by decide +kernel
set_option maxHeartbeats 4000000 in
set_option maxRecDepth 100000 in
theorem kX2_isFullOfLetters (l : Launch) (D : va_G) (y3 : ClassId × ClassId × ClassId) (b0 : Nat) (b1 : Nat) (b2 : Nat) (b3 : Nat) (b4 : Nat) (b5 : Nat) (b6 : Nat) (b7 : Nat) (nl : Nat) (np : Nat) (nt : Nat) (hnl : nl ≤ 12) : rdM l yX2_isFullOfLetters wsX2_isFullOfLetters 0 0 D y3 [(b0, .inr (2, [.ref b1, .int (nI nl), .ref b2, .ref b3, .ref b4, .ref b5, .ref b6, .int (nI np), .int (nI nt), .ref b7]))] [.ref b0] (fun r => r = (bI (decide (12 ≤ nl)))) := by
  refine rz_of (cc := cX2_isFullOfLetters) (maxL := 1) (by decide) rfl (Nat.le_of_ble_eq_true rfl) ?_
  intro p e s m args below meth c Q hx hb hml hown hts hP hK hret ls hl
  replace hl : lv_has ls 1 [(0, .ref b0)] := hl
  have hf15 := hts (.fieldLink RX2 15 "KindGuesser$NameSide" "letterCount" "I") (by decide +kernel)
  have hiX2 : ∀ q ∈ wsX20, q ∈ wsX2_isFullOfLetters := by decide +kernel
  refine lv_aload_n hx hb dX2_isFullOfLetters_0 rfl (lv_at hl 0 rfl) ?_
  refine va_get (D := D) (ci := 2) (v := .int (nI nl)) (C := RX2) (T := TX2) (N := 10) hx hb hts hiX2 hown hK hP 0 rfl rfl 1 (by decide) hf15 (fun _ h9 => h9) rfl dX2_isFullOfLetters_1 ?_
  refine lv_bipush (v := (nI 12)) hx hb dX2_isFullOfLetters_4 rfl ?_
  refine ln_icmp_lt (tgt := 13) hx hb (by omega) (by omega) dX2_isFullOfLetters_6 (by decide) (fun c6 => ?_) (fun c6 => ?_)
  · refine lv_iconst (v := (nI 0)) hx hb dX2_isFullOfLetters_13 rfl ?_
    exact hret 14 ls _ (bI_df (by omega)) dX2_isFullOfLetters_14
  · refine lv_iconst (v := (nI 1)) hx hb dX2_isFullOfLetters_9 rfl ?_
    refine lv_goto (tgt := 14) hx hb dX2_isFullOfLetters_10 (by decide) ?_
    exact hret 14 ls _ (bI_dt (by omega)) dX2_isFullOfLetters_14

set_option maxHeartbeats 4000000 in
set_option maxRecDepth 100000 in
theorem kX2_addLetter (l : Launch) (D : va_G) (y3 : ClassId × ClassId × ClassId) (b0 : Nat) (b1 : Nat) (b2 : Nat) (b3 : Nat) (b4 : Nat) (b5 : Nat) (b6 : Nat) (b7 : Nat) (nl : Nat) (np : Nat) (nt : Nat) (lt : Nat → Int32) (k : Int32) (hnl : nl < 12) : wrM l yX2_addLetter wsX2_addLetter 0 0 0 0 D y3 [(b0, .inr (2, [.ref b1, .int (nI nl), .ref b2, .ref b3, .ref b4, .ref b5, .ref b6, .int (nI np), .int (nI nt), .ref b7])), (b1, .inl (y3.1, 12, .inl lt))] [.ref b0, .int k] (fun r (_ : Unit) => r = (nI (nl + 1))) (fun (_ : Unit) => [(b0, .inr (2, [.ref b1, .int (nI (nl + 1)), .ref b2, .ref b3, .ref b4, .ref b5, .ref b6, .int (nI np), .int (nI nt), .ref b7])), (b1, .inl (y3.1, 12, .inl (upd lt nl k)))]) := by
  refine wr_of (cc := cX2_addLetter) (maxL := 2) (by decide) rfl (Nat.le_of_ble_eq_true rfl) ?_
  intro p e s m args below meth c A Q hx hb hml hown hts hP hK hD hA hS hret ls hl
  replace hl : lv_has ls 2 [(0, .ref b0), (1, .int k)] := hl
  have hf15 := hts (.fieldLink RX2 15 "KindGuesser$NameSide" "letterCount" "I") (by decide +kernel)
  have hf9 := hts (.fieldLink RX2 9 "KindGuesser$NameSide" "letters" "[I") (by decide +kernel)
  have hiX2 : ∀ q ∈ wsX20, q ∈ wsX2_addLetter := by decide +kernel
  refine lv_aload_n hx hb dX2_addLetter_0 rfl (lv_at hl 0 rfl) ?_
  refine va_get (D := D) (ci := 2) (v := .ref b1) (C := RX2) (T := TX2) (N := 10) hx hb hts hiX2 hown hK hP 0 rfl rfl 0 (by decide) hf9 (fun _ h9 => h9) rfl dX2_addLetter_1 ?_
  refine lv_aload_n hx hb dX2_addLetter_4 rfl (lv_at hl 0 rfl) ?_
  refine va_get (D := D) (ci := 2) (v := .int (nI nl)) (C := RX2) (T := TX2) (N := 10) hx hb hts hiX2 hown hK hP 0 rfl rfl 1 (by decide) hf15 (fun _ h9 => h9) rfl dX2_addLetter_5 ?_
  refine lv_iload_n hx hb dX2_addLetter_8 rfl (lv_at hl 1 rfl) ?_
  refine ln_iast hx hb hK hP hD hS 1 0 rfl rfl (by omega) (by decide) dX2_addLetter_9 _ rfl (fun H locs hP hD hS => ?_)
  have hP : va_P D vwCl [(b0, .inr (2, [.ref b1, .int (nI nl), .ref b2, .ref b3, .ref b4, .ref b5, .ref b6, .int (nI np), .int (nI nt), .ref b7])), (b1, .inl (y3.1, 12, .inl (upd lt nl k)))] H := hP
  have hD : va_D A [(b0, .inr (2, [.ref b1, .int (nI nl), .ref b2, .ref b3, .ref b4, .ref b5, .ref b6, .int (nI np), .int (nI nt), .ref b7])), (b1, .inl (y3.1, 12, .inl (upd lt nl k)))] := hD
  refine lv_aload_n hx hb dX2_addLetter_10 rfl (lv_at hl 0 rfl) ?_
  refine lv_dup hx hb dX2_addLetter_11 rfl ?_
  refine va_get (D := D) (ci := 2) (v := .int (nI nl)) (C := RX2) (T := TX2) (N := 10) hx hb hts hiX2 hown hK hP 0 rfl rfl 1 (by decide) hf15 (fun _ h9 => h9) rfl dX2_addLetter_12 ?_
  refine lv_iconst (v := (nI 1)) hx hb dX2_addLetter_15 rfl ?_
  refine ln_iadd (n := nl + 1) hx hb rfl dX2_addLetter_16 ?_
  refine va_put (D := D) (ci := 2) (v := .int (nI (nl + 1))) (ty := .int) (C := RX2) (T := TX2) (N := 10) hx hb hts hiX2 tyX2 tyX2_ok nmX2 hown hK hP hD hS 0 rfl rfl 1 (by decide) hf15 (fun _ h9 => h9) rfl (by decide +kernel) rfl rfl (Nat.le_of_ble_eq_true rfl) dX2_addLetter_17 (fun H locs hP hD hS => ?_)
  have hP : va_P D vwCl [(b0, .inr (2, [.ref b1, .int (nI (nl + 1)), .ref b2, .ref b3, .ref b4, .ref b5, .ref b6, .int (nI np), .int (nI nt), .ref b7])), (b1, .inl (y3.1, 12, .inl (upd lt nl k)))] H := hP
  have hD : va_D A [(b0, .inr (2, [.ref b1, .int (nI (nl + 1)), .ref b2, .ref b3, .ref b4, .ref b5, .ref b6, .int (nI np), .int (nI nt), .ref b7])), (b1, .inl (y3.1, 12, .inl (upd lt nl k)))] := hD
  refine lv_aload_n hx hb dX2_addLetter_20 rfl (lv_at hl 0 rfl) ?_
  refine va_get (D := D) (ci := 2) (v := .int (nI (nl + 1))) (C := RX2) (T := TX2) (N := 10) hx hb hts hiX2 hown hK hP 0 rfl rfl 1 (by decide) hf15 (fun _ h9 => h9) rfl dX2_addLetter_21 ?_
  exact hret 24 ls H locs _ _ () _ hP hD hS (Nat.le_of_ble_eq_true rfl) (Nat.le_of_ble_eq_true rfl) rfl dX2_addLetter_24

set_option maxHeartbeats 4000000 in
set_option maxRecDepth 100000 in
theorem kX2_clearName (l : Launch) (D : va_G) (y3 : ClassId × ClassId × ClassId) (b0 : Nat) (b1 : Nat) (b2 : Nat) (b3 : Nat) (b4 : Nat) (b5 : Nat) (b6 : Nat) (b7 : Nat) (nl : Nat) (np : Nat) (nt : Nat) : wrM l yX2_clearName wsX2_clearName 0 0 0 0 D y3 [(b0, .inr (2, [.ref b1, .int (nI nl), .ref b2, .ref b3, .ref b4, .ref b5, .ref b6, .int (nI np), .int (nI nt), .ref b7]))] [.ref b0] (fun r (_ : Unit) => r = (nI nl)) (fun (_ : Unit) => [(b0, .inr (2, [.ref b1, .int (nI 0), .ref b2, .ref b3, .ref b4, .ref b5, .ref b6, .int (nI np), .int (nI nt), .ref b7]))]) := by
  refine wr_of (cc := cX2_clearName) (maxL := 2) (by decide) rfl (Nat.le_of_ble_eq_true rfl) ?_
  intro p e s m args below meth c A Q hx hb hml hown hts hP hK hD hA hS hret ls hl
  replace hl : lv_has ls 2 [(0, .ref b0)] := hl
  have hf15 := hts (.fieldLink RX2 15 "KindGuesser$NameSide" "letterCount" "I") (by decide +kernel)
  have hiX2 : ∀ q ∈ wsX20, q ∈ wsX2_clearName := by decide +kernel
  refine lv_aload_n hx hb dX2_clearName_0 rfl (lv_at hl 0 rfl) ?_
  refine va_get (D := D) (ci := 2) (v := .int (nI nl)) (C := RX2) (T := TX2) (N := 10) hx hb hts hiX2 hown hK hP 0 rfl rfl 1 (by decide) hf15 (fun _ h9 => h9) rfl dX2_clearName_1 ?_
  refine lv_istore_n (lv' := [(1, .int (nI nl)), (0, .ref b0)]) hx hb dX2_clearName_4 rfl hl (by decide) rfl (fun ls hl => ?_)
  refine lv_aload_n hx hb dX2_clearName_5 rfl (lv_at hl 1 rfl) ?_
  refine lv_iconst (v := (nI 0)) hx hb dX2_clearName_6 rfl ?_
  refine va_put (D := D) (ci := 2) (v := .int (nI 0)) (ty := .int) (C := RX2) (T := TX2) (N := 10) hx hb hts hiX2 tyX2 tyX2_ok nmX2 hown hK hP hD hS 0 rfl rfl 1 (by decide) hf15 (fun _ h9 => h9) rfl (by decide +kernel) rfl rfl (Nat.le_of_ble_eq_true rfl) dX2_clearName_7 (fun H locs hP hD hS => ?_)
  have hP : va_P D vwCl [(b0, .inr (2, [.ref b1, .int (nI 0), .ref b2, .ref b3, .ref b4, .ref b5, .ref b6, .int (nI np), .int (nI nt), .ref b7]))] H := hP
  have hD : va_D A [(b0, .inr (2, [.ref b1, .int (nI 0), .ref b2, .ref b3, .ref b4, .ref b5, .ref b6, .int (nI np), .int (nI nt), .ref b7]))] := hD
  refine lv_iload_n hx hb dX2_clearName_10 rfl (lv_at hl 0 rfl) ?_
  exact hret 11 ls H locs _ _ () _ hP hD hS (Nat.le_of_ble_eq_true rfl) (Nat.le_of_ble_eq_true rfl) rfl dX2_clearName_11

set_option maxHeartbeats 4000000 in
set_option maxRecDepth 100000 in
theorem kX2_hasPattern (l : Launch) (D : va_G) (y3 : ClassId × ClassId × ClassId) (b0 : Nat) (b1 : Nat) (b2 : Nat) (b3 : Nat) (b4 : Nat) (b5 : Nat) (b6 : Nat) (b7 : Nat) (nl : Nat) (np : Nat) (nt : Nat) (th : Nat → Bool) (k : Int32) (hnp : np ≤ 20) : rdM l yX2_hasPattern wsX2_hasPattern 0 0 D y3 [(b0, .inr (2, [.ref b1, .int (nI nl), .ref b2, .ref b3, .ref b4, .ref b5, .ref b6, .int (nI np), .int (nI nt), .ref b7])), (b5, .inl (y3.2.1, 20, .inl (fB th)))] [.ref b0, .int k] (fun r => r = (bI (hasP th np k))) := by
  refine rz_of (cc := cX2_hasPattern) (maxL := 2) (by decide) rfl (Nat.le_of_ble_eq_true rfl) ?_
  intro p e s m args below meth c Q hx hb hml hown hts hP hK hret ls hl
  replace hl : lv_has ls 2 [(0, .ref b0), (1, .int k)] := hl
  have hf28 := hts (.fieldLink RX2 28 "KindGuesser$NameSide" "there" "[Z") (by decide +kernel)
  have hf35 := hts (.fieldLink RX2 35 "KindGuesser$NameSide" "patternCount" "I") (by decide +kernel)
  have hiX2 : ∀ q ∈ wsX20, q ∈ wsX2_hasPattern := by decide +kernel
  refine lv_iload_n hx hb dX2_hasPattern_0 rfl (lv_at hl 1 rfl) ?_
  refine lv_if_lt (tgt := 25) hx hb dX2_hasPattern_1 (by decide) (fun c1 => ?_) (fun c1 => ?_)
  · refine lv_iconst (v := (nI 0)) hx hb dX2_hasPattern_25 rfl ?_
    exact hret 26 ls _ (bI_f (by first | exact hasP_no (inB_f0 c1) | exact hasP_no (inB_f1 c9 (by omega)) | (rw [ej, hasP_N hj (by omega)]; exact c18))) dX2_hasPattern_26
  · refine lv_iload_n hx hb dX2_hasPattern_4 rfl (lv_at hl 1 rfl) ?_
    refine lv_aload_n hx hb dX2_hasPattern_5 rfl (lv_at hl 0 rfl) ?_
    refine va_get (D := D) (ci := 2) (v := .int (nI np)) (C := RX2) (T := TX2) (N := 10) hx hb hts hiX2 hown hK hP 0 rfl rfl 7 (by decide) hf35 (fun _ h9 => h9) rfl dX2_hasPattern_6 ?_
    refine lv_icmp_ge (tgt := 25) hx hb dX2_hasPattern_9 (by decide) (fun c9 => ?_) (fun c9 => ?_)
    · refine lv_iconst (v := (nI 0)) hx hb dX2_hasPattern_25 rfl ?_
      exact hret 26 ls _ (bI_f (by first | exact hasP_no (inB_f0 c1) | exact hasP_no (inB_f1 c9 (by omega)) | (rw [ej, hasP_N hj (by omega)]; exact c18))) dX2_hasPattern_26
    · refine lv_aload_n hx hb dX2_hasPattern_12 rfl (lv_at hl 0 rfl) ?_
      refine va_get (D := D) (ci := 2) (v := .ref b5) (C := RX2) (T := TX2) (N := 10) hx hb hts hiX2 hown hK hP 0 rfl rfl 5 (by decide) hf28 (fun _ h9 => h9) rfl dX2_hasPattern_13 ?_
      refine lv_iload_n hx hb dX2_hasPattern_16 rfl (lv_at hl 1 rfl) ?_
      obtain ⟨j, hj, ej⟩ := inB_N (inB_t c1 c9 (by omega)) (by omega)
      refine ln_eqi (y := (nI j)) ej ?_
      refine ln_zaldB hx hb hK hP 1 1 rfl rfl (by omega) (by decide) dX2_hasPattern_17 ?_
      refine lb_if_eq (tgt := 25) hx hb dX2_hasPattern_18 (by decide) (fun c18 => ?_) (fun c18 => ?_)
      · refine lv_iconst (v := (nI 0)) hx hb dX2_hasPattern_25 rfl ?_
        exact hret 26 ls _ (bI_f (by first | exact hasP_no (inB_f0 c1) | exact hasP_no (inB_f1 c9 (by omega)) | (rw [ej, hasP_N hj (by omega)]; exact c18))) dX2_hasPattern_26
      · refine lv_iconst (v := (nI 1)) hx hb dX2_hasPattern_21 rfl ?_
        refine lv_goto (tgt := 26) hx hb dX2_hasPattern_22 (by decide) ?_
        exact hret 26 ls _ (bI_t (by rw [ej, hasP_N hj (by omega)]; exact c18)) dX2_hasPattern_26

set_option maxHeartbeats 4000000 in
set_option maxRecDepth 100000 in
theorem kX2_isFullOfPatterns (l : Launch) (D : va_G) (y3 : ClassId × ClassId × ClassId) (b0 : Nat) (b1 : Nat) (b2 : Nat) (b3 : Nat) (b4 : Nat) (b5 : Nat) (b6 : Nat) (b7 : Nat) (nl : Nat) (np : Nat) (nt : Nat) (hnp : np ≤ 20) : rdM l yX2_isFullOfPatterns wsX2_isFullOfPatterns 0 0 D y3 [(b0, .inr (2, [.ref b1, .int (nI nl), .ref b2, .ref b3, .ref b4, .ref b5, .ref b6, .int (nI np), .int (nI nt), .ref b7]))] [.ref b0] (fun r => r = (bI (decide (20 ≤ np)))) := by
  refine rz_of (cc := cX2_isFullOfPatterns) (maxL := 1) (by decide) rfl (Nat.le_of_ble_eq_true rfl) ?_
  intro p e s m args below meth c Q hx hb hml hown hts hP hK hret ls hl
  replace hl : lv_has ls 1 [(0, .ref b0)] := hl
  have hf35 := hts (.fieldLink RX2 35 "KindGuesser$NameSide" "patternCount" "I") (by decide +kernel)
  have hiX2 : ∀ q ∈ wsX20, q ∈ wsX2_isFullOfPatterns := by decide +kernel
  refine lv_aload_n hx hb dX2_isFullOfPatterns_0 rfl (lv_at hl 0 rfl) ?_
  refine va_get (D := D) (ci := 2) (v := .int (nI np)) (C := RX2) (T := TX2) (N := 10) hx hb hts hiX2 hown hK hP 0 rfl rfl 7 (by decide) hf35 (fun _ h9 => h9) rfl dX2_isFullOfPatterns_1 ?_
  refine lv_bipush (v := (nI 20)) hx hb dX2_isFullOfPatterns_4 rfl ?_
  refine ln_icmp_lt (tgt := 13) hx hb (by omega) (by omega) dX2_isFullOfPatterns_6 (by decide) (fun c6 => ?_) (fun c6 => ?_)
  · refine lv_iconst (v := (nI 0)) hx hb dX2_isFullOfPatterns_13 rfl ?_
    exact hret 14 ls _ (bI_df (by omega)) dX2_isFullOfPatterns_14
  · refine lv_iconst (v := (nI 1)) hx hb dX2_isFullOfPatterns_9 rfl ?_
    refine lv_goto (tgt := 14) hx hb dX2_isFullOfPatterns_10 (by decide) ?_
    exact hret 14 ls _ (bI_dt (by omega)) dX2_isFullOfPatterns_14

set_option maxHeartbeats 4000000 in
set_option maxRecDepth 100000 in
theorem kX2_writeToken (l : Launch) (D : va_G) (y3 : ClassId × ClassId × ClassId) (b0 : Nat) (b1 : Nat) (b2 : Nat) (b3 : Nat) (b4 : Nat) (b5 : Nat) (b6 : Nat) (b7 : Nat) (nl : Nat) (np : Nat) (nt : Nat) (tk : Nat → Int32) (pl : Nat) (k : Int32) (hnp : np < 20) (hpl : pl < 8) : wvM l yX2_writeToken wsX2_writeToken 0 0 0 0 D y3 [(b0, .inr (2, [.ref b1, .int (nI nl), .ref b2, .ref b3, .ref b4, .ref b5, .ref b6, .int (nI np), .int (nI nt), .ref b7])), (b6, .inl (y3.1, 160, .inl tk))] [.ref b0, .int (nI pl), .int k] (fun (_ : Unit) => True) (fun (_ : Unit) => [(b0, .inr (2, [.ref b1, .int (nI nl), .ref b2, .ref b3, .ref b4, .ref b5, .ref b6, .int (nI np), .int (nI nt), .ref b7])), (b6, .inl (y3.1, 160, .inl (upd tk ((np * 8) + pl) k)))]) := by
  refine wv_of (cc := cX2_writeToken) (maxL := 3) (by decide) rfl (Nat.le_of_ble_eq_true rfl) ?_
  intro p e s m args below meth c A Q hx hb hml hown hts hP hK hD hA hS hin hret ls hl
  replace hl : lv_has ls 3 [(0, .ref b0), (1, .int (nI pl)), (2, .int k)] := hl
  have hf32 := hts (.fieldLink RX2 32 "KindGuesser$NameSide" "tokenRows" "[I") (by decide +kernel)
  have hf35 := hts (.fieldLink RX2 35 "KindGuesser$NameSide" "patternCount" "I") (by decide +kernel)
  have hiX2 : ∀ q ∈ wsX20, q ∈ wsX2_writeToken := by decide +kernel
  refine lv_aload_n hx hb dX2_writeToken_0 rfl (lv_at hl 0 rfl) ?_
  refine va_get (D := D) (ci := 2) (v := .ref b6) (C := RX2) (T := TX2) (N := 10) hx hb hts hiX2 hown hK hP 0 rfl rfl 6 (by decide) hf32 (fun _ h9 => h9) rfl dX2_writeToken_1 ?_
  refine lv_aload_n hx hb dX2_writeToken_4 rfl (lv_at hl 0 rfl) ?_
  refine va_get (D := D) (ci := 2) (v := .int (nI np)) (C := RX2) (T := TX2) (N := 10) hx hb hts hiX2 hown hK hP 0 rfl rfl 7 (by decide) hf35 (fun _ h9 => h9) rfl dX2_writeToken_5 ?_
  refine lv_bipush (v := (nI 8)) hx hb dX2_writeToken_8 rfl ?_
  refine ln_imul (n := np * 8) hx hb (by omega) dX2_writeToken_10 ?_
  refine lv_iload_n hx hb dX2_writeToken_11 rfl (lv_at hl 1 rfl) ?_
  refine ln_iadd (n := (np * 8) + pl) hx hb (by omega) dX2_writeToken_12 ?_
  refine lv_iload_n hx hb dX2_writeToken_13 rfl (lv_at hl 2 rfl) ?_
  refine ln_iast hx hb hK hP hD hS 1 0 rfl rfl (by omega) (by decide) dX2_writeToken_14 _ rfl (fun H locs hP hD hS => ?_)
  have hP : va_P D vwCl [(b0, .inr (2, [.ref b1, .int (nI nl), .ref b2, .ref b3, .ref b4, .ref b5, .ref b6, .int (nI np), .int (nI nt), .ref b7])), (b6, .inl (y3.1, 160, .inl (upd tk ((np * 8) + pl) k)))] H := hP
  have hD : va_D A [(b0, .inr (2, [.ref b1, .int (nI nl), .ref b2, .ref b3, .ref b4, .ref b5, .ref b6, .int (nI np), .int (nI nt), .ref b7])), (b6, .inl (y3.1, 160, .inl (upd tk ((np * 8) + pl) k)))] := hD
  exact hret 15 ls H locs _ _ () hP hD hS (Nat.le_of_ble_eq_true rfl) (Nat.le_of_ble_eq_true rfl) trivial dX2_writeToken_15

set_option maxHeartbeats 4000000 in
set_option maxRecDepth 100000 in
theorem kX2_addPattern (l : Launch) (D : va_G) (y3 : ClassId × ClassId × ClassId) (b0 : Nat) (b1 : Nat) (b2 : Nat) (b3 : Nat) (b4 : Nat) (b5 : Nat) (b6 : Nat) (b7 : Nat) (nl : Nat) (np : Nat) (nt : Nat) (kp : Nat → Nat) (wt : Nat → Int32) (ln : Nat → Nat) (th : Nat → Bool) (kd : Nat) (w : Int32) (n : Nat) (hnp : np < 20) : wrM l yX2_addPattern wsX2_addPattern 0 0 0 0 D y3 [(b0, .inr (2, [.ref b1, .int (nI nl), .ref b2, .ref b3, .ref b4, .ref b5, .ref b6, .int (nI np), .int (nI nt), .ref b7])), (b2, .inl (y3.1, 20, .inl (fN kp))), (b3, .inl (y3.1, 20, .inl wt)), (b4, .inl (y3.1, 20, .inl (fN ln))), (b5, .inl (y3.2.1, 20, .inl (fB th)))] [.ref b0, .int (nI kd), .int w, .int (nI n)] (fun r (_ : Unit) => r = (nI np)) (fun (_ : Unit) => [(b0, .inr (2, [.ref b1, .int (nI nl), .ref b2, .ref b3, .ref b4, .ref b5, .ref b6, .int (nI (np + 1)), .int (nI (nt + 1)), .ref b7])), (b2, .inl (y3.1, 20, .inl (fN (va_up kp np kd)))), (b3, .inl (y3.1, 20, .inl (upd wt np w))), (b4, .inl (y3.1, 20, .inl (fN (va_up ln np n)))), (b5, .inl (y3.2.1, 20, .inl (fB (va_up th np true))))]) := by
  refine wr_of (cc := cX2_addPattern) (maxL := 5) (by decide) rfl (Nat.le_of_ble_eq_true rfl) ?_
  intro p e s m args below meth c A Q hx hb hml hown hts hP hK hD hA hS hret ls hl
  replace hl : lv_has ls 5 [(0, .ref b0), (1, .int (nI kd)), (2, .int w), (3, .int (nI n))] := hl
  have hf19 := hts (.fieldLink RX2 19 "KindGuesser$NameSide" "kindsOfPatterns" "[I") (by decide +kernel)
  have hf22 := hts (.fieldLink RX2 22 "KindGuesser$NameSide" "weights" "[I") (by decide +kernel)
  have hf25 := hts (.fieldLink RX2 25 "KindGuesser$NameSide" "lengths" "[I") (by decide +kernel)
  have hf28 := hts (.fieldLink RX2 28 "KindGuesser$NameSide" "there" "[Z") (by decide +kernel)
  have hf35 := hts (.fieldLink RX2 35 "KindGuesser$NameSide" "patternCount" "I") (by decide +kernel)
  have hf38 := hts (.fieldLink RX2 38 "KindGuesser$NameSide" "thereCount" "I") (by decide +kernel)
  have hiX2 : ∀ q ∈ wsX20, q ∈ wsX2_addPattern := by decide +kernel
  refine lv_aload_n hx hb dX2_addPattern_0 rfl (lv_at hl 0 rfl) ?_
  refine va_get (D := D) (ci := 2) (v := .int (nI np)) (C := RX2) (T := TX2) (N := 10) hx hb hts hiX2 hown hK hP 0 rfl rfl 7 (by decide) hf35 (fun _ h9 => h9) rfl dX2_addPattern_1 ?_
  refine lv_istore (lv' := [(4, .int (nI np)), (0, .ref b0), (1, .int (nI kd)), (2, .int w), (3, .int (nI n))]) hx hb dX2_addPattern_4 hl (by decide) rfl (fun ls hl => ?_)
  refine lv_aload_n hx hb dX2_addPattern_6 rfl (lv_at hl 1 rfl) ?_
  refine va_get (D := D) (ci := 2) (v := .ref b2) (C := RX2) (T := TX2) (N := 10) hx hb hts hiX2 hown hK hP 0 rfl rfl 2 (by decide) hf19 (fun _ h9 => h9) rfl dX2_addPattern_7 ?_
  refine lv_iload hx hb dX2_addPattern_10 (lv_at hl 0 rfl) ?_
  refine lv_iload_n hx hb dX2_addPattern_12 rfl (lv_at hl 2 rfl) ?_
  refine ln_iastN hx hb hK hP hD hS 1 0 rfl rfl (by omega) (by decide) dX2_addPattern_13 _ rfl (fun H locs hP hD hS => ?_)
  have hP : va_P D vwCl [(b0, .inr (2, [.ref b1, .int (nI nl), .ref b2, .ref b3, .ref b4, .ref b5, .ref b6, .int (nI np), .int (nI nt), .ref b7])), (b2, .inl (y3.1, 20, .inl (fN (va_up kp np kd)))), (b3, .inl (y3.1, 20, .inl wt)), (b4, .inl (y3.1, 20, .inl (fN ln))), (b5, .inl (y3.2.1, 20, .inl (fB th)))] H := hP
  have hD : va_D A [(b0, .inr (2, [.ref b1, .int (nI nl), .ref b2, .ref b3, .ref b4, .ref b5, .ref b6, .int (nI np), .int (nI nt), .ref b7])), (b2, .inl (y3.1, 20, .inl (fN (va_up kp np kd)))), (b3, .inl (y3.1, 20, .inl wt)), (b4, .inl (y3.1, 20, .inl (fN ln))), (b5, .inl (y3.2.1, 20, .inl (fB th)))] := hD
  refine lv_aload_n hx hb dX2_addPattern_14 rfl (lv_at hl 1 rfl) ?_
  refine va_get (D := D) (ci := 2) (v := .ref b3) (C := RX2) (T := TX2) (N := 10) hx hb hts hiX2 hown hK hP 0 rfl rfl 3 (by decide) hf22 (fun _ h9 => h9) rfl dX2_addPattern_15 ?_
  refine lv_iload hx hb dX2_addPattern_18 (lv_at hl 0 rfl) ?_
  refine lv_iload_n hx hb dX2_addPattern_20 rfl (lv_at hl 3 rfl) ?_
  refine ln_iast hx hb hK hP hD hS 2 0 rfl rfl (by omega) (by decide) dX2_addPattern_21 _ rfl (fun H locs hP hD hS => ?_)
  have hP : va_P D vwCl [(b0, .inr (2, [.ref b1, .int (nI nl), .ref b2, .ref b3, .ref b4, .ref b5, .ref b6, .int (nI np), .int (nI nt), .ref b7])), (b2, .inl (y3.1, 20, .inl (fN (va_up kp np kd)))), (b3, .inl (y3.1, 20, .inl (upd wt np w))), (b4, .inl (y3.1, 20, .inl (fN ln))), (b5, .inl (y3.2.1, 20, .inl (fB th)))] H := hP
  have hD : va_D A [(b0, .inr (2, [.ref b1, .int (nI nl), .ref b2, .ref b3, .ref b4, .ref b5, .ref b6, .int (nI np), .int (nI nt), .ref b7])), (b2, .inl (y3.1, 20, .inl (fN (va_up kp np kd)))), (b3, .inl (y3.1, 20, .inl (upd wt np w))), (b4, .inl (y3.1, 20, .inl (fN ln))), (b5, .inl (y3.2.1, 20, .inl (fB th)))] := hD
  refine lv_aload_n hx hb dX2_addPattern_22 rfl (lv_at hl 1 rfl) ?_
  refine va_get (D := D) (ci := 2) (v := .ref b4) (C := RX2) (T := TX2) (N := 10) hx hb hts hiX2 hown hK hP 0 rfl rfl 4 (by decide) hf25 (fun _ h9 => h9) rfl dX2_addPattern_23 ?_
  refine lv_iload hx hb dX2_addPattern_26 (lv_at hl 0 rfl) ?_
  refine lv_iload_n hx hb dX2_addPattern_28 rfl (lv_at hl 4 rfl) ?_
  refine ln_iastN hx hb hK hP hD hS 3 0 rfl rfl (by omega) (by decide) dX2_addPattern_29 _ rfl (fun H locs hP hD hS => ?_)
  have hP : va_P D vwCl [(b0, .inr (2, [.ref b1, .int (nI nl), .ref b2, .ref b3, .ref b4, .ref b5, .ref b6, .int (nI np), .int (nI nt), .ref b7])), (b2, .inl (y3.1, 20, .inl (fN (va_up kp np kd)))), (b3, .inl (y3.1, 20, .inl (upd wt np w))), (b4, .inl (y3.1, 20, .inl (fN (va_up ln np n)))), (b5, .inl (y3.2.1, 20, .inl (fB th)))] H := hP
  have hD : va_D A [(b0, .inr (2, [.ref b1, .int (nI nl), .ref b2, .ref b3, .ref b4, .ref b5, .ref b6, .int (nI np), .int (nI nt), .ref b7])), (b2, .inl (y3.1, 20, .inl (fN (va_up kp np kd)))), (b3, .inl (y3.1, 20, .inl (upd wt np w))), (b4, .inl (y3.1, 20, .inl (fN (va_up ln np n)))), (b5, .inl (y3.2.1, 20, .inl (fB th)))] := hD
  refine lv_aload_n hx hb dX2_addPattern_30 rfl (lv_at hl 1 rfl) ?_
  refine va_get (D := D) (ci := 2) (v := .ref b5) (C := RX2) (T := TX2) (N := 10) hx hb hts hiX2 hown hK hP 0 rfl rfl 5 (by decide) hf28 (fun _ h9 => h9) rfl dX2_addPattern_31 ?_
  refine lv_iload hx hb dX2_addPattern_34 (lv_at hl 0 rfl) ?_
  refine lv_iconst (v := (nI 1)) hx hb dX2_addPattern_36 rfl ?_
  refine ln_zastB (b := true) hx hb hK hP hD hS 4 1 rfl rfl (by omega) (by decide) dX2_addPattern_37 _ rfl (fun H locs hP hD hS => ?_)
  have hP : va_P D vwCl [(b0, .inr (2, [.ref b1, .int (nI nl), .ref b2, .ref b3, .ref b4, .ref b5, .ref b6, .int (nI np), .int (nI nt), .ref b7])), (b2, .inl (y3.1, 20, .inl (fN (va_up kp np kd)))), (b3, .inl (y3.1, 20, .inl (upd wt np w))), (b4, .inl (y3.1, 20, .inl (fN (va_up ln np n)))), (b5, .inl (y3.2.1, 20, .inl (fB (va_up th np true))))] H := hP
  have hD : va_D A [(b0, .inr (2, [.ref b1, .int (nI nl), .ref b2, .ref b3, .ref b4, .ref b5, .ref b6, .int (nI np), .int (nI nt), .ref b7])), (b2, .inl (y3.1, 20, .inl (fN (va_up kp np kd)))), (b3, .inl (y3.1, 20, .inl (upd wt np w))), (b4, .inl (y3.1, 20, .inl (fN (va_up ln np n)))), (b5, .inl (y3.2.1, 20, .inl (fB (va_up th np true))))] := hD
  refine lv_aload_n hx hb dX2_addPattern_38 rfl (lv_at hl 1 rfl) ?_
  refine lv_dup hx hb dX2_addPattern_39 rfl ?_
  refine va_get (D := D) (ci := 2) (v := .int (nI np)) (C := RX2) (T := TX2) (N := 10) hx hb hts hiX2 hown hK hP 0 rfl rfl 7 (by decide) hf35 (fun _ h9 => h9) rfl dX2_addPattern_40 ?_
  refine lv_iconst (v := (nI 1)) hx hb dX2_addPattern_43 rfl ?_
  refine ln_iadd (n := np + 1) hx hb rfl dX2_addPattern_44 ?_
  refine va_put (D := D) (ci := 2) (v := .int (nI (np + 1))) (ty := .int) (C := RX2) (T := TX2) (N := 10) hx hb hts hiX2 tyX2 tyX2_ok nmX2 hown hK hP hD hS 0 rfl rfl 7 (by decide) hf35 (fun _ h9 => h9) rfl (by decide +kernel) rfl rfl (Nat.le_of_ble_eq_true rfl) dX2_addPattern_45 (fun H locs hP hD hS => ?_)
  have hP : va_P D vwCl [(b0, .inr (2, [.ref b1, .int (nI nl), .ref b2, .ref b3, .ref b4, .ref b5, .ref b6, .int (nI (np + 1)), .int (nI nt), .ref b7])), (b2, .inl (y3.1, 20, .inl (fN (va_up kp np kd)))), (b3, .inl (y3.1, 20, .inl (upd wt np w))), (b4, .inl (y3.1, 20, .inl (fN (va_up ln np n)))), (b5, .inl (y3.2.1, 20, .inl (fB (va_up th np true))))] H := hP
  have hD : va_D A [(b0, .inr (2, [.ref b1, .int (nI nl), .ref b2, .ref b3, .ref b4, .ref b5, .ref b6, .int (nI (np + 1)), .int (nI nt), .ref b7])), (b2, .inl (y3.1, 20, .inl (fN (va_up kp np kd)))), (b3, .inl (y3.1, 20, .inl (upd wt np w))), (b4, .inl (y3.1, 20, .inl (fN (va_up ln np n)))), (b5, .inl (y3.2.1, 20, .inl (fB (va_up th np true))))] := hD
  refine lv_aload_n hx hb dX2_addPattern_48 rfl (lv_at hl 1 rfl) ?_
  refine lv_dup hx hb dX2_addPattern_49 rfl ?_
  refine va_get (D := D) (ci := 2) (v := .int (nI nt)) (C := RX2) (T := TX2) (N := 10) hx hb hts hiX2 hown hK hP 0 rfl rfl 8 (by decide) hf38 (fun _ h9 => h9) rfl dX2_addPattern_50 ?_
  refine lv_iconst (v := (nI 1)) hx hb dX2_addPattern_53 rfl ?_
  refine ln_iadd (n := nt + 1) hx hb rfl dX2_addPattern_54 ?_
  refine va_put (D := D) (ci := 2) (v := .int (nI (nt + 1))) (ty := .int) (C := RX2) (T := TX2) (N := 10) hx hb hts hiX2 tyX2 tyX2_ok nmX2 hown hK hP hD hS 0 rfl rfl 8 (by decide) hf38 (fun _ h9 => h9) rfl (by decide +kernel) rfl rfl (Nat.le_of_ble_eq_true rfl) dX2_addPattern_55 (fun H locs hP hD hS => ?_)
  have hP : va_P D vwCl [(b0, .inr (2, [.ref b1, .int (nI nl), .ref b2, .ref b3, .ref b4, .ref b5, .ref b6, .int (nI (np + 1)), .int (nI (nt + 1)), .ref b7])), (b2, .inl (y3.1, 20, .inl (fN (va_up kp np kd)))), (b3, .inl (y3.1, 20, .inl (upd wt np w))), (b4, .inl (y3.1, 20, .inl (fN (va_up ln np n)))), (b5, .inl (y3.2.1, 20, .inl (fB (va_up th np true))))] H := hP
  have hD : va_D A [(b0, .inr (2, [.ref b1, .int (nI nl), .ref b2, .ref b3, .ref b4, .ref b5, .ref b6, .int (nI (np + 1)), .int (nI (nt + 1)), .ref b7])), (b2, .inl (y3.1, 20, .inl (fN (va_up kp np kd)))), (b3, .inl (y3.1, 20, .inl (upd wt np w))), (b4, .inl (y3.1, 20, .inl (fN (va_up ln np n)))), (b5, .inl (y3.2.1, 20, .inl (fB (va_up th np true))))] := hD
  refine lv_iload hx hb dX2_addPattern_58 (lv_at hl 0 rfl) ?_
  exact hret 60 ls H locs _ _ () _ hP hD hS (Nat.le_of_ble_eq_true rfl) (Nat.le_of_ble_eq_true rfl) rfl dX2_addPattern_60

set_option maxHeartbeats 4000000 in
set_option maxRecDepth 100000 in
theorem kX2_dropPattern (l : Launch) (D : va_G) (y3 : ClassId × ClassId × ClassId) (b0 : Nat) (b1 : Nat) (b2 : Nat) (b3 : Nat) (b4 : Nat) (b5 : Nat) (b6 : Nat) (b7 : Nat) (nl : Nat) (np : Nat) (nt : Nat) (th : Nat → Bool) (j : Nat) (hnp : np ≤ 20) (hj : j < np) (hnt : 0 < nt) : wrM l yX2_dropPattern wsX2_dropPattern 0 0 0 0 D y3 [(b0, .inr (2, [.ref b1, .int (nI nl), .ref b2, .ref b3, .ref b4, .ref b5, .ref b6, .int (nI np), .int (nI nt), .ref b7])), (b5, .inl (y3.2.1, 20, .inl (fB th)))] [.ref b0, .int (nI j)] (fun r (_ : Unit) => r = (nI (nt - 1))) (fun (_ : Unit) => [(b0, .inr (2, [.ref b1, .int (nI nl), .ref b2, .ref b3, .ref b4, .ref b5, .ref b6, .int (nI np), .int (nI (nt - 1)), .ref b7])), (b5, .inl (y3.2.1, 20, .inl (fB (va_up th j false))))]) := by
  refine wr_of (cc := cX2_dropPattern) (maxL := 2) (by decide) rfl (Nat.le_of_ble_eq_true rfl) ?_
  intro p e s m args below meth c A Q hx hb hml hown hts hP hK hD hA hS hret ls hl
  replace hl : lv_has ls 2 [(0, .ref b0), (1, .int (nI j))] := hl
  have hf28 := hts (.fieldLink RX2 28 "KindGuesser$NameSide" "there" "[Z") (by decide +kernel)
  have hf38 := hts (.fieldLink RX2 38 "KindGuesser$NameSide" "thereCount" "I") (by decide +kernel)
  have hiX2 : ∀ q ∈ wsX20, q ∈ wsX2_dropPattern := by decide +kernel
  refine lv_aload_n hx hb dX2_dropPattern_0 rfl (lv_at hl 0 rfl) ?_
  refine va_get (D := D) (ci := 2) (v := .ref b5) (C := RX2) (T := TX2) (N := 10) hx hb hts hiX2 hown hK hP 0 rfl rfl 5 (by decide) hf28 (fun _ h9 => h9) rfl dX2_dropPattern_1 ?_
  refine lv_iload_n hx hb dX2_dropPattern_4 rfl (lv_at hl 1 rfl) ?_
  refine lv_iconst (v := (nI 0)) hx hb dX2_dropPattern_5 rfl ?_
  refine ln_zastB (b := false) hx hb hK hP hD hS 1 1 rfl rfl (by omega) (by decide) dX2_dropPattern_6 _ rfl (fun H locs hP hD hS => ?_)
  have hP : va_P D vwCl [(b0, .inr (2, [.ref b1, .int (nI nl), .ref b2, .ref b3, .ref b4, .ref b5, .ref b6, .int (nI np), .int (nI nt), .ref b7])), (b5, .inl (y3.2.1, 20, .inl (fB (va_up th j false))))] H := hP
  have hD : va_D A [(b0, .inr (2, [.ref b1, .int (nI nl), .ref b2, .ref b3, .ref b4, .ref b5, .ref b6, .int (nI np), .int (nI nt), .ref b7])), (b5, .inl (y3.2.1, 20, .inl (fB (va_up th j false))))] := hD
  refine lv_aload_n hx hb dX2_dropPattern_7 rfl (lv_at hl 0 rfl) ?_
  refine lv_dup hx hb dX2_dropPattern_8 rfl ?_
  refine va_get (D := D) (ci := 2) (v := .int (nI nt)) (C := RX2) (T := TX2) (N := 10) hx hb hts hiX2 hown hK hP 0 rfl rfl 8 (by decide) hf38 (fun _ h9 => h9) rfl dX2_dropPattern_9 ?_
  refine lv_iconst (v := (nI 1)) hx hb dX2_dropPattern_12 rfl ?_
  refine ln_isub (n := nt - 1) hx hb (by omega) (by omega) dX2_dropPattern_13 ?_
  refine va_put (D := D) (ci := 2) (v := .int (nI (nt - 1))) (ty := .int) (C := RX2) (T := TX2) (N := 10) hx hb hts hiX2 tyX2 tyX2_ok nmX2 hown hK hP hD hS 0 rfl rfl 8 (by decide) hf38 (fun _ h9 => h9) rfl (by decide +kernel) rfl rfl (Nat.le_of_ble_eq_true rfl) dX2_dropPattern_14 (fun H locs hP hD hS => ?_)
  have hP : va_P D vwCl [(b0, .inr (2, [.ref b1, .int (nI nl), .ref b2, .ref b3, .ref b4, .ref b5, .ref b6, .int (nI np), .int (nI (nt - 1)), .ref b7])), (b5, .inl (y3.2.1, 20, .inl (fB (va_up th j false))))] H := hP
  have hD : va_D A [(b0, .inr (2, [.ref b1, .int (nI nl), .ref b2, .ref b3, .ref b4, .ref b5, .ref b6, .int (nI np), .int (nI (nt - 1)), .ref b7])), (b5, .inl (y3.2.1, 20, .inl (fB (va_up th j false))))] := hD
  refine lv_aload_n hx hb dX2_dropPattern_17 rfl (lv_at hl 0 rfl) ?_
  refine va_get (D := D) (ci := 2) (v := .int (nI (nt - 1))) (C := RX2) (T := TX2) (N := 10) hx hb hts hiX2 hown hK hP 0 rfl rfl 8 (by decide) hf38 (fun _ h9 => h9) rfl dX2_dropPattern_18 ?_
  exact hret 21 ls H locs _ _ () _ hP hD hS (Nat.le_of_ble_eq_true rfl) (Nat.le_of_ble_eq_true rfl) rfl dX2_dropPattern_21

set_option maxHeartbeats 4000000 in
set_option maxRecDepth 100000 in
theorem kX2_kindOf (l : Launch) (D : va_G) (y3 : ClassId × ClassId × ClassId) (b0 : Nat) (b1 : Nat) (b2 : Nat) (b3 : Nat) (b4 : Nat) (b5 : Nat) (b6 : Nat) (b7 : Nat) (nl : Nat) (np : Nat) (nt : Nat) (kp : Nat → Nat) (th : Nat → Bool) (k : Int32) (hnp : np ≤ 20) : rdM l yX2_kindOf wsX2_kindOf 1 21 D y3 [(b0, .inr (2, [.ref b1, .int (nI nl), .ref b2, .ref b3, .ref b4, .ref b5, .ref b6, .int (nI np), .int (nI nt), .ref b7])), (b2, .inl (y3.1, 20, .inl (fN kp))), (b5, .inl (y3.2.1, 20, .inl (fB th)))] [.ref b0, .int k] (fun r => r = (kndO th np kp k)) := by
  refine rd_of (cc := cX2_kindOf) (maxL := 2) (by decide) rfl (Nat.le_of_ble_eq_true rfl) ?_
  intro p e s m args below meth c Q hx hb hml hown hts hP hK hret ls hl
  replace hl : lv_has ls 2 [(0, .ref b0), (1, .int k)] := hl
  have hf19 := hts (.fieldLink RX2 19 "KindGuesser$NameSide" "kindsOfPatterns" "[I") (by decide +kernel)
  have hiX2 : ∀ q ∈ wsX20, q ∈ wsX2_kindOf := by decide +kernel
  refine lv_aload_n hx hb dX2_kindOf_0 rfl (lv_at hl 0 rfl) ?_
  refine lv_iload_n hx hb dX2_kindOf_1 rfl (lv_at hl 1 rfl) ?_
  refine rd_V (ci := 2) (q0 := 0) (own := RX2) (As := [.int k]) (rest := []) (bytes := cX2_hasPattern) (maxL := 2) ⟨hx, hb, hml, hown, hts⟩ (kX2_hasPattern l D y3 b0 b1 b2 b3 b4 b5 b6 b7 nl np nt th k (by omega)) gX2_kindOf_X2_hasPattern rfl hvX2_hasPattern ⟨Nat.le_of_ble_eq_true rfl, Nat.le_of_ble_eq_true rfl⟩ hP hK [0, 2] rfl rfl rfl hl.1 rfl (Nat.le_of_ble_eq_true rfl) dX2_kindOf_2 ⟨Nat.zero_le _, Nat.zero_le _⟩ (fun r1 hr1 => ?_)
  subst hr1
  refine lb_if_eq (tgt := 17) hx hb dX2_kindOf_5 (by decide) (fun c5 => ?_) (fun c5 => ?_)
  · refine lv_iconst (v := (-1)) hx hb dX2_kindOf_17 rfl ?_
    exact hret 18 ls _ (by unfold kndO; rw [c5]; rfl) dX2_kindOf_18
  · refine lv_aload_n hx hb dX2_kindOf_8 rfl (lv_at hl 0 rfl) ?_
    refine va_get (D := D) (ci := 2) (v := .ref b2) (C := RX2) (T := TX2) (N := 10) hx hb hts hiX2 hown hK hP 0 rfl rfl 2 (by decide) hf19 (fun _ h9 => h9) rfl dX2_kindOf_9 ?_
    refine lv_iload_n hx hb dX2_kindOf_12 rfl (lv_at hl 1 rfl) ?_
    obtain ⟨j, hj, ej, hth⟩ := hasP_yes c5 (by omega)
    refine ln_eqi (y := (nI j)) ej ?_
    refine ln_ialdN hx hb hK hP 1 0 rfl rfl (by omega) (by decide) dX2_kindOf_13 ?_
    refine lv_goto (tgt := 18) hx hb dX2_kindOf_14 (by decide) ?_
    exact hret 18 ls _ (by rw [ej, kndO_N hj (by omega), hth]; rfl) dX2_kindOf_18

set_option maxHeartbeats 4000000 in
set_option maxRecDepth 100000 in
theorem kX2_isAhead (l : Launch) (D : va_G) (y3 : ClassId × ClassId × ClassId) (b0 : Nat) (b1 : Nat) (b2 : Nat) (b3 : Nat) (b4 : Nat) (b5 : Nat) (b6 : Nat) (b7 : Nat) (nl : Nat) (np : Nat) (nt : Nat) (wt : Nat → Int32) (ln : Nat → Nat) (k : Nat) (b : Nat) (hk : k < 20) (hb : b < 20) (hln : ∀ q : Nat, ln q ≤ 8) : rdM l yX2_isAhead wsX2_isAhead 0 0 D y3 [(b0, .inr (2, [.ref b1, .int (nI nl), .ref b2, .ref b3, .ref b4, .ref b5, .ref b6, .int (nI np), .int (nI nt), .ref b7])), (b3, .inl (y3.1, 20, .inl wt)), (b4, .inl (y3.1, 20, .inl (fN ln)))] [.ref b0, .int (nI k), .int (nI b)] (fun r => r = (bI (ahP wt ln k b))) := by
  refine rz_of (cc := cX2_isAhead) (maxL := 3) (by decide) rfl (Nat.le_of_ble_eq_true rfl) ?_
  intro p e s m args below meth c Q hx hb hml hown hts hP hK hret ls hl
  replace hl : lv_has ls 3 [(0, .ref b0), (1, .int (nI k)), (2, .int (nI b))] := hl
  have q1 := hln k
  have q2 := hln b
  have hf22 := hts (.fieldLink RX2 22 "KindGuesser$NameSide" "weights" "[I") (by decide +kernel)
  have hf25 := hts (.fieldLink RX2 25 "KindGuesser$NameSide" "lengths" "[I") (by decide +kernel)
  have hiX2 : ∀ q ∈ wsX20, q ∈ wsX2_isAhead := by decide +kernel
  refine lv_aload_n hx hb dX2_isAhead_0 rfl (lv_at hl 0 rfl) ?_
  refine va_get (D := D) (ci := 2) (v := .ref b3) (C := RX2) (T := TX2) (N := 10) hx hb hts hiX2 hown hK hP 0 rfl rfl 3 (by decide) hf22 (fun _ h9 => h9) rfl dX2_isAhead_1 ?_
  refine lv_iload_n hx hb dX2_isAhead_4 rfl (lv_at hl 1 rfl) ?_
  refine ln_iald hx hb hK hP 1 0 rfl rfl (by omega) (by decide) dX2_isAhead_5 ?_
  refine lv_aload_n hx hb dX2_isAhead_6 rfl (lv_at hl 0 rfl) ?_
  refine va_get (D := D) (ci := 2) (v := .ref b3) (C := RX2) (T := TX2) (N := 10) hx hb hts hiX2 hown hK hP 0 rfl rfl 3 (by decide) hf22 (fun _ h9 => h9) rfl dX2_isAhead_7 ?_
  refine lv_iload_n hx hb dX2_isAhead_10 rfl (lv_at hl 2 rfl) ?_
  refine ln_iald hx hb hK hP 1 0 rfl rfl (by omega) (by decide) dX2_isAhead_11 ?_
  refine lv_icmp_eq (tgt := 36) hx hb dX2_isAhead_12 (by decide) (fun c12 => ?_) (fun c12 => ?_)
  · refine lv_aload_n hx hb dX2_isAhead_36 rfl (lv_at hl 0 rfl) ?_
    refine va_get (D := D) (ci := 2) (v := .ref b4) (C := RX2) (T := TX2) (N := 10) hx hb hts hiX2 hown hK hP 0 rfl rfl 4 (by decide) hf25 (fun _ h9 => h9) rfl dX2_isAhead_37 ?_
    refine lv_iload_n hx hb dX2_isAhead_40 rfl (lv_at hl 1 rfl) ?_
    refine ln_ialdN hx hb hK hP 2 0 rfl rfl (by omega) (by decide) dX2_isAhead_41 ?_
    refine lv_aload_n hx hb dX2_isAhead_42 rfl (lv_at hl 0 rfl) ?_
    refine va_get (D := D) (ci := 2) (v := .ref b4) (C := RX2) (T := TX2) (N := 10) hx hb hts hiX2 hown hK hP 0 rfl rfl 4 (by decide) hf25 (fun _ h9 => h9) rfl dX2_isAhead_43 ?_
    refine lv_iload_n hx hb dX2_isAhead_46 rfl (lv_at hl 2 rfl) ?_
    refine ln_ialdN hx hb hK hP 2 0 rfl rfl (by omega) (by decide) dX2_isAhead_47 ?_
    refine ln_icmp_le (tgt := 55) hx hb (by omega) (by omega) dX2_isAhead_48 (by decide) (fun c48 => ?_) (fun c48 => ?_)
    · refine lv_iconst (v := (nI 0)) hx hb dX2_isAhead_55 rfl ?_
      exact hret 56 ls _ (bI_f (by unfold ahP; first | (rw [if_neg c12]; exact decide_eq_false (fun h => absurd c27 (Int32.not_le.mpr h))) | (rw [if_pos c12]; exact decide_eq_false (by omega)))) dX2_isAhead_56
    · refine lv_iconst (v := (nI 1)) hx hb dX2_isAhead_51 rfl ?_
      refine lv_goto (tgt := 56) hx hb dX2_isAhead_52 (by decide) ?_
      exact hret 56 ls _ (bI_t (by unfold ahP; first | (rw [if_neg c12]; exact decide_eq_true (Int32.not_le.mp c27)) | (rw [if_pos c12]; exact decide_eq_true (by omega)))) dX2_isAhead_56
  · refine lv_aload_n hx hb dX2_isAhead_15 rfl (lv_at hl 0 rfl) ?_
    refine va_get (D := D) (ci := 2) (v := .ref b3) (C := RX2) (T := TX2) (N := 10) hx hb hts hiX2 hown hK hP 0 rfl rfl 3 (by decide) hf22 (fun _ h9 => h9) rfl dX2_isAhead_16 ?_
    refine lv_iload_n hx hb dX2_isAhead_19 rfl (lv_at hl 1 rfl) ?_
    refine ln_iald hx hb hK hP 1 0 rfl rfl (by omega) (by decide) dX2_isAhead_20 ?_
    refine lv_aload_n hx hb dX2_isAhead_21 rfl (lv_at hl 0 rfl) ?_
    refine va_get (D := D) (ci := 2) (v := .ref b3) (C := RX2) (T := TX2) (N := 10) hx hb hts hiX2 hown hK hP 0 rfl rfl 3 (by decide) hf22 (fun _ h9 => h9) rfl dX2_isAhead_22 ?_
    refine lv_iload_n hx hb dX2_isAhead_25 rfl (lv_at hl 2 rfl) ?_
    refine ln_iald hx hb hK hP 1 0 rfl rfl (by omega) (by decide) dX2_isAhead_26 ?_
    refine lv_icmp_le (tgt := 34) hx hb dX2_isAhead_27 (by decide) (fun c27 => ?_) (fun c27 => ?_)
    · refine lv_iconst (v := (nI 0)) hx hb dX2_isAhead_34 rfl ?_
      exact hret 35 ls _ (bI_f (by unfold ahP; first | (rw [if_neg c12]; exact decide_eq_false (fun h => absurd c27 (Int32.not_le.mpr h))) | (rw [if_pos c12]; exact decide_eq_false (by omega)))) dX2_isAhead_35
    · refine lv_iconst (v := (nI 1)) hx hb dX2_isAhead_30 rfl ?_
      refine lv_goto (tgt := 35) hx hb dX2_isAhead_31 (by decide) ?_
      exact hret 35 ls _ (bI_t (by unfold ahP; first | (rw [if_neg c12]; exact decide_eq_true (Int32.not_le.mp c27)) | (rw [if_pos c12]; exact decide_eq_true (by omega)))) dX2_isAhead_35

set_option maxHeartbeats 4000000 in
set_option maxRecDepth 100000 in
theorem kX2_isReached (l : Launch) (D : va_G) (y3 : ClassId × ClassId × ClassId) (x : Int32) (i : Nat) (hi : i < 32) : rdM l yX2_isReached wsX2_isReached 0 0 D y3 [] [.int x, .int (nI i)] (fun r => r = (bI (bt x i))) := by
  refine rz_of (cc := cX2_isReached) (maxL := 2) (by decide) rfl (Nat.le_of_ble_eq_true rfl) ?_
  intro p e s m args below meth c Q hx hb hml hown hts hP hK hret ls hl
  replace hl : lv_has ls 2 [(0, .int x), (1, .int (nI i))] := hl
  refine lv_iload_n hx hb dX2_isReached_0 rfl (lv_at hl 0 rfl) ?_
  refine lv_iload_n hx hb dX2_isReached_1 rfl (lv_at hl 1 rfl) ?_
  refine lv_ishr hx hb dX2_isReached_2 ?_
  refine lv_iconst (v := (nI 1)) hx hb dX2_isReached_3 rfl ?_
  refine lv_iand hx hb dX2_isReached_4 ?_
  refine lv_iconst (v := (nI 1)) hx hb dX2_isReached_5 rfl ?_
  refine lv_icmp_ne (tgt := 13) hx hb dX2_isReached_6 (by decide) (fun c6 => ?_) (fun c6 => ?_)
  · refine lv_iconst (v := (nI 0)) hx hb dX2_isReached_13 rfl ?_
    exact hret 14 ls _ (bI_f (bt_f hi c6)) dX2_isReached_14
  · refine lv_iconst (v := (nI 1)) hx hb dX2_isReached_9 rfl ?_
    refine lv_goto (tgt := 14) hx hb dX2_isReached_10 (by decide) ?_
    exact hret 14 ls _ (bI_t (bt_t hi c6)) dX2_isReached_14

set_option maxHeartbeats 4000000 in
set_option maxRecDepth 100000 in
theorem kX2_standsFor (l : Launch) (D : va_G) (y3 : ClassId × ClassId × ClassId) (b0 : Nat) (b1 : Nat) (b2 : Nat) (b3 : Nat) (b4 : Nat) (b5 : Nat) (b6 : Nat) (b7 : Nat) (nl : Nat) (np : Nat) (nt : Nat) (lt : Nat → Int32) (tok : Int32) (i : Nat) (hi : i < 12) : rdM l yX2_standsFor wsX2_standsFor 0 0 D y3 [(b0, .inr (2, [.ref b1, .int (nI nl), .ref b2, .ref b3, .ref b4, .ref b5, .ref b6, .int (nI np), .int (nI nt), .ref b7])), (b1, .inl (y3.1, 12, .inl lt))] [.ref b0, .int tok, .int (nI i)] (fun r => r = (bI (stB lt tok i))) := by
  refine rz_of (cc := cX2_standsFor) (maxL := 3) (by decide) rfl (Nat.le_of_ble_eq_true rfl) ?_
  intro p e s m args below meth c Q hx hb hml hown hts hP hK hret ls hl
  replace hl : lv_has ls 3 [(0, .ref b0), (1, .int tok), (2, .int (nI i))] := hl
  have hf9 := hts (.fieldLink RX2 9 "KindGuesser$NameSide" "letters" "[I") (by decide +kernel)
  have hiX2 : ∀ q ∈ wsX20, q ∈ wsX2_standsFor := by decide +kernel
  refine lv_iload_n hx hb dX2_standsFor_0 rfl (lv_at hl 1 rfl) ?_
  refine lv_bipush (v := (nI 11)) hx hb dX2_standsFor_1 rfl ?_
  refine lv_icmp_eq (tgt := 16) hx hb dX2_standsFor_3 (by decide) (fun c3 => ?_) (fun c3 => ?_)
  · refine lv_iconst (v := (nI 1)) hx hb dX2_standsFor_16 rfl ?_
    refine lv_goto (tgt := 21) hx hb dX2_standsFor_17 (by decide) ?_
    exact hret 21 ls _ (bI_t (by first | exact stB_11 c3 | exact stB_lt c13)) dX2_standsFor_21
  · refine lv_iload_n hx hb dX2_standsFor_6 rfl (lv_at hl 1 rfl) ?_
    refine lv_aload_n hx hb dX2_standsFor_7 rfl (lv_at hl 0 rfl) ?_
    refine va_get (D := D) (ci := 2) (v := .ref b1) (C := RX2) (T := TX2) (N := 10) hx hb hts hiX2 hown hK hP 0 rfl rfl 0 (by decide) hf9 (fun _ h9 => h9) rfl dX2_standsFor_8 ?_
    refine lv_iload_n hx hb dX2_standsFor_11 rfl (lv_at hl 2 rfl) ?_
    refine ln_iald hx hb hK hP 1 0 rfl rfl (by omega) (by decide) dX2_standsFor_12 ?_
    refine lv_icmp_ne (tgt := 20) hx hb dX2_standsFor_13 (by decide) (fun c13 => ?_) (fun c13 => ?_)
    · refine lv_iconst (v := (nI 0)) hx hb dX2_standsFor_20 rfl ?_
      exact hret 21 ls _ (bI_f (stB_no c3 c13)) dX2_standsFor_21
    · refine lv_iconst (v := (nI 1)) hx hb dX2_standsFor_16 rfl ?_
      refine lv_goto (tgt := 21) hx hb dX2_standsFor_17 (by decide) ?_
      exact hret 21 ls _ (bI_t (by first | exact stB_11 c3 | exact stB_lt c13)) dX2_standsFor_21

set_option maxHeartbeats 4000000 in
set_option maxRecDepth 100000 in
theorem kX2_reachedAfter (l : Launch) (D : va_G) (y3 : ClassId × ClassId × ClassId) (b0 : Nat) (b1 : Nat) (b2 : Nat) (b3 : Nat) (b4 : Nat) (b5 : Nat) (b6 : Nat) (b7 : Nat) (nl : Nat) (np : Nat) (nt : Nat) (lt : Nat → Int32) (tok : Int32) (x : Int32) (hnl : nl ≤ 12) : rdM l yX2_reachedAfter wsX2_reachedAfter 1 22 D y3 [(b0, .inr (2, [.ref b1, .int (nI nl), .ref b2, .ref b3, .ref b4, .ref b5, .ref b6, .int (nI np), .int (nI nt), .ref b7])), (b1, .inl (y3.1, 12, .inl lt))] [.ref b0, .int tok, .int x] (fun r => ∀ i : Nat, i ≤ nl → bt r i = stpB lt tok (bt x) i) := by
  refine rd_of (cc := cX2_reachedAfter) (maxL := 6) (by decide) rfl (Nat.le_of_ble_eq_true rfl) ?_
  intro p e s m args below meth c Q hx hb hml hown hts hP hK hret ls hl
  replace hl : lv_has ls 6 [(0, .ref b0), (1, .int tok), (2, .int x)] := hl
  have hf15 := hts (.fieldLink RX2 15 "KindGuesser$NameSide" "letterCount" "I") (by decide +kernel)
  have hiX2 : ∀ q ∈ wsX20, q ∈ wsX2_reachedAfter := by decide +kernel
  refine lv_iload_n hx hb dX2_reachedAfter_0 rfl (lv_at hl 1 rfl) ?_
  refine lv_bipush (v := (nI 10)) hx hb dX2_reachedAfter_1 rfl ?_
  have jn11 : ∀ (y : Int32), (y = if tok = nI 10 then x else nI 0) → ∀ ls : Array Slot, lv_has ls 6 [(0, .ref b0), (1, .int tok), (2, .int x)] → W p l e (rmO 1 0 0 22) s m args below meth c s.heap [] 0 0 Q (F0 m 11 ls [.int y]) := by
    intro y e11 ls hl
    refine lv_istore_n (lv' := [(3, .int y), (0, .ref b0), (1, .int tok), (2, .int x)]) hx hb dX2_reachedAfter_11 rfl hl (by decide) rfl (fun ls hl => ?_)
    refine lv_iconst (v := (nI 0)) hx hb dX2_reachedAfter_12 rfl ?_
    refine lv_istore (lv' := [(4, .int (nI 0)), (3, .int y), (0, .ref b0), (1, .int tok), (2, .int x)]) hx hb dX2_reachedAfter_13 hl (by decide) rfl (fun ls hl => ?_)
    have lp15 : ∀ (n1 : Nat) (q : Nat) (a : Int32), nl - q < n1 → (q ≤ nl) → (raI lt tok x a q) → ∀ ls : Array Slot, lv_has ls 6 [(4, .int (nI q)), (3, .int a), (0, .ref b0), (1, .int tok), (2, .int x)] → W p l e (rmO 1 0 0 22) s m args below meth c s.heap [] 0 0 Q (F0 m 15 ls []) := by
      intro n1
      induction n1 with
      | zero => intro q a hm; exact absurd hm (Nat.not_lt_zero _)
      | succ n1 ih15 =>
        intro q a hm15 h1 h2 ls hl
        refine lv_iload hx hb dX2_reachedAfter_15 (lv_at hl 0 rfl) ?_
        refine lv_aload_n hx hb dX2_reachedAfter_17 rfl (lv_at hl 2 rfl) ?_
        refine va_get (D := D) (ci := 2) (v := .int (nI nl)) (C := RX2) (T := TX2) (N := 10) hx hb hts hiX2 hown hK hP 0 rfl rfl 1 (by decide) hf15 (fun _ h9 => h9) rfl dX2_reachedAfter_18 ?_
        refine ln_icmp_ge (tgt := 85) hx hb (by omega) (by omega) dX2_reachedAfter_21 (by decide) (fun c21 => ?_) (fun c21 => ?_)
        · refine lv_iload_n hx hb dX2_reachedAfter_85 rfl (lv_at hl 1 rfl) ?_
          exact hret 86 ls _ (fun i hi => h2.1 i (by omega)) dX2_reachedAfter_86
        · have jn63 : ∀ (g : Bool), (g = if tok = nI 10 then bt a q else (bt x q && stB lt tok q)) → ∀ ls : Array Slot, lv_has ls 6 [(4, .int (nI q)), (3, .int a), (0, .ref b0), (1, .int tok), (2, .int x)] → W p l e (rmO 1 0 0 22) s m args below meth c s.heap [] 0 0 Q (F0 m 63 ls [.int (bI g)]) := by
            intro g hg ls hl
            refine lv_istore (lv' := [(5, .int (bI g)), (4, .int (nI q)), (3, .int a), (0, .ref b0), (1, .int tok), (2, .int x)]) hx hb dX2_reachedAfter_63 hl (by decide) rfl (fun ls hl => ?_)
            refine lv_iload hx hb dX2_reachedAfter_65 (lv_at hl 0 rfl) ?_
            refine lb_if_eq (tgt := 79) hx hb dX2_reachedAfter_67 (by decide) (fun c67 => ?_) (fun c67 => ?_)
            · refine lv_iinc (v := (nI (q + 1))) (lv' := [(4, .int (nI (q + 1))), (5, .int (bI g)), (3, .int a), (0, .ref b0), (1, .int tok), (2, .int x)]) hx hb dX2_reachedAfter_79 hl (k := 1) rfl (nI_add _ _) (by decide) rfl (fun ls hl => ?_)
              refine lv_goto (tgt := 15) hx hb dX2_reachedAfter_82 (by decide) ?_
              exact ih15 (q + 1) a (by omega) (by omega) (by have h9 := raI_s (by omega) h2 hg; rw [if_neg (by rw [c67]; decide)] at h9; exact h9) _ (lv_sub hl [0, 2, 3, 4, 5] rfl)
            · refine lv_iload_n hx hb dX2_reachedAfter_70 rfl (lv_at hl 2 rfl) ?_
              refine lv_iconst (v := (nI 1)) hx hb dX2_reachedAfter_71 rfl ?_
              refine lv_iload hx hb dX2_reachedAfter_72 (lv_at hl 1 rfl) ?_
              refine lv_iconst (v := (nI 1)) hx hb dX2_reachedAfter_74 rfl ?_
              refine ln_iadd (n := q + 1) hx hb rfl dX2_reachedAfter_75 ?_
              refine lv_ishl hx hb dX2_reachedAfter_76 ?_
              refine lv_ior hx hb dX2_reachedAfter_77 ?_
              refine lv_istore_n (lv' := [(3, .int (a ||| ((nI 1) <<< ((nI (q + 1)) &&& 31)))), (5, .int (bI g)), (4, .int (nI q)), (0, .ref b0), (1, .int tok), (2, .int x)]) hx hb dX2_reachedAfter_78 rfl hl (by decide) rfl (fun ls hl => ?_)
              refine lv_iinc (v := (nI (q + 1))) (lv' := [(4, .int (nI (q + 1))), (3, .int (a ||| ((nI 1) <<< ((nI (q + 1)) &&& 31)))), (5, .int (bI g)), (0, .ref b0), (1, .int tok), (2, .int x)]) hx hb dX2_reachedAfter_79 hl (k := 2) rfl (nI_add _ _) (by decide) rfl (fun ls hl => ?_)
              refine lv_goto (tgt := 15) hx hb dX2_reachedAfter_82 (by decide) ?_
              exact ih15 (q + 1) (a ||| ((nI 1) <<< ((nI (q + 1)) &&& 31))) (by omega) (by omega) (by have h9 := raI_s (by omega) h2 hg; rw [if_pos c67] at h9; exact h9) _ (lv_sub hl [0, 1, 3, 4, 5] rfl)
          refine lv_iload_n hx hb dX2_reachedAfter_24 rfl (lv_at hl 3 rfl) ?_
          refine lv_bipush (v := (nI 10)) hx hb dX2_reachedAfter_25 rfl ?_
          refine lv_icmp_ne (tgt := 39) hx hb dX2_reachedAfter_27 (by decide) (fun c27 => ?_) (fun c27 => ?_)
          · refine lv_iload_n hx hb dX2_reachedAfter_39 rfl (lv_at hl 4 rfl) ?_
            refine lv_iload hx hb dX2_reachedAfter_40 (lv_at hl 0 rfl) ?_
            refine rd_S (own := RX2) (As := [.int x, .int (nI q)]) (rest := []) (bytes := cX2_isReached) (maxL := 2) ⟨hx, hb, hml, hown, hts⟩ (kX2_isReached l D y3 x q (by omega)) gX2_reachedAfter_X2_isReached rfl hvX2_isReached ⟨Nat.le_of_ble_eq_true rfl, Nat.le_of_ble_eq_true rfl⟩ hP hK [] rfl  hl.1 rfl (Nat.le_of_ble_eq_true rfl) dX2_reachedAfter_42 ⟨Nat.zero_le _, Nat.zero_le _⟩ (fun r2 hr2 => ?_)
            subst hr2
            refine lb_if_eq (tgt := 62) hx hb dX2_reachedAfter_45 (by decide) (fun c45 => ?_) (fun c45 => ?_)
            · refine lv_iconst (v := (nI 0)) hx hb dX2_reachedAfter_62 rfl ?_
              exact jn63 false (by first | (rw [if_neg c27, c45]; rfl) | (rw [if_neg c27, c55, Bool.and_false])) _ (lv_sub hl [0, 1, 2, 3, 4] rfl)
            · refine lv_aload_n hx hb dX2_reachedAfter_48 rfl (lv_at hl 2 rfl) ?_
              refine lv_iload_n hx hb dX2_reachedAfter_49 rfl (lv_at hl 3 rfl) ?_
              refine lv_iload hx hb dX2_reachedAfter_50 (lv_at hl 0 rfl) ?_
              refine rd_V (ci := 2) (q0 := 0) (own := RX2) (As := [.int tok, .int (nI q)]) (rest := []) (bytes := cX2_standsFor) (maxL := 3) ⟨hx, hb, hml, hown, hts⟩ (kX2_standsFor l D y3 b0 b1 b2 b3 b4 b5 b6 b7 nl np nt lt tok q (by omega)) gX2_reachedAfter_X2_standsFor rfl hvX2_standsFor ⟨Nat.le_of_ble_eq_true rfl, Nat.le_of_ble_eq_true rfl⟩ hP hK [0, 1] rfl rfl rfl hl.1 rfl (Nat.le_of_ble_eq_true rfl) dX2_reachedAfter_52 ⟨Nat.zero_le _, Nat.zero_le _⟩ (fun r3 hr3 => ?_)
              subst hr3
              refine lb_if_eq (tgt := 62) hx hb dX2_reachedAfter_55 (by decide) (fun c55 => ?_) (fun c55 => ?_)
              · refine lv_iconst (v := (nI 0)) hx hb dX2_reachedAfter_62 rfl ?_
                exact jn63 false (by first | (rw [if_neg c27, c45]; rfl) | (rw [if_neg c27, c55, Bool.and_false])) _ (lv_sub hl [0, 1, 2, 3, 4] rfl)
              · refine lv_iconst (v := (nI 1)) hx hb dX2_reachedAfter_58 rfl ?_
                refine lv_goto (tgt := 63) hx hb dX2_reachedAfter_59 (by decide) ?_
                exact jn63 true (by rw [if_neg c27, c45, c55]; rfl) _ (lv_sub hl [0, 1, 2, 3, 4] rfl)
          · refine lv_iload_n hx hb dX2_reachedAfter_30 rfl (lv_at hl 1 rfl) ?_
            refine lv_iload hx hb dX2_reachedAfter_31 (lv_at hl 0 rfl) ?_
            refine rd_S (own := RX2) (As := [.int a, .int (nI q)]) (rest := []) (bytes := cX2_isReached) (maxL := 2) ⟨hx, hb, hml, hown, hts⟩ (kX2_isReached l D y3 a q (by omega)) gX2_reachedAfter_X2_isReached rfl hvX2_isReached ⟨Nat.le_of_ble_eq_true rfl, Nat.le_of_ble_eq_true rfl⟩ hP hK [] rfl  hl.1 rfl (Nat.le_of_ble_eq_true rfl) dX2_reachedAfter_33 ⟨Nat.zero_le _, Nat.zero_le _⟩ (fun r4 hr4 => ?_)
            subst hr4
            refine lv_goto (tgt := 63) hx hb dX2_reachedAfter_36 (by decide) ?_
            exact jn63 (bt a q) (by rw [if_pos c27]) _ (lv_sub hl [0, 1, 2, 3, 4] rfl)
    exact lp15 _ 0 y (Nat.lt_succ_self _) (Nat.zero_le _) (by rw [e11]; exact raI_0) _ (lv_sub hl [0, 1, 2, 3, 4] rfl)
  refine lv_icmp_ne (tgt := 10) hx hb dX2_reachedAfter_3 (by decide) (fun c3 => ?_) (fun c3 => ?_)
  · refine lv_iconst (v := (nI 0)) hx hb dX2_reachedAfter_10 rfl ?_
    exact jn11 (nI 0) (by first | rw [if_pos c3] | rw [if_neg c3]) _ (lv_sub hl [0, 1, 2] rfl)
  · refine lv_iload_n hx hb dX2_reachedAfter_6 rfl (lv_at hl 2 rfl) ?_
    refine lv_goto (tgt := 11) hx hb dX2_reachedAfter_7 (by decide) ?_
    exact jn11 x (by first | rw [if_pos c3] | rw [if_neg c3]) _ (lv_sub hl [0, 1, 2] rfl)

set_option maxHeartbeats 4000000 in
set_option maxRecDepth 100000 in
theorem kX2_fitsName (l : Launch) (D : va_G) (y3 : ClassId × ClassId × ClassId) (b0 : Nat) (b1 : Nat) (b2 : Nat) (b3 : Nat) (b4 : Nat) (b5 : Nat) (b6 : Nat) (b7 : Nat) (nl : Nat) (np : Nat) (nt : Nat) (lt : Nat → Int32) (ln : Nat → Nat) (tk : Nat → Int32) (j : Nat) (hj : j < 20) (hnl : nl ≤ 12) (hln : ∀ q : Nat, ln q ≤ 8) : rdM l yX2_fitsName wsX2_fitsName 2 47 D y3 [(b0, .inr (2, [.ref b1, .int (nI nl), .ref b2, .ref b3, .ref b4, .ref b5, .ref b6, .int (nI np), .int (nI nt), .ref b7])), (b1, .inl (y3.1, 12, .inl lt)), (b4, .inl (y3.1, 20, .inl (fN ln))), (b6, .inl (y3.1, 160, .inl tk))] [.ref b0, .int (nI j)] (fun r => r = (bI (fitB lt nl tk ln j))) := by
  refine rz_of (cc := cX2_fitsName) (maxL := 5) (by decide) rfl (Nat.le_of_ble_eq_true rfl) ?_
  intro p e s m args below meth c Q hx hb hml hown hts hP hK hret ls hl
  replace hl : lv_has ls 5 [(0, .ref b0), (1, .int (nI j))] := hl
  have q1 := hln j
  have hf15 := hts (.fieldLink RX2 15 "KindGuesser$NameSide" "letterCount" "I") (by decide +kernel)
  have hf25 := hts (.fieldLink RX2 25 "KindGuesser$NameSide" "lengths" "[I") (by decide +kernel)
  have hf32 := hts (.fieldLink RX2 32 "KindGuesser$NameSide" "tokenRows" "[I") (by decide +kernel)
  have hiX2 : ∀ q ∈ wsX20, q ∈ wsX2_fitsName := by decide +kernel
  refine lv_iload_n hx hb dX2_fitsName_0 rfl (lv_at hl 1 rfl) ?_
  refine lv_bipush (v := (nI 8)) hx hb dX2_fitsName_1 rfl ?_
  refine ln_imul (n := j * 8) hx hb (by omega) dX2_fitsName_3 ?_
  refine lv_istore_n (lv' := [(2, .int (nI (j * 8))), (0, .ref b0), (1, .int (nI j))]) hx hb dX2_fitsName_4 rfl hl (by decide) rfl (fun ls hl => ?_)
  refine lv_iconst (v := (nI 1)) hx hb dX2_fitsName_5 rfl ?_
  refine lv_istore_n (lv' := [(3, .int (nI 1)), (2, .int (nI (j * 8))), (0, .ref b0), (1, .int (nI j))]) hx hb dX2_fitsName_6 rfl hl (by decide) rfl (fun ls hl => ?_)
  refine lv_iconst (v := (nI 0)) hx hb dX2_fitsName_7 rfl ?_
  refine lv_istore (lv' := [(4, .int (nI 0)), (3, .int (nI 1)), (2, .int (nI (j * 8))), (0, .ref b0), (1, .int (nI j))]) hx hb dX2_fitsName_8 hl (by decide) rfl (fun ls hl => ?_)
  have lp10 : ∀ (n1 : Nat) (k : Nat) (x : Int32), ln j - k < n1 → (k ≤ ln j) → (∀ i : Nat, i ≤ nl → bt x i = rchB lt tk (j * 8) k i) → ∀ ls : Array Slot, lv_has ls 5 [(4, .int (nI k)), (3, .int x), (2, .int (nI (j * 8))), (0, .ref b0), (1, .int (nI j))] → W p l e (rmO 2 0 0 47) s m args below meth c s.heap [] 0 0 Q (F0 m 10 ls []) := by
    intro n1
    induction n1 with
    | zero => intro k x hm; exact absurd hm (Nat.not_lt_zero _)
    | succ n1 ih10 =>
      intro k x hm10 h1 h2 ls hl
      refine lv_iload hx hb dX2_fitsName_10 (lv_at hl 0 rfl) ?_
      refine lv_aload_n hx hb dX2_fitsName_12 rfl (lv_at hl 3 rfl) ?_
      refine va_get (D := D) (ci := 2) (v := .ref b4) (C := RX2) (T := TX2) (N := 10) hx hb hts hiX2 hown hK hP 0 rfl rfl 4 (by decide) hf25 (fun _ h9 => h9) rfl dX2_fitsName_13 ?_
      refine lv_iload_n hx hb dX2_fitsName_16 rfl (lv_at hl 4 rfl) ?_
      refine ln_ialdN hx hb hK hP 2 0 rfl rfl (by omega) (by decide) dX2_fitsName_17 ?_
      refine ln_icmp_ge (tgt := 42) hx hb (by omega) (by omega) dX2_fitsName_18 (by decide) (fun c18 => ?_) (fun c18 => ?_)
      · refine lv_iload_n hx hb dX2_fitsName_42 rfl (lv_at hl 1 rfl) ?_
        refine lv_aload_n hx hb dX2_fitsName_43 rfl (lv_at hl 3 rfl) ?_
        refine va_get (D := D) (ci := 2) (v := .int (nI nl)) (C := RX2) (T := TX2) (N := 10) hx hb hts hiX2 hown hK hP 0 rfl rfl 1 (by decide) hf15 (fun _ h9 => h9) rfl dX2_fitsName_44 ?_
        refine rd_S (own := RX2) (As := [.int x, .int (nI nl)]) (rest := []) (bytes := cX2_isReached) (maxL := 2) ⟨hx, hb, hml, hown, hts⟩ (kX2_isReached l D y3 x nl (by omega)) gX2_fitsName_X2_isReached rfl hvX2_isReached ⟨Nat.le_of_ble_eq_true rfl, Nat.le_of_ble_eq_true rfl⟩ hP hK [] rfl  hl.1 rfl (Nat.le_of_ble_eq_true rfl) dX2_fitsName_47 ⟨Nat.zero_le _, Nat.zero_le _⟩ (fun r2 hr2 => ?_)
        subst hr2
        exact hret 50 ls _ (by rw [h2 nl (Nat.le_refl _), show k = ln j from by omega]; rfl) dX2_fitsName_50
      · refine lv_aload_n hx hb dX2_fitsName_21 rfl (lv_at hl 3 rfl) ?_
        refine lv_aload_n hx hb dX2_fitsName_22 rfl (lv_at hl 3 rfl) ?_
        refine va_get (D := D) (ci := 2) (v := .ref b6) (C := RX2) (T := TX2) (N := 10) hx hb hts hiX2 hown hK hP 0 rfl rfl 6 (by decide) hf32 (fun _ h9 => h9) rfl dX2_fitsName_23 ?_
        refine lv_iload_n hx hb dX2_fitsName_26 rfl (lv_at hl 2 rfl) ?_
        refine lv_iload hx hb dX2_fitsName_27 (lv_at hl 0 rfl) ?_
        refine ln_iadd (n := (j * 8) + k) hx hb (by omega) dX2_fitsName_29 ?_
        refine ln_iald hx hb hK hP 3 0 rfl rfl (by omega) (by decide) dX2_fitsName_30 ?_
        refine lv_iload_n hx hb dX2_fitsName_31 rfl (lv_at hl 1 rfl) ?_
        refine rd_V (ci := 2) (q0 := 0) (own := RX2) (As := [.int (tk ((j * 8) + k)), .int x]) (rest := []) (bytes := cX2_reachedAfter) (maxL := 6) ⟨hx, hb, hml, hown, hts⟩ (kX2_reachedAfter l D y3 b0 b1 b2 b3 b4 b5 b6 b7 nl np nt lt (tk ((j * 8) + k)) x (by omega)) gX2_fitsName_X2_reachedAfter rfl hvX2_reachedAfter ⟨Nat.le_of_ble_eq_true rfl, Nat.le_of_ble_eq_true rfl⟩ hP hK [0, 1] rfl rfl rfl hl.1 rfl (Nat.le_of_ble_eq_true rfl) dX2_fitsName_32 ⟨Nat.zero_le _, Nat.zero_le _⟩ (fun r32 hr32 => ?_)
        refine lv_istore_n (lv' := [(3, .int r32), (4, .int (nI k)), (2, .int (nI (j * 8))), (0, .ref b0), (1, .int (nI j))]) hx hb dX2_fitsName_35 rfl hl (by decide) rfl (fun ls hl => ?_)
        refine lv_iinc (v := (nI (k + 1))) (lv' := [(4, .int (nI (k + 1))), (3, .int r32), (2, .int (nI (j * 8))), (0, .ref b0), (1, .int (nI j))]) hx hb dX2_fitsName_36 hl (k := 1) rfl (nI_add _ _) (by decide) rfl (fun ls hl => ?_)
        refine lv_goto (tgt := 10) hx hb dX2_fitsName_39 (by decide) ?_
        exact ih10 (k + 1) r32 (by omega) (by omega) (fun i hi => (hr32 i hi).trans (stpB_congr (fun q hq => h2 q (by omega)))) _ (lv_sub hl [0, 1, 2, 3, 4] rfl)
  exact lp10 _ 0 (nI 1) (Nat.lt_succ_self _) (Nat.zero_le _) (fun i hi => b_one i (by omega)) _ (lv_sub hl [0, 1, 2, 3, 4] rfl)

set_option maxHeartbeats 4000000 in
set_option maxRecDepth 100000 in
theorem kX2_isOf (l : Launch) (D : va_G) (y3 : ClassId × ClassId × ClassId) (b0 : Nat) (b1 : Nat) (b2 : Nat) (b3 : Nat) (b4 : Nat) (b5 : Nat) (b6 : Nat) (b7 : Nat) (nl : Nat) (np : Nat) (nt : Nat) (a0 : Nat) (a1 : Nat) (nk : Nat) (par : Nat → Int32) (kp : Nat → Nat) (j : Nat) (g : Int32) (hj : j < 20) (hkj : kp j < nk) (hk : nk ≤ 14) (hp : parOK par nk) : rdM l yX2_isOf wsX2_isOf 3 66 D y3 [(b0, .inr (2, [.ref b1, .int (nI nl), .ref b2, .ref b3, .ref b4, .ref b5, .ref b6, .int (nI np), .int (nI nt), .ref b7])), (b2, .inl (y3.1, 20, .inl (fN kp))), (a0, .inr (1, [.ref a1, .int (nI nk)])), (a1, .inl (y3.1, 14, .inl par))] [.ref b0, .ref a0, .int (nI j), .int g] (fun r => r = (bI (isO par kp g j))) := by
  refine rz_of (cc := cX2_isOf) (maxL := 4) (by decide) rfl (Nat.le_of_ble_eq_true rfl) ?_
  intro p e s m args below meth c Q hx hb hml hown hts hP hK hret ls hl
  replace hl : lv_has ls 4 [(0, .ref b0), (1, .ref a0), (2, .int (nI j)), (3, .int g)] := hl
  have hf19 := hts (.fieldLink RX2 19 "KindGuesser$NameSide" "kindsOfPatterns" "[I") (by decide +kernel)
  have hiX2 : ∀ q ∈ wsX20, q ∈ wsX2_isOf := by decide +kernel
  refine lv_iload_n hx hb dX2_isOf_0 rfl (lv_at hl 3 rfl) ?_
  refine lv_iconst (v := (-1)) hx hb dX2_isOf_1 rfl ?_
  refine lv_icmp_eq (tgt := 19) hx hb dX2_isOf_2 (by decide) (fun c2 => ?_) (fun c2 => ?_)
  · refine lv_iconst (v := (nI 1)) hx hb dX2_isOf_19 rfl ?_
    refine lv_goto (tgt := 24) hx hb dX2_isOf_20 (by decide) ?_
    exact hret 24 ls _ (bI_t (by unfold isO; first | (rw [decide_eq_true c2]; rfl) | (rw [c16, Bool.or_true]))) dX2_isOf_24
  · refine lv_aload_n hx hb dX2_isOf_5 rfl (lv_at hl 1 rfl) ?_
    refine lv_aload_n hx hb dX2_isOf_6 rfl (lv_at hl 0 rfl) ?_
    refine va_get (D := D) (ci := 2) (v := .ref b2) (C := RX2) (T := TX2) (N := 10) hx hb hts hiX2 hown hK hP 0 rfl rfl 2 (by decide) hf19 (fun _ h9 => h9) rfl dX2_isOf_7 ?_
    refine lv_iload_n hx hb dX2_isOf_10 rfl (lv_at hl 2 rfl) ?_
    refine ln_ialdN hx hb hK hP 1 0 rfl rfl (by omega) (by decide) dX2_isOf_11 ?_
    refine lv_iload_n hx hb dX2_isOf_12 rfl (lv_at hl 3 rfl) ?_
    refine rd_V (ci := 1) (q0 := 0) (own := RX2) (As := [.int (nI (kp j)), .int g]) (rest := []) (bytes := cX1_leadsUp) (maxL := 5) ⟨hx, hb, hml, hown, hts⟩ (kX1_leadsUp l D y3 a0 a1 nk par (kp j) g (by omega) (by assumption) (by omega)) gX2_isOf_X1_leadsUp rfl hvX1_leadsUp ⟨Nat.le_of_ble_eq_true rfl, Nat.le_of_ble_eq_true rfl⟩ hP hK [2, 3] rfl rfl rfl hl.1 rfl (Nat.le_of_ble_eq_true rfl) dX2_isOf_13 ⟨Nat.zero_le _, Nat.zero_le _⟩ (fun r1 hr1 => ?_)
    subst hr1
    refine lb_if_eq (tgt := 23) hx hb dX2_isOf_16 (by decide) (fun c16 => ?_) (fun c16 => ?_)
    · refine lv_iconst (v := (nI 0)) hx hb dX2_isOf_23 rfl ?_
      exact hret 24 ls _ (bI_f (by unfold isO; rw [decide_eq_false c2, c16]; rfl)) dX2_isOf_24
    · refine lv_iconst (v := (nI 1)) hx hb dX2_isOf_19 rfl ?_
      refine lv_goto (tgt := 24) hx hb dX2_isOf_20 (by decide) ?_
      exact hret 24 ls _ (bI_t (by unfold isO; first | (rw [decide_eq_true c2]; rfl) | (rw [c16, Bool.or_true]))) dX2_isOf_24

set_option maxHeartbeats 4000000 in
set_option maxRecDepth 100000 in
theorem kX2_firstFitting (l : Launch) (D : va_G) (y3 : ClassId × ClassId × ClassId) (b0 : Nat) (b1 : Nat) (b2 : Nat) (b3 : Nat) (b4 : Nat) (b5 : Nat) (b6 : Nat) (b7 : Nat) (nl : Nat) (np : Nat) (nt : Nat) (a0 : Nat) (a1 : Nat) (nk : Nat) (par : Nat → Int32) (lt : Nat → Int32) (kp : Nat → Nat) (wt : Nat → Int32) (ln : Nat → Nat) (th : Nat → Bool) (tk : Nat → Int32) (g : Int32) (hnp : np ≤ 20) (hnl : nl ≤ 12) (hk : nk ≤ 14) (hp : parOK par nk) (hkp : ∀ q : Nat, q < np → kp q < nk) (hln : ∀ q : Nat, ln q ≤ 8) : rdM l yX2_firstFitting wsX2_firstFitting 4 89 D y3 [(b0, .inr (2, [.ref b1, .int (nI nl), .ref b2, .ref b3, .ref b4, .ref b5, .ref b6, .int (nI np), .int (nI nt), .ref b7])), (b1, .inl (y3.1, 12, .inl lt)), (b2, .inl (y3.1, 20, .inl (fN kp))), (b3, .inl (y3.1, 20, .inl wt)), (b4, .inl (y3.1, 20, .inl (fN ln))), (b5, .inl (y3.2.1, 20, .inl (fB th))), (b6, .inl (y3.1, 160, .inl tk)), (a0, .inr (1, [.ref a1, .int (nI nk)])), (a1, .inl (y3.1, 14, .inl par))] [.ref b0, .ref a0, .int g] (fun r => r = (oI (bstB (cnP par kp th lt nl tk ln g) (ahP wt ln) np))) := by
  refine rd_of (cc := cX2_firstFitting) (maxL := 6) (by decide) rfl (Nat.le_of_ble_eq_true rfl) ?_
  intro p e s m args below meth c Q hx hb hml hown hts hP hK hret ls hl
  replace hl : lv_has ls 6 [(0, .ref b0), (1, .ref a0), (2, .int g)] := hl
  have hf28 := hts (.fieldLink RX2 28 "KindGuesser$NameSide" "there" "[Z") (by decide +kernel)
  have hf35 := hts (.fieldLink RX2 35 "KindGuesser$NameSide" "patternCount" "I") (by decide +kernel)
  have hiX2 : ∀ q ∈ wsX20, q ∈ wsX2_firstFitting := by decide +kernel
  refine lv_iconst (v := (-1)) hx hb dX2_firstFitting_0 rfl ?_
  refine lv_istore_n (lv' := [(3, .int (-1)), (0, .ref b0), (1, .ref a0), (2, .int g)]) hx hb dX2_firstFitting_1 rfl hl (by decide) rfl (fun ls hl => ?_)
  refine lv_iconst (v := (nI 0)) hx hb dX2_firstFitting_2 rfl ?_
  refine lv_istore (lv' := [(4, .int (nI 0)), (3, .int (-1)), (0, .ref b0), (1, .ref a0), (2, .int g)]) hx hb dX2_firstFitting_3 hl (by decide) rfl (fun ls hl => ?_)
  have lp5 : ∀ (n1 : Nat) (k : Nat) (o : Option Nat), np - k < n1 → (k ≤ np) → (o = bstB (cnP par kp th lt nl tk ln g) (ahP wt ln) k) → ∀ ls : Array Slot, lv_has ls 6 [(4, .int (nI k)), (3, .int (oI o)), (0, .ref b0), (1, .ref a0), (2, .int g)] → W p l e (rmO 4 0 0 89) s m args below meth c s.heap [] 0 0 Q (F0 m 5 ls []) := by
    intro n1
    induction n1 with
    | zero => intro k o hm; exact absurd hm (Nat.not_lt_zero _)
    | succ n1 ih5 =>
      intro k o hm5 h1 h2 ls hl
      have hob : ∀ b, o = some b → b < 2 ^ 31 := fun b hb => by have := (bstB_lt (h2.symm.trans hb)).1; omega
      refine lv_iload hx hb dX2_firstFitting_5 (lv_at hl 0 rfl) ?_
      refine lv_aload_n hx hb dX2_firstFitting_7 rfl (lv_at hl 2 rfl) ?_
      refine va_get (D := D) (ci := 2) (v := .int (nI np)) (C := RX2) (T := TX2) (N := 10) hx hb hts hiX2 hown hK hP 0 rfl rfl 7 (by decide) hf35 (fun _ h9 => h9) rfl dX2_firstFitting_8 ?_
      refine ln_icmp_ge (tgt := 80) hx hb (by omega) (by omega) dX2_firstFitting_11 (by decide) (fun c11 => ?_) (fun c11 => ?_)
      · refine lv_iload_n hx hb dX2_firstFitting_80 rfl (lv_at hl 1 rfl) ?_
        exact hret 81 ls _ (by rw [h2, show k = np from by omega]) dX2_firstFitting_81
      · have jn44 : ∀ (g1 : Bool), (g1 = (th k && ahO (ahP wt ln) k o)) → ∀ ls : Array Slot, lv_has ls 6 [(4, .int (nI k)), (3, .int (oI o)), (0, .ref b0), (1, .ref a0), (2, .int g)] → W p l e (rmO 4 0 0 89) s m args below meth c s.heap [] 0 0 Q (F0 m 44 ls [.int (bI g1)]) := by
          intro g1 hg ls hl
          refine lv_istore (lv' := [(5, .int (bI g1)), (4, .int (nI k)), (3, .int (oI o)), (0, .ref b0), (1, .ref a0), (2, .int g)]) hx hb dX2_firstFitting_44 hl (by decide) rfl (fun ls hl => ?_)
          refine lv_iload hx hb dX2_firstFitting_46 (lv_at hl 0 rfl) ?_
          refine lb_if_eq (tgt := 74) hx hb dX2_firstFitting_48 (by decide) (fun c48 => ?_) (fun c48 => ?_)
          · refine lv_iinc (v := (nI (k + 1))) (lv' := [(4, .int (nI (k + 1))), (5, .int (bI g1)), (3, .int (oI o)), (0, .ref b0), (1, .ref a0), (2, .int g)]) hx hb dX2_firstFitting_74 hl (k := 1) rfl (nI_add _ _) (by decide) rfl (fun ls hl => ?_)
            refine lv_goto (tgt := 5) hx hb dX2_firstFitting_77 (by decide) ?_
            exact ih5 (k + 1) o (by omega) (by omega) (bstB_no h2 (by first | exact ff_no (hg.symm.trans c48) | exact Or.inr (cnP_n1 c59) | exact Or.inr (cnP_n2 c68))) _ (lv_sub hl [0, 2, 3, 4, 5] rfl)
          · refine lv_aload_n hx hb dX2_firstFitting_51 rfl (lv_at hl 3 rfl) ?_
            refine lv_aload_n hx hb dX2_firstFitting_52 rfl (lv_at hl 4 rfl) ?_
            refine lv_iload hx hb dX2_firstFitting_53 (lv_at hl 1 rfl) ?_
            refine lv_iload_n hx hb dX2_firstFitting_55 rfl (lv_at hl 5 rfl) ?_
            refine rd_V (ci := 2) (q0 := 0) (own := RX2) (As := [.ref a0, .int (nI k), .int g]) (rest := []) (bytes := cX2_isOf) (maxL := 4) ⟨hx, hb, hml, hown, hts⟩ (kX2_isOf l D y3 b0 b1 b2 b3 b4 b5 b6 b7 nl np nt a0 a1 nk par kp k g (by omega) (hkp k (by omega)) (by omega) (by assumption)) gX2_firstFitting_X2_isOf rfl hvX2_isOf ⟨Nat.le_of_ble_eq_true rfl, Nat.le_of_ble_eq_true rfl⟩ hP hK [0, 2, 7, 8] rfl rfl rfl hl.1 rfl (Nat.le_of_ble_eq_true rfl) dX2_firstFitting_56 ⟨Nat.zero_le _, Nat.zero_le _⟩ (fun r2 hr2 => ?_)
            subst hr2
            refine lb_if_eq (tgt := 74) hx hb dX2_firstFitting_59 (by decide) (fun c59 => ?_) (fun c59 => ?_)
            · refine lv_iinc (v := (nI (k + 1))) (lv' := [(4, .int (nI (k + 1))), (5, .int (bI g1)), (3, .int (oI o)), (0, .ref b0), (1, .ref a0), (2, .int g)]) hx hb dX2_firstFitting_74 hl (k := 1) rfl (nI_add _ _) (by decide) rfl (fun ls hl => ?_)
              refine lv_goto (tgt := 5) hx hb dX2_firstFitting_77 (by decide) ?_
              exact ih5 (k + 1) o (by omega) (by omega) (bstB_no h2 (by first | exact ff_no (hg.symm.trans c48) | exact Or.inr (cnP_n1 c59) | exact Or.inr (cnP_n2 c68))) _ (lv_sub hl [0, 2, 3, 4, 5] rfl)
            · refine lv_aload_n hx hb dX2_firstFitting_62 rfl (lv_at hl 3 rfl) ?_
              refine lv_iload hx hb dX2_firstFitting_63 (lv_at hl 1 rfl) ?_
              refine rd_V (ci := 2) (q0 := 0) (own := RX2) (As := [.int (nI k)]) (rest := []) (bytes := cX2_fitsName) (maxL := 5) ⟨hx, hb, hml, hown, hts⟩ (kX2_fitsName l D y3 b0 b1 b2 b3 b4 b5 b6 b7 nl np nt lt ln tk k (by omega) (by omega) (by assumption)) gX2_firstFitting_X2_fitsName rfl hvX2_fitsName ⟨Nat.le_of_ble_eq_true rfl, Nat.le_of_ble_eq_true rfl⟩ hP hK [0, 1, 4, 6] rfl rfl rfl hl.1 rfl (Nat.le_of_ble_eq_true rfl) dX2_firstFitting_65 ⟨Nat.zero_le _, Nat.zero_le _⟩ (fun r3 hr3 => ?_)
              subst hr3
              refine lb_if_eq (tgt := 74) hx hb dX2_firstFitting_68 (by decide) (fun c68 => ?_) (fun c68 => ?_)
              · refine lv_iinc (v := (nI (k + 1))) (lv' := [(4, .int (nI (k + 1))), (5, .int (bI g1)), (3, .int (oI o)), (0, .ref b0), (1, .ref a0), (2, .int g)]) hx hb dX2_firstFitting_74 hl (k := 1) rfl (nI_add _ _) (by decide) rfl (fun ls hl => ?_)
                refine lv_goto (tgt := 5) hx hb dX2_firstFitting_77 (by decide) ?_
                exact ih5 (k + 1) o (by omega) (by omega) (bstB_no h2 (by first | exact ff_no (hg.symm.trans c48) | exact Or.inr (cnP_n1 c59) | exact Or.inr (cnP_n2 c68))) _ (lv_sub hl [0, 2, 3, 4, 5] rfl)
              · refine lv_iload hx hb dX2_firstFitting_71 (lv_at hl 1 rfl) ?_
                refine lv_istore_n (lv' := [(3, .int (nI k)), (5, .int (bI g1)), (4, .int (nI k)), (0, .ref b0), (1, .ref a0), (2, .int g)]) hx hb dX2_firstFitting_73 rfl hl (by decide) rfl (fun ls hl => ?_)
                refine lv_iinc (v := (nI (k + 1))) (lv' := [(4, .int (nI (k + 1))), (3, .int (nI k)), (5, .int (bI g1)), (0, .ref b0), (1, .ref a0), (2, .int g)]) hx hb dX2_firstFitting_74 hl (k := 2) rfl (nI_add _ _) (by decide) rfl (fun ls hl => ?_)
                refine lv_goto (tgt := 5) hx hb dX2_firstFitting_77 (by decide) ?_
                exact ih5 (k + 1) (some k) (by omega) (by omega) (by have h9 := hg.symm.trans c48; rw [Bool.and_eq_true_iff] at h9; exact bstB_yes h2 h9.2 (by unfold cnP; rw [h9.1, c59, c68]; rfl)) _ (lv_sub hl [0, 1, 3, 4, 5] rfl)
        refine lv_aload_n hx hb dX2_firstFitting_14 rfl (lv_at hl 2 rfl) ?_
        refine va_get (D := D) (ci := 2) (v := .ref b5) (C := RX2) (T := TX2) (N := 10) hx hb hts hiX2 hown hK hP 0 rfl rfl 5 (by decide) hf28 (fun _ h9 => h9) rfl dX2_firstFitting_15 ?_
        refine lv_iload hx hb dX2_firstFitting_18 (lv_at hl 0 rfl) ?_
        refine ln_zaldB hx hb hK hP 5 1 rfl rfl (by omega) (by decide) dX2_firstFitting_20 ?_
        refine lb_if_eq (tgt := 43) hx hb dX2_firstFitting_21 (by decide) (fun c21 => ?_) (fun c21 => ?_)
        · refine lv_iconst (v := (nI 0)) hx hb dX2_firstFitting_43 rfl ?_
          exact jn44 false (by first | (rw [c21]; rfl) | (rw [c21, eb]; show false = (true && ahP wt ln k b); rw [c36]; rfl)) _ (lv_sub hl [0, 1, 2, 3, 4] rfl)
        · refine lv_iload_n hx hb dX2_firstFitting_24 rfl (lv_at hl 1 rfl) ?_
          refine lv_iconst (v := (-1)) hx hb dX2_firstFitting_25 rfl ?_
          refine lv_icmp_eq (tgt := 39) hx hb dX2_firstFitting_26 (by decide) (fun c26 => ?_) (fun c26 => ?_)
          · refine lv_iconst (v := (nI 1)) hx hb dX2_firstFitting_39 rfl ?_
            refine lv_goto (tgt := 44) hx hb dX2_firstFitting_40 (by decide) ?_
            exact jn44 true (by first | (rw [c21, oI_none hob c26]; rfl) | (rw [c21, eb]; show true = (true && ahP wt ln k b); rw [c36]; rfl)) _ (lv_sub hl [0, 1, 2, 3, 4] rfl)
          · refine lv_aload_n hx hb dX2_firstFitting_29 rfl (lv_at hl 2 rfl) ?_
            refine lv_iload hx hb dX2_firstFitting_30 (lv_at hl 0 rfl) ?_
            refine lv_iload_n hx hb dX2_firstFitting_32 rfl (lv_at hl 1 rfl) ?_
            obtain ⟨b, eb⟩ := oI_some c26
            have hbl := (bstB_lt (h2.symm.trans eb)).1
            refine ln_eqi (y := (nI b)) (by rw [eb]; rfl) ?_
            refine rd_V (ci := 2) (q0 := 0) (own := RX2) (As := [.int (nI k), .int (nI b)]) (rest := []) (bytes := cX2_isAhead) (maxL := 3) ⟨hx, hb, hml, hown, hts⟩ (kX2_isAhead l D y3 b0 b1 b2 b3 b4 b5 b6 b7 nl np nt wt ln k b (by omega) (by omega) (by assumption)) gX2_firstFitting_X2_isAhead rfl hvX2_isAhead ⟨Nat.le_of_ble_eq_true rfl, Nat.le_of_ble_eq_true rfl⟩ hP hK [0, 3, 4] rfl rfl rfl hl.1 rfl (Nat.le_of_ble_eq_true rfl) dX2_firstFitting_33 ⟨Nat.zero_le _, Nat.zero_le _⟩ (fun r4 hr4 => ?_)
            subst hr4
            refine lb_if_eq (tgt := 43) hx hb dX2_firstFitting_36 (by decide) (fun c36 => ?_) (fun c36 => ?_)
            · refine lv_iconst (v := (nI 0)) hx hb dX2_firstFitting_43 rfl ?_
              exact jn44 false (by first | (rw [c21]; rfl) | (rw [c21, eb]; show false = (true && ahP wt ln k b); rw [c36]; rfl)) _ (lv_sub hl [0, 1, 2, 3, 4] rfl)
            · refine lv_iconst (v := (nI 1)) hx hb dX2_firstFitting_39 rfl ?_
              refine lv_goto (tgt := 44) hx hb dX2_firstFitting_40 (by decide) ?_
              exact jn44 true (by first | (rw [c21, oI_none hob c26]; rfl) | (rw [c21, eb]; show true = (true && ahP wt ln k b); rw [c36]; rfl)) _ (lv_sub hl [0, 1, 2, 3, 4] rfl)
  exact lp5 _ 0 none (Nat.lt_succ_self _) (Nat.zero_le _) rfl _ (lv_sub hl [0, 1, 2, 3, 4] rfl)

set_option maxHeartbeats 4000000 in
set_option maxRecDepth 100000 in
theorem kX2_fillLine (l : Launch) (D : va_G) (y3 : ClassId × ClassId × ClassId) (b0 : Nat) (b1 : Nat) (b2 : Nat) (b3 : Nat) (b4 : Nat) (b5 : Nat) (b6 : Nat) (b7 : Nat) (nl : Nat) (np : Nat) (nt : Nat) (lt : Nat → Int32) (tb : Nat → Bool) (t : Nat) (tok : Int32) (ht : 1 ≤ t) (ht2 : t ≤ 8) (hnl : nl ≤ 12) : wvM l yX2_fillLine wsX2_fillLine 1 22 0 0 D y3 [(b0, .inr (2, [.ref b1, .int (nI nl), .ref b2, .ref b3, .ref b4, .ref b5, .ref b6, .int (nI np), .int (nI nt), .ref b7])), (b1, .inl (y3.1, 12, .inl lt)), (b7, .inl (y3.2.1, 117, .inl (fB tb)))] [.ref b0, .int (nI t), .int tok] (fun u : Nat → Bool => flP lt nl tok tb t u) (fun (u : Nat → Bool) => [(b0, .inr (2, [.ref b1, .int (nI nl), .ref b2, .ref b3, .ref b4, .ref b5, .ref b6, .int (nI np), .int (nI nt), .ref b7])), (b1, .inl (y3.1, 12, .inl lt)), (b7, .inl (y3.2.1, 117, .inl (fB u)))]) := by
  refine wv_of (cc := cX2_fillLine) (maxL := 6) (by decide) rfl (Nat.le_of_ble_eq_true rfl) ?_
  intro p e s m args below meth c A Q hx hb hml hown hts hP hK hD hA hS hin hret ls hl
  replace hl : lv_has ls 6 [(0, .ref b0), (1, .int (nI t)), (2, .int tok)] := hl
  have hf15 := hts (.fieldLink RX2 15 "KindGuesser$NameSide" "letterCount" "I") (by decide +kernel)
  have hf41 := hts (.fieldLink RX2 41 "KindGuesser$NameSide" "table" "[Z") (by decide +kernel)
  have hiX2 : ∀ q ∈ wsX20, q ∈ wsX2_fillLine := by decide +kernel
  refine lv_iload_n hx hb dX2_fillLine_0 rfl (lv_at hl 1 rfl) ?_
  refine lv_bipush (v := (nI 13)) hx hb dX2_fillLine_1 rfl ?_
  refine ln_imul (n := t * 13) hx hb (by omega) dX2_fillLine_3 ?_
  refine lv_istore_n (lv' := [(3, .int (nI (t * 13))), (0, .ref b0), (1, .int (nI t)), (2, .int tok)]) hx hb dX2_fillLine_4 rfl hl (by decide) rfl (fun ls hl => ?_)
  refine lv_iload_n hx hb dX2_fillLine_5 rfl (lv_at hl 0 rfl) ?_
  refine lv_bipush (v := (nI 13)) hx hb dX2_fillLine_6 rfl ?_
  refine ln_isub (n := (t * 13) - 13) hx hb (by omega) (by omega) dX2_fillLine_8 ?_
  refine lv_istore (lv' := [(4, .int (nI ((t * 13) - 13))), (3, .int (nI (t * 13))), (0, .ref b0), (1, .int (nI t)), (2, .int tok)]) hx hb dX2_fillLine_9 hl (by decide) rfl (fun ls hl => ?_)
  have jn37 : ∀ (g0 : Bool), (g0 = (decide (tok = nI 10) && tb (t * 13 - 13))) → ∀ (H : Heap) (locs : List Loc), va_P D vwCl [(b0, .inr (2, [.ref b1, .int (nI nl), .ref b2, .ref b3, .ref b4, .ref b5, .ref b6, .int (nI np), .int (nI nt), .ref b7])), (b1, .inl (y3.1, 12, .inl lt)), (b7, .inl (y3.2.1, 117, .inl (fB tb)))] H → va_D A [(b0, .inr (2, [.ref b1, .int (nI nl), .ref b2, .ref b3, .ref b4, .ref b5, .ref b6, .int (nI np), .int (nI nt), .ref b7])), (b1, .inl (y3.1, 12, .inl lt)), (b7, .inl (y3.2.1, 117, .inl (fB tb)))] → va_S A s.heap H locs → ∀ ls : Array Slot, lv_has ls 6 [(4, .int (nI ((t * 13) - 13))), (3, .int (nI (t * 13))), (0, .ref b0), (1, .int (nI t)), (2, .int tok)] → W p l e (rmO 1 0 0 22) s m args below meth c H locs 0 0 Q (F0 m 37 ls [.int (bI g0), .int (nI (t * 13)), .ref b7]) := by
    intro g0 hg0 H locs hP hD hS ls hl
    refine ln_zastB (b := g0) hx hb hK hP hD hS 2 1 rfl rfl (by omega) (by decide) dX2_fillLine_37 _ rfl (fun H locs hP hD hS => ?_)
    have hP : va_P D vwCl [(b0, .inr (2, [.ref b1, .int (nI nl), .ref b2, .ref b3, .ref b4, .ref b5, .ref b6, .int (nI np), .int (nI nt), .ref b7])), (b1, .inl (y3.1, 12, .inl lt)), (b7, .inl (y3.2.1, 117, .inl (fB (va_up tb (t * 13) g0))))] H := hP
    have hD : va_D A [(b0, .inr (2, [.ref b1, .int (nI nl), .ref b2, .ref b3, .ref b4, .ref b5, .ref b6, .int (nI np), .int (nI nt), .ref b7])), (b1, .inl (y3.1, 12, .inl lt)), (b7, .inl (y3.2.1, 117, .inl (fB (va_up tb (t * 13) g0))))] := hD
    refine lv_iconst (v := (nI 1)) hx hb dX2_fillLine_38 rfl ?_
    refine lv_istore (lv' := [(5, .int (nI 1)), (4, .int (nI ((t * 13) - 13))), (3, .int (nI (t * 13))), (0, .ref b0), (1, .int (nI t)), (2, .int tok)]) hx hb dX2_fillLine_39 hl (by decide) rfl (fun ls hl => ?_)
    have lp41 : ∀ (n1 : Nat) (cl : Nat) (v : Nat → Bool), nl + 1 - cl < n1 → (1 ≤ cl) → (cl ≤ nl + 1) → (∀ q : Nat, (q < t * 13 ∨ t * 13 + cl ≤ q) → v q = tb q) → (∀ i : Nat, i < cl → v (t * 13 + i) = stpB lt tok (fun i => tb (t * 13 - 13 + i)) i) → ∀ (H : Heap) (locs : List Loc), va_P D vwCl [(b0, .inr (2, [.ref b1, .int (nI nl), .ref b2, .ref b3, .ref b4, .ref b5, .ref b6, .int (nI np), .int (nI nt), .ref b7])), (b1, .inl (y3.1, 12, .inl lt)), (b7, .inl (y3.2.1, 117, .inl (fB v)))] H → va_D A [(b0, .inr (2, [.ref b1, .int (nI nl), .ref b2, .ref b3, .ref b4, .ref b5, .ref b6, .int (nI np), .int (nI nt), .ref b7])), (b1, .inl (y3.1, 12, .inl lt)), (b7, .inl (y3.2.1, 117, .inl (fB v)))] → va_S A s.heap H locs → ∀ ls : Array Slot, lv_has ls 6 [(5, .int (nI cl)), (4, .int (nI ((t * 13) - 13))), (3, .int (nI (t * 13))), (0, .ref b0), (1, .int (nI t)), (2, .int tok)] → W p l e (rmO 1 0 0 22) s m args below meth c H locs 0 0 Q (F0 m 41 ls []) := by
      intro n1
      induction n1 with
      | zero => intro cl v hm; exact absurd hm (Nat.not_lt_zero _)
      | succ n1 ih41 =>
        intro cl v hm41 h1 h2 h3 h4 H locs hP hD hS ls hl
        refine lv_iload hx hb dX2_fillLine_41 (lv_at hl 0 rfl) ?_
        refine lv_aload_n hx hb dX2_fillLine_43 rfl (lv_at hl 3 rfl) ?_
        refine va_get (D := D) (ci := 2) (v := .int (nI nl)) (C := RX2) (T := TX2) (N := 10) hx hb hts hiX2 hown hK hP 0 rfl rfl 1 (by decide) hf15 (fun _ h9 => h9) rfl dX2_fillLine_44 ?_
        refine ln_icmp_gt (tgt := 138) hx hb (by omega) (by omega) dX2_fillLine_47 (by decide) (fun c47 => ?_) (fun c47 => ?_)
        · exact hret 138 ls H locs _ _ v hP hD hS (Nat.le_of_ble_eq_true rfl) (Nat.le_of_ble_eq_true rfl) ⟨fun q hq => h3 q (by omega), fun i hi => h4 i (by omega)⟩ dX2_fillLine_138
        · have jn131 : ∀ (g : Bool), (g = stpB lt tok (fun i => tb (t * 13 - 13 + i)) cl) → ∀ (H : Heap) (locs : List Loc), va_P D vwCl [(b0, .inr (2, [.ref b1, .int (nI nl), .ref b2, .ref b3, .ref b4, .ref b5, .ref b6, .int (nI np), .int (nI nt), .ref b7])), (b1, .inl (y3.1, 12, .inl lt)), (b7, .inl (y3.2.1, 117, .inl (fB v)))] H → va_D A [(b0, .inr (2, [.ref b1, .int (nI nl), .ref b2, .ref b3, .ref b4, .ref b5, .ref b6, .int (nI np), .int (nI nt), .ref b7])), (b1, .inl (y3.1, 12, .inl lt)), (b7, .inl (y3.2.1, 117, .inl (fB v)))] → va_S A s.heap H locs → ∀ ls : Array Slot, lv_has ls 6 [(5, .int (nI cl)), (4, .int (nI ((t * 13) - 13))), (3, .int (nI (t * 13))), (0, .ref b0), (1, .int (nI t)), (2, .int tok)] → W p l e (rmO 1 0 0 22) s m args below meth c H locs 0 0 Q (F0 m 131 ls [.int (bI g), .int (nI ((t * 13) + cl)), .ref b7]) := by
            intro g hg H locs hP hD hS ls hl
            refine ln_zastB (b := g) hx hb hK hP hD hS 2 1 rfl rfl (by omega) (by decide) dX2_fillLine_131 _ rfl (fun H locs hP hD hS => ?_)
            have hP : va_P D vwCl [(b0, .inr (2, [.ref b1, .int (nI nl), .ref b2, .ref b3, .ref b4, .ref b5, .ref b6, .int (nI np), .int (nI nt), .ref b7])), (b1, .inl (y3.1, 12, .inl lt)), (b7, .inl (y3.2.1, 117, .inl (fB (va_up v ((t * 13) + cl) g))))] H := hP
            have hD : va_D A [(b0, .inr (2, [.ref b1, .int (nI nl), .ref b2, .ref b3, .ref b4, .ref b5, .ref b6, .int (nI np), .int (nI nt), .ref b7])), (b1, .inl (y3.1, 12, .inl lt)), (b7, .inl (y3.2.1, 117, .inl (fB (va_up v ((t * 13) + cl) g))))] := hD
            refine lv_iinc (v := (nI (cl + 1))) (lv' := [(5, .int (nI (cl + 1))), (4, .int (nI ((t * 13) - 13))), (3, .int (nI (t * 13))), (0, .ref b0), (1, .int (nI t)), (2, .int tok)]) hx hb dX2_fillLine_132 hl (k := 0) rfl (nI_add _ _) (by decide) rfl (fun ls hl => ?_)
            refine lv_goto (tgt := 41) hx hb dX2_fillLine_135 (by decide) ?_
            exact ih41 (cl + 1) (va_up v ((t * 13) + cl) g) (by omega) (by omega) (by omega) (fun q hq => by rw [up_n (by omega)]; exact h3 q (by omega)) (fun i hi => by
                by_cases hic : i = cl
                · subst hic; rw [up_s]; exact hg
                · rw [up_n (by omega)]; exact h4 i (by omega)) _ _ hP hD hS _ (lv_sub hl [0, 1, 2, 3, 4, 5] rfl)
          have e1 : v (((t * 13) - 13) + cl) = tb (t * 13 - 13 + cl) := h3 _ (Or.inl (by omega))
          have e2 : v (((t * 13) + cl) - 1) = stpB lt tok (fun i => tb (t * 13 - 13 + i)) (cl - 1) := by rw [show ((t * 13) + cl) - 1 = t * 13 + (cl - 1) from by omega]; exact h4 (cl - 1) (by omega)
          have e3 : v ((((t * 13) - 13) + cl) - 1) = tb (t * 13 - 13 + (cl - 1)) := by rw [h3 _ (Or.inl (by omega)), show (((t * 13) - 13) + cl) - 1 = t * 13 - 13 + (cl - 1) from by omega]
          refine lv_aload_n hx hb dX2_fillLine_50 rfl (lv_at hl 3 rfl) ?_
          refine va_get (D := D) (ci := 2) (v := .ref b7) (C := RX2) (T := TX2) (N := 10) hx hb hts hiX2 hown hK hP 0 rfl rfl 9 (by decide) hf41 (fun _ h9 => h9) rfl dX2_fillLine_51 ?_
          refine lv_iload_n hx hb dX2_fillLine_54 rfl (lv_at hl 2 rfl) ?_
          refine lv_iload hx hb dX2_fillLine_55 (lv_at hl 0 rfl) ?_
          refine ln_iadd (n := (t * 13) + cl) hx hb (by omega) dX2_fillLine_57 ?_
          refine lv_iload_n hx hb dX2_fillLine_58 rfl (lv_at hl 5 rfl) ?_
          refine lv_bipush (v := (nI 10)) hx hb dX2_fillLine_59 rfl ?_
          refine lv_icmp_ne (tgt := 99) hx hb dX2_fillLine_61 (by decide) (fun c61 => ?_) (fun c61 => ?_)
          · refine lv_aload_n hx hb dX2_fillLine_99 rfl (lv_at hl 3 rfl) ?_
            refine va_get (D := D) (ci := 2) (v := .ref b7) (C := RX2) (T := TX2) (N := 10) hx hb hts hiX2 hown hK hP 0 rfl rfl 9 (by decide) hf41 (fun _ h9 => h9) rfl dX2_fillLine_100 ?_
            refine lv_iload hx hb dX2_fillLine_103 (lv_at hl 1 rfl) ?_
            refine lv_iload hx hb dX2_fillLine_105 (lv_at hl 0 rfl) ?_
            refine ln_iadd (n := ((t * 13) - 13) + cl) hx hb (by omega) dX2_fillLine_107 ?_
            refine lv_iconst (v := (nI 1)) hx hb dX2_fillLine_108 rfl ?_
            refine ln_isub (n := (((t * 13) - 13) + cl) - 1) hx hb (by omega) (by omega) dX2_fillLine_109 ?_
            refine ln_zaldB hx hb hK hP 2 1 rfl rfl (by omega) (by decide) dX2_fillLine_110 ?_
            refine lb_if_eq (tgt := 130) hx hb dX2_fillLine_111 (by decide) (fun c111 => ?_) (fun c111 => ?_)
            · refine lv_iconst (v := (nI 0)) hx hb dX2_fillLine_130 rfl ?_
              exact jn131 false (by first | (rw [fl_10 c61 h1]; show false = (_ || tb (t * 13 - 13 + cl)); rw [← e1, c74, ← e2, c88]; rfl) | (rw [fl_n c61 h1]; show false = (tb (t * 13 - 13 + (cl - 1)) && _); rw [← e3, c111]; rfl) | (rw [fl_n c61 h1, c123, Bool.and_false])) _ _ hP hD hS _ (lv_sub hl [0, 1, 2, 3, 4, 5] rfl)
            · refine lv_aload_n hx hb dX2_fillLine_114 rfl (lv_at hl 3 rfl) ?_
              refine lv_iload_n hx hb dX2_fillLine_115 rfl (lv_at hl 5 rfl) ?_
              refine lv_iload hx hb dX2_fillLine_116 (lv_at hl 0 rfl) ?_
              refine lv_iconst (v := (nI 1)) hx hb dX2_fillLine_118 rfl ?_
              refine ln_isub (n := cl - 1) hx hb (by omega) (by omega) dX2_fillLine_119 ?_
              refine rd_V (ci := 2) (q0 := 0) (own := RX2) (As := [.int tok, .int (nI (cl - 1))]) (rest := [.int (nI ((t * 13) + cl)), .ref b7]) (bytes := cX2_standsFor) (maxL := 3) ⟨hx, hb, hml, hown, hts⟩ (kX2_standsFor l D y3 b0 b1 b2 b3 b4 b5 b6 b7 nl np nt lt tok (cl - 1) (by omega)) gX2_fillLine_X2_standsFor rfl hvX2_standsFor ⟨Nat.le_of_ble_eq_true rfl, Nat.le_of_ble_eq_true rfl⟩ hP hK [0, 1] rfl rfl rfl hl.1 rfl (Nat.le_of_ble_eq_true rfl) dX2_fillLine_120 ⟨Nat.le_of_ble_eq_true rfl, Nat.le_of_ble_eq_true rfl⟩ (fun r2 hr2 => ?_)
              subst hr2
              refine lb_if_eq (tgt := 130) hx hb dX2_fillLine_123 (by decide) (fun c123 => ?_) (fun c123 => ?_)
              · refine lv_iconst (v := (nI 0)) hx hb dX2_fillLine_130 rfl ?_
                exact jn131 false (by first | (rw [fl_10 c61 h1]; show false = (_ || tb (t * 13 - 13 + cl)); rw [← e1, c74, ← e2, c88]; rfl) | (rw [fl_n c61 h1]; show false = (tb (t * 13 - 13 + (cl - 1)) && _); rw [← e3, c111]; rfl) | (rw [fl_n c61 h1, c123, Bool.and_false])) _ _ hP hD hS _ (lv_sub hl [0, 1, 2, 3, 4, 5] rfl)
              · refine lv_iconst (v := (nI 1)) hx hb dX2_fillLine_126 rfl ?_
                refine lv_goto (tgt := 131) hx hb dX2_fillLine_127 (by decide) ?_
                exact jn131 true (by first | (rw [fl_10 c61 h1]; show true = (_ || tb (t * 13 - 13 + cl)); rw [← e1, c74, Bool.or_true]) | (rw [fl_10 c61 h1, ← e2, c88]; rfl) | (rw [fl_n c61 h1]; show true = (tb (t * 13 - 13 + (cl - 1)) && _); rw [← e3, c111, c123]; rfl)) _ _ hP hD hS _ (lv_sub hl [0, 1, 2, 3, 4, 5] rfl)
          · refine lv_aload_n hx hb dX2_fillLine_64 rfl (lv_at hl 3 rfl) ?_
            refine va_get (D := D) (ci := 2) (v := .ref b7) (C := RX2) (T := TX2) (N := 10) hx hb hts hiX2 hown hK hP 0 rfl rfl 9 (by decide) hf41 (fun _ h9 => h9) rfl dX2_fillLine_65 ?_
            refine lv_iload hx hb dX2_fillLine_68 (lv_at hl 1 rfl) ?_
            refine lv_iload hx hb dX2_fillLine_70 (lv_at hl 0 rfl) ?_
            refine ln_iadd (n := ((t * 13) - 13) + cl) hx hb (by omega) dX2_fillLine_72 ?_
            refine ln_zaldB hx hb hK hP 2 1 rfl rfl (by omega) (by decide) dX2_fillLine_73 ?_
            refine lb_if_ne (tgt := 91) hx hb dX2_fillLine_74 (by decide) (fun c74 => ?_) (fun c74 => ?_)
            · refine lv_iconst (v := (nI 1)) hx hb dX2_fillLine_91 rfl ?_
              refine lv_goto (tgt := 131) hx hb dX2_fillLine_92 (by decide) ?_
              exact jn131 true (by first | (rw [fl_10 c61 h1]; show true = (_ || tb (t * 13 - 13 + cl)); rw [← e1, c74, Bool.or_true]) | (rw [fl_10 c61 h1, ← e2, c88]; rfl) | (rw [fl_n c61 h1]; show true = (tb (t * 13 - 13 + (cl - 1)) && _); rw [← e3, c111, c123]; rfl)) _ _ hP hD hS _ (lv_sub hl [0, 1, 2, 3, 4, 5] rfl)
            · refine lv_aload_n hx hb dX2_fillLine_77 rfl (lv_at hl 3 rfl) ?_
              refine va_get (D := D) (ci := 2) (v := .ref b7) (C := RX2) (T := TX2) (N := 10) hx hb hts hiX2 hown hK hP 0 rfl rfl 9 (by decide) hf41 (fun _ h9 => h9) rfl dX2_fillLine_78 ?_
              refine lv_iload_n hx hb dX2_fillLine_81 rfl (lv_at hl 2 rfl) ?_
              refine lv_iload hx hb dX2_fillLine_82 (lv_at hl 0 rfl) ?_
              refine ln_iadd (n := (t * 13) + cl) hx hb (by omega) dX2_fillLine_84 ?_
              refine lv_iconst (v := (nI 1)) hx hb dX2_fillLine_85 rfl ?_
              refine ln_isub (n := ((t * 13) + cl) - 1) hx hb (by omega) (by omega) dX2_fillLine_86 ?_
              refine ln_zaldB hx hb hK hP 2 1 rfl rfl (by omega) (by decide) dX2_fillLine_87 ?_
              refine lb_if_eq (tgt := 95) hx hb dX2_fillLine_88 (by decide) (fun c88 => ?_) (fun c88 => ?_)
              · refine lv_iconst (v := (nI 0)) hx hb dX2_fillLine_95 rfl ?_
                refine lv_goto (tgt := 131) hx hb dX2_fillLine_96 (by decide) ?_
                exact jn131 false (by first | (rw [fl_10 c61 h1]; show false = (_ || tb (t * 13 - 13 + cl)); rw [← e1, c74, ← e2, c88]; rfl) | (rw [fl_n c61 h1]; show false = (tb (t * 13 - 13 + (cl - 1)) && _); rw [← e3, c111]; rfl) | (rw [fl_n c61 h1, c123, Bool.and_false])) _ _ hP hD hS _ (lv_sub hl [0, 1, 2, 3, 4, 5] rfl)
              · refine lv_iconst (v := (nI 1)) hx hb dX2_fillLine_91 rfl ?_
                refine lv_goto (tgt := 131) hx hb dX2_fillLine_92 (by decide) ?_
                exact jn131 true (by first | (rw [fl_10 c61 h1]; show true = (_ || tb (t * 13 - 13 + cl)); rw [← e1, c74, Bool.or_true]) | (rw [fl_10 c61 h1, ← e2, c88]; rfl) | (rw [fl_n c61 h1]; show true = (tb (t * 13 - 13 + (cl - 1)) && _); rw [← e3, c111, c123]; rfl)) _ _ hP hD hS _ (lv_sub hl [0, 1, 2, 3, 4, 5] rfl)
    exact lp41 _ 1 (va_up tb (t * 13) g0) (Nat.lt_succ_self _) (Nat.le_refl _) (by omega) (fun q hq => up_n (by omega)) (fun i hi => by rw [show i = 0 from by omega, Nat.add_zero, up_s, stpB_z]; exact hg0) _ _ hP hD hS _ (lv_sub hl [0, 1, 2, 3, 4, 5] rfl)
  refine lv_aload_n hx hb dX2_fillLine_11 rfl (lv_at hl 2 rfl) ?_
  refine va_get (D := D) (ci := 2) (v := .ref b7) (C := RX2) (T := TX2) (N := 10) hx hb hts hiX2 hown hK hP 0 rfl rfl 9 (by decide) hf41 (fun _ h9 => h9) rfl dX2_fillLine_12 ?_
  refine lv_iload_n hx hb dX2_fillLine_15 rfl (lv_at hl 1 rfl) ?_
  refine lv_iload_n hx hb dX2_fillLine_16 rfl (lv_at hl 4 rfl) ?_
  refine lv_bipush (v := (nI 10)) hx hb dX2_fillLine_17 rfl ?_
  refine lv_icmp_ne (tgt := 36) hx hb dX2_fillLine_19 (by decide) (fun c19 => ?_) (fun c19 => ?_)
  · refine lv_iconst (v := (nI 0)) hx hb dX2_fillLine_36 rfl ?_
    exact jn37 false (by first | (rw [decide_eq_false c19]; rfl) | (rw [c29, Bool.and_false])) _ _ hP hD hS _ (lv_sub hl [0, 1, 2, 3, 4] rfl)
  · refine lv_aload_n hx hb dX2_fillLine_22 rfl (lv_at hl 2 rfl) ?_
    refine va_get (D := D) (ci := 2) (v := .ref b7) (C := RX2) (T := TX2) (N := 10) hx hb hts hiX2 hown hK hP 0 rfl rfl 9 (by decide) hf41 (fun _ h9 => h9) rfl dX2_fillLine_23 ?_
    refine lv_iload hx hb dX2_fillLine_26 (lv_at hl 0 rfl) ?_
    refine ln_zaldB hx hb hK hP 2 1 rfl rfl (by omega) (by decide) dX2_fillLine_28 ?_
    refine lb_if_eq (tgt := 36) hx hb dX2_fillLine_29 (by decide) (fun c29 => ?_) (fun c29 => ?_)
    · refine lv_iconst (v := (nI 0)) hx hb dX2_fillLine_36 rfl ?_
      exact jn37 false (by first | (rw [decide_eq_false c19]; rfl) | (rw [c29, Bool.and_false])) _ _ hP hD hS _ (lv_sub hl [0, 1, 2, 3, 4] rfl)
    · refine lv_iconst (v := (nI 1)) hx hb dX2_fillLine_32 rfl ?_
      refine lv_goto (tgt := 37) hx hb dX2_fillLine_33 (by decide) ?_
      exact jn37 true (by rw [decide_eq_true c19, c29]; rfl) _ _ hP hD hS _ (lv_sub hl [0, 1, 2, 3, 4] rfl)

set_option maxHeartbeats 4000000 in
set_option maxRecDepth 100000 in
theorem kX2_fitsNameByTable (l : Launch) (D : va_G) (y3 : ClassId × ClassId × ClassId) (b0 : Nat) (b1 : Nat) (b2 : Nat) (b3 : Nat) (b4 : Nat) (b5 : Nat) (b6 : Nat) (b7 : Nat) (nl : Nat) (np : Nat) (nt : Nat) (lt : Nat → Int32) (ln : Nat → Nat) (tk : Nat → Int32) (tb : Nat → Bool) (j : Nat) (hj : j < 20) (hnl : nl ≤ 12) (hln : ∀ q : Nat, ln q ≤ 8) (htb : ∀ q : Nat, 1 ≤ q → q < 13 → tb q = false) : wrM l yX2_fitsNameByTable wsX2_fitsNameByTable 2 47 0 0 D y3 [(b0, .inr (2, [.ref b1, .int (nI nl), .ref b2, .ref b3, .ref b4, .ref b5, .ref b6, .int (nI np), .int (nI nt), .ref b7])), (b1, .inl (y3.1, 12, .inl lt)), (b4, .inl (y3.1, 20, .inl (fN ln))), (b6, .inl (y3.1, 160, .inl tk)), (b7, .inl (y3.2.1, 117, .inl (fB tb)))] [.ref b0, .int (nI j)] (fun r (u : Nat → Bool) => r = bI (fitB lt nl tk ln j) ∧ ∀ q : Nat, 1 ≤ q → q < 13 → u q = false) (fun (u : Nat → Bool) => [(b0, .inr (2, [.ref b1, .int (nI nl), .ref b2, .ref b3, .ref b4, .ref b5, .ref b6, .int (nI np), .int (nI nt), .ref b7])), (b1, .inl (y3.1, 12, .inl lt)), (b4, .inl (y3.1, 20, .inl (fN ln))), (b6, .inl (y3.1, 160, .inl tk)), (b7, .inl (y3.2.1, 117, .inl (fB u)))]) := by
  refine wz_of (cc := cX2_fitsNameByTable) (maxL := 4) (by decide) rfl (Nat.le_of_ble_eq_true rfl) ?_
  intro p e s m args below meth c A Q hx hb hml hown hts hP hK hD hA hS hret ls hl
  replace hl : lv_has ls 4 [(0, .ref b0), (1, .int (nI j))] := hl
  have q1 := hln j
  have hf15 := hts (.fieldLink RX2 15 "KindGuesser$NameSide" "letterCount" "I") (by decide +kernel)
  have hf25 := hts (.fieldLink RX2 25 "KindGuesser$NameSide" "lengths" "[I") (by decide +kernel)
  have hf32 := hts (.fieldLink RX2 32 "KindGuesser$NameSide" "tokenRows" "[I") (by decide +kernel)
  have hf41 := hts (.fieldLink RX2 41 "KindGuesser$NameSide" "table" "[Z") (by decide +kernel)
  have hiX2 : ∀ q ∈ wsX20, q ∈ wsX2_fitsNameByTable := by decide +kernel
  refine lv_aload_n hx hb dX2_fitsNameByTable_0 rfl (lv_at hl 0 rfl) ?_
  refine va_get (D := D) (ci := 2) (v := .ref b4) (C := RX2) (T := TX2) (N := 10) hx hb hts hiX2 hown hK hP 0 rfl rfl 4 (by decide) hf25 (fun _ h9 => h9) rfl dX2_fitsNameByTable_1 ?_
  refine lv_iload_n hx hb dX2_fitsNameByTable_4 rfl (lv_at hl 1 rfl) ?_
  refine ln_ialdN hx hb hK hP 2 0 rfl rfl (by omega) (by decide) dX2_fitsNameByTable_5 ?_
  refine lv_istore_n (lv' := [(2, .int (nI (ln j))), (0, .ref b0), (1, .int (nI j))]) hx hb dX2_fitsNameByTable_6 rfl hl (by decide) rfl (fun ls hl => ?_)
  refine lv_aload_n hx hb dX2_fitsNameByTable_7 rfl (lv_at hl 1 rfl) ?_
  refine va_get (D := D) (ci := 2) (v := .ref b7) (C := RX2) (T := TX2) (N := 10) hx hb hts hiX2 hown hK hP 0 rfl rfl 9 (by decide) hf41 (fun _ h9 => h9) rfl dX2_fitsNameByTable_8 ?_
  refine lv_iconst (v := (nI 0)) hx hb dX2_fitsNameByTable_11 rfl ?_
  refine lv_iconst (v := (nI 1)) hx hb dX2_fitsNameByTable_12 rfl ?_
  refine ln_zastB (b := true) hx hb hK hP hD hS 4 1 rfl rfl (by omega) (by decide) dX2_fitsNameByTable_13 _ rfl (fun H locs hP hD hS => ?_)
  have hP : va_P D vwCl [(b0, .inr (2, [.ref b1, .int (nI nl), .ref b2, .ref b3, .ref b4, .ref b5, .ref b6, .int (nI np), .int (nI nt), .ref b7])), (b1, .inl (y3.1, 12, .inl lt)), (b4, .inl (y3.1, 20, .inl (fN ln))), (b6, .inl (y3.1, 160, .inl tk)), (b7, .inl (y3.2.1, 117, .inl (fB (va_up tb 0 true))))] H := hP
  have hD : va_D A [(b0, .inr (2, [.ref b1, .int (nI nl), .ref b2, .ref b3, .ref b4, .ref b5, .ref b6, .int (nI np), .int (nI nt), .ref b7])), (b1, .inl (y3.1, 12, .inl lt)), (b4, .inl (y3.1, 20, .inl (fN ln))), (b6, .inl (y3.1, 160, .inl tk)), (b7, .inl (y3.2.1, 117, .inl (fB (va_up tb 0 true))))] := hD
  refine lv_iconst (v := (nI 1)) hx hb dX2_fitsNameByTable_14 rfl ?_
  refine lv_istore_n (lv' := [(3, .int (nI 1)), (2, .int (nI (ln j))), (0, .ref b0), (1, .int (nI j))]) hx hb dX2_fitsNameByTable_15 rfl hl (by decide) rfl (fun ls hl => ?_)
  have lp16 : ∀ (n1 : Nat) (k : Nat) (v : Nat → Bool), ln j + 1 - k < n1 → (1 ≤ k) → (k ≤ ln j + 1) → (∀ t i : Nat, t < k → i ≤ nl → v (t * 13 + i) = rchB lt tk (j * 8) t i) → (∀ q : Nat, 1 ≤ q → q < 13 → v q = false) → ∀ (H : Heap) (locs : List Loc), va_P D vwCl [(b0, .inr (2, [.ref b1, .int (nI nl), .ref b2, .ref b3, .ref b4, .ref b5, .ref b6, .int (nI np), .int (nI nt), .ref b7])), (b1, .inl (y3.1, 12, .inl lt)), (b4, .inl (y3.1, 20, .inl (fN ln))), (b6, .inl (y3.1, 160, .inl tk)), (b7, .inl (y3.2.1, 117, .inl (fB v)))] H → va_D A [(b0, .inr (2, [.ref b1, .int (nI nl), .ref b2, .ref b3, .ref b4, .ref b5, .ref b6, .int (nI np), .int (nI nt), .ref b7])), (b1, .inl (y3.1, 12, .inl lt)), (b4, .inl (y3.1, 20, .inl (fN ln))), (b6, .inl (y3.1, 160, .inl tk)), (b7, .inl (y3.2.1, 117, .inl (fB v)))] → va_S A s.heap H locs → ∀ ls : Array Slot, lv_has ls 4 [(3, .int (nI k)), (2, .int (nI (ln j))), (0, .ref b0), (1, .int (nI j))] → W p l e (rmO 2 0 0 47) s m args below meth c H locs 0 0 Q (F0 m 16 ls []) := by
    intro n1
    induction n1 with
    | zero => intro k v hm; exact absurd hm (Nat.not_lt_zero _)
    | succ n1 ih16 =>
      intro k v hm16 h1 h2 h3 h4 H locs hP hD hS ls hl
      refine lv_iload_n hx hb dX2_fitsNameByTable_16 rfl (lv_at hl 0 rfl) ?_
      refine lv_iload_n hx hb dX2_fitsNameByTable_17 rfl (lv_at hl 1 rfl) ?_
      refine ln_icmp_gt (tgt := 45) hx hb (by omega) (by omega) dX2_fitsNameByTable_18 (by decide) (fun c18 => ?_) (fun c18 => ?_)
      · refine lv_aload_n hx hb dX2_fitsNameByTable_45 rfl (lv_at hl 2 rfl) ?_
        refine va_get (D := D) (ci := 2) (v := .ref b7) (C := RX2) (T := TX2) (N := 10) hx hb hts hiX2 hown hK hP 0 rfl rfl 9 (by decide) hf41 (fun _ h9 => h9) rfl dX2_fitsNameByTable_46 ?_
        refine lv_iload_n hx hb dX2_fitsNameByTable_49 rfl (lv_at hl 1 rfl) ?_
        refine lv_bipush (v := (nI 13)) hx hb dX2_fitsNameByTable_50 rfl ?_
        refine ln_imul (n := (ln j) * 13) hx hb (by omega) dX2_fitsNameByTable_52 ?_
        refine lv_aload_n hx hb dX2_fitsNameByTable_53 rfl (lv_at hl 2 rfl) ?_
        refine va_get (D := D) (ci := 2) (v := .int (nI nl)) (C := RX2) (T := TX2) (N := 10) hx hb hts hiX2 hown hK hP 0 rfl rfl 1 (by decide) hf15 (fun _ h9 => h9) rfl dX2_fitsNameByTable_54 ?_
        refine ln_iadd (n := ((ln j) * 13) + nl) hx hb (by omega) dX2_fitsNameByTable_57 ?_
        refine ln_zaldB hx hb hK hP 4 1 rfl rfl (by omega) (by decide) dX2_fitsNameByTable_58 ?_
        exact hret 59 ls H locs _ _ v _ (fitB lt nl tk ln j) hP hD hS (Nat.le_of_ble_eq_true rfl) (Nat.le_of_ble_eq_true rfl) (by rw [h3 (ln j) nl (by omega) (Nat.le_refl _)]; rfl) ⟨rfl, h4⟩ dX2_fitsNameByTable_59
      · refine lv_aload_n hx hb dX2_fitsNameByTable_21 rfl (lv_at hl 2 rfl) ?_
        refine lv_iload_n hx hb dX2_fitsNameByTable_22 rfl (lv_at hl 0 rfl) ?_
        refine lv_aload_n hx hb dX2_fitsNameByTable_23 rfl (lv_at hl 2 rfl) ?_
        refine va_get (D := D) (ci := 2) (v := .ref b6) (C := RX2) (T := TX2) (N := 10) hx hb hts hiX2 hown hK hP 0 rfl rfl 6 (by decide) hf32 (fun _ h9 => h9) rfl dX2_fitsNameByTable_24 ?_
        refine lv_iload_n hx hb dX2_fitsNameByTable_27 rfl (lv_at hl 3 rfl) ?_
        refine lv_bipush (v := (nI 8)) hx hb dX2_fitsNameByTable_28 rfl ?_
        refine ln_imul (n := j * 8) hx hb (by omega) dX2_fitsNameByTable_30 ?_
        refine lv_iload_n hx hb dX2_fitsNameByTable_31 rfl (lv_at hl 0 rfl) ?_
        refine ln_iadd (n := (j * 8) + k) hx hb (by omega) dX2_fitsNameByTable_32 ?_
        refine lv_iconst (v := (nI 1)) hx hb dX2_fitsNameByTable_33 rfl ?_
        refine ln_isub (n := ((j * 8) + k) - 1) hx hb (by omega) (by omega) dX2_fitsNameByTable_34 ?_
        refine ln_iald hx hb hK hP 3 0 rfl rfl (by omega) (by decide) dX2_fitsNameByTable_35 ?_
        refine wv_V (ci := 2) (q0 := 0) (own := RX2) (As := [.int (nI k), .int (tk (((j * 8) + k) - 1))]) (rest := []) (bytes := cX2_fillLine) (maxL := 6) (wr := [(b4, .inl (y3.1, 20, .inl (fN ln))), (b6, .inl (y3.1, 160, .inl tk))]) (w3 := (fun (v2 : Nat → Bool) => [(b0, .inr (2, [.ref b1, .int (nI nl), .ref b2, .ref b3, .ref b4, .ref b5, .ref b6, .int (nI np), .int (nI nt), .ref b7])), (b1, .inl (y3.1, 12, .inl lt)), (b4, .inl (y3.1, 20, .inl (fN ln))), (b6, .inl (y3.1, 160, .inl tk)), (b7, .inl (y3.2.1, 117, .inl (fB v2)))])) ⟨hx, hb, hml, hown, hts⟩ (kX2_fillLine l D y3 b0 b1 b2 b3 b4 b5 b6 b7 nl np nt lt v k (tk (((j * 8) + k) - 1)) (by omega) (by omega) (by omega)) gX2_fitsNameByTable_X2_fillLine rfl hvX2_fillLine ⟨Nat.le_of_ble_eq_true rfl, Nat.le_of_ble_eq_true rfl⟩ hP hK hD hS hA [0, 1, 4] [2, 3] [2, 3, 0, 1, 4] rfl rfl rfl rfl (by decide) (fun _ => rfl) rfl rfl rfl hl.1 rfl (Nat.le_of_ble_eq_true rfl) dX2_fitsNameByTable_36 ⟨Nat.le_of_ble_eq_true rfl, Nat.le_of_ble_eq_true rfl⟩ (fun v2 H locs hr36 hP hD hS => ?_)
        have hP : va_P D vwCl [(b0, .inr (2, [.ref b1, .int (nI nl), .ref b2, .ref b3, .ref b4, .ref b5, .ref b6, .int (nI np), .int (nI nt), .ref b7])), (b1, .inl (y3.1, 12, .inl lt)), (b4, .inl (y3.1, 20, .inl (fN ln))), (b6, .inl (y3.1, 160, .inl tk)), (b7, .inl (y3.2.1, 117, .inl (fB v2)))] H := hP
        have hD : va_D A [(b0, .inr (2, [.ref b1, .int (nI nl), .ref b2, .ref b3, .ref b4, .ref b5, .ref b6, .int (nI np), .int (nI nt), .ref b7])), (b1, .inl (y3.1, 12, .inl lt)), (b4, .inl (y3.1, 20, .inl (fN ln))), (b6, .inl (y3.1, 160, .inl tk)), (b7, .inl (y3.2.1, 117, .inl (fB v2)))] := hD
        refine lv_iinc (v := (nI (k + 1))) (lv' := [(3, .int (nI (k + 1))), (2, .int (nI (ln j))), (0, .ref b0), (1, .int (nI j))]) hx hb dX2_fitsNameByTable_39 hl (k := 0) rfl (nI_add _ _) (by decide) rfl (fun ls hl => ?_)
        refine lv_goto (tgt := 16) hx hb dX2_fitsNameByTable_42 (by decide) ?_
        exact ih16 (k + 1) v2 (by omega) (by omega) (by omega) (fun t i ht hi => by
            by_cases htk : t = k
            · subst htk
              rw [hr36.2 i hi]
              obtain ⟨k0, rfl⟩ : ∃ k0, t = k0 + 1 := ⟨t - 1, by omega⟩
              rw [show ((j * 8) + (k0 + 1)) - 1 = j * 8 + k0 from by omega]
              exact stpB_congr (fun q hq => by rw [show (k0 + 1) * 13 - 13 + q = k0 * 13 + q from by omega]; exact h3 k0 q (by omega) (by omega))
            · rw [hr36.1 _ (Or.inl (by omega))]; exact h3 t i (by omega) hi) (fun q hq hq2 => by rw [hr36.1 _ (Or.inl (by omega))]; exact h4 q hq hq2) _ _ hP hD hS _ (lv_sub hl [0, 1, 2, 3] rfl)
  exact lp16 _ 1 (va_up tb 0 true) (Nat.lt_succ_self _) (Nat.le_refl _) (by omega) (fun t i ht hi => by
      rw [show t = 0 from by omega, Nat.zero_mul, Nat.zero_add]
      by_cases h0 : i = 0
      · subst h0; rw [up_s]; rfl
      · rw [up_n h0, htb i (by omega) (by omega)]; exact (decide_eq_false h0).symm) (fun q hq hq2 => by rw [up_n (by omega)]; exact htb q hq hq2) _ _ hP hD hS _ (lv_sub hl [0, 1, 2, 3] rfl)
