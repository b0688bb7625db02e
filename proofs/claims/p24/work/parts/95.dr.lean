/-! ===== the law's numbers out of the script ===== -/
/-- what 'drawn' answers -/
def dwN (L : Nat) (xs : Nat → Int32) (k : Nat) : Int32 := (if k < L then xs k else nI 12251 * nI k + nI 9001) &&& 1073741823
def dw_Pc (b L : Nat) (xs : Nat → Int32) (k : Nat) : Array Value → State → Prop := va_Pc [.ref b, .int (nI k)] (fun U => va_X b L xs U U.heap)
theorem dw_blind {b L : Nat} {xs : Nat → Int32} {k : Nat} : FrameBlind (dw_Pc b L xs k) := fun a U g mk q => by
  obtain ⟨q0, q1⟩ := q
  exact ⟨q0, va_X.moved (u := U) (U := U.calling g mk a) (Vm.Alike.refl U.vm) q1⟩
set_option maxHeartbeats 4000000 in
set_option maxRecDepth 100000 in
theorem kD (l : Launch) (b L k : Nat) (xs : Nat → Int32) (hL : L < 2 ^ 31) (hk : k < 2 ^ 31) : Met l yL_drawn wsL_drawn (rmO 0 0 0 0) (dw_Pc b L xs k) (vp_Si (fun r => r = dwN L xs k)) 0 0 (fun _ => False) := by
  refine Met.ofW (cc := cL_drawn) (maxL := 3) (ret := some .int) (by decide) rfl ?_
  intro p e s m args below meth c s₁ B hml hv
  obtain ⟨rfl, hX⟩ := hv
  rw [lg_entry_eq]
  have hx := B.exec
  have hb : c.code = cL_drawn := B.bytes
  have hts := atoms_spec (ws := wsL_drawn) B.pre
  have hown : s.vm.findClass RL = some m.cls := findClass_of_methodNamed B.named
  have hl := lv_entry ([.ref b, .int (nI k)]) (n := 3) (Nat.le_of_ble_eq_true rfl)
  generalize (lg_sl ([.ref b, .int (nI k)]) ++ List.replicate (3 - (lg_sl ([.ref b, .int (nI k)])).length) Slot.unset).toArray = ls at hl ⊢
  have hl : lv_has ls 3 [(0, .ref b), (1, .int (nI k))] := hl
  have hS : va_S (fun q : Nat => s.heap.size ≤ q) s.heap s.heap [] := va_S.rf
  have hbl : b < s.heap.size := by
    obtain ⟨scr, h1, -⟩ := hX
    exact (Array.getElem?_eq_some_iff.mp h1).1
  have hbA : ¬ (fun q : Nat => s.heap.size ≤ q) b := Nat.not_le.mpr hbl
  have fin : ∀ (ls : Array Slot) (y : Int32), lv_has ls 3 [(0, .ref b), (1, .int (nI k))] → (y &&& 1073741823) = dwN L xs k → W p l e (rmO 0 0 0 0) s m #[Value.ref b, .int (nI k)] below meth c s.heap [] 0 0 (MQ below (vp_Si (fun r => r = dwN L xs k)) #[Value.ref b, .int (nI k)] s 0 0 (fun _ => False)) (F0 m 21 ls [.int y]) := fun ls y hl hy => by
    refine lv_istore_n (lv' := [(2, .int y), (0, .ref b), (1, .int (nI k))]) hx hb dL_drawn_21 rfl hl (by decide) rfl (fun ls hl => ?_)
    refine lv_iload_n hx hb dL_drawn_22 rfl (lv_at hl 0 rfl) ?_
    refine lv_ldc (own := RL) (v := 1073741823) hx hb hown (hts (.constant RL 7 (1073741823)) (by decide +kernel)) dL_drawn_23 ?_
    refine lv_iand hx hb dL_drawn_25 ?_
    exact W.iret B.exec B.bytes B.returns (fun t ht _ => ⟨_, rfl, hy, ht⟩) (fun _ h => nomatch h) dL_drawn_26 B.notSynchronized
  refine lv_iload_n hx hb dL_drawn_0 rfl (lv_at hl 1 rfl) ?_
  refine lv_aload_n hx hb dL_drawn_1 rfl (lv_at hl 0 rfl) ?_
  refine va_slen hx hb hX hbl hbA hS dL_drawn_2 ?_
  refine ln_icmp_ge (tgt := 12) hx hb hk hL dL_drawn_3 (by decide) (fun c3 => ?_) (fun c3 => ?_)
  · refine lv_sipush (v := nI 12251) hx hb dL_drawn_12 rfl ?_
    refine lv_iload_n hx hb dL_drawn_15 rfl (lv_at hl 1 rfl) ?_
    refine lv_imul hx hb dL_drawn_16 ?_
    refine lv_sipush (v := nI 9001) hx hb dL_drawn_17 rfl ?_
    refine lv_iadd hx hb dL_drawn_20 ?_
    exact fin ls _ hl (by unfold dwN; rw [if_neg (by omega)])
  · refine lv_aload_n hx hb dL_drawn_6 rfl (lv_at hl 0 rfl) ?_
    refine lv_iload_n hx hb dL_drawn_7 rfl (lv_at hl 1 rfl) ?_
    refine va_sld hx hb hX hbl hbA hS (vp_in_nI (by omega) hL) dL_drawn_8 ?_
    rw [nI_clamp hk]
    refine lv_goto (tgt := 21) hx hb dL_drawn_9 (by decide) ?_
    exact fin ls _ hl (by unfold dwN; rw [if_pos (by omega)])
section DW
variable {p : Program} {l : Launch} {e : Env} {R : Room} {s : State} {m : MethodId} {args : Array Value} {below : List Frame} {meth : Method} {c : Code} {H : Heap} {locs : List Loc} {cells slots : Nat} {Q : State → Prop}
variable {cc : ByteArray} {pc nL : Nat} {ls : Array Slot} {rest st0 : List Value}
theorem dw_S {index b L k : Nat} {xs : Nat → Int32} {Ts : List Cond} {own : String} (S : CallFix p m c cc nL s args Ts own) (hL : L < 2 ^ 31) (hk : k < 2 ^ 31) (hT : GoodIn Ts (va_wsS own index yL_drawn wsL_drawn))
    (hd : yL_drawn.cls ≠ "java/lang/invoke/MethodHandle" ∧ yL_drawn.cls ≠ "java/lang/invoke/VarHandle" ∧ (parseMethodDescriptor yL_drawn.desc).map (fun d => d.parameters.length) = some 2) (hR : 0 + 1 ≤ R.frames ∧ 8 + (3 + 11) + 0 ≤ R.locals)
    (hX : va_X b L xs s H) (hsize : ls.size = nL) (hst : st0 = .int (nI k) :: .ref b :: rest) (hW : (rest.map fun v => v.category).sum ≤ 8) (hdg : decode cc pc = .ok (.invokestatic index, 3)) (hcl : cells ≤ R.cells ∧ slots ≤ R.slots)
    (kk : W p l e R s m args below meth c H locs cells slots Q (F0 m (pc + 3) ls (.int (dwN L xs k) :: rest))) : W p l e R s m args below meth c H locs cells slots Q (F0 m pc ls st0) :=
  vp_callSi (W.runS (As := [.ref b, .int (nI k)]) (rest := rest) (bytes := cL_drawn) (maxL := 3) (ret := some .int) (n := 2) S (kD l b L k xs hL hk) (va_cwS 2 S.2.2.2.2 hT rfl rfl rfl hd hR)
    ⟨dw_blind, fun U hU hW2 => ⟨rfl, by show va_X b L xs U U.heap; rw [hU]; exact hX.moved hW2.alike⟩⟩ rfl rfl hsize hst (lv_room hW) hdg hcl) (fun r hr => by rw [hr]; exact kk)
end DW
