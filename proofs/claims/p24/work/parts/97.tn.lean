/-! ===== a token the other way round ===== -/
theorem hvL_turned : yL_turned.cls ≠ "java/lang/invoke/MethodHandle" ∧ yL_turned.cls ≠ "java/lang/invoke/VarHandle" ∧ (parseMethodDescriptor yL_turned.desc).map (fun d => d.parameters.length) = some 1 := by decide +kernel
set_option maxHeartbeats 4000000 in
set_option maxRecDepth 100000 in
theorem kL_turned (l : Launch) (D : va_G) (y3 : ClassId × ClassId × ClassId) (j : Nat) (hj : j ≤ 11) : rdM l yL_turned wsL_turned 0 0 D y3 [] [.int (nI j)] (fun r => r = (nI (tnN j))) := by
  refine rd_of (cc := cL_turned) (maxL := 1) (by decide) rfl (Nat.le_of_ble_eq_true rfl) ?_
  intro p e s m args below meth c Q hx hb hml hown hts hP hK hret ls hl
  have hown : s.vm.findClass RL = some m.cls := hown
  replace hl : lv_has ls 1 [(0, .int (nI j))] := hl
  refine lv_iload_n hx hb dL_turned_0 rfl (lv_at hl 0 rfl) ?_
  refine lv_bipush (v := (nI 10)) hx hb dL_turned_1 rfl ?_
  refine ln_icmp_ge (tgt := 13) hx hb (by omega) (by omega) dL_turned_3 (by decide) (fun c3 => ?_) (fun c3 => ?_)
  · refine lv_iload_n hx hb dL_turned_13 rfl (lv_at hl 0 rfl) ?_
    exact hret 14 ls _ (by unfold tnN; first | rw [if_pos (by omega)] | rw [if_neg (by omega)]) dL_turned_14
  · refine lv_bipush (v := (nI 9)) hx hb dL_turned_6 rfl ?_
    refine lv_iload_n hx hb dL_turned_8 rfl (lv_at hl 0 rfl) ?_
    refine ln_isub (n := 9 - j) hx hb (by omega) (by omega) dL_turned_9 ?_
    refine lv_goto (tgt := 14) hx hb dL_turned_10 (by decide) ?_
    exact hret 14 ls _ (by unfold tnN; first | rw [if_pos (by omega)] | rw [if_neg (by omega)]) dL_turned_14
