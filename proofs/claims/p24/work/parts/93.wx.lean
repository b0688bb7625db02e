/-! ===== the law's helpers, their other ends ===== -/
set_option maxHeartbeats 4000000 in
set_option maxRecDepth 100000 in
theorem kL_does_kind_ex (l : Launch) (hls : l.stackTraces = false) (D : va_G) (y3 : ClassId × ClassId × ClassId) (h0 : Nat) (a0 : Nat) (b0 : Nat) (f0 : Nat) (g0 : Nat) (a1 : Nat) (nk : Nat) (par : Nat → Int32) (k : Int32) (o : Int32) (hk : nk ≤ 14) (hz : ¬ (ak2 (decide (k = -1) || inB k nk) (decide (nk < 14))) = 0) : lxM l yL_does wsL_does 9 154 1 6 1 D y3 [(h0, .inr (4, [.ref a0, .ref b0, .ref f0, .ref g0])), (a0, .inr (1, [.ref a1, .int (nI nk)])), (a1, .inl (y3.1, 14, .inl par))] [.ref h0, .int (nI 0), .int k, .int o] (fun r (_ : Unit) => r = (-8)) (fun (_ : Unit) => [(h0, .inr (4, [.ref a0, .ref b0, .ref f0, .ref g0])), (a0, .inr (1, [.ref a1, .int (nI nk)])), (a1, .inl (y3.1, 14, .inl par))]) := by
  refine lx_of (cc := cL_does) (maxL := 5) (by decide) rfl (Nat.le_of_ble_eq_true rfl) ?_
  intro p e s m args below meth c A Q hx hb hml hown hts htab hP hK hD hA hS hT hret ls hl
  have hown : s.vm.findClass RL = some m.cls := hown
  replace hl : lv_has ls 5 [(0, .ref h0), (1, .int (nI 0)), (2, .int k), (3, .int o)] := hl
  have hk14 := hts (.classLink RL 14 xIO) (by decide +kernel)
  have hk16 := hts (.classLink RL 16 xIA) (by decide +kernel)
  have hk18 := hts (.classLink RL 18 xIS) (by decide +kernel)
  refine lv_iload_n hx hb dL_does_0 rfl (lv_at hl 1 rfl) ?_
  refine lv_if_ne (tgt := 12) hx hb dL_does_1 (by decide) (fun h9 => absurd h9 (by decide +kernel)) (fun _ => ?_)
  refine lv_aload_n hx hb dL_does_4 rfl (lv_at hl 0 rfl) ?_
  refine lv_iload_n hx hb dL_does_5 rfl (lv_at hl 2 rfl) ?_
  refine tx_V (ci := 4) (q0 := 0) (own := RL) (As := [.int k]) (rest := []) (bytes := cX4_kind) (maxL := 2) (wr := []) (w3 := (fun (_ : Unit) => [(h0, .inr (4, [.ref a0, .ref b0, .ref f0, .ref g0])), (a0, .inr (1, [.ref a1, .int (nI (nk + 1))])), (a1, .inl (y3.1, 14, .inl (upd par nk k)))])) ⟨hx, hb, hml, hown, hts⟩ (kX4_kind l hls D y3 h0 a0 b0 f0 g0 a1 nk par k (by omega)) gL_does_X4_kind rfl hvX4_kind ⟨Nat.le_of_ble_eq_true rfl, Nat.le_of_ble_eq_true rfl⟩ hP hK hD hS hA hT [0, 1, 2] [] [0, 1, 2] rfl rfl rfl rfl (by decide) (fun _ => rfl) rfl rfl rfl rfl hl.1 rfl (Nat.le_of_ble_eq_true rfl) dL_does_6 ⟨Nat.le_of_ble_eq_true rfl, Nat.le_of_ble_eq_true rfl⟩ (fun E ce q9 H locs hE hP hD hS hlt h7 h8 h9 => ?_) (fun r1 u1 H locs hr1 hP hD hS => absurd hr1.1 hz)
  rcases xcd_2 hE with ⟨hz9, rfl⟩ | ⟨hz9, rfl⟩
  · refine vx_catch (own := RL) (name := xIO) hown [] ⟨0, 57, 58, 14⟩ [⟨0, 57, 63, 16⟩, ⟨0, 57, 68, 18⟩] htab (fun z h => (by cases h)) rfl (by decide) hk14 (lx_c hT (by simp [xE3])) h7 h8 h9 ?_
    refine lv_astore (lv' := [(4, .ref q9), (0, .ref h0), (1, .int (nI 0)), (2, .int k), (3, .int o)]) hx hb dL_does_58 hl (by decide) rfl (fun ls hl => ?_)
    refine lv_bipush (v := (-8)) hx hb dL_does_60 rfl ?_
    exact hret 62 ls H locs _ _ () _ hP hD hS hlt (Nat.le_of_ble_eq_true rfl) (Nat.le_of_ble_eq_true rfl) rfl dL_does_62
  · refine vx_catch (own := RL) (name := xIS) hown [⟨0, 57, 58, 14⟩, ⟨0, 57, 63, 16⟩] ⟨0, 57, 68, 18⟩ [] htab (fun z h => by
        simp only [List.mem_cons, List.not_mem_nil, or_false] at h
        rcases h with rfl | rfl
        · exact Or.inr ⟨by decide, xIO, hk14, lx_IS hT⟩
        · exact Or.inr ⟨by decide, xIA, hk16, lx_SA hT⟩) rfl (by decide) hk18 (lx_c hT (by simp [xE3])) h7 h8 h9 ?_
    refine lv_astore (lv' := [(4, .ref q9), (0, .ref h0), (1, .int (nI 0)), (2, .int k), (3, .int o)]) hx hb dL_does_68 hl (by decide) rfl (fun ls hl => ?_)
    refine lv_bipush (v := (-8)) hx hb dL_does_70 rfl ?_
    exact hret 72 ls H locs _ _ () _ hP hD hS hlt (Nat.le_of_ble_eq_true rfl) (Nat.le_of_ble_eq_true rfl) rfl dL_does_72

set_option maxHeartbeats 4000000 in
set_option maxRecDepth 100000 in
theorem kL_does_rule_ok (l : Launch) (hls : l.stackTraces = false) (D : va_G) (y3 : ClassId × ClassId × ClassId) (h0 : Nat) (a0 : Nat) (b0 : Nat) (f0 : Nat) (g0 : Nat) (a1 : Nat) (nk : Nat) (f1 : Nat) (f2 : Nat) (f3 : Nat) (f4 : Nat) (f5 : Nat) (f6 : Nat) (f7 : Nat) (f8 : Nat) (f9 : Nat) (f10 : Nat) (nb : Nat) (nr : Nat) (kr : Nat → Nat) (pr : Nat → Int32) (k : Int32) (wg : Int32) (hk : nk ≤ 14) (hnr : nr ≤ 12) (hz : (ak3 (inB k nk) (rgB wg (nI 0) (nI 100)) (decide (nr < 12))) = 0) : lxM l yL_does wsL_does 9 154 1 6 0 D y3 [(h0, .inr (4, [.ref a0, .ref b0, .ref f0, .ref g0])), (a0, .inr (1, [.ref a1, .int (nI nk)])), (f0, .inr (0, [.ref f1, .int (nI nb), .ref f2, .ref f3, .ref f4, .int (nI nr), .ref f5, .ref f6, .ref f7, .ref f8, .ref f9, .ref f10])), (f2, .inl (y3.1, 12, .inl (fN kr))), (f3, .inl (y3.1, 12, .inl pr))] [.ref h0, .int (nI 1), .int k, .int wg] (fun r (_ : Unit) => r = (nI nr)) (fun (_ : Unit) => [(h0, .inr (4, [.ref a0, .ref b0, .ref f0, .ref g0])), (a0, .inr (1, [.ref a1, .int (nI nk)])), (f0, .inr (0, [.ref f1, .int (nI nb), .ref f2, .ref f3, .ref f4, .int (nI (nr + 1)), .ref f5, .ref f6, .ref f7, .ref f8, .ref f9, .ref f10])), (f2, .inl (y3.1, 12, .inl (fN (va_up kr nr k.toNatClampNeg)))), (f3, .inl (y3.1, 12, .inl (upd pr nr wg)))]) := by
  refine lx_of (cc := cL_does) (maxL := 5) (by decide) rfl (Nat.le_of_ble_eq_true rfl) ?_
  intro p e s m args below meth c A Q hx hb hml hown hts htab hP hK hD hA hS hT hret ls hl
  have hown : s.vm.findClass RL = some m.cls := hown
  replace hl : lv_has ls 5 [(0, .ref h0), (1, .int (nI 1)), (2, .int k), (3, .int wg)] := hl
  refine lv_iload_n hx hb dL_does_0 rfl (lv_at hl 1 rfl) ?_
  refine lv_if_ne (tgt := 12) hx hb dL_does_1 (by decide) (fun _ => ?_) (fun h9 => absurd h9 (by decide +kernel))
  refine lv_iload_n hx hb dL_does_12 rfl (lv_at hl 1 rfl) ?_
  refine lv_iconst (v := (nI 1)) hx hb dL_does_13 rfl ?_
  refine lv_icmp_ne (tgt := 26) hx hb dL_does_14 (by decide) (fun h9 => absurd h9 (by decide +kernel)) (fun _ => ?_)
  refine lv_aload_n hx hb dL_does_17 rfl (lv_at hl 0 rfl) ?_
  refine lv_iload_n hx hb dL_does_18 rfl (lv_at hl 2 rfl) ?_
  refine lv_iload_n hx hb dL_does_19 rfl (lv_at hl 3 rfl) ?_
  refine tx_V (ci := 4) (q0 := 0) (own := RL) (As := [.int k, .int wg]) (rest := []) (bytes := cX4_rule) (maxL := 3) (wr := []) (w3 := (fun (_ : Unit) => [(h0, .inr (4, [.ref a0, .ref b0, .ref f0, .ref g0])), (a0, .inr (1, [.ref a1, .int (nI nk)])), (f0, .inr (0, [.ref f1, .int (nI nb), .ref f2, .ref f3, .ref f4, .int (nI (nr + 1)), .ref f5, .ref f6, .ref f7, .ref f8, .ref f9, .ref f10])), (f2, .inl (y3.1, 12, .inl (fN (va_up kr nr k.toNatClampNeg)))), (f3, .inl (y3.1, 12, .inl (upd pr nr wg)))])) ⟨hx, hb, hml, hown, hts⟩ (kX4_rule l hls D y3 h0 a0 b0 f0 g0 a1 nk f1 f2 f3 f4 f5 f6 f7 f8 f9 f10 nb nr kr pr k wg (by omega) (by omega)) gL_does_X4_rule rfl hvX4_rule ⟨Nat.le_of_ble_eq_true rfl, Nat.le_of_ble_eq_true rfl⟩ hP hK hD hS hA hT [0, 1, 2, 3, 4] [] [0, 1, 2, 3, 4] rfl rfl rfl rfl (by decide) (fun _ => rfl) rfl rfl rfl rfl hl.1 rfl (Nat.le_of_ble_eq_true rfl) dL_does_20 ⟨Nat.le_of_ble_eq_true rfl, Nat.le_of_ble_eq_true rfl⟩ (fun E ce q9 H locs hE hP hD hS hlt h7 h8 h9 => xcd_no hz hE) (fun r1 u1 H locs hr1 hP hD hS => ?_)
  have hP : va_P D vwCl [(h0, .inr (4, [.ref a0, .ref b0, .ref f0, .ref g0])), (a0, .inr (1, [.ref a1, .int (nI nk)])), (f0, .inr (0, [.ref f1, .int (nI nb), .ref f2, .ref f3, .ref f4, .int (nI (nr + 1)), .ref f5, .ref f6, .ref f7, .ref f8, .ref f9, .ref f10])), (f2, .inl (y3.1, 12, .inl (fN (va_up kr nr k.toNatClampNeg)))), (f3, .inl (y3.1, 12, .inl (upd pr nr wg)))] H := hP
  have hD : va_D A [(h0, .inr (4, [.ref a0, .ref b0, .ref f0, .ref g0])), (a0, .inr (1, [.ref a1, .int (nI nk)])), (f0, .inr (0, [.ref f1, .int (nI nb), .ref f2, .ref f3, .ref f4, .int (nI (nr + 1)), .ref f5, .ref f6, .ref f7, .ref f8, .ref f9, .ref f10])), (f2, .inl (y3.1, 12, .inl (fN (va_up kr nr k.toNatClampNeg)))), (f3, .inl (y3.1, 12, .inl (upd pr nr wg)))] := hD
  rw [hr1.2]
  refine lv_goto (tgt := 57) hx hb dL_does_23 (by decide) ?_
  exact hret 57 ls H locs _ _ () _ hP hD hS hS.1 (Nat.le_of_ble_eq_true rfl) (Nat.le_of_ble_eq_true rfl) rfl dL_does_57

set_option maxHeartbeats 4000000 in
set_option maxRecDepth 100000 in
theorem kL_does_rule_ex (l : Launch) (hls : l.stackTraces = false) (D : va_G) (y3 : ClassId × ClassId × ClassId) (h0 : Nat) (a0 : Nat) (b0 : Nat) (f0 : Nat) (g0 : Nat) (a1 : Nat) (nk : Nat) (f1 : Nat) (f2 : Nat) (f3 : Nat) (f4 : Nat) (f5 : Nat) (f6 : Nat) (f7 : Nat) (f8 : Nat) (f9 : Nat) (f10 : Nat) (nb : Nat) (nr : Nat) (kr : Nat → Nat) (pr : Nat → Int32) (k : Int32) (wg : Int32) (hk : nk ≤ 14) (hnr : nr ≤ 12) (hz : ¬ (ak3 (inB k nk) (rgB wg (nI 0) (nI 100)) (decide (nr < 12))) = 0) : lxM l yL_does wsL_does 9 154 1 6 1 D y3 [(h0, .inr (4, [.ref a0, .ref b0, .ref f0, .ref g0])), (a0, .inr (1, [.ref a1, .int (nI nk)])), (f0, .inr (0, [.ref f1, .int (nI nb), .ref f2, .ref f3, .ref f4, .int (nI nr), .ref f5, .ref f6, .ref f7, .ref f8, .ref f9, .ref f10])), (f2, .inl (y3.1, 12, .inl (fN kr))), (f3, .inl (y3.1, 12, .inl pr))] [.ref h0, .int (nI 1), .int k, .int wg] (fun r (_ : Unit) => r = (-8)) (fun (_ : Unit) => [(h0, .inr (4, [.ref a0, .ref b0, .ref f0, .ref g0])), (a0, .inr (1, [.ref a1, .int (nI nk)])), (f0, .inr (0, [.ref f1, .int (nI nb), .ref f2, .ref f3, .ref f4, .int (nI nr), .ref f5, .ref f6, .ref f7, .ref f8, .ref f9, .ref f10])), (f2, .inl (y3.1, 12, .inl (fN kr))), (f3, .inl (y3.1, 12, .inl pr))]) := by
  refine lx_of (cc := cL_does) (maxL := 5) (by decide) rfl (Nat.le_of_ble_eq_true rfl) ?_
  intro p e s m args below meth c A Q hx hb hml hown hts htab hP hK hD hA hS hT hret ls hl
  have hown : s.vm.findClass RL = some m.cls := hown
  replace hl : lv_has ls 5 [(0, .ref h0), (1, .int (nI 1)), (2, .int k), (3, .int wg)] := hl
  have hk14 := hts (.classLink RL 14 xIO) (by decide +kernel)
  have hk16 := hts (.classLink RL 16 xIA) (by decide +kernel)
  have hk18 := hts (.classLink RL 18 xIS) (by decide +kernel)
  refine lv_iload_n hx hb dL_does_0 rfl (lv_at hl 1 rfl) ?_
  refine lv_if_ne (tgt := 12) hx hb dL_does_1 (by decide) (fun _ => ?_) (fun h9 => absurd h9 (by decide +kernel))
  refine lv_iload_n hx hb dL_does_12 rfl (lv_at hl 1 rfl) ?_
  refine lv_iconst (v := (nI 1)) hx hb dL_does_13 rfl ?_
  refine lv_icmp_ne (tgt := 26) hx hb dL_does_14 (by decide) (fun h9 => absurd h9 (by decide +kernel)) (fun _ => ?_)
  refine lv_aload_n hx hb dL_does_17 rfl (lv_at hl 0 rfl) ?_
  refine lv_iload_n hx hb dL_does_18 rfl (lv_at hl 2 rfl) ?_
  refine lv_iload_n hx hb dL_does_19 rfl (lv_at hl 3 rfl) ?_
  refine tx_V (ci := 4) (q0 := 0) (own := RL) (As := [.int k, .int wg]) (rest := []) (bytes := cX4_rule) (maxL := 3) (wr := []) (w3 := (fun (_ : Unit) => [(h0, .inr (4, [.ref a0, .ref b0, .ref f0, .ref g0])), (a0, .inr (1, [.ref a1, .int (nI nk)])), (f0, .inr (0, [.ref f1, .int (nI nb), .ref f2, .ref f3, .ref f4, .int (nI (nr + 1)), .ref f5, .ref f6, .ref f7, .ref f8, .ref f9, .ref f10])), (f2, .inl (y3.1, 12, .inl (fN (va_up kr nr k.toNatClampNeg)))), (f3, .inl (y3.1, 12, .inl (upd pr nr wg)))])) ⟨hx, hb, hml, hown, hts⟩ (kX4_rule l hls D y3 h0 a0 b0 f0 g0 a1 nk f1 f2 f3 f4 f5 f6 f7 f8 f9 f10 nb nr kr pr k wg (by omega) (by omega)) gL_does_X4_rule rfl hvX4_rule ⟨Nat.le_of_ble_eq_true rfl, Nat.le_of_ble_eq_true rfl⟩ hP hK hD hS hA hT [0, 1, 2, 3, 4] [] [0, 1, 2, 3, 4] rfl rfl rfl rfl (by decide) (fun _ => rfl) rfl rfl rfl rfl hl.1 rfl (Nat.le_of_ble_eq_true rfl) dL_does_20 ⟨Nat.le_of_ble_eq_true rfl, Nat.le_of_ble_eq_true rfl⟩ (fun E ce q9 H locs hE hP hD hS hlt h7 h8 h9 => ?_) (fun r1 u1 H locs hr1 hP hD hS => absurd hr1.1 hz)
  rcases xcd_3 hE with ⟨hz9, rfl⟩ | ⟨hz9, rfl⟩ | ⟨hz9, rfl⟩
  · refine vx_catch (own := RL) (name := xIO) hown [] ⟨0, 57, 58, 14⟩ [⟨0, 57, 63, 16⟩, ⟨0, 57, 68, 18⟩] htab (fun z h => (by cases h)) rfl (by decide) hk14 (lx_c hT (by simp [xE3])) h7 h8 h9 ?_
    refine lv_astore (lv' := [(4, .ref q9), (0, .ref h0), (1, .int (nI 1)), (2, .int k), (3, .int wg)]) hx hb dL_does_58 hl (by decide) rfl (fun ls hl => ?_)
    refine lv_bipush (v := (-8)) hx hb dL_does_60 rfl ?_
    exact hret 62 ls H locs _ _ () _ hP hD hS hlt (Nat.le_of_ble_eq_true rfl) (Nat.le_of_ble_eq_true rfl) rfl dL_does_62
  · refine vx_catch (own := RL) (name := xIA) hown [⟨0, 57, 58, 14⟩] ⟨0, 57, 63, 16⟩ [⟨0, 57, 68, 18⟩] htab (fun z h => by
        simp only [List.mem_cons, List.not_mem_nil, or_false] at h
        subst h
        exact Or.inr ⟨by decide, xIO, hk14, lx_IA hT⟩) rfl (by decide) hk16 (lx_c hT (by simp [xE3])) h7 h8 h9 ?_
    refine lv_astore (lv' := [(4, .ref q9), (0, .ref h0), (1, .int (nI 1)), (2, .int k), (3, .int wg)]) hx hb dL_does_63 hl (by decide) rfl (fun ls hl => ?_)
    refine lv_bipush (v := (-8)) hx hb dL_does_65 rfl ?_
    exact hret 67 ls H locs _ _ () _ hP hD hS hlt (Nat.le_of_ble_eq_true rfl) (Nat.le_of_ble_eq_true rfl) rfl dL_does_67
  · refine vx_catch (own := RL) (name := xIS) hown [⟨0, 57, 58, 14⟩, ⟨0, 57, 63, 16⟩] ⟨0, 57, 68, 18⟩ [] htab (fun z h => by
        simp only [List.mem_cons, List.not_mem_nil, or_false] at h
        rcases h with rfl | rfl
        · exact Or.inr ⟨by decide, xIO, hk14, lx_IS hT⟩
        · exact Or.inr ⟨by decide, xIA, hk16, lx_SA hT⟩) rfl (by decide) hk18 (lx_c hT (by simp [xE3])) h7 h8 h9 ?_
    refine lv_astore (lv' := [(4, .ref q9), (0, .ref h0), (1, .int (nI 1)), (2, .int k), (3, .int wg)]) hx hb dL_does_68 hl (by decide) rfl (fun ls hl => ?_)
    refine lv_bipush (v := (-8)) hx hb dL_does_70 rfl ?_
    exact hret 72 ls H locs _ _ () _ hP hD hS hlt (Nat.le_of_ble_eq_true rfl) (Nat.le_of_ble_eq_true rfl) rfl dL_does_72

set_option maxHeartbeats 4000000 in
set_option maxRecDepth 100000 in
theorem kL_does_drop_ok (l : Launch) (hls : l.stackTraces = false) (D : va_G) (y3 : ClassId × ClassId × ClassId) (h0 : Nat) (a0 : Nat) (b0 : Nat) (f0 : Nat) (g0 : Nat) (b1 : Nat) (b2 : Nat) (b3 : Nat) (b4 : Nat) (b5 : Nat) (b6 : Nat) (b7 : Nat) (nl : Nat) (np : Nat) (nt : Nat) (th : Nat → Bool) (k : Int32) (o : Int32) (hnp : np ≤ 20) (hnt : ∀ q : Nat, q < np → th q = true → 0 < nt) (hz : (ak1 (hasP th np k)) = 0) : lxM l yL_does wsL_does 9 154 1 6 0 D y3 [(h0, .inr (4, [.ref a0, .ref b0, .ref f0, .ref g0])), (b0, .inr (2, [.ref b1, .int (nI nl), .ref b2, .ref b3, .ref b4, .ref b5, .ref b6, .int (nI np), .int (nI nt), .ref b7])), (b5, .inl (y3.2.1, 20, .inl (fB th)))] [.ref h0, .int (nI 2), .int k, .int o] (fun r (_ : Unit) => r = (nI (nt - 1))) (fun (_ : Unit) => [(h0, .inr (4, [.ref a0, .ref b0, .ref f0, .ref g0])), (b0, .inr (2, [.ref b1, .int (nI nl), .ref b2, .ref b3, .ref b4, .ref b5, .ref b6, .int (nI np), .int (nI (nt - 1)), .ref b7])), (b5, .inl (y3.2.1, 20, .inl (fB (va_up th k.toNatClampNeg false))))]) := by
  refine lx_of (cc := cL_does) (maxL := 5) (by decide) rfl (Nat.le_of_ble_eq_true rfl) ?_
  intro p e s m args below meth c A Q hx hb hml hown hts htab hP hK hD hA hS hT hret ls hl
  have hown : s.vm.findClass RL = some m.cls := hown
  replace hl : lv_has ls 5 [(0, .ref h0), (1, .int (nI 2)), (2, .int k), (3, .int o)] := hl
  refine lv_iload_n hx hb dL_does_0 rfl (lv_at hl 1 rfl) ?_
  refine lv_if_ne (tgt := 12) hx hb dL_does_1 (by decide) (fun _ => ?_) (fun h9 => absurd h9 (by decide +kernel))
  refine lv_iload_n hx hb dL_does_12 rfl (lv_at hl 1 rfl) ?_
  refine lv_iconst (v := (nI 1)) hx hb dL_does_13 rfl ?_
  refine lv_icmp_ne (tgt := 26) hx hb dL_does_14 (by decide) (fun _ => ?_) (fun h9 => absurd h9 (by decide +kernel))
  refine lv_iload_n hx hb dL_does_26 rfl (lv_at hl 1 rfl) ?_
  refine lv_iconst (v := (nI 2)) hx hb dL_does_27 rfl ?_
  refine lv_icmp_ne (tgt := 39) hx hb dL_does_28 (by decide) (fun h9 => absurd h9 (by decide +kernel)) (fun _ => ?_)
  refine lv_aload_n hx hb dL_does_31 rfl (lv_at hl 0 rfl) ?_
  refine lv_iload_n hx hb dL_does_32 rfl (lv_at hl 2 rfl) ?_
  refine tx_V (ci := 4) (q0 := 0) (own := RL) (As := [.int k]) (rest := []) (bytes := cX4_drop) (maxL := 2) (wr := []) (w3 := (fun (_ : Unit) => [(h0, .inr (4, [.ref a0, .ref b0, .ref f0, .ref g0])), (b0, .inr (2, [.ref b1, .int (nI nl), .ref b2, .ref b3, .ref b4, .ref b5, .ref b6, .int (nI np), .int (nI (nt - 1)), .ref b7])), (b5, .inl (y3.2.1, 20, .inl (fB (va_up th k.toNatClampNeg false))))])) ⟨hx, hb, hml, hown, hts⟩ (kX4_drop l hls D y3 h0 a0 b0 f0 g0 b1 b2 b3 b4 b5 b6 b7 nl np nt th k (by omega) (by assumption)) gL_does_X4_drop rfl hvX4_drop ⟨Nat.le_of_ble_eq_true rfl, Nat.le_of_ble_eq_true rfl⟩ hP hK hD hS hA hT [0, 1, 2] [] [0, 1, 2] rfl rfl rfl rfl (by decide) (fun _ => rfl) rfl rfl rfl rfl hl.1 rfl (Nat.le_of_ble_eq_true rfl) dL_does_33 ⟨Nat.le_of_ble_eq_true rfl, Nat.le_of_ble_eq_true rfl⟩ (fun E ce q9 H locs hE hP hD hS hlt h7 h8 h9 => xcd_no hz hE) (fun r1 u1 H locs hr1 hP hD hS => ?_)
  have hP : va_P D vwCl [(h0, .inr (4, [.ref a0, .ref b0, .ref f0, .ref g0])), (b0, .inr (2, [.ref b1, .int (nI nl), .ref b2, .ref b3, .ref b4, .ref b5, .ref b6, .int (nI np), .int (nI (nt - 1)), .ref b7])), (b5, .inl (y3.2.1, 20, .inl (fB (va_up th k.toNatClampNeg false))))] H := hP
  have hD : va_D A [(h0, .inr (4, [.ref a0, .ref b0, .ref f0, .ref g0])), (b0, .inr (2, [.ref b1, .int (nI nl), .ref b2, .ref b3, .ref b4, .ref b5, .ref b6, .int (nI np), .int (nI (nt - 1)), .ref b7])), (b5, .inl (y3.2.1, 20, .inl (fB (va_up th k.toNatClampNeg false))))] := hD
  rw [hr1.2]
  refine lv_goto (tgt := 57) hx hb dL_does_36 (by decide) ?_
  exact hret 57 ls H locs _ _ () _ hP hD hS hS.1 (Nat.le_of_ble_eq_true rfl) (Nat.le_of_ble_eq_true rfl) rfl dL_does_57

set_option maxHeartbeats 4000000 in
set_option maxRecDepth 100000 in
theorem kL_does_drop_ex (l : Launch) (hls : l.stackTraces = false) (D : va_G) (y3 : ClassId × ClassId × ClassId) (h0 : Nat) (a0 : Nat) (b0 : Nat) (f0 : Nat) (g0 : Nat) (b1 : Nat) (b2 : Nat) (b3 : Nat) (b4 : Nat) (b5 : Nat) (b6 : Nat) (b7 : Nat) (nl : Nat) (np : Nat) (nt : Nat) (th : Nat → Bool) (k : Int32) (o : Int32) (hnp : np ≤ 20) (hnt : ∀ q : Nat, q < np → th q = true → 0 < nt) (hz : ¬ (ak1 (hasP th np k)) = 0) : lxM l yL_does wsL_does 9 154 1 6 1 D y3 [(h0, .inr (4, [.ref a0, .ref b0, .ref f0, .ref g0])), (b0, .inr (2, [.ref b1, .int (nI nl), .ref b2, .ref b3, .ref b4, .ref b5, .ref b6, .int (nI np), .int (nI nt), .ref b7])), (b5, .inl (y3.2.1, 20, .inl (fB th)))] [.ref h0, .int (nI 2), .int k, .int o] (fun r (_ : Unit) => r = (-8)) (fun (_ : Unit) => [(h0, .inr (4, [.ref a0, .ref b0, .ref f0, .ref g0])), (b0, .inr (2, [.ref b1, .int (nI nl), .ref b2, .ref b3, .ref b4, .ref b5, .ref b6, .int (nI np), .int (nI nt), .ref b7])), (b5, .inl (y3.2.1, 20, .inl (fB th)))]) := by
  refine lx_of (cc := cL_does) (maxL := 5) (by decide) rfl (Nat.le_of_ble_eq_true rfl) ?_
  intro p e s m args below meth c A Q hx hb hml hown hts htab hP hK hD hA hS hT hret ls hl
  have hown : s.vm.findClass RL = some m.cls := hown
  replace hl : lv_has ls 5 [(0, .ref h0), (1, .int (nI 2)), (2, .int k), (3, .int o)] := hl
  have hk14 := hts (.classLink RL 14 xIO) (by decide +kernel)
  have hk16 := hts (.classLink RL 16 xIA) (by decide +kernel)
  have hk18 := hts (.classLink RL 18 xIS) (by decide +kernel)
  refine lv_iload_n hx hb dL_does_0 rfl (lv_at hl 1 rfl) ?_
  refine lv_if_ne (tgt := 12) hx hb dL_does_1 (by decide) (fun _ => ?_) (fun h9 => absurd h9 (by decide +kernel))
  refine lv_iload_n hx hb dL_does_12 rfl (lv_at hl 1 rfl) ?_
  refine lv_iconst (v := (nI 1)) hx hb dL_does_13 rfl ?_
  refine lv_icmp_ne (tgt := 26) hx hb dL_does_14 (by decide) (fun _ => ?_) (fun h9 => absurd h9 (by decide +kernel))
  refine lv_iload_n hx hb dL_does_26 rfl (lv_at hl 1 rfl) ?_
  refine lv_iconst (v := (nI 2)) hx hb dL_does_27 rfl ?_
  refine lv_icmp_ne (tgt := 39) hx hb dL_does_28 (by decide) (fun h9 => absurd h9 (by decide +kernel)) (fun _ => ?_)
  refine lv_aload_n hx hb dL_does_31 rfl (lv_at hl 0 rfl) ?_
  refine lv_iload_n hx hb dL_does_32 rfl (lv_at hl 2 rfl) ?_
  refine tx_V (ci := 4) (q0 := 0) (own := RL) (As := [.int k]) (rest := []) (bytes := cX4_drop) (maxL := 2) (wr := []) (w3 := (fun (_ : Unit) => [(h0, .inr (4, [.ref a0, .ref b0, .ref f0, .ref g0])), (b0, .inr (2, [.ref b1, .int (nI nl), .ref b2, .ref b3, .ref b4, .ref b5, .ref b6, .int (nI np), .int (nI (nt - 1)), .ref b7])), (b5, .inl (y3.2.1, 20, .inl (fB (va_up th k.toNatClampNeg false))))])) ⟨hx, hb, hml, hown, hts⟩ (kX4_drop l hls D y3 h0 a0 b0 f0 g0 b1 b2 b3 b4 b5 b6 b7 nl np nt th k (by omega) (by assumption)) gL_does_X4_drop rfl hvX4_drop ⟨Nat.le_of_ble_eq_true rfl, Nat.le_of_ble_eq_true rfl⟩ hP hK hD hS hA hT [0, 1, 2] [] [0, 1, 2] rfl rfl rfl rfl (by decide) (fun _ => rfl) rfl rfl rfl rfl hl.1 rfl (Nat.le_of_ble_eq_true rfl) dL_does_33 ⟨Nat.le_of_ble_eq_true rfl, Nat.le_of_ble_eq_true rfl⟩ (fun E ce q9 H locs hE hP hD hS hlt h7 h8 h9 => ?_) (fun r1 u1 H locs hr1 hP hD hS => absurd hr1.1 hz)
  obtain ⟨hz9, rfl⟩ := xcd_1 hE
  refine vx_catch (own := RL) (name := xIO) hown [] ⟨0, 57, 58, 14⟩ [⟨0, 57, 63, 16⟩, ⟨0, 57, 68, 18⟩] htab (fun z h => (by cases h)) rfl (by decide) hk14 (lx_c hT (by simp [xE3])) h7 h8 h9 ?_
  refine lv_astore (lv' := [(4, .ref q9), (0, .ref h0), (1, .int (nI 2)), (2, .int k), (3, .int o)]) hx hb dL_does_58 hl (by decide) rfl (fun ls hl => ?_)
  refine lv_bipush (v := (-8)) hx hb dL_does_60 rfl ?_
  exact hret 62 ls H locs _ _ () _ hP hD hS hlt (Nat.le_of_ble_eq_true rfl) (Nat.le_of_ble_eq_true rfl) rfl dL_does_62

set_option maxHeartbeats 4000000 in
set_option maxRecDepth 100000 in
theorem kL_does_letter_ok (l : Launch) (hls : l.stackTraces = false) (D : va_G) (y3 : ClassId × ClassId × ClassId) (h0 : Nat) (a0 : Nat) (b0 : Nat) (f0 : Nat) (g0 : Nat) (b1 : Nat) (b2 : Nat) (b3 : Nat) (b4 : Nat) (b5 : Nat) (b6 : Nat) (b7 : Nat) (nl : Nat) (np : Nat) (nt : Nat) (lt : Nat → Int32) (k : Int32) (o : Int32) (hnl : nl ≤ 12) (hz : (ak2 (rgB k (nI 0) (nI 9)) (decide (nl < 12))) = 0) : lxM l yL_does wsL_does 9 154 1 6 0 D y3 [(h0, .inr (4, [.ref a0, .ref b0, .ref f0, .ref g0])), (b0, .inr (2, [.ref b1, .int (nI nl), .ref b2, .ref b3, .ref b4, .ref b5, .ref b6, .int (nI np), .int (nI nt), .ref b7])), (b1, .inl (y3.1, 12, .inl lt))] [.ref h0, .int (nI 3), .int k, .int o] (fun r (_ : Unit) => r = (nI (nl + 1))) (fun (_ : Unit) => [(h0, .inr (4, [.ref a0, .ref b0, .ref f0, .ref g0])), (b0, .inr (2, [.ref b1, .int (nI (nl + 1)), .ref b2, .ref b3, .ref b4, .ref b5, .ref b6, .int (nI np), .int (nI nt), .ref b7])), (b1, .inl (y3.1, 12, .inl (upd lt nl k)))]) := by
  refine lx_of (cc := cL_does) (maxL := 5) (by decide) rfl (Nat.le_of_ble_eq_true rfl) ?_
  intro p e s m args below meth c A Q hx hb hml hown hts htab hP hK hD hA hS hT hret ls hl
  have hown : s.vm.findClass RL = some m.cls := hown
  replace hl : lv_has ls 5 [(0, .ref h0), (1, .int (nI 3)), (2, .int k), (3, .int o)] := hl
  refine lv_iload_n hx hb dL_does_0 rfl (lv_at hl 1 rfl) ?_
  refine lv_if_ne (tgt := 12) hx hb dL_does_1 (by decide) (fun _ => ?_) (fun h9 => absurd h9 (by decide +kernel))
  refine lv_iload_n hx hb dL_does_12 rfl (lv_at hl 1 rfl) ?_
  refine lv_iconst (v := (nI 1)) hx hb dL_does_13 rfl ?_
  refine lv_icmp_ne (tgt := 26) hx hb dL_does_14 (by decide) (fun _ => ?_) (fun h9 => absurd h9 (by decide +kernel))
  refine lv_iload_n hx hb dL_does_26 rfl (lv_at hl 1 rfl) ?_
  refine lv_iconst (v := (nI 2)) hx hb dL_does_27 rfl ?_
  refine lv_icmp_ne (tgt := 39) hx hb dL_does_28 (by decide) (fun _ => ?_) (fun h9 => absurd h9 (by decide +kernel))
  refine lv_iload_n hx hb dL_does_39 rfl (lv_at hl 1 rfl) ?_
  refine lv_iconst (v := (nI 3)) hx hb dL_does_40 rfl ?_
  refine lv_icmp_ne (tgt := 52) hx hb dL_does_41 (by decide) (fun h9 => absurd h9 (by decide +kernel)) (fun _ => ?_)
  refine lv_aload_n hx hb dL_does_44 rfl (lv_at hl 0 rfl) ?_
  refine lv_iload_n hx hb dL_does_45 rfl (lv_at hl 2 rfl) ?_
  refine tx_V (ci := 4) (q0 := 0) (own := RL) (As := [.int k]) (rest := []) (bytes := cX4_letter) (maxL := 2) (wr := []) (w3 := (fun (_ : Unit) => [(h0, .inr (4, [.ref a0, .ref b0, .ref f0, .ref g0])), (b0, .inr (2, [.ref b1, .int (nI (nl + 1)), .ref b2, .ref b3, .ref b4, .ref b5, .ref b6, .int (nI np), .int (nI nt), .ref b7])), (b1, .inl (y3.1, 12, .inl (upd lt nl k)))])) ⟨hx, hb, hml, hown, hts⟩ (kX4_letter l hls D y3 h0 a0 b0 f0 g0 b1 b2 b3 b4 b5 b6 b7 nl np nt lt k (by omega)) gL_does_X4_letter rfl hvX4_letter ⟨Nat.le_of_ble_eq_true rfl, Nat.le_of_ble_eq_true rfl⟩ hP hK hD hS hA hT [0, 1, 2] [] [0, 1, 2] rfl rfl rfl rfl (by decide) (fun _ => rfl) rfl rfl rfl rfl hl.1 rfl (Nat.le_of_ble_eq_true rfl) dL_does_46 ⟨Nat.le_of_ble_eq_true rfl, Nat.le_of_ble_eq_true rfl⟩ (fun E ce q9 H locs hE hP hD hS hlt h7 h8 h9 => xcd_no hz hE) (fun r1 u1 H locs hr1 hP hD hS => ?_)
  have hP : va_P D vwCl [(h0, .inr (4, [.ref a0, .ref b0, .ref f0, .ref g0])), (b0, .inr (2, [.ref b1, .int (nI (nl + 1)), .ref b2, .ref b3, .ref b4, .ref b5, .ref b6, .int (nI np), .int (nI nt), .ref b7])), (b1, .inl (y3.1, 12, .inl (upd lt nl k)))] H := hP
  have hD : va_D A [(h0, .inr (4, [.ref a0, .ref b0, .ref f0, .ref g0])), (b0, .inr (2, [.ref b1, .int (nI (nl + 1)), .ref b2, .ref b3, .ref b4, .ref b5, .ref b6, .int (nI np), .int (nI nt), .ref b7])), (b1, .inl (y3.1, 12, .inl (upd lt nl k)))] := hD
  rw [hr1.2]
  refine lv_goto (tgt := 57) hx hb dL_does_49 (by decide) ?_
  exact hret 57 ls H locs _ _ () _ hP hD hS hS.1 (Nat.le_of_ble_eq_true rfl) (Nat.le_of_ble_eq_true rfl) rfl dL_does_57

set_option maxHeartbeats 4000000 in
set_option maxRecDepth 100000 in
theorem kL_does_letter_ex (l : Launch) (hls : l.stackTraces = false) (D : va_G) (y3 : ClassId × ClassId × ClassId) (h0 : Nat) (a0 : Nat) (b0 : Nat) (f0 : Nat) (g0 : Nat) (b1 : Nat) (b2 : Nat) (b3 : Nat) (b4 : Nat) (b5 : Nat) (b6 : Nat) (b7 : Nat) (nl : Nat) (np : Nat) (nt : Nat) (lt : Nat → Int32) (k : Int32) (o : Int32) (hnl : nl ≤ 12) (hz : ¬ (ak2 (rgB k (nI 0) (nI 9)) (decide (nl < 12))) = 0) : lxM l yL_does wsL_does 9 154 1 6 1 D y3 [(h0, .inr (4, [.ref a0, .ref b0, .ref f0, .ref g0])), (b0, .inr (2, [.ref b1, .int (nI nl), .ref b2, .ref b3, .ref b4, .ref b5, .ref b6, .int (nI np), .int (nI nt), .ref b7])), (b1, .inl (y3.1, 12, .inl lt))] [.ref h0, .int (nI 3), .int k, .int o] (fun r (_ : Unit) => r = (-8)) (fun (_ : Unit) => [(h0, .inr (4, [.ref a0, .ref b0, .ref f0, .ref g0])), (b0, .inr (2, [.ref b1, .int (nI nl), .ref b2, .ref b3, .ref b4, .ref b5, .ref b6, .int (nI np), .int (nI nt), .ref b7])), (b1, .inl (y3.1, 12, .inl lt))]) := by
  refine lx_of (cc := cL_does) (maxL := 5) (by decide) rfl (Nat.le_of_ble_eq_true rfl) ?_
  intro p e s m args below meth c A Q hx hb hml hown hts htab hP hK hD hA hS hT hret ls hl
  have hown : s.vm.findClass RL = some m.cls := hown
  replace hl : lv_has ls 5 [(0, .ref h0), (1, .int (nI 3)), (2, .int k), (3, .int o)] := hl
  have hk14 := hts (.classLink RL 14 xIO) (by decide +kernel)
  have hk16 := hts (.classLink RL 16 xIA) (by decide +kernel)
  have hk18 := hts (.classLink RL 18 xIS) (by decide +kernel)
  refine lv_iload_n hx hb dL_does_0 rfl (lv_at hl 1 rfl) ?_
  refine lv_if_ne (tgt := 12) hx hb dL_does_1 (by decide) (fun _ => ?_) (fun h9 => absurd h9 (by decide +kernel))
  refine lv_iload_n hx hb dL_does_12 rfl (lv_at hl 1 rfl) ?_
  refine lv_iconst (v := (nI 1)) hx hb dL_does_13 rfl ?_
  refine lv_icmp_ne (tgt := 26) hx hb dL_does_14 (by decide) (fun _ => ?_) (fun h9 => absurd h9 (by decide +kernel))
  refine lv_iload_n hx hb dL_does_26 rfl (lv_at hl 1 rfl) ?_
  refine lv_iconst (v := (nI 2)) hx hb dL_does_27 rfl ?_
  refine lv_icmp_ne (tgt := 39) hx hb dL_does_28 (by decide) (fun _ => ?_) (fun h9 => absurd h9 (by decide +kernel))
  refine lv_iload_n hx hb dL_does_39 rfl (lv_at hl 1 rfl) ?_
  refine lv_iconst (v := (nI 3)) hx hb dL_does_40 rfl ?_
  refine lv_icmp_ne (tgt := 52) hx hb dL_does_41 (by decide) (fun h9 => absurd h9 (by decide +kernel)) (fun _ => ?_)
  refine lv_aload_n hx hb dL_does_44 rfl (lv_at hl 0 rfl) ?_
  refine lv_iload_n hx hb dL_does_45 rfl (lv_at hl 2 rfl) ?_
  refine tx_V (ci := 4) (q0 := 0) (own := RL) (As := [.int k]) (rest := []) (bytes := cX4_letter) (maxL := 2) (wr := []) (w3 := (fun (_ : Unit) => [(h0, .inr (4, [.ref a0, .ref b0, .ref f0, .ref g0])), (b0, .inr (2, [.ref b1, .int (nI (nl + 1)), .ref b2, .ref b3, .ref b4, .ref b5, .ref b6, .int (nI np), .int (nI nt), .ref b7])), (b1, .inl (y3.1, 12, .inl (upd lt nl k)))])) ⟨hx, hb, hml, hown, hts⟩ (kX4_letter l hls D y3 h0 a0 b0 f0 g0 b1 b2 b3 b4 b5 b6 b7 nl np nt lt k (by omega)) gL_does_X4_letter rfl hvX4_letter ⟨Nat.le_of_ble_eq_true rfl, Nat.le_of_ble_eq_true rfl⟩ hP hK hD hS hA hT [0, 1, 2] [] [0, 1, 2] rfl rfl rfl rfl (by decide) (fun _ => rfl) rfl rfl rfl rfl hl.1 rfl (Nat.le_of_ble_eq_true rfl) dL_does_46 ⟨Nat.le_of_ble_eq_true rfl, Nat.le_of_ble_eq_true rfl⟩ (fun E ce q9 H locs hE hP hD hS hlt h7 h8 h9 => ?_) (fun r1 u1 H locs hr1 hP hD hS => absurd hr1.1 hz)
  rcases xcd_2 hE with ⟨hz9, rfl⟩ | ⟨hz9, rfl⟩
  · refine vx_catch (own := RL) (name := xIA) hown [⟨0, 57, 58, 14⟩] ⟨0, 57, 63, 16⟩ [⟨0, 57, 68, 18⟩] htab (fun z h => by
        simp only [List.mem_cons, List.not_mem_nil, or_false] at h
        subst h
        exact Or.inr ⟨by decide, xIO, hk14, lx_IA hT⟩) rfl (by decide) hk16 (lx_c hT (by simp [xE3])) h7 h8 h9 ?_
    refine lv_astore (lv' := [(4, .ref q9), (0, .ref h0), (1, .int (nI 3)), (2, .int k), (3, .int o)]) hx hb dL_does_63 hl (by decide) rfl (fun ls hl => ?_)
    refine lv_bipush (v := (-8)) hx hb dL_does_65 rfl ?_
    exact hret 67 ls H locs _ _ () _ hP hD hS hlt (Nat.le_of_ble_eq_true rfl) (Nat.le_of_ble_eq_true rfl) rfl dL_does_67
  · refine vx_catch (own := RL) (name := xIS) hown [⟨0, 57, 58, 14⟩, ⟨0, 57, 63, 16⟩] ⟨0, 57, 68, 18⟩ [] htab (fun z h => by
        simp only [List.mem_cons, List.not_mem_nil, or_false] at h
        rcases h with rfl | rfl
        · exact Or.inr ⟨by decide, xIO, hk14, lx_IS hT⟩
        · exact Or.inr ⟨by decide, xIA, hk16, lx_SA hT⟩) rfl (by decide) hk18 (lx_c hT (by simp [xE3])) h7 h8 h9 ?_
    refine lv_astore (lv' := [(4, .ref q9), (0, .ref h0), (1, .int (nI 3)), (2, .int k), (3, .int o)]) hx hb dL_does_68 hl (by decide) rfl (fun ls hl => ?_)
    refine lv_bipush (v := (-8)) hx hb dL_does_70 rfl ?_
    exact hret 72 ls H locs _ _ () _ hP hD hS hlt (Nat.le_of_ble_eq_true rfl) (Nat.le_of_ble_eq_true rfl) rfl dL_does_72

set_option maxHeartbeats 4000000 in
set_option maxRecDepth 100000 in
theorem kL_does_put_ex (l : Launch) (hls : l.stackTraces = false) (D : va_G) (y3 : ClassId × ClassId × ClassId) (h0 : Nat) (a0 : Nat) (b0 : Nat) (f0 : Nat) (g0 : Nat) (f1 : Nat) (f2 : Nat) (f3 : Nat) (f4 : Nat) (f5 : Nat) (f6 : Nat) (f7 : Nat) (f8 : Nat) (f9 : Nat) (f10 : Nat) (nb : Nat) (nr : Nat) (vb : Nat → Int32) (k : Int32) (o : Int32) (hnb : nb ≤ 16) (hz : ¬ (ak2 (rgB k (nI 0) (nI 255)) (decide (nb < 16))) = 0) : lxM l yL_does wsL_does 9 154 1 6 1 D y3 [(h0, .inr (4, [.ref a0, .ref b0, .ref f0, .ref g0])), (f0, .inr (0, [.ref f1, .int (nI nb), .ref f2, .ref f3, .ref f4, .int (nI nr), .ref f5, .ref f6, .ref f7, .ref f8, .ref f9, .ref f10])), (f1, .inl (y3.1, 16, .inl vb))] [.ref h0, .int (nI 4), .int k, .int o] (fun r (_ : Unit) => r = (-8)) (fun (_ : Unit) => [(h0, .inr (4, [.ref a0, .ref b0, .ref f0, .ref g0])), (f0, .inr (0, [.ref f1, .int (nI nb), .ref f2, .ref f3, .ref f4, .int (nI nr), .ref f5, .ref f6, .ref f7, .ref f8, .ref f9, .ref f10])), (f1, .inl (y3.1, 16, .inl vb))]) := by
  refine lx_of (cc := cL_does) (maxL := 5) (by decide) rfl (Nat.le_of_ble_eq_true rfl) ?_
  intro p e s m args below meth c A Q hx hb hml hown hts htab hP hK hD hA hS hT hret ls hl
  have hown : s.vm.findClass RL = some m.cls := hown
  replace hl : lv_has ls 5 [(0, .ref h0), (1, .int (nI 4)), (2, .int k), (3, .int o)] := hl
  have hk14 := hts (.classLink RL 14 xIO) (by decide +kernel)
  have hk16 := hts (.classLink RL 16 xIA) (by decide +kernel)
  have hk18 := hts (.classLink RL 18 xIS) (by decide +kernel)
  refine lv_iload_n hx hb dL_does_0 rfl (lv_at hl 1 rfl) ?_
  refine lv_if_ne (tgt := 12) hx hb dL_does_1 (by decide) (fun _ => ?_) (fun h9 => absurd h9 (by decide +kernel))
  refine lv_iload_n hx hb dL_does_12 rfl (lv_at hl 1 rfl) ?_
  refine lv_iconst (v := (nI 1)) hx hb dL_does_13 rfl ?_
  refine lv_icmp_ne (tgt := 26) hx hb dL_does_14 (by decide) (fun _ => ?_) (fun h9 => absurd h9 (by decide +kernel))
  refine lv_iload_n hx hb dL_does_26 rfl (lv_at hl 1 rfl) ?_
  refine lv_iconst (v := (nI 2)) hx hb dL_does_27 rfl ?_
  refine lv_icmp_ne (tgt := 39) hx hb dL_does_28 (by decide) (fun _ => ?_) (fun h9 => absurd h9 (by decide +kernel))
  refine lv_iload_n hx hb dL_does_39 rfl (lv_at hl 1 rfl) ?_
  refine lv_iconst (v := (nI 3)) hx hb dL_does_40 rfl ?_
  refine lv_icmp_ne (tgt := 52) hx hb dL_does_41 (by decide) (fun _ => ?_) (fun h9 => absurd h9 (by decide +kernel))
  refine lv_aload_n hx hb dL_does_52 rfl (lv_at hl 0 rfl) ?_
  refine lv_iload_n hx hb dL_does_53 rfl (lv_at hl 2 rfl) ?_
  refine tx_V (ci := 4) (q0 := 0) (own := RL) (As := [.int k]) (rest := []) (bytes := cX4_put) (maxL := 2) (wr := []) (w3 := (fun (_ : Unit) => [(h0, .inr (4, [.ref a0, .ref b0, .ref f0, .ref g0])), (f0, .inr (0, [.ref f1, .int (nI (nb + 1)), .ref f2, .ref f3, .ref f4, .int (nI nr), .ref f5, .ref f6, .ref f7, .ref f8, .ref f9, .ref f10])), (f1, .inl (y3.1, 16, .inl (upd vb nb k)))])) ⟨hx, hb, hml, hown, hts⟩ (kX4_put l hls D y3 h0 a0 b0 f0 g0 f1 f2 f3 f4 f5 f6 f7 f8 f9 f10 nb nr vb k (by omega)) gL_does_X4_put rfl hvX4_put ⟨Nat.le_of_ble_eq_true rfl, Nat.le_of_ble_eq_true rfl⟩ hP hK hD hS hA hT [0, 1, 2] [] [0, 1, 2] rfl rfl rfl rfl (by decide) (fun _ => rfl) rfl rfl rfl rfl hl.1 rfl (Nat.le_of_ble_eq_true rfl) dL_does_54 ⟨Nat.le_of_ble_eq_true rfl, Nat.le_of_ble_eq_true rfl⟩ (fun E ce q9 H locs hE hP hD hS hlt h7 h8 h9 => ?_) (fun r1 u1 H locs hr1 hP hD hS => absurd hr1.1 hz)
  rcases xcd_2 hE with ⟨hz9, rfl⟩ | ⟨hz9, rfl⟩
  · refine vx_catch (own := RL) (name := xIA) hown [⟨0, 57, 58, 14⟩] ⟨0, 57, 63, 16⟩ [⟨0, 57, 68, 18⟩] htab (fun z h => by
        simp only [List.mem_cons, List.not_mem_nil, or_false] at h
        subst h
        exact Or.inr ⟨by decide, xIO, hk14, lx_IA hT⟩) rfl (by decide) hk16 (lx_c hT (by simp [xE3])) h7 h8 h9 ?_
    refine lv_astore (lv' := [(4, .ref q9), (0, .ref h0), (1, .int (nI 4)), (2, .int k), (3, .int o)]) hx hb dL_does_63 hl (by decide) rfl (fun ls hl => ?_)
    refine lv_bipush (v := (-8)) hx hb dL_does_65 rfl ?_
    exact hret 67 ls H locs _ _ () _ hP hD hS hlt (Nat.le_of_ble_eq_true rfl) (Nat.le_of_ble_eq_true rfl) rfl dL_does_67
  · refine vx_catch (own := RL) (name := xIS) hown [⟨0, 57, 58, 14⟩, ⟨0, 57, 63, 16⟩] ⟨0, 57, 68, 18⟩ [] htab (fun z h => by
        simp only [List.mem_cons, List.not_mem_nil, or_false] at h
        rcases h with rfl | rfl
        · exact Or.inr ⟨by decide, xIO, hk14, lx_IS hT⟩
        · exact Or.inr ⟨by decide, xIA, hk16, lx_SA hT⟩) rfl (by decide) hk18 (lx_c hT (by simp [xE3])) h7 h8 h9 ?_
    refine lv_astore (lv' := [(4, .ref q9), (0, .ref h0), (1, .int (nI 4)), (2, .int k), (3, .int o)]) hx hb dL_does_68 hl (by decide) rfl (fun ls hl => ?_)
    refine lv_bipush (v := (-8)) hx hb dL_does_70 rfl ?_
    exact hret 72 ls H locs _ _ () _ hP hD hS hlt (Nat.le_of_ble_eq_true rfl) (Nat.le_of_ble_eq_true rfl) rfl dL_does_72

set_option maxHeartbeats 4000000 in
set_option maxRecDepth 100000 in
theorem kL_test_ok (l : Launch) (hls : l.stackTraces = false) (D : va_G) (y3 : ClassId × ClassId × ClassId) (h0 : Nat) (a0 : Nat) (b0 : Nat) (f0 : Nat) (g0 : Nat) (f1 : Nat) (f2 : Nat) (f3 : Nat) (f4 : Nat) (f5 : Nat) (f6 : Nat) (f7 : Nat) (f8 : Nat) (f9 : Nat) (f10 : Nat) (nb : Nat) (nr : Nat) (tc : Nat → Nat) (lev : Nat → Nat) (fo : Nat → Nat) (tu : Nat → Nat) (wn : Nat → Int32) (mk : Nat → Int32) (ru : Int32) (dp : Int32) (fm : Int32) (tz : Int32) (vl : Int32) (mm : Int32) (hnr : nr ≤ 12) (htc : ∀ q : Nat, tc q ≤ 6) (hlv : ∀ q : Nat, lev q ≤ 5) (hz : (ak3 (inB ru nr) (teB (gnl lev tc ru.toNatClampNeg) dp fm tz vl mm) (decide (tc ru.toNatClampNeg < 6))) = 0) : lxM l yL_test wsL_test 9 158 1 6 0 D y3 [(h0, .inr (4, [.ref a0, .ref b0, .ref f0, .ref g0])), (f0, .inr (0, [.ref f1, .int (nI nb), .ref f2, .ref f3, .ref f4, .int (nI nr), .ref f5, .ref f6, .ref f7, .ref f8, .ref f9, .ref f10])), (f4, .inl (y3.1, 12, .inl (fN tc))), (f5, .inl (y3.1, 72, .inl (fN lev))), (f6, .inl (y3.1, 72, .inl (fN fo))), (f7, .inl (y3.1, 72, .inl (fN tu))), (f8, .inl (y3.1, 72, .inl wn)), (f9, .inl (y3.1, 72, .inl mk))] [.ref h0, .int ru, .int dp, .int fm, .int tz, .int vl, .int mm] (fun r (_ : Unit) => r = (nI ((tc ru.toNatClampNeg) + 1))) (fun (_ : Unit) => [(h0, .inr (4, [.ref a0, .ref b0, .ref f0, .ref g0])), (f0, .inr (0, [.ref f1, .int (nI nb), .ref f2, .ref f3, .ref f4, .int (nI nr), .ref f5, .ref f6, .ref f7, .ref f8, .ref f9, .ref f10])), (f4, .inl (y3.1, 12, .inl (fN (va_up tc ru.toNatClampNeg ((tc ru.toNatClampNeg) + 1))))), (f5, .inl (y3.1, 72, .inl (fN (va_up lev ((ru.toNatClampNeg * 6) + (tc ru.toNatClampNeg)) dp.toNatClampNeg)))), (f6, .inl (y3.1, 72, .inl (fN (va_up fo ((ru.toNatClampNeg * 6) + (tc ru.toNatClampNeg)) fm.toNatClampNeg)))), (f7, .inl (y3.1, 72, .inl (fN (va_up tu ((ru.toNatClampNeg * 6) + (tc ru.toNatClampNeg)) tz.toNatClampNeg)))), (f8, .inl (y3.1, 72, .inl (upd wn ((ru.toNatClampNeg * 6) + (tc ru.toNatClampNeg)) vl))), (f9, .inl (y3.1, 72, .inl (upd mk ((ru.toNatClampNeg * 6) + (tc ru.toNatClampNeg)) mm)))]) := by
  refine lx_of (cc := cL_test) (maxL := 8) (by decide) rfl (Nat.le_of_ble_eq_true rfl) ?_
  intro p e s m args below meth c A Q hx hb hml hown hts htab hP hK hD hA hS hT hret ls hl
  have hown : s.vm.findClass RL = some m.cls := hown
  replace hl : lv_has ls 8 [(0, .ref h0), (1, .int ru), (2, .int dp), (3, .int fm), (4, .int tz), (5, .int vl), (6, .int mm)] := hl
  refine lv_aload_n hx hb dL_test_0 rfl (lv_at hl 0 rfl) ?_
  refine lv_iload_n hx hb dL_test_1 rfl (lv_at hl 1 rfl) ?_
  refine lv_iload_n hx hb dL_test_2 rfl (lv_at hl 2 rfl) ?_
  refine lv_iload_n hx hb dL_test_3 rfl (lv_at hl 3 rfl) ?_
  refine lv_iload hx hb dL_test_4 (lv_at hl 4 rfl) ?_
  refine lv_iload hx hb dL_test_6 (lv_at hl 5 rfl) ?_
  refine lv_iload hx hb dL_test_8 (lv_at hl 6 rfl) ?_
  refine tx_V (ci := 4) (q0 := 0) (own := RL) (As := [.int ru, .int dp, .int fm, .int tz, .int vl, .int mm]) (rest := []) (bytes := cX4_test) (maxL := 7) (wr := []) (w3 := (fun (_ : Unit) => [(h0, .inr (4, [.ref a0, .ref b0, .ref f0, .ref g0])), (f0, .inr (0, [.ref f1, .int (nI nb), .ref f2, .ref f3, .ref f4, .int (nI nr), .ref f5, .ref f6, .ref f7, .ref f8, .ref f9, .ref f10])), (f4, .inl (y3.1, 12, .inl (fN (va_up tc ru.toNatClampNeg ((tc ru.toNatClampNeg) + 1))))), (f5, .inl (y3.1, 72, .inl (fN (va_up lev ((ru.toNatClampNeg * 6) + (tc ru.toNatClampNeg)) dp.toNatClampNeg)))), (f6, .inl (y3.1, 72, .inl (fN (va_up fo ((ru.toNatClampNeg * 6) + (tc ru.toNatClampNeg)) fm.toNatClampNeg)))), (f7, .inl (y3.1, 72, .inl (fN (va_up tu ((ru.toNatClampNeg * 6) + (tc ru.toNatClampNeg)) tz.toNatClampNeg)))), (f8, .inl (y3.1, 72, .inl (upd wn ((ru.toNatClampNeg * 6) + (tc ru.toNatClampNeg)) vl))), (f9, .inl (y3.1, 72, .inl (upd mk ((ru.toNatClampNeg * 6) + (tc ru.toNatClampNeg)) mm)))])) ⟨hx, hb, hml, hown, hts⟩ (kX4_test l hls D y3 h0 a0 b0 f0 g0 f1 f2 f3 f4 f5 f6 f7 f8 f9 f10 nb nr tc lev fo tu wn mk ru dp fm tz vl mm (by omega) (by assumption) (by assumption)) gL_test_X4_test rfl hvX4_test ⟨Nat.le_of_ble_eq_true rfl, Nat.le_of_ble_eq_true rfl⟩ hP hK hD hS hA hT [0, 1, 2, 3, 4, 5, 6, 7] [] [0, 1, 2, 3, 4, 5, 6, 7] rfl rfl rfl rfl (by decide) (fun _ => rfl) rfl rfl rfl rfl hl.1 rfl (Nat.le_of_ble_eq_true rfl) dL_test_10 ⟨Nat.le_of_ble_eq_true rfl, Nat.le_of_ble_eq_true rfl⟩ (fun E ce q9 H locs hE hP hD hS hlt h7 h8 h9 => xcd_no hz hE) (fun r1 u1 H locs hr1 hP hD hS => ?_)
  have hP : va_P D vwCl [(h0, .inr (4, [.ref a0, .ref b0, .ref f0, .ref g0])), (f0, .inr (0, [.ref f1, .int (nI nb), .ref f2, .ref f3, .ref f4, .int (nI nr), .ref f5, .ref f6, .ref f7, .ref f8, .ref f9, .ref f10])), (f4, .inl (y3.1, 12, .inl (fN (va_up tc ru.toNatClampNeg ((tc ru.toNatClampNeg) + 1))))), (f5, .inl (y3.1, 72, .inl (fN (va_up lev ((ru.toNatClampNeg * 6) + (tc ru.toNatClampNeg)) dp.toNatClampNeg)))), (f6, .inl (y3.1, 72, .inl (fN (va_up fo ((ru.toNatClampNeg * 6) + (tc ru.toNatClampNeg)) fm.toNatClampNeg)))), (f7, .inl (y3.1, 72, .inl (fN (va_up tu ((ru.toNatClampNeg * 6) + (tc ru.toNatClampNeg)) tz.toNatClampNeg)))), (f8, .inl (y3.1, 72, .inl (upd wn ((ru.toNatClampNeg * 6) + (tc ru.toNatClampNeg)) vl))), (f9, .inl (y3.1, 72, .inl (upd mk ((ru.toNatClampNeg * 6) + (tc ru.toNatClampNeg)) mm)))] H := hP
  have hD : va_D A [(h0, .inr (4, [.ref a0, .ref b0, .ref f0, .ref g0])), (f0, .inr (0, [.ref f1, .int (nI nb), .ref f2, .ref f3, .ref f4, .int (nI nr), .ref f5, .ref f6, .ref f7, .ref f8, .ref f9, .ref f10])), (f4, .inl (y3.1, 12, .inl (fN (va_up tc ru.toNatClampNeg ((tc ru.toNatClampNeg) + 1))))), (f5, .inl (y3.1, 72, .inl (fN (va_up lev ((ru.toNatClampNeg * 6) + (tc ru.toNatClampNeg)) dp.toNatClampNeg)))), (f6, .inl (y3.1, 72, .inl (fN (va_up fo ((ru.toNatClampNeg * 6) + (tc ru.toNatClampNeg)) fm.toNatClampNeg)))), (f7, .inl (y3.1, 72, .inl (fN (va_up tu ((ru.toNatClampNeg * 6) + (tc ru.toNatClampNeg)) tz.toNatClampNeg)))), (f8, .inl (y3.1, 72, .inl (upd wn ((ru.toNatClampNeg * 6) + (tc ru.toNatClampNeg)) vl))), (f9, .inl (y3.1, 72, .inl (upd mk ((ru.toNatClampNeg * 6) + (tc ru.toNatClampNeg)) mm)))] := hD
  rw [hr1.2]
  exact hret 13 ls H locs _ _ () _ hP hD hS hS.1 (Nat.le_of_ble_eq_true rfl) (Nat.le_of_ble_eq_true rfl) rfl dL_test_13

set_option maxHeartbeats 4000000 in
set_option maxRecDepth 100000 in
theorem kL_pattern_ex (l : Launch) (hls : l.stackTraces = false) (D : va_G) (y3 : ClassId × ClassId × ClassId) (h0 : Nat) (a0 : Nat) (b0 : Nat) (f0 : Nat) (g0 : Nat) (a1 : Nat) (nk : Nat) (b1 : Nat) (b2 : Nat) (b3 : Nat) (b4 : Nat) (b5 : Nat) (b6 : Nat) (b7 : Nat) (nl : Nat) (np : Nat) (nt : Nat) (kp : Nat → Nat) (wt : Nat → Int32) (ln : Nat → Nat) (th : Nat → Bool) (tk : Nat → Int32) (k : Int32) (wg : Int32) (tks : Int32) (q1 : Int32) (q2 : Int32) (hk : nk ≤ 14) (hnp : np ≤ 20) (hz : ¬ (ak3 (inB k nk) (ptB wg tks q1 q2) (decide (np < 20))) = 0) : lxM l yL_pattern wsL_pattern 9 158 1 6 1 D y3 [(h0, .inr (4, [.ref a0, .ref b0, .ref f0, .ref g0])), (a0, .inr (1, [.ref a1, .int (nI nk)])), (b0, .inr (2, [.ref b1, .int (nI nl), .ref b2, .ref b3, .ref b4, .ref b5, .ref b6, .int (nI np), .int (nI nt), .ref b7])), (b2, .inl (y3.1, 20, .inl (fN kp))), (b3, .inl (y3.1, 20, .inl wt)), (b4, .inl (y3.1, 20, .inl (fN ln))), (b5, .inl (y3.2.1, 20, .inl (fB th))), (b6, .inl (y3.1, 160, .inl tk))] [.ref h0, .int k, .int wg, .int tks, .int q1, .int q2] (fun r (_ : Unit) => r = (-8)) (fun (_ : Unit) => [(h0, .inr (4, [.ref a0, .ref b0, .ref f0, .ref g0])), (a0, .inr (1, [.ref a1, .int (nI nk)])), (b0, .inr (2, [.ref b1, .int (nI nl), .ref b2, .ref b3, .ref b4, .ref b5, .ref b6, .int (nI np), .int (nI nt), .ref b7])), (b2, .inl (y3.1, 20, .inl (fN kp))), (b3, .inl (y3.1, 20, .inl wt)), (b4, .inl (y3.1, 20, .inl (fN ln))), (b5, .inl (y3.2.1, 20, .inl (fB th))), (b6, .inl (y3.1, 160, .inl tk))]) := by
  refine lx_of (cc := cL_pattern) (maxL := 7) (by decide) rfl (Nat.le_of_ble_eq_true rfl) ?_
  intro p e s m args below meth c A Q hx hb hml hown hts htab hP hK hD hA hS hT hret ls hl
  have hown : s.vm.findClass RL = some m.cls := hown
  replace hl : lv_has ls 7 [(0, .ref h0), (1, .int k), (2, .int wg), (3, .int tks), (4, .int q1), (5, .int q2)] := hl
  have hk14 := hts (.classLink RL 14 xIO) (by decide +kernel)
  have hk16 := hts (.classLink RL 16 xIA) (by decide +kernel)
  have hk18 := hts (.classLink RL 18 xIS) (by decide +kernel)
  refine lv_aload_n hx hb dL_pattern_0 rfl (lv_at hl 0 rfl) ?_
  refine lv_iload_n hx hb dL_pattern_1 rfl (lv_at hl 1 rfl) ?_
  refine lv_iload_n hx hb dL_pattern_2 rfl (lv_at hl 2 rfl) ?_
  refine lv_iload_n hx hb dL_pattern_3 rfl (lv_at hl 3 rfl) ?_
  refine lv_iload hx hb dL_pattern_4 (lv_at hl 4 rfl) ?_
  refine lv_iload hx hb dL_pattern_6 (lv_at hl 5 rfl) ?_
  refine tx_V (ci := 4) (q0 := 0) (own := RL) (As := [.int k, .int wg, .int tks, .int q1, .int q2]) (rest := []) (bytes := cX4_pattern) (maxL := 7) (wr := []) (w3 := (fun (_ : Unit) => [(h0, .inr (4, [.ref a0, .ref b0, .ref f0, .ref g0])), (a0, .inr (1, [.ref a1, .int (nI nk)])), (b0, .inr (2, [.ref b1, .int (nI nl), .ref b2, .ref b3, .ref b4, .ref b5, .ref b6, .int (nI (np + 1)), .int (nI (nt + 1)), .ref b7])), (b2, .inl (y3.1, 20, .inl (fN (va_up kp np k.toNatClampNeg)))), (b3, .inl (y3.1, 20, .inl (upd wt np wg))), (b4, .inl (y3.1, 20, .inl (fN (va_up ln np tks.toNatClampNeg)))), (b5, .inl (y3.2.1, 20, .inl (fB (va_up th np true)))), (b6, .inl (y3.1, 160, .inl (tkW tk np q1.toNatClampNeg q2.toNatClampNeg tks.toNatClampNeg)))])) ⟨hx, hb, hml, hown, hts⟩ (kX4_pattern l hls D y3 h0 a0 b0 f0 g0 a1 nk b1 b2 b3 b4 b5 b6 b7 nl np nt kp wt ln th tk k wg tks q1 q2 (by omega) (by omega)) gL_pattern_X4_pattern rfl hvX4_pattern ⟨Nat.le_of_ble_eq_true rfl, Nat.le_of_ble_eq_true rfl⟩ hP hK hD hS hA hT [0, 1, 2, 3, 4, 5, 6, 7] [] [0, 1, 2, 3, 4, 5, 6, 7] rfl rfl rfl rfl (by decide) (fun _ => rfl) rfl rfl rfl rfl hl.1 rfl (Nat.le_of_ble_eq_true rfl) dL_pattern_8 ⟨Nat.le_of_ble_eq_true rfl, Nat.le_of_ble_eq_true rfl⟩ (fun E ce q9 H locs hE hP hD hS hlt h7 h8 h9 => ?_) (fun r1 u1 H locs hr1 hP hD hS => absurd hr1.1 hz)
  rcases xcd_3 hE with ⟨hz9, rfl⟩ | ⟨hz9, rfl⟩ | ⟨hz9, rfl⟩
  · refine vx_catch (own := RL) (name := xIO) hown [] ⟨0, 11, 12, 14⟩ [⟨0, 11, 17, 16⟩, ⟨0, 11, 22, 18⟩] htab (fun z h => (by cases h)) rfl (by decide) hk14 (lx_c hT (by simp [xE3])) h7 h8 h9 ?_
    refine lv_astore (lv' := [(6, .ref q9), (0, .ref h0), (1, .int k), (2, .int wg), (3, .int tks), (4, .int q1), (5, .int q2)]) hx hb dL_pattern_12 hl (by decide) rfl (fun ls hl => ?_)
    refine lv_bipush (v := (-8)) hx hb dL_pattern_14 rfl ?_
    exact hret 16 ls H locs _ _ () _ hP hD hS hlt (Nat.le_of_ble_eq_true rfl) (Nat.le_of_ble_eq_true rfl) rfl dL_pattern_16
  · refine vx_catch (own := RL) (name := xIA) hown [⟨0, 11, 12, 14⟩] ⟨0, 11, 17, 16⟩ [⟨0, 11, 22, 18⟩] htab (fun z h => by
        simp only [List.mem_cons, List.not_mem_nil, or_false] at h
        subst h
        exact Or.inr ⟨by decide, xIO, hk14, lx_IA hT⟩) rfl (by decide) hk16 (lx_c hT (by simp [xE3])) h7 h8 h9 ?_
    refine lv_astore (lv' := [(6, .ref q9), (0, .ref h0), (1, .int k), (2, .int wg), (3, .int tks), (4, .int q1), (5, .int q2)]) hx hb dL_pattern_17 hl (by decide) rfl (fun ls hl => ?_)
    refine lv_bipush (v := (-8)) hx hb dL_pattern_19 rfl ?_
    exact hret 21 ls H locs _ _ () _ hP hD hS hlt (Nat.le_of_ble_eq_true rfl) (Nat.le_of_ble_eq_true rfl) rfl dL_pattern_21
  · refine vx_catch (own := RL) (name := xIS) hown [⟨0, 11, 12, 14⟩, ⟨0, 11, 17, 16⟩] ⟨0, 11, 22, 18⟩ [] htab (fun z h => by
        simp only [List.mem_cons, List.not_mem_nil, or_false] at h
        rcases h with rfl | rfl
        · exact Or.inr ⟨by decide, xIO, hk14, lx_IS hT⟩
        · exact Or.inr ⟨by decide, xIA, hk16, lx_SA hT⟩) rfl (by decide) hk18 (lx_c hT (by simp [xE3])) h7 h8 h9 ?_
    refine lv_astore (lv' := [(6, .ref q9), (0, .ref h0), (1, .int k), (2, .int wg), (3, .int tks), (4, .int q1), (5, .int q2)]) hx hb dL_pattern_22 hl (by decide) rfl (fun ls hl => ?_)
    refine lv_bipush (v := (-8)) hx hb dL_pattern_24 rfl ?_
    exact hret 26 ls H locs _ _ () _ hP hD hS hlt (Nat.le_of_ble_eq_true rfl) (Nat.le_of_ble_eq_true rfl) rfl dL_pattern_26

set_option maxHeartbeats 4000000 in
set_option maxRecDepth 100000 in
theorem kL_is_tok (l : Launch) (hls : l.stackTraces = false) (D : va_G) (y3 : ClassId × ClassId × ClassId) (h0 : Nat) (a0 : Nat) (b0 : Nat) (f0 : Nat) (g0 : Nat) (b1 : Nat) (b2 : Nat) (b3 : Nat) (b4 : Nat) (b5 : Nat) (b6 : Nat) (b7 : Nat) (nl : Nat) (np : Nat) (nt : Nat) (lt : Nat → Int32) (ln : Nat → Nat) (th : Nat → Bool) (tk : Nat → Int32) (tb : Nat → Bool) (k : Int32) (hnp : np ≤ 20) (hnl : nl ≤ 12) (hln : ∀ q : Nat, ln q ≤ 8) (htb : ∀ q : Nat, 1 ≤ q → q < 13 → tb q = false) (hz : (ak1 (hasP th np k)) = 0) : lxM l yL_is wsL_is 8 132 1 6 0 D y3 [(h0, .inr (4, [.ref a0, .ref b0, .ref f0, .ref g0])), (b0, .inr (2, [.ref b1, .int (nI nl), .ref b2, .ref b3, .ref b4, .ref b5, .ref b6, .int (nI np), .int (nI nt), .ref b7])), (b1, .inl (y3.1, 12, .inl lt)), (b4, .inl (y3.1, 20, .inl (fN ln))), (b5, .inl (y3.2.1, 20, .inl (fB th))), (b6, .inl (y3.1, 160, .inl tk)), (b7, .inl (y3.2.1, 117, .inl (fB tb)))] [.ref h0, .int (nI 1), .int k] (fun r (u : Nat → Bool) => r = (bI (fitB lt nl tk ln k.toNatClampNeg)) ∧ ∀ q : Nat, 1 ≤ q → q < 13 → u q = false) (fun (u : Nat → Bool) => [(h0, .inr (4, [.ref a0, .ref b0, .ref f0, .ref g0])), (b0, .inr (2, [.ref b1, .int (nI nl), .ref b2, .ref b3, .ref b4, .ref b5, .ref b6, .int (nI np), .int (nI nt), .ref b7])), (b1, .inl (y3.1, 12, .inl lt)), (b4, .inl (y3.1, 20, .inl (fN ln))), (b5, .inl (y3.2.1, 20, .inl (fB th))), (b6, .inl (y3.1, 160, .inl tk)), (b7, .inl (y3.2.1, 117, .inl (fB u)))]) := by
  refine lx_of (cc := cL_is) (maxL := 4) (by decide) rfl (Nat.le_of_ble_eq_true rfl) ?_
  intro p e s m args below meth c A Q hx hb hml hown hts htab hP hK hD hA hS hT hret ls hl
  have hown : s.vm.findClass RL = some m.cls := hown
  replace hl : lv_has ls 4 [(0, .ref h0), (1, .int (nI 1)), (2, .int k)] := hl
  refine lv_iload_n hx hb dL_is_0 rfl (lv_at hl 1 rfl) ?_
  refine lv_if_ne (tgt := 15) hx hb dL_is_1 (by decide) (fun _ => ?_) (fun h9 => absurd h9 (by decide +kernel))
  refine lv_iload_n hx hb dL_is_15 rfl (lv_at hl 1 rfl) ?_
  refine lv_iconst (v := (nI 1)) hx hb dL_is_16 rfl ?_
  refine lv_icmp_ne (tgt := 31) hx hb dL_is_17 (by decide) (fun h9 => absurd h9 (by decide +kernel)) (fun _ => ?_)
  refine lv_aload_n hx hb dL_is_20 rfl (lv_at hl 0 rfl) ?_
  refine lv_iload_n hx hb dL_is_21 rfl (lv_at hl 2 rfl) ?_
  refine tx_V (ci := 4) (q0 := 0) (own := RL) (As := [.int k]) (rest := []) (bytes := cX4_fitsByTable) (maxL := 2) (wr := []) (w3 := (fun (u1 : Nat → Bool) => [(h0, .inr (4, [.ref a0, .ref b0, .ref f0, .ref g0])), (b0, .inr (2, [.ref b1, .int (nI nl), .ref b2, .ref b3, .ref b4, .ref b5, .ref b6, .int (nI np), .int (nI nt), .ref b7])), (b1, .inl (y3.1, 12, .inl lt)), (b4, .inl (y3.1, 20, .inl (fN ln))), (b5, .inl (y3.2.1, 20, .inl (fB th))), (b6, .inl (y3.1, 160, .inl tk)), (b7, .inl (y3.2.1, 117, .inl (fB u1)))])) ⟨hx, hb, hml, hown, hts⟩ (kX4_fitsByTable l hls D y3 h0 a0 b0 f0 g0 b1 b2 b3 b4 b5 b6 b7 nl np nt lt ln th tk tb k (by omega) (by omega) (by assumption) (by assumption)) gL_is_X4_fitsByTable rfl hvX4_fitsByTable ⟨Nat.le_of_ble_eq_true rfl, Nat.le_of_ble_eq_true rfl⟩ hP hK hD hS hA hT [0, 1, 2, 3, 4, 5, 6] [] [0, 1, 2, 3, 4, 5, 6] rfl rfl rfl rfl (by decide) (fun _ => rfl) rfl rfl rfl rfl hl.1 rfl (Nat.le_of_ble_eq_true rfl) dL_is_22 ⟨Nat.le_of_ble_eq_true rfl, Nat.le_of_ble_eq_true rfl⟩ (fun E ce q9 H locs hE hP hD hS hlt h7 h8 h9 => xcd_no hz hE) (fun r1 u1 H locs hr1 hP hD hS => ?_)
  have hP : va_P D vwCl [(h0, .inr (4, [.ref a0, .ref b0, .ref f0, .ref g0])), (b0, .inr (2, [.ref b1, .int (nI nl), .ref b2, .ref b3, .ref b4, .ref b5, .ref b6, .int (nI np), .int (nI nt), .ref b7])), (b1, .inl (y3.1, 12, .inl lt)), (b4, .inl (y3.1, 20, .inl (fN ln))), (b5, .inl (y3.2.1, 20, .inl (fB th))), (b6, .inl (y3.1, 160, .inl tk)), (b7, .inl (y3.2.1, 117, .inl (fB u1)))] H := hP
  have hD : va_D A [(h0, .inr (4, [.ref a0, .ref b0, .ref f0, .ref g0])), (b0, .inr (2, [.ref b1, .int (nI nl), .ref b2, .ref b3, .ref b4, .ref b5, .ref b6, .int (nI np), .int (nI nt), .ref b7])), (b1, .inl (y3.1, 12, .inl lt)), (b4, .inl (y3.1, 20, .inl (fN ln))), (b5, .inl (y3.2.1, 20, .inl (fB th))), (b6, .inl (y3.1, 160, .inl tk)), (b7, .inl (y3.2.1, 117, .inl (fB u1)))] := hD
  obtain ⟨-, er1, hu1⟩ := hr1
  rw [er1]
  refine lb_if_eq (tgt := 43) hx hb dL_is_25 (by decide) (fun c25 => ?_) (fun c25 => ?_)
  · refine lv_iconst (v := (nI 0)) hx hb dL_is_43 rfl ?_
    exact hret 44 ls H locs _ _ u1 _ hP hD hS hS.1 (Nat.le_of_ble_eq_true rfl) (Nat.le_of_ble_eq_true rfl) ⟨(by first | exact bI_t c25 | exact bI_f c25), hu1⟩ dL_is_44
  · refine lv_goto (tgt := 39) hx hb dL_is_28 (by decide) ?_
    refine lv_iconst (v := (nI 1)) hx hb dL_is_39 rfl ?_
    refine lv_goto (tgt := 44) hx hb dL_is_40 (by decide) ?_
    exact hret 44 ls H locs _ _ u1 _ hP hD hS hS.1 (Nat.le_of_ble_eq_true rfl) (Nat.le_of_ble_eq_true rfl) ⟨(by first | exact bI_t c25 | exact bI_f c25), hu1⟩ dL_is_44

set_option maxHeartbeats 4000000 in
set_option maxRecDepth 100000 in
theorem kL_is_rok (l : Launch) (hls : l.stackTraces = false) (D : va_G) (y3 : ClassId × ClassId × ClassId) (h0 : Nat) (a0 : Nat) (b0 : Nat) (f0 : Nat) (g0 : Nat) (f1 : Nat) (f2 : Nat) (f3 : Nat) (f4 : Nat) (f5 : Nat) (f6 : Nat) (f7 : Nat) (f8 : Nat) (f9 : Nat) (f10 : Nat) (nb : Nat) (nr : Nat) (vb : Nat → Int32) (tc : Nat → Nat) (lev : Nat → Nat) (fo : Nat → Nat) (tu : Nat → Nat) (wn : Nat → Int32) (mk : Nat → Int32) (ld : Nat → Bool) (k : Int32) (hnr : nr ≤ 12) (hnb : nb ≤ 16) (htc : ∀ q : Nat, tc q ≤ 6) (hlv : ∀ q : Nat, lev q ≤ 5) (hfo : ∀ q : Nat, fo q ≤ 15) (htu : ∀ q : Nat, tu q ≤ 15) (hz : (ak1 (inB k nr)) = 0) : lxM l yL_is wsL_is 8 132 1 6 0 D y3 [(h0, .inr (4, [.ref a0, .ref b0, .ref f0, .ref g0])), (f0, .inr (0, [.ref f1, .int (nI nb), .ref f2, .ref f3, .ref f4, .int (nI nr), .ref f5, .ref f6, .ref f7, .ref f8, .ref f9, .ref f10])), (f1, .inl (y3.1, 16, .inl vb)), (f4, .inl (y3.1, 12, .inl (fN tc))), (f5, .inl (y3.1, 72, .inl (fN lev))), (f6, .inl (y3.1, 72, .inl (fN fo))), (f7, .inl (y3.1, 72, .inl (fN tu))), (f8, .inl (y3.1, 72, .inl wn)), (f9, .inl (y3.1, 72, .inl mk)), (f10, .inl (y3.2.1, 72, .inl (fB ld)))] [.ref h0, .int (nI 2), .int k] (fun r (u : Nat → Bool) => r = (bI (prvB lev (hldB vb nb fo tu wn mk) (k.toNatClampNeg * 6) ((k.toNatClampNeg * 6) + (tc k.toNatClampNeg))))) (fun (u : Nat → Bool) => [(h0, .inr (4, [.ref a0, .ref b0, .ref f0, .ref g0])), (f0, .inr (0, [.ref f1, .int (nI nb), .ref f2, .ref f3, .ref f4, .int (nI nr), .ref f5, .ref f6, .ref f7, .ref f8, .ref f9, .ref f10])), (f1, .inl (y3.1, 16, .inl vb)), (f4, .inl (y3.1, 12, .inl (fN tc))), (f5, .inl (y3.1, 72, .inl (fN lev))), (f6, .inl (y3.1, 72, .inl (fN fo))), (f7, .inl (y3.1, 72, .inl (fN tu))), (f8, .inl (y3.1, 72, .inl wn)), (f9, .inl (y3.1, 72, .inl mk)), (f10, .inl (y3.2.1, 72, .inl (fB u)))]) := by
  refine lx_of (cc := cL_is) (maxL := 4) (by decide) rfl (Nat.le_of_ble_eq_true rfl) ?_
  intro p e s m args below meth c A Q hx hb hml hown hts htab hP hK hD hA hS hT hret ls hl
  have hown : s.vm.findClass RL = some m.cls := hown
  replace hl : lv_has ls 4 [(0, .ref h0), (1, .int (nI 2)), (2, .int k)] := hl
  refine lv_iload_n hx hb dL_is_0 rfl (lv_at hl 1 rfl) ?_
  refine lv_if_ne (tgt := 15) hx hb dL_is_1 (by decide) (fun _ => ?_) (fun h9 => absurd h9 (by decide +kernel))
  refine lv_iload_n hx hb dL_is_15 rfl (lv_at hl 1 rfl) ?_
  refine lv_iconst (v := (nI 1)) hx hb dL_is_16 rfl ?_
  refine lv_icmp_ne (tgt := 31) hx hb dL_is_17 (by decide) (fun _ => ?_) (fun h9 => absurd h9 (by decide +kernel))
  refine lv_aload_n hx hb dL_is_31 rfl (lv_at hl 0 rfl) ?_
  refine lv_iload_n hx hb dL_is_32 rfl (lv_at hl 2 rfl) ?_
  refine tx_V (ci := 4) (q0 := 0) (own := RL) (As := [.int k]) (rest := []) (bytes := cX4_proves) (maxL := 2) (wr := []) (w3 := (fun (u1 : Nat → Bool) => [(h0, .inr (4, [.ref a0, .ref b0, .ref f0, .ref g0])), (f0, .inr (0, [.ref f1, .int (nI nb), .ref f2, .ref f3, .ref f4, .int (nI nr), .ref f5, .ref f6, .ref f7, .ref f8, .ref f9, .ref f10])), (f1, .inl (y3.1, 16, .inl vb)), (f4, .inl (y3.1, 12, .inl (fN tc))), (f5, .inl (y3.1, 72, .inl (fN lev))), (f6, .inl (y3.1, 72, .inl (fN fo))), (f7, .inl (y3.1, 72, .inl (fN tu))), (f8, .inl (y3.1, 72, .inl wn)), (f9, .inl (y3.1, 72, .inl mk)), (f10, .inl (y3.2.1, 72, .inl (fB u1)))])) ⟨hx, hb, hml, hown, hts⟩ (kX4_proves l hls D y3 h0 a0 b0 f0 g0 f1 f2 f3 f4 f5 f6 f7 f8 f9 f10 nb nr vb tc lev fo tu wn mk ld k (by omega) (by omega) (by assumption) (by assumption) (by assumption) (by assumption)) gL_is_X4_proves rfl hvX4_proves ⟨Nat.le_of_ble_eq_true rfl, Nat.le_of_ble_eq_true rfl⟩ hP hK hD hS hA hT [0, 1, 2, 3, 4, 5, 6, 7, 8, 9] [] [0, 1, 2, 3, 4, 5, 6, 7, 8, 9] rfl rfl rfl rfl (by decide) (fun _ => rfl) rfl rfl rfl rfl hl.1 rfl (Nat.le_of_ble_eq_true rfl) dL_is_33 ⟨Nat.le_of_ble_eq_true rfl, Nat.le_of_ble_eq_true rfl⟩ (fun E ce q9 H locs hE hP hD hS hlt h7 h8 h9 => xcd_no hz hE) (fun r1 u1 H locs hr1 hP hD hS => ?_)
  have hP : va_P D vwCl [(h0, .inr (4, [.ref a0, .ref b0, .ref f0, .ref g0])), (f0, .inr (0, [.ref f1, .int (nI nb), .ref f2, .ref f3, .ref f4, .int (nI nr), .ref f5, .ref f6, .ref f7, .ref f8, .ref f9, .ref f10])), (f1, .inl (y3.1, 16, .inl vb)), (f4, .inl (y3.1, 12, .inl (fN tc))), (f5, .inl (y3.1, 72, .inl (fN lev))), (f6, .inl (y3.1, 72, .inl (fN fo))), (f7, .inl (y3.1, 72, .inl (fN tu))), (f8, .inl (y3.1, 72, .inl wn)), (f9, .inl (y3.1, 72, .inl mk)), (f10, .inl (y3.2.1, 72, .inl (fB u1)))] H := hP
  have hD : va_D A [(h0, .inr (4, [.ref a0, .ref b0, .ref f0, .ref g0])), (f0, .inr (0, [.ref f1, .int (nI nb), .ref f2, .ref f3, .ref f4, .int (nI nr), .ref f5, .ref f6, .ref f7, .ref f8, .ref f9, .ref f10])), (f1, .inl (y3.1, 16, .inl vb)), (f4, .inl (y3.1, 12, .inl (fN tc))), (f5, .inl (y3.1, 72, .inl (fN lev))), (f6, .inl (y3.1, 72, .inl (fN fo))), (f7, .inl (y3.1, 72, .inl (fN tu))), (f8, .inl (y3.1, 72, .inl wn)), (f9, .inl (y3.1, 72, .inl mk)), (f10, .inl (y3.2.1, 72, .inl (fB u1)))] := hD
  rw [hr1.2]
  refine lb_if_eq (tgt := 43) hx hb dL_is_36 (by decide) (fun c36 => ?_) (fun c36 => ?_)
  · refine lv_iconst (v := (nI 0)) hx hb dL_is_43 rfl ?_
    exact hret 44 ls H locs _ _ u1 _ hP hD hS hS.1 (Nat.le_of_ble_eq_true rfl) (Nat.le_of_ble_eq_true rfl) (by first | exact bI_t c36 | exact bI_f c36) dL_is_44
  · refine lv_iconst (v := (nI 1)) hx hb dL_is_39 rfl ?_
    refine lv_goto (tgt := 44) hx hb dL_is_40 (by decide) ?_
    exact hret 44 ls H locs _ _ u1 _ hP hD hS hS.1 (Nat.le_of_ble_eq_true rfl) (Nat.le_of_ble_eq_true rfl) (by first | exact bI_t c36 | exact bI_f c36) dL_is_44
