/-! ===== own layer: the law's loop, a case at a time ===== -/
theorem lo_0 {f : Nat → Int64} {v : Int64} : vp_updL f 0 v 0 = v := by simp [vp_updL]
theorem ak1_lt (a : Bool) : ak1 a < 2 ^ 31 := by cases a <;> decide
theorem ak2_lt (a b : Bool) : ak2 a b < 2 ^ 31 := by cases a <;> cases b <;> decide
theorem ak3_lt (a b c : Bool) : ak3 a b c < 2 ^ 31 := by cases a <;> cases b <;> cases c <;> decide
section LW0
variable {p : Program} {l : Launch} {e : Env} {R : Room} {s : State} {m : MethodId} {args : Array Value} {below : List Frame} {meth : Method} {c : Code} {H : Heap} {locs : List Loc} {cells slots : Nat} {Q : State → Prop}
variable {cc : ByteArray} {pc nL : Nat} {ls : Array Slot} {rest st0 : List Value} {A : Nat → Prop} {H0 : Heap}
theorem ln_sld (hexec : p.tables.exec = Jvm.exec) (hb : c.code = cc) {b L : Nat} {xs : Nat → Int32} (hX : va_X b L xs s H0) (hbl : b < H0.size) (hbA : ¬ A b) (hS : va_S A H0 H locs) (hL : L ≤ 3584) {j : Nat} (hj : j < L) (hdg : decode cc pc = .ok (.iaload, 1))
    (kk : W p l e R s m args below meth c H locs cells slots Q (F0 m (pc + 1) ls (.int (xs j) :: rest))) : W p l e R s m args below meth c H locs cells slots Q (F0 m pc ls (.int (nI j) :: .ref b :: rest)) :=
  va_sld hexec hb hX hbl hbA hS (vp_in_nI hj (by omega)) hdg (by rw [nI_clamp (by omega)]; exact kk)
theorem ln_lcmp (hexec : p.tables.exec = Jvm.exec) (hb : c.code = cc) {x y : Int64} (h : x = y) (hdg : decode cc pc = .ok (.lcmp, 1))
    (kk : W p l e R s m args below meth c H locs cells slots Q (F0 m (pc + 1) ls (.int (nI 0) :: rest))) : W p l e R s m args below meth c H locs cells slots Q (F0 m pc ls (.long y :: .long x :: rest)) :=
  W.lcmp hexec hb hdg (by subst h; rw [show lg_cmp x x = 0 from by simp [lg_cmp]]; exact kk)
end LW0
/-- what holds of both sides between two calls -/
def LI (nk np nt nl nr nb : Nat) (par : Nat → Int32) (kp ln : Nat → Nat) (th dr tb : Nat → Bool) (kr tc lev fo tu : Nat → Nat) (st df : Nat → Int32) : Prop :=
  (nk ≤ 14) ∧
  (parOK par nk) ∧
  (np ≤ 20) ∧
  (∀ q : Nat, q < np → kp q < nk) ∧
  (∀ q : Nat, ln q ≤ 8) ∧
  (nt = cntB th np) ∧
  (∀ q : Nat, q < np → dr q = !th q) ∧
  (∀ q : Nat, np ≤ q → dr q = false) ∧
  (∀ q : Nat, 1 ≤ q → q < 13 → tb q = false) ∧
  (nl ≤ 12) ∧
  (nb ≤ 16) ∧
  (nr ≤ 12) ∧
  (∀ q : Nat, q < nr → kr q < nk) ∧
  (∀ q : Nat, tc q ≤ 6) ∧
  (∀ q : Nat, nr ≤ q → tc q = 0) ∧
  (∀ q : Nat, lev q ≤ 5) ∧
  (∀ q : Nat, fo q ≤ 15) ∧
  (∀ q : Nat, tu q ≤ 15) ∧
  (∀ j : Nat, j < nr → lvS lev (j * 6) ((j * 6) + (tc j))) ∧
  (∀ q : Nat, st q = nI 0 ∨ st q = nI 1 ∨ st q = nI 2) ∧
  (∀ q : Nat, df q = -1 ∨ ∃ z : Nat, z < 10 ∧ df q = nI z)
section LIS
variable {nk np nt nl nr nb : Nat} {par : Nat → Int32} {kp ln : Nat → Nat} {th dr tb : Nat → Bool} {kr tc lev fo tu : Nat → Nat} {st df : Nat → Int32}
theorem upd_or {f : Nat → Int32} {k : Nat} {v : Int32} {P : Int32 → Prop} (h : ∀ q, P (f q)) (hv : P v) : ∀ q, P (upd f k v q) := fun q => by
  by_cases e : q = k
  · subst e; rw [pk_us]; exact hv
  · rw [pk_un e]; exact h q
theorem up_or {α : Type} {f : Nat → α} {k : Nat} {v : α} {P : α → Prop} (h : ∀ q, P (f q)) (hv : P v) : ∀ q, P (va_up f k v q) := fun q => by
  by_cases e : q = k
  · subst e; rw [up_s]; exact hv
  · rw [up_n e]; exact h q
theorem LI.ntp (h : LI nk np nt nl nr nb par kp ln th dr tb kr tc lev fo tu st df) : ∀ q : Nat, q < np → th q = true → 0 < nt := by
  obtain ⟨hk, hp, hnp, hkp, hln, hnt, hdr, hdz, htb, hnl, hnb, hnr, hkr, htc, htz, hlv, hfo, htu, hlL, hst, hdf⟩ := h
  intro q hq ht
  rw [hnt]
  have a := cntB_t ht
  have b := cntB_mono (P := th) (show q + 1 ≤ np from hq)
  omega
theorem LI.kind {k : Int32} (h : LI nk np nt nl nr nb par kp ln th dr tb kr tc lev fo tu st df) (hz : ak2 (decide (k = -1) || inB k nk) (decide (nk < 14)) = 0) : LI (nk + 1) np nt nl nr nb (upd par nk k) kp ln th dr tb kr tc lev fo tu st df := by
  obtain ⟨hk, hp, hnp, hkp, hln, hnt, hdr, hdz, htb, hnl, hnb, hnr, hkr, htc, htz, hlv, hfo, htu, hlL, hst, hdf⟩ := h
  obtain ⟨h1, h2⟩ := ak2_a hz
  have h3 := of_decide_eq_true h2
  refine ⟨h3, (fun i hi => ?_), hnp, (fun q hq => Nat.lt_succ_of_lt (hkp q hq)), hln, hnt, hdr, hdz, htb, hnl, hnb, hnr, (fun q hq => Nat.lt_succ_of_lt (hkr q hq)), htc, htz, hlv, hfo, htu, hlL, hst, hdf⟩
  by_cases e : i = nk
  · subst e
    rw [pk_us]
    rw [Bool.or_eq_true] at h1
    rcases h1 with a | a
    · exact Or.inl (of_decide_eq_true a)
    · obtain ⟨j, hj, ej⟩ := inB_N a (by omega)
      exact Or.inr ⟨j, hj, ej⟩
  · rw [pk_un e]; exact hp i (by omega)
theorem LI.pattern {k wg tks q1 q2 : Int32} (h : LI nk np nt nl nr nb par kp ln th dr tb kr tc lev fo tu st df) (hz : ak3 (inB k nk) (ptB wg tks q1 q2) (decide (np < 20)) = 0) : LI nk (np + 1) (nt + 1) nl nr nb par (va_up kp np k.toNatClampNeg) (va_up ln np tks.toNatClampNeg) (va_up th np true) dr tb kr tc lev fo tu st df := by
  obtain ⟨hk, hp, hnp, hkp, hln, hnt, hdr, hdz, htb, hnl, hnb, hnr, hkr, htc, htz, hlv, hfo, htu, hlL, hst, hdf⟩ := h
  obtain ⟨h1, h2, h3⟩ := ak3_a hz
  have h4 := of_decide_eq_true h3
  obtain ⟨-, hkn⟩ := inB_c h1 (by omega)
  obtain ⟨-, htn, -⟩ := pt_e (ptB_0 h2)
  refine ⟨hk, hp, h4, (fun q hq => ?_), (up_or (P := fun x => x ≤ 8) hln htn), ?_, (fun q hq => ?_), (fun q hq => hdz q (by omega)), htb, hnl, hnb, hnr, hkr, htc, htz, hlv, hfo, htu, hlL, hst, hdf⟩
  · by_cases e : q = np
    · subst e; rw [up_s]; exact hkn
    · rw [up_n e]; exact hkp q (by omega)
  · rw [cntB_t (by rw [up_s]), cntB_congr (Q := th) (fun i hi => up_n (by omega)), hnt]
  · by_cases e : q = np
    · subst e; rw [up_s, hdz q (Nat.le_refl _)]; rfl
    · rw [up_n e]; exact hdr q (by omega)
theorem LI.drop {k : Int32} (h : LI nk np nt nl nr nb par kp ln th dr tb kr tc lev fo tu st df) (hz : ak1 (hasP th np k) = 0) : LI nk np (nt - 1) nl nr nb par kp ln (va_up th k.toNatClampNeg false) (va_up dr k.toNatClampNeg true) tb kr tc lev fo tu st df := by
  obtain ⟨hk, hp, hnp, hkp, hln, hnt, hdr, hdz, htb, hnl, hnb, hnr, hkr, htc, htz, hlv, hfo, htu, hlL, hst, hdf⟩ := h
  obtain ⟨-, hkn, hth⟩ := hasP_c (ak1_t hz) (by omega)
  refine ⟨hk, hp, hnp, hkp, hln, ?_, (fun q hq => ?_), (fun q hq => ?_), htb, hnl, hnb, hnr, hkr, htc, htz, hlv, hfo, htu, hlL, hst, hdf⟩
  · have := cnt_drop hkn hth
    rw [hnt]; omega
  · by_cases e : q = k.toNatClampNeg
    · subst e; rw [up_s, up_s]; rfl
    · rw [up_n e, up_n e]; exact hdr q hq
  · rw [up_n (by omega)]; exact hdz q hq
theorem LI.rule {k wg : Int32} (h : LI nk np nt nl nr nb par kp ln th dr tb kr tc lev fo tu st df) (hz : ak3 (inB k nk) (rgB wg (nI 0) (nI 100)) (decide (nr < 12)) = 0) : LI nk np nt nl (nr + 1) nb par kp ln th dr tb (va_up kr nr k.toNatClampNeg) tc lev fo tu st df := by
  obtain ⟨hk, hp, hnp, hkp, hln, hnt, hdr, hdz, htb, hnl, hnb, hnr, hkr, htc, htz, hlv, hfo, htu, hlL, hst, hdf⟩ := h
  obtain ⟨h1, -, h3⟩ := ak3_a hz
  have h4 := of_decide_eq_true h3
  obtain ⟨-, hkn⟩ := inB_c h1 (by omega)
  refine ⟨hk, hp, hnp, hkp, hln, hnt, hdr, hdz, htb, hnl, hnb, h4, (fun q hq => ?_), htc, (fun q hq => htz q (by omega)), hlv, hfo, htu, (fun j hj => ?_), hst, hdf⟩
  · by_cases e : q = nr
    · subst e; rw [up_s]; exact hkn
    · rw [up_n e]; exact hkr q (by omega)
  · by_cases e : j = nr
    · subst e
      rw [htz j (Nat.le_refl _)]
      exact ⟨fun q => absurd q (by omega), fun i a b => absurd b (by omega)⟩
    · exact hlL j (by omega)
theorem lvS_le {ba : Nat} : ∀ {i en : Nat}, lvS lev ba en → ba + i < en → lev (ba + i) ≤ i
  | 0, en, h, hi => by rw [Nat.add_zero, h.1 (by omega)]; exact Nat.le_refl _
  | i + 1, en, h, hi => by
    have a := lvS_le (i := i) h (by omega)
    have b := h.2 (ba + i) (by omega) (by omega)
    rw [← Nat.add_assoc]
    omega
theorem gnl_tc {j : Nat} (h : lvS lev (j * 6) ((j * 6) + (tc j))) : gnl lev tc j ≤ tc j := by
  unfold gnl
  by_cases e : tc j = 0
  · rw [if_pos e]; omega
  · rw [if_neg e]
    have a := lvS_le (i := tc j - 1) h (by omega)
    rw [show (j * 6) + (tc j) - 1 = (j * 6) + (tc j - 1) by omega]
    omega
theorem lvS_congr {l2 : Nat → Nat} {ba en : Nat} (h : lvS lev ba en) (he : ∀ q : Nat, ba ≤ q → q < en → l2 q = lev q) : lvS l2 ba en :=
  ⟨fun a => by rw [he ba (Nat.le_refl _) a]; exact h.1 a, fun i a b => by rw [he i a (by omega), he (i + 1) (by omega) b]; exact h.2 i a b⟩
theorem LI.test {ru dp fm tz vl mm : Int32} (h : LI nk np nt nl nr nb par kp ln th dr tb kr tc lev fo tu st df) (hz : ak3 (inB ru nr) (teB (gnl lev tc ru.toNatClampNeg) dp fm tz vl mm) (decide (tc ru.toNatClampNeg < 6)) = 0) :
    LI nk np nt nl nr nb par kp ln th dr tb kr (va_up tc ru.toNatClampNeg ((tc ru.toNatClampNeg) + 1)) (va_up lev ((ru.toNatClampNeg * 6) + (tc ru.toNatClampNeg)) dp.toNatClampNeg) (va_up fo ((ru.toNatClampNeg * 6) + (tc ru.toNatClampNeg)) fm.toNatClampNeg) (va_up tu ((ru.toNatClampNeg * 6) + (tc ru.toNatClampNeg)) tz.toNatClampNeg) st df := by
  obtain ⟨hk, hp, hnp, hkp, hln, hnt, hdr, hdz, htb, hnl, hnb, hnr, hkr, htc, htz, hlv, hfo, htu, hlL, hst, hdf⟩ := h
  obtain ⟨h1, h2, h3⟩ := ak3_a hz
  have h4 := of_decide_eq_true h3
  obtain ⟨-, hkn⟩ := inB_c h1 (by omega)
  generalize ru.toNatClampNeg = J at *
  obtain ⟨-, -, -, hfn, -, hzn⟩ := teB_e (gnl_le hlv tc _) h2
  have hL := hlL J hkn
  have hg := gnl_tc hL
  have hd : dp.toNatClampNeg ≤ gnl lev tc J := (rgB_c (Bool.and_eq_true_iff.mp h2).1 (by omega)).2
  generalize dp.toNatClampNeg = d at *
  refine ⟨hk, hp, hnp, hkp, hln, hnt, hdr, hdz, htb, hnl, hnb, hnr, hkr, (up_or (P := fun x => x ≤ 6) htc h4), (fun q hq => ?_), (up_or (P := fun x => x ≤ 5) hlv (by omega)), (up_or (P := fun x => x ≤ 15) hfo hfn), (up_or (P := fun x => x ≤ 15) htu hzn), (fun j hj => ?_), hst, hdf⟩
  · rw [up_n (by omega)]; exact htz q hq
  · by_cases e : j = J
    · subst e
      rw [up_s]
      refine ⟨fun _ => ?_, fun i a b => ?_⟩
      · by_cases e0 : tc j = 0
        · have hg0 : gnl lev tc j = 0 := by unfold gnl; rw [if_pos e0]
          rw [e0, Nat.add_zero, up_s]; omega
        · rw [up_n (by omega)]; exact hL.1 (by omega)
      · by_cases e1 : i + 1 = (j * 6) + (tc j)
        · have hg1 : gnl lev tc j = lev i + 1 := by
            unfold gnl
            rw [if_neg (by omega), show (j * 6) + (tc j) - 1 = i by omega]
          rw [e1, up_s, up_n (by omega)]; omega
        · rw [up_n e1, up_n (by omega)]; exact hL.2 i a (by omega)
    · have htj := htc j
      rw [up_n e]
      exact lvS_congr (hlL j hj) (fun q a b => up_n (by omega))
theorem LI.letter {k : Int32} (h : LI nk np nt nl nr nb par kp ln th dr tb kr tc lev fo tu st df) (hz : ak2 (rgB k (nI 0) (nI 9)) (decide (nl < 12)) = 0) : LI nk np nt (nl + 1) nr nb par kp ln th dr tb kr tc lev fo tu st df := by
  obtain ⟨hk, hp, hnp, hkp, hln, hnt, hdr, hdz, htb, hnl, hnb, hnr, hkr, htc, htz, hlv, hfo, htu, hlL, hst, hdf⟩ := h
  exact ⟨hk, hp, hnp, hkp, hln, hnt, hdr, hdz, htb, (of_decide_eq_true (ak2_a hz).2), hnb, hnr, hkr, htc, htz, hlv, hfo, htu, hlL, hst, hdf⟩
theorem LI.put {k : Int32} (h : LI nk np nt nl nr nb par kp ln th dr tb kr tc lev fo tu st df) (hz : ak2 (rgB k (nI 0) (nI 255)) (decide (nb < 16)) = 0) : LI nk np nt nl nr (nb + 1) par kp ln th dr tb kr tc lev fo tu st df := by
  obtain ⟨hk, hp, hnp, hkp, hln, hnt, hdr, hdz, htb, hnl, hnb, hnr, hkr, htc, htz, hlv, hfo, htu, hlL, hst, hdf⟩ := h
  exact ⟨hk, hp, hnp, hkp, hln, hnt, hdr, hdz, htb, hnl, (of_decide_eq_true (ak2_a hz).2), hnr, hkr, htc, htz, hlv, hfo, htu, hlL, hst, hdf⟩
theorem LI.empty (h : LI nk np nt nl nr nb par kp ln th dr tb kr tc lev fo tu st df) : LI nk np nt 0 nr 0 par kp ln th dr tb kr tc lev fo tu st df := by
  obtain ⟨hk, hp, hnp, hkp, hln, hnt, hdr, hdz, htb, hnl, hnb, hnr, hkr, htc, htz, hlv, hfo, htu, hlL, hst, hdf⟩ := h
  exact ⟨hk, hp, hnp, hkp, hln, hnt, hdr, hdz, htb, (by omega), (by omega), hnr, hkr, htc, htz, hlv, hfo, htu, hlL, hst, hdf⟩
theorem LI.table {u : Nat → Bool} (h : LI nk np nt nl nr nb par kp ln th dr tb kr tc lev fo tu st df) (hu : ∀ q : Nat, 1 ≤ q → q < 13 → u q = false) : LI nk np nt nl nr nb par kp ln th dr u kr tc lev fo tu st df := by
  obtain ⟨hk, hp, hnp, hkp, hln, hnt, hdr, hdz, htb, hnl, hnb, hnr, hkr, htc, htz, hlv, hfo, htu, hlL, hst, hdf⟩ := h
  exact ⟨hk, hp, hnp, hkp, hln, hnt, hdr, hdz, hu, hnl, hnb, hnr, hkr, htc, htz, hlv, hfo, htu, hlL, hst, hdf⟩
theorem LI.program {i k pg sv : Int32} {x : Nat} (h : LI nk np nt nl nr nb par kp ln th dr tb kr tc lev fo tu st df) (hz : ak2 (inB k nk) (rgB i (nI 0) (nI 2) && (rgB pg (nI 0) (nI 9) && rgB sv (nI 0) (nI 2))) = 0) : LI nk np nt nl nr nb par kp ln th dr tb kr tc lev fo tu (upd st x sv) df := by
  obtain ⟨hk, hp, hnp, hkp, hln, hnt, hdr, hdz, htb, hnl, hnb, hnr, hkr, htc, htz, hlv, hfo, htu, hlL, hst, hdf⟩ := h
  have h1 := Bool.and_eq_true_iff.mp (Bool.and_eq_true_iff.mp (ak2_a hz).2).2
  obtain ⟨e, hv⟩ := rgB_c (n := 2) h1.2 (by omega)
  refine ⟨hk, hp, hnp, hkp, hln, hnt, hdr, hdz, htb, hnl, hnb, hnr, hkr, htc, htz, hlv, hfo, htu, hlL, (upd_or (P := fun v => v = nI 0 ∨ v = nI 1 ∨ v = nI 2) hst ?_), hdf⟩
  rw [e]
  rcases (show sv.toNatClampNeg = 0 ∨ sv.toNatClampNeg = 1 ∨ sv.toNatClampNeg = 2 by omega) with q | q | q <;> rw [q]
  · exact Or.inl rfl
  · exact Or.inr (Or.inl rfl)
  · exact Or.inr (Or.inr rfl)
theorem LI.setDefault {i k sv : Int32} {x : Nat} (h : LI nk np nt nl nr nb par kp ln th dr tb kr tc lev fo tu st df) (hz : ak2 (inB k nk) (rgB i (nI 0) (nI 2) && rgB sv (-1) (nI 9)) = 0) : LI nk np nt nl nr nb par kp ln th dr tb kr tc lev fo tu st (upd df x sv) := by
  obtain ⟨hk, hp, hnp, hkp, hln, hnt, hdr, hdz, htb, hnl, hnb, hnr, hkr, htc, htz, hlv, hfo, htu, hlL, hst, hdf⟩ := h
  have h1 := Bool.and_eq_true_iff.mp (Bool.and_eq_true_iff.mp (ak2_a hz).2).2
  refine ⟨hk, hp, hnp, hkp, hln, hnt, hdr, hdz, htb, hnl, hnb, hnr, hkr, htc, htz, hlv, hfo, htu, hlL, hst, (upd_or (P := fun v => v = -1 ∨ ∃ z : Nat, z < 10 ∧ v = nI z) hdf ?_)⟩
  by_cases e : sv = -1
  · exact Or.inl e
  · have a : (-1 : Int32).toInt ≤ sv.toInt := Int32.le_iff_toInt_le.mp (of_decide_eq_true h1.1)
    have b : ¬ sv.toInt = (-1 : Int32).toInt := fun q => e (Int32.toInt_inj.mp q)
    have c : (0 : Int32) ≤ sv := Int32.le_iff_toInt_le.mpr (by
      have e1 : (-1 : Int32).toInt = -1 := rfl
      have e0 : (0 : Int32).toInt = 0 := rfl
      omega)
    obtain ⟨e2, hv⟩ := rgB_c (n := 9) (rgB_t (show nI 0 ≤ sv from c) (of_decide_eq_true h1.2)) (by omega)
    exact Or.inr ⟨sv.toNatClampNeg, by omega, e2⟩
end LIS
