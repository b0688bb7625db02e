/-! ===== what holds of a teller between two calls (own text of the claim whole, its programs left out) ===== -/
def cntB (P : Nat → Bool) : Nat → Nat
  | 0 => 0
  | n + 1 => cntB P n + (if P n = true then 1 else 0)
theorem cntB_t {P : Nat → Bool} {n : Nat} (h : P n = true) : cntB P (n + 1) = cntB P n + 1 := by
  show cntB P n + _ = _
  rw [if_pos h]
theorem cntB_f {P : Nat → Bool} {n : Nat} (h : P n = false) : cntB P (n + 1) = cntB P n := by
  show cntB P n + _ = _
  rw [if_neg (by rw [h]; decide)]; rfl
theorem cntB_congr {P Q : Nat → Bool} : ∀ {n : Nat}, (∀ i, i < n → P i = Q i) → cntB P n = cntB Q n
  | 0, _ => rfl
  | n + 1, h => by
    show cntB P n + _ = cntB Q n + _
    rw [cntB_congr (fun i hi => h i (by omega)), h n (by omega)]
theorem ak1_t {a : Bool} (h : ak1 a = 0) : a = true := by cases a <;> simp [ak1] at h ⊢
theorem ak1_f {a : Bool} (h : ¬ ak1 a = 0) : a = false := by cases a <;> simp [ak1] at h ⊢
theorem ak2_a {a b : Bool} (h : ak2 a b = 0) : a = true ∧ b = true := by cases a <;> cases b <;> simp [ak2] at h ⊢
theorem ak3_a {a b c : Bool} (h : ak3 a b c = 0) : a = true ∧ b = true ∧ c = true := by cases a <;> cases b <;> cases c <;> simp [ak3] at h ⊢
def ptA (wg tks q1 q2 : Int32) : Bool := rgB wg (nI 0) (nI 100) && (rgB tks (nI 0) (nI 8) && (decide (0 ≤ q1) && decide (0 ≤ q2)))
theorem ptB_A (wg tks q1 q2 : Int32) : ptB wg tks q1 q2 = (ptA wg tks q1 q2 && alB (fun i => decide (tkN i q1.toNatClampNeg q2.toNatClampNeg ≤ 11)) tks.toNatClampNeg) := by
  unfold ptB ptA
  simp only [Bool.and_assoc]
theorem pt_e {wg tks q1 q2 : Int32} (h : (rgB wg (nI 0) (nI 100) && (rgB tks (nI 0) (nI 8) && (decide (0 ≤ q1) && decide (0 ≤ q2)))) = true) : tks = nI tks.toNatClampNeg ∧ tks.toNatClampNeg ≤ 8 ∧ q1 = nI q1.toNatClampNeg ∧ q1.toNatClampNeg < 2 ^ 31 ∧ q2 = nI q2.toNatClampNeg ∧ q2.toNatClampNeg < 2 ^ 31 := by
  have h1 := Bool.and_eq_true_iff.mp (Bool.and_eq_true_iff.mp h).2
  have h2 := Bool.and_eq_true_iff.mp h1.2
  have a := rgB_c (n := 8) h1.1 (by omega)
  have b := nn_c (of_decide_eq_true h2.1)
  have c := nn_c (of_decide_eq_true h2.2)
  exact ⟨a.1, a.2, b.1, b.2, c.1, c.2⟩
theorem ptB_0 {wg tks q1 q2 : Int32} (h : ptB wg tks q1 q2 = true) : (rgB wg (nI 0) (nI 100) && (rgB tks (nI 0) (nI 8) && (decide (0 ≤ q1) && decide (0 ≤ q2)))) = true := by
  rw [ptB_A] at h
  exact (Bool.and_eq_true_iff.mp h).1
theorem cntB_mono {P : Nat → Bool} {m : Nat} : ∀ {n : Nat}, m ≤ n → cntB P m ≤ cntB P n
  | 0, h => by rw [Nat.le_zero.mp h]; exact Nat.le_refl _
  | n + 1, h => by
    by_cases e : m = n + 1
    · rw [e]; exact Nat.le_refl _
    · exact Nat.le_trans (cntB_mono (n := n) (by omega)) (Nat.le_add_right _ _)
theorem cnt_drop {th : Nat → Bool} {k : Nat} : ∀ {n : Nat}, k < n → th k = true → cntB (va_up th k false) n + 1 = cntB th n
  | 0, h, _ => absurd h (Nat.not_lt_zero k)
  | n + 1, h, ht => by
    by_cases hk : k = n
    · subst hk
      rw [cntB_f (by rw [up_s]), cntB_t ht, cntB_congr (fun i hi => up_n (by omega))]
    · show cntB (va_up th k false) n + _ + 1 = cntB th n + _
      have := cnt_drop (n := n) (by omega) ht
      rw [up_n (f := th) (v := false) (fun q => hk q.symm)]
      omega
theorem teB_e {g : Nat} {dp fm tz vl mm : Int32} (hg : g ≤ 6) (h : teB g dp fm tz vl mm = true) : dp = nI dp.toNatClampNeg ∧ dp.toNatClampNeg ≤ 6 ∧ fm = nI fm.toNatClampNeg ∧ fm.toNatClampNeg ≤ 15 ∧ tz = nI tz.toNatClampNeg ∧ tz.toNatClampNeg ≤ 15 := by
  have h1 := Bool.and_eq_true_iff.mp h
  have h2 := Bool.and_eq_true_iff.mp h1.2
  have h3 := Bool.and_eq_true_iff.mp h2.2
  have a := rgB_c (n := g) h1.1 (by omega)
  have b := rgB_c (n := 15) h2.1 (by omega)
  have c := rgB_c2 (a := 15) (b := 15) h3.1 h2.1
  exact ⟨a.1, by omega, b.1, b.2, c.1, c.2⟩
def lvS (lev : Nat → Nat) (ba en : Nat) : Prop := (ba < en → lev ba = 0) ∧ ∀ i : Nat, ba ≤ i → i + 1 < en → lev (i + 1) ≤ lev i + 1
theorem pk_z {k : Nat} {x : Int32} (h2 : x = nI k - nI 1) (hc : x < 0) (hb : k < 2 ^ 30) : k = 0 := by
  have h := Int32.lt_iff_toInt_lt.mp hc
  rw [h2, pk_sub_toInt hb (by omega)] at h
  have e : (0 : Int32).toInt = 0 := rfl
  omega
theorem pk_zs {k : Nat} {x : Int32} (h2 : x = nI k - nI 1) (hc : ¬ x < 0) (hb : k < 2 ^ 30) : ∃ k1, k = k1 + 1 := by
  rcases Nat.eq_zero_or_pos k with h | h
  · exfalso
    refine hc (Int32.lt_iff_toInt_lt.mpr ?_)
    rw [h2, pk_sub_toInt hb (by omega), h]
    decide
  · exact ⟨k - 1, by omega⟩
/-- what holds of both sides between two calls -/
def LI (nk np nt nl nr nb : Nat) (par : Nat → Int32) (kp ln : Nat → Nat) (th dr tb : Nat → Bool) (kr tc lev fo tu : Nat → Nat) : Prop :=
  (nk ≤ 14) ∧
  (parOK par nk) ∧
  (np ≤ 20) ∧
  (∀ q : Nat, q < np → kp q < nk) ∧
  (∀ q : Nat, ln q ≤ 8) ∧
  (nt = cntB th np) ∧
  (∀ q : Nat, q < np → dr q = !th q) ∧
  (∀ q : Nat, np ≤ q → dr q = false) ∧
  (∀ q : Nat, 1 ≤ q → q < 13 → tb q = false) ∧
  (nl ≤ 12) ∧
  (nb ≤ 16) ∧
  (nr ≤ 12) ∧
  (∀ q : Nat, q < nr → kr q < nk) ∧
  (∀ q : Nat, tc q ≤ 6) ∧
  (∀ q : Nat, nr ≤ q → tc q = 0) ∧
  (∀ q : Nat, lev q ≤ 5) ∧
  (∀ q : Nat, fo q ≤ 15) ∧
  (∀ q : Nat, tu q ≤ 15) ∧
  (∀ j : Nat, j < nr → lvS lev (j * 6) ((j * 6) + (tc j)))
section LIS
variable {nk np nt nl nr nb : Nat} {par : Nat → Int32} {kp ln : Nat → Nat} {th dr tb : Nat → Bool} {kr tc lev fo tu : Nat → Nat}
theorem upd_or {f : Nat → Int32} {k : Nat} {v : Int32} {P : Int32 → Prop} (h : ∀ q, P (f q)) (hv : P v) : ∀ q, P (upd f k v q) := fun q => by
  by_cases e : q = k
  · subst e; rw [pk_us]; exact hv
  · rw [pk_un e]; exact h q
theorem up_or {α : Type} {f : Nat → α} {k : Nat} {v : α} {P : α → Prop} (h : ∀ q, P (f q)) (hv : P v) : ∀ q, P (va_up f k v q) := fun q => by
  by_cases e : q = k
  · subst e; rw [up_s]; exact hv
  · rw [up_n e]; exact h q
theorem LI.ntp (h : LI nk np nt nl nr nb par kp ln th dr tb kr tc lev fo tu) : ∀ q : Nat, q < np → th q = true → 0 < nt := by
  obtain ⟨hk, hp, hnp, hkp, hln, hnt, hdr, hdz, htb, hnl, hnb, hnr, hkr, htc, htz, hlv, hfo, htu, hlL⟩ := h
  intro q hq ht
  rw [hnt]
  have a := cntB_t ht
  have b := cntB_mono (P := th) (show q + 1 ≤ np from hq)
  omega
theorem LI.kind {k : Int32} (h : LI nk np nt nl nr nb par kp ln th dr tb kr tc lev fo tu) (hz : ak2 (decide (k = -1) || inB k nk) (decide (nk < 14)) = 0) : LI (nk + 1) np nt nl nr nb (upd par nk k) kp ln th dr tb kr tc lev fo tu := by
  obtain ⟨hk, hp, hnp, hkp, hln, hnt, hdr, hdz, htb, hnl, hnb, hnr, hkr, htc, htz, hlv, hfo, htu, hlL⟩ := h
  obtain ⟨h1, h2⟩ := ak2_a hz
  have h3 := of_decide_eq_true h2
  refine ⟨h3, (fun i hi => ?_), hnp, (fun q hq => Nat.lt_succ_of_lt (hkp q hq)), hln, hnt, hdr, hdz, htb, hnl, hnb, hnr, (fun q hq => Nat.lt_succ_of_lt (hkr q hq)), htc, htz, hlv, hfo, htu, hlL⟩
  by_cases e : i = nk
  · subst e
    rw [pk_us]
    rw [Bool.or_eq_true] at h1
    rcases h1 with a | a
    · exact Or.inl (of_decide_eq_true a)
    · obtain ⟨j, hj, ej⟩ := inB_N a (by omega)
      exact Or.inr ⟨j, hj, ej⟩
  · rw [pk_un e]; exact hp i (by omega)
theorem LI.pattern {k wg tks q1 q2 : Int32} (h : LI nk np nt nl nr nb par kp ln th dr tb kr tc lev fo tu) (hz : ak3 (inB k nk) (ptB wg tks q1 q2) (decide (np < 20)) = 0) : LI nk (np + 1) (nt + 1) nl nr nb par (va_up kp np k.toNatClampNeg) (va_up ln np tks.toNatClampNeg) (va_up th np true) dr tb kr tc lev fo tu := by
  obtain ⟨hk, hp, hnp, hkp, hln, hnt, hdr, hdz, htb, hnl, hnb, hnr, hkr, htc, htz, hlv, hfo, htu, hlL⟩ := h
  obtain ⟨h1, h2, h3⟩ := ak3_a hz
  have h4 := of_decide_eq_true h3
  obtain ⟨-, hkn⟩ := inB_c h1 (by omega)
  obtain ⟨-, htn, -⟩ := pt_e (ptB_0 h2)
  refine ⟨hk, hp, h4, (fun q hq => ?_), (up_or (P := fun x => x ≤ 8) hln htn), ?_, (fun q hq => ?_), (fun q hq => hdz q (by omega)), htb, hnl, hnb, hnr, hkr, htc, htz, hlv, hfo, htu, hlL⟩
  · by_cases e : q = np
    · subst e; rw [up_s]; exact hkn
    · rw [up_n e]; exact hkp q (by omega)
  · rw [cntB_t (by rw [up_s]), cntB_congr (Q := th) (fun i hi => up_n (by omega)), hnt]
  · by_cases e : q = np
    · subst e; rw [up_s, hdz q (Nat.le_refl _)]; rfl
    · rw [up_n e]; exact hdr q (by omega)
theorem LI.drop {k : Int32} (h : LI nk np nt nl nr nb par kp ln th dr tb kr tc lev fo tu) (hz : ak1 (hasP th np k) = 0) : LI nk np (nt - 1) nl nr nb par kp ln (va_up th k.toNatClampNeg false) (va_up dr k.toNatClampNeg true) tb kr tc lev fo tu := by
  obtain ⟨hk, hp, hnp, hkp, hln, hnt, hdr, hdz, htb, hnl, hnb, hnr, hkr, htc, htz, hlv, hfo, htu, hlL⟩ := h
  obtain ⟨-, hkn, hth⟩ := hasP_c (ak1_t hz) (by omega)
  refine ⟨hk, hp, hnp, hkp, hln, ?_, (fun q hq => ?_), (fun q hq => ?_), htb, hnl, hnb, hnr, hkr, htc, htz, hlv, hfo, htu, hlL⟩
  · have := cnt_drop hkn hth
    rw [hnt]; omega
  · by_cases e : q = k.toNatClampNeg
    · subst e; rw [up_s, up_s]; rfl
    · rw [up_n e, up_n e]; exact hdr q hq
  · rw [up_n (by omega)]; exact hdz q hq
theorem LI.rule {k wg : Int32} (h : LI nk np nt nl nr nb par kp ln th dr tb kr tc lev fo tu) (hz : ak3 (inB k nk) (rgB wg (nI 0) (nI 100)) (decide (nr < 12)) = 0) : LI nk np nt nl (nr + 1) nb par kp ln th dr tb (va_up kr nr k.toNatClampNeg) tc lev fo tu := by
  obtain ⟨hk, hp, hnp, hkp, hln, hnt, hdr, hdz, htb, hnl, hnb, hnr, hkr, htc, htz, hlv, hfo, htu, hlL⟩ := h
  obtain ⟨h1, -, h3⟩ := ak3_a hz
  have h4 := of_decide_eq_true h3
  obtain ⟨-, hkn⟩ := inB_c h1 (by omega)
  refine ⟨hk, hp, hnp, hkp, hln, hnt, hdr, hdz, htb, hnl, hnb, h4, (fun q hq => ?_), htc, (fun q hq => htz q (by omega)), hlv, hfo, htu, (fun j hj => ?_)⟩
  · by_cases e : q = nr
    · subst e; rw [up_s]; exact hkn
    · rw [up_n e]; exact hkr q (by omega)
  · by_cases e : j = nr
    · subst e
      rw [htz j (Nat.le_refl _)]
      exact ⟨fun q => absurd q (by omega), fun i a b => absurd b (by omega)⟩
    · exact hlL j (by omega)
theorem lvS_le {ba : Nat} : ∀ {i en : Nat}, lvS lev ba en → ba + i < en → lev (ba + i) ≤ i
  | 0, en, h, hi => by rw [Nat.add_zero, h.1 (by omega)]; exact Nat.le_refl _
  | i + 1, en, h, hi => by
    have a := lvS_le (i := i) h (by omega)
    have b := h.2 (ba + i) (by omega) (by omega)
    rw [← Nat.add_assoc]
    omega
theorem gnl_tc {j : Nat} (h : lvS lev (j * 6) ((j * 6) + (tc j))) : gnl lev tc j ≤ tc j := by
  unfold gnl
  by_cases e : tc j = 0
  · rw [if_pos e]; omega
  · rw [if_neg e]
    have a := lvS_le (i := tc j - 1) h (by omega)
    rw [show (j * 6) + (tc j) - 1 = (j * 6) + (tc j - 1) by omega]
    omega
theorem lvS_congr {l2 : Nat → Nat} {ba en : Nat} (h : lvS lev ba en) (he : ∀ q : Nat, ba ≤ q → q < en → l2 q = lev q) : lvS l2 ba en :=
  ⟨fun a => by rw [he ba (Nat.le_refl _) a]; exact h.1 a, fun i a b => by rw [he i a (by omega), he (i + 1) (by omega) b]; exact h.2 i a b⟩
theorem LI.test {ru dp fm tz vl mm : Int32} (h : LI nk np nt nl nr nb par kp ln th dr tb kr tc lev fo tu) (hz : ak3 (inB ru nr) (teB (gnl lev tc ru.toNatClampNeg) dp fm tz vl mm) (decide (tc ru.toNatClampNeg < 6)) = 0) :
    LI nk np nt nl nr nb par kp ln th dr tb kr (va_up tc ru.toNatClampNeg ((tc ru.toNatClampNeg) + 1)) (va_up lev ((ru.toNatClampNeg * 6) + (tc ru.toNatClampNeg)) dp.toNatClampNeg) (va_up fo ((ru.toNatClampNeg * 6) + (tc ru.toNatClampNeg)) fm.toNatClampNeg) (va_up tu ((ru.toNatClampNeg * 6) + (tc ru.toNatClampNeg)) tz.toNatClampNeg) := by
  obtain ⟨hk, hp, hnp, hkp, hln, hnt, hdr, hdz, htb, hnl, hnb, hnr, hkr, htc, htz, hlv, hfo, htu, hlL⟩ := h
  obtain ⟨h1, h2, h3⟩ := ak3_a hz
  have h4 := of_decide_eq_true h3
  obtain ⟨-, hkn⟩ := inB_c h1 (by omega)
  generalize ru.toNatClampNeg = J at *
  obtain ⟨-, -, -, hfn, -, hzn⟩ := teB_e (gnl_le hlv tc _) h2
  have hL := hlL J hkn
  have hg := gnl_tc hL
  have hd : dp.toNatClampNeg ≤ gnl lev tc J := (rgB_c (Bool.and_eq_true_iff.mp h2).1 (by omega)).2
  generalize dp.toNatClampNeg = d at *
  refine ⟨hk, hp, hnp, hkp, hln, hnt, hdr, hdz, htb, hnl, hnb, hnr, hkr, (up_or (P := fun x => x ≤ 6) htc h4), (fun q hq => ?_), (up_or (P := fun x => x ≤ 5) hlv (by omega)), (up_or (P := fun x => x ≤ 15) hfo hfn), (up_or (P := fun x => x ≤ 15) htu hzn), (fun j hj => ?_)⟩
  · rw [up_n (by omega)]; exact htz q hq
  · by_cases e : j = J
    · subst e
      rw [up_s]
      refine ⟨fun _ => ?_, fun i a b => ?_⟩
      · by_cases e0 : tc j = 0
        · have hg0 : gnl lev tc j = 0 := by unfold gnl; rw [if_pos e0]
          rw [e0, Nat.add_zero, up_s]; omega
        · rw [up_n (by omega)]; exact hL.1 (by omega)
      · by_cases e1 : i + 1 = (j * 6) + (tc j)
        · have hg1 : gnl lev tc j = lev i + 1 := by
            unfold gnl
            rw [if_neg (by omega), show (j * 6) + (tc j) - 1 = i by omega]
          rw [e1, up_s, up_n (by omega)]; omega
        · rw [up_n e1, up_n (by omega)]; exact hL.2 i a (by omega)
    · have htj := htc j
      rw [up_n e]
      exact lvS_congr (hlL j hj) (fun q a b => up_n (by omega))
theorem LI.letter {k : Int32} (h : LI nk np nt nl nr nb par kp ln th dr tb kr tc lev fo tu) (hz : ak2 (rgB k (nI 0) (nI 9)) (decide (nl < 12)) = 0) : LI nk np nt (nl + 1) nr nb par kp ln th dr tb kr tc lev fo tu := by
  obtain ⟨hk, hp, hnp, hkp, hln, hnt, hdr, hdz, htb, hnl, hnb, hnr, hkr, htc, htz, hlv, hfo, htu, hlL⟩ := h
  exact ⟨hk, hp, hnp, hkp, hln, hnt, hdr, hdz, htb, (of_decide_eq_true (ak2_a hz).2), hnb, hnr, hkr, htc, htz, hlv, hfo, htu, hlL⟩
theorem LI.put {k : Int32} (h : LI nk np nt nl nr nb par kp ln th dr tb kr tc lev fo tu) (hz : ak2 (rgB k (nI 0) (nI 255)) (decide (nb < 16)) = 0) : LI nk np nt nl nr (nb + 1) par kp ln th dr tb kr tc lev fo tu := by
  obtain ⟨hk, hp, hnp, hkp, hln, hnt, hdr, hdz, htb, hnl, hnb, hnr, hkr, htc, htz, hlv, hfo, htu, hlL⟩ := h
  exact ⟨hk, hp, hnp, hkp, hln, hnt, hdr, hdz, htb, hnl, (of_decide_eq_true (ak2_a hz).2), hnr, hkr, htc, htz, hlv, hfo, htu, hlL⟩
theorem LI.empty (h : LI nk np nt nl nr nb par kp ln th dr tb kr tc lev fo tu) : LI nk np nt 0 nr 0 par kp ln th dr tb kr tc lev fo tu := by
  obtain ⟨hk, hp, hnp, hkp, hln, hnt, hdr, hdz, htb, hnl, hnb, hnr, hkr, htc, htz, hlv, hfo, htu, hlL⟩ := h
  exact ⟨hk, hp, hnp, hkp, hln, hnt, hdr, hdz, htb, (by omega), (by omega), hnr, hkr, htc, htz, hlv, hfo, htu, hlL⟩
theorem LI.table {u : Nat → Bool} (h : LI nk np nt nl nr nb par kp ln th dr tb kr tc lev fo tu) (hu : ∀ q : Nat, 1 ≤ q → q < 13 → u q = false) : LI nk np nt nl nr nb par kp ln th dr u kr tc lev fo tu := by
  obtain ⟨hk, hp, hnp, hkp, hln, hnt, hdr, hdz, htb, hnl, hnb, hnr, hkr, htc, htz, hlv, hfo, htu, hlL⟩ := h
  exact ⟨hk, hp, hnp, hkp, hln, hnt, hdr, hdz, hu, hnl, hnb, hnr, hkr, htc, htz, hlv, hfo, htu, hlL⟩
end LIS

