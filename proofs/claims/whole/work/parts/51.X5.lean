theorem rg_in {k : Int32} {n : Nat} (hn : n < 2 ^ 30) : rgB k (nI 0) (nI n - nI 1) = inB k n := by
  unfold rgB inB
  rw [← Bool.decide_and]
  refine decide_eq_decide.mpr ?_
  rw [Int32.le_iff_toInt_le, Int32.le_iff_toInt_le, pk_sub_toInt hn (by omega), nI_toInt (by omega)]
  omega
theorem ak1_t {a : Bool} (h : ak1 a = 0) : a = true := by cases a <;> simp [ak1] at h ⊢
theorem ak1_f {a : Bool} (h : ¬ ak1 a = 0) : a = false := by cases a <;> simp [ak1] at h ⊢
theorem ak2_t {a b : Bool} (h : ak2 a b = 0) : (a && b) = true := by cases a <;> cases b <;> simp [ak2] at h ⊢
theorem ak2_f {a b : Bool} (h : ¬ ak2 a b = 0) : (a && b) = false := by cases a <;> cases b <;> simp [ak2] at h ⊢
theorem ak2_a {a b : Bool} (h : ak2 a b = 0) : a = true ∧ b = true := by cases a <;> cases b <;> simp [ak2] at h ⊢
theorem ak3_t {a b c : Bool} (h : ak3 a b c = 0) : (a && (b && c)) = true := by cases a <;> cases b <;> cases c <;> simp [ak3] at h ⊢
theorem ak3_f {a b c : Bool} (h : ¬ ak3 a b c = 0) : (a && (b && c)) = false := by cases a <;> cases b <;> cases c <;> simp [ak3] at h ⊢
theorem ak3_a {a b c : Bool} (h : ak3 a b c = 0) : a = true ∧ b = true ∧ c = true := by cases a <;> cases b <;> cases c <;> simp [ak3] at h ⊢
theorem ak3_eq {a b c b2 c2 : Bool} (h : a = true → b = b2 ∧ c = c2) : ak3 a b c = ak3 a b2 c2 := by
  cases a with
  | false => rfl
  | true => rw [(h rfl).1, (h rfl).2]
theorem alB_mono {P : Nat → Bool} {i : Nat} : ∀ {n : Nat}, i ≤ n → alB P i = false → alB P n = false
  | 0, h, hp => by rw [Nat.le_zero.mp h] at hp; exact hp
  | n + 1, h, hp => by
    by_cases hq : i = n + 1
    · rw [← hq]; exact hp
    · show (alB P n && P n) = false
      rw [alB_mono (by omega) hp, Bool.false_and]
def ptA (wg tks q1 q2 : Int32) : Bool := rgB wg (nI 0) (nI 100) && (rgB tks (nI 0) (nI 8) && (decide (0 ≤ q1) && decide (0 ≤ q2)))
theorem ptB_A (wg tks q1 q2 : Int32) : ptB wg tks q1 q2 = (ptA wg tks q1 q2 && alB (fun i => decide (tkN i q1.toNatClampNeg q2.toNatClampNeg ≤ 11)) tks.toNatClampNeg) := by
  unfold ptB ptA
  simp only [Bool.and_assoc]
theorem pt_e {wg tks q1 q2 : Int32} (h : (rgB wg (nI 0) (nI 100) && (rgB tks (nI 0) (nI 8) && (decide (0 ≤ q1) && decide (0 ≤ q2)))) = true) : tks = nI tks.toNatClampNeg ∧ tks.toNatClampNeg ≤ 8 ∧ q1 = nI q1.toNatClampNeg ∧ q1.toNatClampNeg < 2 ^ 31 ∧ q2 = nI q2.toNatClampNeg ∧ q2.toNatClampNeg < 2 ^ 31 := by
  have h1 := Bool.and_eq_true_iff.mp (Bool.and_eq_true_iff.mp h).2
  have h2 := Bool.and_eq_true_iff.mp h1.2
  have a := rgB_c (n := 8) h1.1 (by omega)
  have b := nn_c (of_decide_eq_true h2.1)
  have c := nn_c (of_decide_eq_true h2.2)
  exact ⟨a.1, a.2, b.1, b.2, c.1, c.2⟩
theorem ptB_0 {wg tks q1 q2 : Int32} (h : ptB wg tks q1 q2 = true) : (rgB wg (nI 0) (nI 100) && (rgB tks (nI 0) (nI 8) && (decide (0 ≤ q1) && decide (0 ≤ q2)))) = true := by
  rw [ptB_A] at h
  exact (Bool.and_eq_true_iff.mp h).1
theorem pt_j {j g : Bool} {P : Nat → Bool} {i : Nat} (hg : g = (j && alB P i)) (h : g = true) : j = true := (Bool.and_eq_true_iff.mp (hg.symm.trans h)).1
theorem pt_s {j g : Bool} {P : Nat → Bool} {i : Nat} (hg : g = (j && alB P i)) (h : g = true) : (j && alB P (i + 1)) = P i := by
  have h1 := Bool.and_eq_true_iff.mp (hg.symm.trans h)
  show (j && (alB P i && P i)) = P i
  rw [h1.1, h1.2]; rfl
theorem pt_lt2 {tks : Int32} {i : Nat} (et : tks = nI tks.toNatClampNeg) (ht : tks.toNatClampNeg ≤ 8) (h : i ≤ 8) (hc : ¬ tks ≤ nI i) : i < tks.toNatClampNeg := by
  rcases Nat.lt_or_ge i tks.toNatClampNeg with q | q
  · exact q
  · exfalso
    refine hc ?_
    rw [et]
    exact (nI_leI (by omega) (by omega)).mpr q
theorem pt_fin {j g : Bool} {wg tks q1 q2 : Int32} {i : Nat} (hj : j = (rgB wg (nI 0) (nI 100) && (rgB tks (nI 0) (nI 8) && (decide (0 ≤ q1) && decide (0 ≤ q2))))) (hg : g = (j && alB (fun z => decide (tkN z q1.toNatClampNeg q2.toNatClampNeg ≤ 11)) i)) (h9 : j = true → i ≤ tks.toNatClampNeg) (hx : tks ≤ nI i ∨ g = false) : g = ptB wg tks q1 q2 := by
  have hj' : j = ptA wg tks q1 q2 := hj
  rw [ptB_A, ← hj']
  cases j with
  | false => rw [hg]; rfl
  | true =>
    have hi := h9 rfl
    obtain ⟨et, htn, -⟩ := pt_e hj.symm
    rcases hx with hx | hx
    · rw [et] at hx
      have hle := (nI_leI (by omega) (by omega)).mp hx
      have e : i = tks.toNatClampNeg := by omega
      rw [e] at hg
      exact hg
    · rw [hx]
      rw [hx, Bool.true_and] at hg
      rw [Bool.true_and, alB_mono hi hg.symm]
theorem cnt_drop {th : Nat → Bool} {k : Nat} : ∀ {n : Nat}, k < n → th k = true → cntB (va_up th k false) n + 1 = cntB th n
  | 0, h, _ => absurd h (Nat.not_lt_zero k)
  | n + 1, h, ht => by
    by_cases hk : k = n
    · subst hk
      rw [cntB_f (by rw [up_s]), cntB_t ht, cntB_congr (fun i hi => up_n (by omega))]
    · show cntB (va_up th k false) n + _ + 1 = cntB th n + _
      have := cnt_drop (n := n) (by omega) ht
      rw [up_n (f := th) (v := false) (fun q => hk q.symm)]
      omega
theorem dr_cnt {dr th : Nat → Bool} {np k : Nat} (h : ∀ q : Nat, q < np → dr q = !th q) (hk : k < np) (ht : th k = true) : cntB (fun q => !(va_up dr k true q)) np = cntB th np - 1 := by
  have h1 := cnt_drop hk ht
  rw [cntB_congr (Q := va_up th k false) (fun i hi => ?_)]
  · omega
  · by_cases e : i = k
    · subst e; rw [up_s, up_s]; rfl
    · rw [up_n e, up_n e, h i hi, Bool.not_not]
theorem teB_e {g : Nat} {dp fm tz vl mm : Int32} (hg : g ≤ 6) (h : teB g dp fm tz vl mm = true) : dp = nI dp.toNatClampNeg ∧ dp.toNatClampNeg ≤ 6 ∧ fm = nI fm.toNatClampNeg ∧ fm.toNatClampNeg ≤ 15 ∧ tz = nI tz.toNatClampNeg ∧ tz.toNatClampNeg ≤ 15 := by
  have h1 := Bool.and_eq_true_iff.mp h
  have h2 := Bool.and_eq_true_iff.mp h1.2
  have h3 := Bool.and_eq_true_iff.mp h2.2
  have a := rgB_c (n := g) h1.1 (by omega)
  have b := rgB_c (n := 15) h2.1 (by omega)
  have c := rgB_c2 (a := 15) (b := 15) h3.1 h2.1
  exact ⟨a.1, by omega, b.1, b.2, c.1, c.2⟩
def msr : Option Nat → Nat
  | none => 0
  | some i => i + 1
theorem par_n {par : Nat → Int32} {nk i : Nat} (hp : parOK par nk) (hi : i < nk) : ∃ v2 : Option Nat, par i = oI v2 ∧ (∀ i' : Nat, v2 = some i' → i' < nk) ∧ msr v2 < msr (some i) := by
  rcases hp i hi with h | ⟨q, h1, h2⟩
  · exact ⟨none, h, fun i' h' => (by cases h'), Nat.succ_pos _⟩
  · exact ⟨some q, h2, fun i' h' => (by cases h'; omega), Nat.succ_lt_succ h1⟩
theorem sp_s {par : Nat → Int32} {f i : Nat} {v2 : Option Nat} {o : Int32} (hu : ¬ oI (some i) = -1) (hn : ¬ oI (some i) = o) (h3 : msr (some i) ≤ f) (ev2 : par i = oI v2) (hi : i < 2 ^ 31) : spc par (f - 1) (oI v2) o = spc par f (oI (some i)) o := by
  obtain ⟨g, rfl⟩ : ∃ g, f = g + 1 := ⟨f - 1, by have : i + 1 ≤ f := h3; omega⟩
  rw [spc_up hu hn, show (oI (some i)).toNatClampNeg = i from nI_clamp hi, ev2]; rfl
theorem sp_t {par : Nat → Int32} {f : Nat} {v : Option Nat} {o : Int32} (ho : ¬ o = -1) (h3 : msr v ≤ f) (hc : oI v = o) : spc par f (oI v) o = true := by
  cases v with
  | none => exact absurd hc.symm ho
  | some i =>
    obtain ⟨g, rfl⟩ : ∃ g, f = g + 1 := ⟨f - 1, by have : i + 1 ≤ f := h3; omega⟩
    exact spc_eq (by rw [hc]; exact ho) hc
/-- one token's step over the beginnings, q of them seen -/
def fiF (lt : Nat → Int32) (tok x : Int32) (i r : Nat) : Bool := bt x r && (if tok = nI 10 then decide (r ≤ i) else (decide (i = r + 1) && stB lt tok r))
def fiI (lt : Nat → Int32) (tok x a : Int32) (nl q : Nat) : Prop := nl ≤ 12 ∧ ∀ i : Nat, i ≤ nl → bt a i = exB (fiF lt tok x i) q
theorem fi_0 {lt : Nat → Int32} {tok x : Int32} {nl : Nat} (hn : nl ≤ 12) : fiI lt tok x (nI 0) nl 0 := ⟨hn, fun i hi => bt_0 i⟩
theorem fi_all {lt : Nat → Int32} {tok x a : Int32} {nl q : Nat} {b : Bool} (h : fiI lt tok x a nl q) (hb : b = bt x q) (hc : b = true) (ht : tok = nI 10) (hq : q < 31) : fiI lt tok x (a ||| ((-1) <<< (nI q &&& 31))) nl (q + 1) := by
  have hn := h.1
  refine ⟨h.1, fun i hi => ?_⟩
  rw [b_or, b_shl q (by omega) (-1) (by omega), h.2 i hi]
  show _ = (exB (fiF lt tok x i) q || fiF lt tok x i q)
  congr 1
  unfold fiF
  rw [← hb, hc, if_pos ht, Bool.true_and]
  by_cases hq2 : q ≤ i
  · rw [decide_eq_true hq2, b_m1 (i - q) (by omega)]; rfl
  · rw [decide_eq_false hq2]; rfl
theorem fi_yes {lt : Nat → Int32} {tok x a : Int32} {nl q : Nat} {b : Bool} (h : fiI lt tok x a nl q) (hb : b = bt x q) (hc : b = true) (ht : ¬ tok = nI 10) (hs : stB lt tok q = true) (hq : q < 31) : fiI lt tok x (a ||| (nI 2 <<< (nI q &&& 31))) nl (q + 1) := by
  have hn := h.1
  refine ⟨h.1, fun i hi => ?_⟩
  rw [b_or, b_shl q (by omega) (nI 2) (by omega), h.2 i hi]
  show _ = (exB (fiF lt tok x i) q || fiF lt tok x i q)
  congr 1
  unfold fiF
  rw [← hb, hc, if_neg ht, hs, Bool.true_and, Bool.and_true, (by decide +kernel : ∀ k, k < 32 → bt (nI 2) k = decide (k = 1)) (i - q) (by omega), ← Bool.decide_and]
  exact decide_eq_decide.mpr (by omega)
theorem fi_no {lt : Nat → Int32} {tok x a : Int32} {nl q : Nat} {b : Bool} (h : fiI lt tok x a nl q) (hb : b = bt x q) (hc : b = false ∨ (¬ tok = nI 10 ∧ (nl ≤ q ∨ stB lt tok q = false))) (hq : q < 31) : fiI lt tok x a nl (q + 1) := by
  refine ⟨h.1, fun i hi => ?_⟩
  rw [h.2 i hi]
  show _ = (exB (fiF lt tok x i) q || fiF lt tok x i q)
  have e : fiF lt tok x i q = false := by
    unfold fiF
    rcases hc with hc | ⟨ht, hc | hc⟩
    · rw [← hb, hc]; rfl
    · rw [if_neg ht, decide_eq_false (by omega), Bool.false_and, Bool.and_false]
    · rw [if_neg ht, hc, Bool.and_false, Bool.and_false]
  rw [e, Bool.or_false]
theorem fi_end {lt : Nat → Int32} {tok x a : Int32} {nl q : Nat} (h : fiI lt tok x a nl q) (hq : q = nl + 1) (i : Nat) (hi : i ≤ nl) : bt a i = stpB lt tok (bt x) i := by
  rw [h.2 i hi, hq, Bool.eq_iff_iff, exB_iff]
  unfold fiF
  by_cases ht : tok = nI 10
  · rw [stpB_ok ht, anB_iff]
    constructor
    · rintro ⟨r, h1, h2⟩
      rw [if_pos ht, Bool.and_eq_true, decide_eq_true_iff] at h2
      exact ⟨r, h2.2, h2.1⟩
    · rintro ⟨r, h1, h2⟩
      exact ⟨r, by omega, by rw [if_pos ht, h2, decide_eq_true h1]; rfl⟩
  · cases i with
    | zero =>
      rw [stpB_0 ht]
      constructor
      · rintro ⟨r, h1, h2⟩
        rw [if_neg ht, decide_eq_false (by omega), Bool.false_and, Bool.and_false] at h2
        exact h2
      · intro h2; cases h2
    | succ i =>
      rw [stpB_s ht]
      constructor
      · rintro ⟨r, h1, h2⟩
        rw [if_neg ht, Bool.and_eq_true, Bool.and_eq_true, decide_eq_true_iff] at h2
        have e : r = i := by omega
        subst e
        rw [h2.1, h2.2.2]; rfl
      · intro h2
        have h3 := Bool.and_eq_true_iff.mp h2
        exact ⟨i, by omega, by rw [if_neg ht, h3.1, h3.2, decide_eq_true rfl]; rfl⟩
theorem hl_s {vb : Nat → Int32} {nb : Nat} {fo tu : Nat → Nat} {wn mk : Nat → Int32} {t q : Nat} {g g2 : Bool} (h2 : g = true ↔ ∃ i : Nat, i < q ∧ (fo t ≤ i ∧ i ≤ tu t ∧ i < nb ∧ (vb i &&& mk t) = wn t)) (a1 : fo t ≤ q) (a2 : q ≤ tu t) (a3 : q < nb) (hg : g2 = (g || decide ((vb q &&& mk t) = wn t))) : g2 = true ↔ ∃ i : Nat, i < q + 1 ∧ (fo t ≤ i ∧ i ≤ tu t ∧ i < nb ∧ (vb i &&& mk t) = wn t) := by
  rw [hg, Bool.or_eq_true, h2, decide_eq_true_iff]
  constructor
  · rintro (⟨i, b1, b2⟩ | b)
    · exact ⟨i, by omega, b2⟩
    · exact ⟨q, by omega, a1, a2, a3, b⟩
  · rintro ⟨i, b1, b2⟩
    by_cases e : i = q
    · subst e; exact Or.inr b2.2.2.2
    · exact Or.inl ⟨i, by omega, b2⟩
theorem hl_end {vb : Nat → Int32} {nb : Nat} {fo tu : Nat → Nat} {wn mk : Nat → Int32} {t q : Nat} {g : Bool} (h2 : g = true ↔ ∃ i : Nat, i < q ∧ (fo t ≤ i ∧ i ≤ tu t ∧ i < nb ∧ (vb i &&& mk t) = wn t)) (hx : tu t < q ∨ nb ≤ q) : g = hldB vb nb fo tu wn mk t := by
  cases hb : hldB vb nb fo tu wn mk t
  · cases hg : g
    · rfl
    · obtain ⟨i, b1, b2, b3, b4, b5⟩ := h2.mp hg
      rw [hld_t b4 b2 b3 b5] at hb
      cases hb
  · obtain ⟨i, b1, b2⟩ := (exB_iff _ nb).mp hb
    have b3 := Bool.and_eq_true_iff.mp b2
    have b4 := of_decide_eq_true b3.1
    exact h2.mpr ⟨i, by omega, b4.1, b4.2, b1, of_decide_eq_true b3.2⟩
/-- the levels of a rule's tests: the first at 0, each at most one below the one ahead of it -/
def lvS (lev : Nat → Nat) (ba en : Nat) : Prop := (ba < en → lev ba = 0) ∧ ∀ i : Nat, ba ≤ i → i + 1 < en → lev (i + 1) ≤ lev i + 1
theorem pk_z {k : Nat} {x : Int32} (h2 : x = nI k - nI 1) (hc : x < 0) (hb : k < 2 ^ 30) : k = 0 := by
  have h := Int32.lt_iff_toInt_lt.mp hc
  rw [h2, pk_sub_toInt hb (by omega)] at h
  have e : (0 : Int32).toInt = 0 := rfl
  omega
theorem pk_zs {k : Nat} {x : Int32} (h2 : x = nI k - nI 1) (hc : ¬ x < 0) (hb : k < 2 ^ 30) : ∃ k1, k = k1 + 1 := by
  rcases Nat.eq_zero_or_pos k with h | h
  · exfalso
    refine hc (Int32.lt_iff_toInt_lt.mpr ?_)
    rw [h2, pk_sub_toInt hb (by omega), h]
    decide
  · exact ⟨k - 1, by omega⟩
theorem ch_pos {lev : Nat → Nat} {t i : Nat} (h : isCh lev t i) : ¬ lev i = 0 := by have := h.2.2; omega
theorem ch_one {lev : Nat → Nat} {t u i : Nat} (h : isCh lev t i) (h2 : isCh lev u i) : t = u := by
  have a := h.2.2
  have b := h2.2.2
  rcases Nat.lt_trichotomy t u with q | q | q
  · have := h.2.1 u q (by have := h2.1; omega); omega
  · exact q
  · have := h2.2.1 t q (by have := h.1; omega); omega
theorem pf_lb {lev : Nat → Nat} {v : Nat → Bool} {ba kk en : Nat} {ab le : Int32} (h5 : ∀ i : Nat, i < kk + 1 → (bt ab i = true ↔ ∃ t : Nat, ba + (kk + 1) ≤ t ∧ t < en ∧ isCh lev (ba + i) t)) (h6 : ∀ i : Nat, i < kk + 1 → (bt le i = true ↔ ∃ t : Nat, ba + (kk + 1) ≤ t ∧ t < en ∧ isCh lev (ba + i) t ∧ v t = true)) : pdec (lbP lev v (ba + kk) en) = (!(bt ab kk) || bt le kk) := by
  have a := h5 kk (by omega)
  have b := h6 kk (by omega)
  symm
  refine pdec_of ?_
  unfold lbP
  rw [Bool.or_eq_true, b]
  constructor
  · rintro (h | ⟨t, h1, h2, h3, h4⟩)
    · refine Or.inl (fun i hi hc => ?_)
      have := a.mpr ⟨i, by have := hc.1; omega, hi, hc⟩
      rw [this] at h; cases h
    · exact Or.inr ⟨t, h2, h3, h4⟩
  · rintro (h | ⟨t, h2, h3, h4⟩)
    · refine Or.inl ?_
      cases hb : bt ab kk
      · rfl
      · obtain ⟨t, c1, c2, c3⟩ := a.mp hb
        exact absurd c3 (h t c2)
    · exact Or.inr ⟨t, by have := h3.1; omega, h2, h3, h4⟩
theorem pf_no {lev : Nat → Nat} {ba kk en : Nat} (hls : lvS lev ba en) (hk : ba + kk < en) (h : ∀ i : Nat, i < kk → lev (ba + kk) ≤ lev (ba + i)) : lev (ba + kk) = 0 := by
  have h0 := hls.1 (by omega)
  rcases Nat.eq_zero_or_pos kk with e | e
  · subst e; exact h0
  · have := h 0 e
    rw [Nat.add_zero, h0] at this
    omega
theorem pf_up {lev : Nat → Nat} {ba kk u en : Nat} (hls : lvS lev ba en) (h : ∀ i : Nat, u + 1 ≤ i → i < kk → lev (ba + kk) ≤ lev (ba + i)) (hc : lev (ba + u) < lev (ba + kk)) (hk : ba + kk < en) (hu : u < kk) : isCh lev (ba + u) (ba + kk) := by
  have h1 := hls.2 (ba + u) (by omega) (by omega)
  have h2 : lev (ba + kk) ≤ lev (ba + u + 1) := by
    by_cases e : u + 1 = kk
    · subst e; exact Nat.le_refl _
    · exact h (u + 1) (Nat.le_refl _) (by omega)
  refine ⟨by omega, fun k a1 a2 => ?_, by omega⟩
  by_cases e : k = ba + kk
  · subst e; omega
  · obtain ⟨i, rfl⟩ : ∃ i, k = ba + i := ⟨k - ba, by omega⟩
    have := h i (by omega) (by omega)
    omega
theorem pf_5A {lev : Nat → Nat} {ba kk en : Nat} {ab : Int32} (h5 : ∀ i : Nat, i < kk + 1 → (bt ab i = true ↔ ∃ t : Nat, ba + (kk + 1) ≤ t ∧ t < en ∧ isCh lev (ba + i) t)) (hl : lev (ba + kk) = 0) : ∀ i : Nat, i < kk → (bt ab i = true ↔ ∃ t : Nat, ba + kk ≤ t ∧ t < en ∧ isCh lev (ba + i) t) := by
  intro i hi
  rw [h5 i (by omega)]
  constructor
  · rintro ⟨t, a1, a2, a3⟩; exact ⟨t, by omega, a2, a3⟩
  · rintro ⟨t, a1, a2, a3⟩
    by_cases e : t = ba + kk
    · subst e; exact absurd hl (ch_pos a3)
    · exact ⟨t, by omega, a2, a3⟩
theorem pf_6A {lev : Nat → Nat} {v : Nat → Bool} {ba kk en : Nat} {le : Int32} {g : Bool} (h6 : ∀ i : Nat, i < kk + 1 → (bt le i = true ↔ ∃ t : Nat, ba + (kk + 1) ≤ t ∧ t < en ∧ isCh lev (ba + i) t ∧ v t = true)) (hl : lev (ba + kk) = 0) : ∀ i : Nat, i < kk → (bt le i = true ↔ ∃ t : Nat, ba + kk ≤ t ∧ t < en ∧ isCh lev (ba + i) t ∧ va_up v (ba + kk) g t = true) := by
  intro i hi
  rw [h6 i (by omega)]
  constructor
  · rintro ⟨t, a1, a2, a3, a4⟩; exact ⟨t, by omega, a2, a3, by rw [up_n (by omega)]; exact a4⟩
  · rintro ⟨t, a1, a2, a3, a4⟩
    by_cases e : t = ba + kk
    · subst e; exact absurd hl (ch_pos a3)
    · rw [up_n e] at a4; exact ⟨t, by omega, a2, a3, a4⟩
theorem pf_5B {lev : Nat → Nat} {ba kk u en : Nat} {ab : Int32} (h5 : ∀ i : Nat, i < kk + 1 → (bt ab i = true ↔ ∃ t : Nat, ba + (kk + 1) ≤ t ∧ t < en ∧ isCh lev (ba + i) t)) (hch : isCh lev (ba + u) (ba + kk)) (hk : kk < 32) (he : ba + kk < en) : ∀ i : Nat, i < kk → (bt (ab ||| (nI 1 <<< (nI u &&& 31))) i = true ↔ ∃ t : Nat, ba + kk ≤ t ∧ t < en ∧ isCh lev (ba + i) t) := by
  intro i hi
  have hu := hch.1
  rw [bt_set ab (by omega) (by omega), Bool.or_eq_true, h5 i (by omega), decide_eq_true_iff]
  constructor
  · rintro (⟨t, a1, a2, a3⟩ | e)
    · exact ⟨t, by omega, a2, a3⟩
    · subst e; exact ⟨ba + kk, Nat.le_refl _, he, hch⟩
  · rintro ⟨t, a1, a2, a3⟩
    by_cases e : t = ba + kk
    · subst e
      have := ch_one a3 hch
      exact Or.inr (by omega)
    · exact Or.inl ⟨t, by omega, a2, a3⟩
theorem pf_6t {lev : Nat → Nat} {v : Nat → Bool} {ba kk u en : Nat} {le : Int32} {g : Bool} (h6 : ∀ i : Nat, i < kk + 1 → (bt le i = true ↔ ∃ t : Nat, ba + (kk + 1) ≤ t ∧ t < en ∧ isCh lev (ba + i) t ∧ v t = true)) (hch : isCh lev (ba + u) (ba + kk)) (hk : kk < 32) (he : ba + kk < en) (hg : va_up v (ba + kk) g (ba + kk) = true) : ∀ i : Nat, i < kk → (bt (le ||| (nI 1 <<< (nI u &&& 31))) i = true ↔ ∃ t : Nat, ba + kk ≤ t ∧ t < en ∧ isCh lev (ba + i) t ∧ va_up v (ba + kk) g t = true) := by
  intro i hi
  have hu := hch.1
  rw [bt_set le (by omega) (by omega), Bool.or_eq_true, h6 i (by omega), decide_eq_true_iff]
  constructor
  · rintro (⟨t, a1, a2, a3, a4⟩ | e)
    · exact ⟨t, by omega, a2, a3, by rw [up_n (by omega)]; exact a4⟩
    · subst e; exact ⟨ba + kk, Nat.le_refl _, he, hch, hg⟩
  · rintro ⟨t, a1, a2, a3, a4⟩
    by_cases e : t = ba + kk
    · subst e
      have := ch_one a3 hch
      exact Or.inr (by omega)
    · rw [up_n e] at a4; exact Or.inl ⟨t, by omega, a2, a3, a4⟩
theorem pf_6f {lev : Nat → Nat} {v : Nat → Bool} {ba kk en : Nat} {le : Int32} {g : Bool} (h6 : ∀ i : Nat, i < kk + 1 → (bt le i = true ↔ ∃ t : Nat, ba + (kk + 1) ≤ t ∧ t < en ∧ isCh lev (ba + i) t ∧ v t = true)) (hg : va_up v (ba + kk) g (ba + kk) = false) : ∀ i : Nat, i < kk → (bt (le ||| nI 0) i = true ↔ ∃ t : Nat, ba + kk ≤ t ∧ t < en ∧ isCh lev (ba + i) t ∧ va_up v (ba + kk) g t = true) := by
  intro i hi
  rw [b_or, bt_0, Bool.or_false, h6 i (by omega)]
  constructor
  · rintro ⟨t, a1, a2, a3, a4⟩; exact ⟨t, by omega, a2, a3, by rw [up_n (by omega)]; exact a4⟩
  · rintro ⟨t, a1, a2, a3, a4⟩
    by_cases e : t = ba + kk
    · subst e; rw [hg] at a4; cases a4
    · rw [up_n e] at a4; exact ⟨t, by omega, a2, a3, a4⟩
section NM
variable {par : Nat → Int32} {kp : Nat → Nat} {th : Nat → Bool} {lt : Nat → Int32} {nl : Nat} {tk : Nat → Int32} {ln : Nat → Nat} {g : Int32} {j : Nat}
theorem isO_a (h : g = -1) : isO par kp g j = true := by unfold isO; rw [decide_eq_true h]; rfl
theorem isO_b (h : spc par 14 (nI (kp j)) g = true) : isO par kp g j = true := by unfold isO; rw [h, Bool.or_true]
theorem isO_n (h : ¬ g = -1) (h2 : spc par 14 (nI (kp j)) g = false) : isO par kp g j = false := by unfold isO; rw [decide_eq_false h, h2]; rfl
theorem cnP_n0 (h : th j = false) : cnP par kp th lt nl tk ln g j = false := by unfold cnP; rw [h]; rfl
theorem cn_th (h : cnP par kp th lt nl tk ln g j = true) : th j = true := (Bool.and_eq_true_iff.mp h).1
theorem kndO_m1 {np : Nat} : kndO th np kp (-1) = -1 := by
  unfold kndO
  rw [hasP_no (inB_f0 (by decide))]
  rfl
theorem kndO_o {np b : Nat} (h : b < np ∧ cnP par kp th lt nl tk ln g b = true) (hn : np < 2 ^ 31) : kndO th np kp (oI (some b)) = nI (kp b) := (kndO_N h.1 hn).trans (if_pos (cn_th h.2))
theorem gs_f {ah : Nat → Nat → Bool} {np nk : Nat} (hnp : np ≤ 20) (hk : nk ≤ 14) (hkp : ∀ q : Nat, q < np → kp q < nk) (h : kndO th np kp (oI (bstB (cnP par kp th lt nl tk ln g) ah np)) = -1) : oI (bstB (cnP par kp th lt nl tk ln g) ah np) = -1 := by
  cases e : bstB (cnP par kp th lt nl tk ln g) ah np with
  | none => rfl
  | some b =>
    have hb := bstB_lt e
    rw [e, kndO_o hb (by omega)] at h
    have := hkp b hb.1
    exact absurd h (nI_ne_m1 (by omega))
theorem gs_m {ah : Nat → Nat → Bool} {np : Nat} (h : ¬ kndO th np kp (oI (bstB (cnP par kp th lt nl tk ln g) ah np)) = -1) : ¬ oI (bstB (cnP par kp th lt nl tk ln g) ah np) = -1 := fun q => h (by rw [q]; exact kndO_m1)
end NM
theorem kndR_m1 {nr : Nat} {kr : Nat → Nat} : kndR nr kr (-1) = -1 := by
  unfold kndR
  rw [inB_f0 (by decide)]
  rfl
theorem kndR_o {nr b : Nat} {kr : Nat → Nat} {o : Option Nat} (eb : o = some b) (hb : b < nr) (hn : nr < 2 ^ 31) : kndR nr kr (oI o) = nI (kr b) := by rw [eb]; exact kndR_N hb hn
theorem gs_s {nr b : Nat} {pr : Nat → Int32} {o : Option Nat} {x y z : Int32} (eb : o = some b) (hb : b < nr) (hn : nr < 2 ^ 31) (hc : nI 50 ≤ pr b) : x = if y = -1 then x else if stgB nr pr (oI o) = true then x else z := by
  have e : stgB nr pr (oI o) = true := by
    unfold stgB
    rw [eb]
    show (inB (nI b) nr && decide (nI 50 ≤ pr (nI b).toNatClampNeg)) = true
    rw [inB_nI (by omega), nI_clamp (by omega), decide_eq_true hb, decide_eq_true hc]; rfl
  rw [e, if_pos rfl]
  split <;> rfl
theorem gs_n {x y z : Int32} {P : Prop} [Decidable P] (h : y = -1) : x = if y = -1 then x else if P then x else z := by rw [if_pos h]
theorem gs_k {nr b : Nat} {pr : Nat → Int32} {o : Option Nat} {x y z : Int32} (eb : o = some b) (hb : b < nr) (hn : nr < 2 ^ 31) (hc : ¬ nI 50 ≤ pr b) (hy : ¬ y = -1) : z = if y = -1 then x else if stgB nr pr (oI o) = true then x else z := by
  have e : stgB nr pr (oI o) = false := by
    unfold stgB
    rw [eb]
    show (inB (nI b) nr && decide (nI 50 ≤ pr (nI b).toNatClampNeg)) = false
    rw [nI_clamp (by omega), decide_eq_false hc, Bool.and_false]
  rw [if_neg hy, e, if_neg (by decide)]
theorem tbB_i {x : Int32} (h : rgB x (nI 32) (nI 126) = true) : tbB x = true := by
  have h1 := Bool.and_eq_true_iff.mp h
  exact tbB_r (of_decide_eq_true h1.1) (of_decide_eq_true h1.2)
theorem tbB_n {x : Int32} (h : rgB x (nI 32) (nI 126) = false) (h1 : ¬ x = nI 9) (h2 : ¬ x = nI 10) (h3 : ¬ x = nI 13) : tbB x = false :=
  tbB_no (fun q => by rw [rgB_t q.1 q.2] at h; cases h) h1 h2 h3
def fP (f : Nat → Int32) : Nat → Int32 := fun q => f q + nI 1
theorem fP_1 {f : Nat → Int32} {q : Nat} : fP f q - nI 1 = f q := by unfold fP; rw [Int32.add_sub_cancel]
theorem fP_up (f : Nat → Int32) (k : Nat) (v : Int32) : upd (fP f) k (v + nI 1) = fP (upd f k v) := by
  funext i
  by_cases h : i = k
  · subst h; rw [pk_us]; unfold fP; rw [pk_us]
  · rw [pk_un h]; unfold fP; rw [pk_un h]
/-- the lists' standing of a program, the first i lists seen -/
def opI (st : Nat → Int32) (kd pg i : Nat) (g h : Bool) : Prop := (g = false ∧ h = false ∧ opR st kd pg (3 - i) = opB st kd pg) ∨ (g = opB st kd pg ∧ (g = false → h = true))
theorem opI_0 {st : Nat → Int32} {kd pg : Nat} : opI st kd pg 0 false false := Or.inl ⟨rfl, rfl, rfl⟩
theorem opI_e {st : Nat → Int32} {kd pg : Nat} {g h : Bool} (hh : opI st kd pg 3 g h) : g = opB st kd pg := by
  rcases hh with ⟨a, b, c⟩ | ⟨a, b⟩
  · rw [a]; exact c
  · exact a
theorem opI_s {st : Nat → Int32} {kd pg i : Nat} {g h g2 h2 : Bool} (hh : opI st kd pg i g h) (hi : i < 3) (hg : g2 = (g || (decide (st ((((i * 14) + kd) * 10) + pg) = nI 1) && !h))) (hq : h2 = (h || decide (st ((((i * 14) + kd) * 10) + pg) = nI 2))) (hs : st ((((i * 14) + kd) * 10) + pg) = nI 0 ∨ st ((((i * 14) + kd) * 10) + pg) = nI 1 ∨ st ((((i * 14) + kd) * 10) + pg) = nI 2) : opI st kd pg (i + 1) g2 h2 := by
  have e3 : 3 - i = (3 - (i + 1)) + 1 := by omega
  have ei : 3 - 1 - (3 - (i + 1)) = i := by omega
  rcases hh with ⟨a, b, c⟩ | ⟨a, b⟩
  · rw [a, b] at hg
    rw [b] at hq
    rw [e3] at c
    rcases hs with s | s | s
    · refine Or.inl ⟨by rw [hg, s]; decide, by rw [hq, s]; decide, ?_⟩
      rw [← c, opR_0 (by rw [ei]; exact s)]
    · refine Or.inr ⟨?_, fun q => ?_⟩
      · rw [← c, opR_1 (by rw [ei, s]; decide), ei, hg, s]; decide
      · rw [hg, s] at q; exact absurd q (by decide)
    · refine Or.inr ⟨?_, fun _ => by rw [hq, s]; decide⟩
      rw [← c, opR_1 (by rw [ei, s]; decide), ei, hg, s]; decide
  · cases g with
    | true => exact Or.inr ⟨by rw [hg, ← a]; rfl, fun q => by rw [hg] at q; cases q⟩
    | false =>
      rw [b rfl] at hg hq
      exact Or.inr ⟨by rw [hg, ← a]; simp, fun _ => by rw [hq]; rfl⟩
theorem bt_on {x : Int32} {i : Nat} (h : ¬ ((x >>> (nI i &&& 31)) &&& nI 1) = 0) (hi : i < 32) : bt x i = true := by
  cases hb : bt x i
  · exfalso
    refine h (b_ext (fun k hk => ?_))
    rw [b_and, b_one k hk, b_0]
    by_cases hk0 : k = 0
    · subst hk0
      rw [b_sshr i hi x (by omega), if_pos (by omega), Nat.add_zero, hb]; rfl
    · rw [decide_eq_false hk0, Bool.and_false]
  · rfl
theorem bt_off {x : Int32} {i : Nat} (h : ((x >>> (nI i &&& 31)) &&& nI 1) = 0) (hi : i < 32) : bt x i = false := by
  cases hb : bt x i
  · rfl
  · have := (bt_is hi).mpr hb
    rw [this] at h
    exact absurd h (by decide)
section LS
variable {st par : Nat → Int32} {f i p9 kq w9 : Nat} {v2 : Option Nat} {a b : Int32}
theorem ls_c (hu : ¬ oI (some i) = -1) (h4 : msr (some i) ≤ f) (ev2 : par i = oI v2) (hi : i < 2 ^ 31) (hf : ∀ k : Nat, k < 32 → bt b k = (bt a k || nwB st i (bt a) k)) (_h5 : ∀ k : Nat, 10 ≤ k → k < 32 → bt a k = false) : seenB st par (f - 1) (oI v2) (bt b) = seenB st par f (oI (some i)) (bt a) := by
  obtain ⟨g, rfl⟩ : ∃ g, f = g + 1 := ⟨f - 1, by have : i + 1 ≤ f := h4; omega⟩
  show _ = (if _ then _ else _)
  rw [if_neg hu, show (oI (some i)).toNatClampNeg = i from nI_clamp hi, ev2]
  congr 1
  funext k
  by_cases hk : k < 32
  · rw [hf k hk]; unfold nwB; cases bt a k <;> simp
  · rw [b_big (x := b) (by omega), b_big (x := a) (by omega), decide_eq_false (by omega : ¬ k < 10)]; rfl
theorem ls_p (hu : ¬ oI (some i) = -1) (h4 : msr (some i) ≤ f) (ev2 : par i = oI v2) (hi : i < 2 ^ 31) (hf : ∀ k : Nat, k < 32 → bt b k = (bt a k || nwB st i (bt a) k)) (_h5 : ∀ k : Nat, 10 ≤ k → k < 32 → bt a k = false) (hcc : ¬ p9 - cntB (bt a) 10 < cntB (nwB st i (bt a)) 10) : pioB st par p9 (f - 1) (oI v2) (bt b) = pioB st par p9 f (oI (some i)) (bt a) := by
  obtain ⟨g, rfl⟩ : ∃ g, f = g + 1 := ⟨f - 1, by have : i + 1 ≤ f := h4; omega⟩
  show _ = (if _ then _ else if _ then _ else _)
  rw [if_neg hu, show (oI (some i)).toNatClampNeg = i from nI_clamp hi, if_neg hcc, ev2]
  congr 1
  funext k
  by_cases hk : k < 32
  · rw [hf k hk]
  · rw [b_big (x := b) (by omega), b_big (x := a) (by omega)]; unfold nwB; rw [decide_eq_false (by omega : ¬ k < 10)]; rfl
theorem ls_hi (hf : ∀ k : Nat, k < 32 → bt b k = (bt a k || nwB st i (bt a) k)) (h5 : ∀ k : Nat, 10 ≤ k → k < 32 → bt a k = false) : ∀ k : Nat, 10 ≤ k → k < 32 → bt b k = false := by
  intro k h1 h2
  rw [hf k h2, h5 k h1 h2]; unfold nwB; rw [decide_eq_false (by omega : ¬ k < 10)]; rfl
theorem ls_n (hf : ∀ k : Nat, k < 32 → bt b k = (bt a k || nwB st i (bt a) k)) (g3 : w9 = cntB (bt a) 10 + cntB (nwB st i (bt a)) 10) : w9 = cntB (bt b) 10 := by
  rw [g3, ← cntB_or (fun k hk => ?_)]
  · exact cntB_congr (fun k hk => (hf k (by omega)).symm)
  · rintro ⟨h1, h2⟩
    unfold nwB at h2
    rw [h1] at h2
    simp at h2
theorem ls_self (g2 : ∀ k : Nat, k < 32 → bt b k = (bt a k || (decide (k < kq) && nwB st i (bt a) k))) (hk : kq < 32) : bt b kq = bt a kq := by rw [g2 kq hk, decide_eq_false (Nat.lt_irrefl kq), Bool.false_and, Bool.or_false]
theorem ls_w0 (h : bt b kq = true) (g2 : ∀ k : Nat, k < 32 → bt b k = (bt a k || (decide (k < kq) && nwB st i (bt a) k))) (hk : kq < 32) : nwB st i (bt a) kq = false := by
  rw [ls_self g2 hk] at h
  unfold nwB
  rw [h]; simp
theorem ls_w1 (h : opB st i kq = false) : nwB st i (bt a) kq = false := by unfold nwB; rw [h]; simp
theorem ls_wt (h : bt b kq = false) (g2 : ∀ k : Nat, k < 32 → bt b k = (bt a k || (decide (k < kq) && nwB st i (bt a) k))) (hk : kq < 32) (h10 : kq < 10) (ho : opB st i kq = true) : nwB st i (bt a) kq = true := by
  rw [ls_self g2 hk] at h
  unfold nwB
  rw [h, ho, decide_eq_true h10]; rfl
theorem ls_g2n (g2 : ∀ k : Nat, k < 32 → bt b k = (bt a k || (decide (k < kq) && nwB st i (bt a) k))) (h : nwB st i (bt a) kq = false) : ∀ k : Nat, k < 32 → bt b k = (bt a k || (decide (k < kq + 1) && nwB st i (bt a) k)) := by
  intro k hk
  rw [g2 k hk]
  by_cases e : k = kq
  · subst e; rw [h, Bool.and_false, Bool.and_false]
  · congr 2; exact decide_eq_decide.mpr (by omega)
theorem ls_g2y (g2 : ∀ k : Nat, k < 32 → bt b k = (bt a k || (decide (k < kq) && nwB st i (bt a) k))) (h : nwB st i (bt a) kq = true) (hq : kq < 32) : ∀ k : Nat, k < 32 → bt (b ||| (nI 1 <<< (nI kq &&& 31))) k = (bt a k || (decide (k < kq + 1) && nwB st i (bt a) k)) := by
  intro k hk
  rw [bt_set b hq hk, g2 k hk]
  by_cases e : k = kq
  · subst e; rw [h, decide_eq_true (rfl : k = k), decide_eq_true (Nat.lt_succ_self k)]; simp
  · rw [decide_eq_false e, Bool.or_false]; congr 2; exact decide_eq_decide.mpr (by omega)
theorem ls_f (g2 : ∀ k : Nat, k < 32 → bt b k = (bt a k || (decide (k < 10) && nwB st i (bt a) k))) : ∀ k : Nat, k < 32 → bt b k = (bt a k || nwB st i (bt a) k) := by
  intro k hk
  rw [g2 k hk]
  congr 1
  by_cases h : k < 10
  · rw [decide_eq_true h, Bool.true_and]
  · unfold nwB; rw [decide_eq_false h]; rfl
theorem cntB_mono {P : Nat → Bool} {m : Nat} : ∀ {n : Nat}, m ≤ n → cntB P m ≤ cntB P n
  | 0, h => by rw [Nat.le_zero.mp h]; exact Nat.le_refl _
  | n + 1, h => by
    by_cases e : m = n + 1
    · rw [e]; exact Nat.le_refl _
    · exact Nat.le_trans (cntB_mono (n := n) (by omega)) (Nat.le_add_right _ _)
theorem ls_e (hu : ¬ oI (some i) = -1) (hi : i < 2 ^ 31) (hw : nwB st i (bt a) kq = true) (hk : kq < 10) (g3 : w9 = cntB (bt a) 10 + cntB (nwB st i (bt a)) kq) (hc : w9 = p9) (g4 : fnd (nwB st i (bt a)) (p9 - cntB (bt a) 10) kq = none) : oI (pioB st par p9 (f + 1) (oI (some i)) (bt a)) = nI kq := by
  have e1 := cntB_t hw
  have e2 := cntB_mono (P := nwB st i (bt a)) (show kq + 1 ≤ 10 from hk)
  have e3 : cntB (nwB st i (bt a)) kq = p9 - cntB (bt a) 10 := by omega
  show oI (if _ then _ else if _ then _ else _) = _
  rw [if_neg hu, show (oI (some i)).toNatClampNeg = i from nI_clamp hi, if_pos (by omega), fnd_yes hk g4 hw e3]; rfl
end LS
theorem pa_z {c : Bool} {x : Int32} : decide (¬ (if c = true then x else -1) = -1) = (c && decide (¬ x = -1)) := by cases c <;> simp
theorem du_s {st df par : Nat → Int32} {f w : Nat} {v2 : Option Nat} (hu : ¬ oI (some w) = -1) (h3 : msr (some w) ≤ f) (ev2 : par w = oI v2) (hw : w < 2 ^ 31) (hd : dfO st df w = -1) : duO st df par (f - 1) (oI v2) = duO st df par f (oI (some w)) := by
  obtain ⟨g, rfl⟩ : ∃ g, f = g + 1 := ⟨f - 1, by have : w + 1 ≤ f := h3; omega⟩
  show _ = duO st df par (g + 1) (nI w)
  rw [duO_s hu hw hd, ev2]; rfl
theorem du_e {st df par : Nat → Int32} {f w : Nat} {x : Int32} (hu : ¬ oI (some w) = -1) (h3 : msr (some w) ≤ f) (hw : w < 2 ^ 31) (hd : dfO st df w = x) (hx : ¬ x = -1) : duO st df par f (oI (some w)) = x := by
  obtain ⟨g, rfl⟩ : ∃ g, f = g + 1 := ⟨f - 1, by have : w + 1 ≤ f := h3; omega⟩
  show duO st df par (g + 1) (nI w) = x
  rw [duO_e hu hw (by rw [hd]; exact hx), hd]

theorem hvX5_thrown : yX5_thrown.cls = RX5 ∧ yX5_thrown.cls ≠ "java/lang/invoke/MethodHandle" ∧ yX5_thrown.cls ≠ "java/lang/invoke/VarHandle" ∧ (parseMethodDescriptor yX5_thrown.desc).map (fun d => d.parameters.length) = some 0 := by decide +kernel
theorem hvX5_in : yX5_in.cls ≠ "java/lang/invoke/MethodHandle" ∧ yX5_in.cls ≠ "java/lang/invoke/VarHandle" ∧ (parseMethodDescriptor yX5_in.desc).map (fun d => d.parameters.length) = some 3 := by decide +kernel
theorem hvX5_asked : yX5_asked.cls = RX5 ∧ yX5_asked.cls ≠ "java/lang/invoke/MethodHandle" ∧ yX5_asked.cls ≠ "java/lang/invoke/VarHandle" ∧ (parseMethodDescriptor yX5_asked.desc).map (fun d => d.parameters.length) = some 1 := by decide +kernel
theorem hvX5_asked_ : yX5_asked_.cls = RX5 ∧ yX5_asked_.cls ≠ "java/lang/invoke/MethodHandle" ∧ yX5_asked_.cls ≠ "java/lang/invoke/VarHandle" ∧ (parseMethodDescriptor yX5_asked_.desc).map (fun d => d.parameters.length) = some 2 := by decide +kernel
theorem hvX5_asked__ : yX5_asked__.cls = RX5 ∧ yX5_asked__.cls ≠ "java/lang/invoke/MethodHandle" ∧ yX5_asked__.cls ≠ "java/lang/invoke/VarHandle" ∧ (parseMethodDescriptor yX5_asked__.desc).map (fun d => d.parameters.length) = some 3 := by decide +kernel
theorem hvX5_told : yX5_told.cls = RX5 ∧ yX5_told.cls ≠ "java/lang/invoke/MethodHandle" ∧ yX5_told.cls ≠ "java/lang/invoke/VarHandle" ∧ (parseMethodDescriptor yX5_told.desc).map (fun d => d.parameters.length) = some 1 := by decide +kernel
theorem hvX5_isKind : yX5_isKind.cls = RX5 ∧ yX5_isKind.cls ≠ "java/lang/invoke/MethodHandle" ∧ yX5_isKind.cls ≠ "java/lang/invoke/VarHandle" ∧ (parseMethodDescriptor yX5_isKind.desc).map (fun d => d.parameters.length) = some 1 := by decide +kernel
theorem hvX5_isRule : yX5_isRule.cls = RX5 ∧ yX5_isRule.cls ≠ "java/lang/invoke/MethodHandle" ∧ yX5_isRule.cls ≠ "java/lang/invoke/VarHandle" ∧ (parseMethodDescriptor yX5_isRule.desc).map (fun d => d.parameters.length) = some 1 := by decide +kernel
theorem hvX5_isList : yX5_isList.cls ≠ "java/lang/invoke/MethodHandle" ∧ yX5_isList.cls ≠ "java/lang/invoke/VarHandle" ∧ (parseMethodDescriptor yX5_isList.desc).map (fun d => d.parameters.length) = some 1 := by decide +kernel
theorem hvX5_isThere : yX5_isThere.cls = RX5 ∧ yX5_isThere.cls ≠ "java/lang/invoke/MethodHandle" ∧ yX5_isThere.cls ≠ "java/lang/invoke/VarHandle" ∧ (parseMethodDescriptor yX5_isThere.desc).map (fun d => d.parameters.length) = some 1 := by decide +kernel
theorem hvX5_kind : yX5_kind.cls = RX5 ∧ yX5_kind.cls ≠ "java/lang/invoke/MethodHandle" ∧ yX5_kind.cls ≠ "java/lang/invoke/VarHandle" ∧ (parseMethodDescriptor yX5_kind.desc).map (fun d => d.parameters.length) = some 1 := by decide +kernel
theorem hvX5_digits : yX5_digits.cls ≠ "java/lang/invoke/MethodHandle" ∧ yX5_digits.cls ≠ "java/lang/invoke/VarHandle" ∧ (parseMethodDescriptor yX5_digits.desc).map (fun d => d.parameters.length) = some 3 := by decide +kernel
theorem hvX5_pattern : yX5_pattern.cls = RX5 ∧ yX5_pattern.cls ≠ "java/lang/invoke/MethodHandle" ∧ yX5_pattern.cls ≠ "java/lang/invoke/VarHandle" ∧ (parseMethodDescriptor yX5_pattern.desc).map (fun d => d.parameters.length) = some 5 := by decide +kernel
theorem hvX5_drop : yX5_drop.cls = RX5 ∧ yX5_drop.cls ≠ "java/lang/invoke/MethodHandle" ∧ yX5_drop.cls ≠ "java/lang/invoke/VarHandle" ∧ (parseMethodDescriptor yX5_drop.desc).map (fun d => d.parameters.length) = some 1 := by decide +kernel
theorem hvX5_rule : yX5_rule.cls = RX5 ∧ yX5_rule.cls ≠ "java/lang/invoke/MethodHandle" ∧ yX5_rule.cls ≠ "java/lang/invoke/VarHandle" ∧ (parseMethodDescriptor yX5_rule.desc).map (fun d => d.parameters.length) = some 2 := by decide +kernel
theorem hvX5_test : yX5_test.cls = RX5 ∧ yX5_test.cls ≠ "java/lang/invoke/MethodHandle" ∧ yX5_test.cls ≠ "java/lang/invoke/VarHandle" ∧ (parseMethodDescriptor yX5_test.desc).map (fun d => d.parameters.length) = some 6 := by decide +kernel
theorem hvX5_kinds : yX5_kinds.cls = RX5 ∧ yX5_kinds.cls ≠ "java/lang/invoke/MethodHandle" ∧ yX5_kinds.cls ≠ "java/lang/invoke/VarHandle" ∧ (parseMethodDescriptor yX5_kinds.desc).map (fun d => d.parameters.length) = some 0 := by decide +kernel
theorem hvX5_special : yX5_special.cls = RX5 ∧ yX5_special.cls ≠ "java/lang/invoke/MethodHandle" ∧ yX5_special.cls ≠ "java/lang/invoke/VarHandle" ∧ (parseMethodDescriptor yX5_special.desc).map (fun d => d.parameters.length) = some 2 := by decide +kernel
theorem hvX5_isSpecial : yX5_isSpecial.cls = RX5 ∧ yX5_isSpecial.cls ≠ "java/lang/invoke/MethodHandle" ∧ yX5_isSpecial.cls ≠ "java/lang/invoke/VarHandle" ∧ (parseMethodDescriptor yX5_isSpecial.desc).map (fun d => d.parameters.length) = some 2 := by decide +kernel
theorem hvX5_letter : yX5_letter.cls = RX5 ∧ yX5_letter.cls ≠ "java/lang/invoke/MethodHandle" ∧ yX5_letter.cls ≠ "java/lang/invoke/VarHandle" ∧ (parseMethodDescriptor yX5_letter.desc).map (fun d => d.parameters.length) = some 1 := by decide +kernel
theorem hvX5_put : yX5_put.cls = RX5 ∧ yX5_put.cls ≠ "java/lang/invoke/MethodHandle" ∧ yX5_put.cls ≠ "java/lang/invoke/VarHandle" ∧ (parseMethodDescriptor yX5_put.desc).map (fun d => d.parameters.length) = some 1 := by decide +kernel
theorem hvX5_empty : yX5_empty.cls = RX5 ∧ yX5_empty.cls ≠ "java/lang/invoke/MethodHandle" ∧ yX5_empty.cls ≠ "java/lang/invoke/VarHandle" ∧ (parseMethodDescriptor yX5_empty.desc).map (fun d => d.parameters.length) = some 0 := by decide +kernel
theorem hvX5_fit : yX5_fit.cls = RX5 ∧ yX5_fit.cls ≠ "java/lang/invoke/MethodHandle" ∧ yX5_fit.cls ≠ "java/lang/invoke/VarHandle" ∧ (parseMethodDescriptor yX5_fit.desc).map (fun d => d.parameters.length) = some 1 := by decide +kernel
theorem hvX5_fits : yX5_fits.cls = RX5 ∧ yX5_fits.cls ≠ "java/lang/invoke/MethodHandle" ∧ yX5_fits.cls ≠ "java/lang/invoke/VarHandle" ∧ (parseMethodDescriptor yX5_fits.desc).map (fun d => d.parameters.length) = some 1 := by decide +kernel
theorem hvX5_fitsByTable : yX5_fitsByTable.cls = RX5 ∧ yX5_fitsByTable.cls ≠ "java/lang/invoke/MethodHandle" ∧ yX5_fitsByTable.cls ≠ "java/lang/invoke/VarHandle" ∧ (parseMethodDescriptor yX5_fitsByTable.desc).map (fun d => d.parameters.length) = some 1 := by decide +kernel
theorem hvX5_holds : yX5_holds.cls = RX5 ∧ yX5_holds.cls ≠ "java/lang/invoke/MethodHandle" ∧ yX5_holds.cls ≠ "java/lang/invoke/VarHandle" ∧ (parseMethodDescriptor yX5_holds.desc).map (fun d => d.parameters.length) = some 1 := by decide +kernel
theorem hvX5_proof : yX5_proof.cls = RX5 ∧ yX5_proof.cls ≠ "java/lang/invoke/MethodHandle" ∧ yX5_proof.cls ≠ "java/lang/invoke/VarHandle" ∧ (parseMethodDescriptor yX5_proof.desc).map (fun d => d.parameters.length) = some 1 := by decide +kernel
theorem hvX5_proves : yX5_proves.cls = RX5 ∧ yX5_proves.cls ≠ "java/lang/invoke/MethodHandle" ∧ yX5_proves.cls ≠ "java/lang/invoke/VarHandle" ∧ (parseMethodDescriptor yX5_proves.desc).map (fun d => d.parameters.length) = some 1 := by decide +kernel
theorem hvX5_first : yX5_first.cls = RX5 ∧ yX5_first.cls ≠ "java/lang/invoke/MethodHandle" ∧ yX5_first.cls ≠ "java/lang/invoke/VarHandle" ∧ (parseMethodDescriptor yX5_first.desc).map (fun d => d.parameters.length) = some 1 := by decide +kernel
theorem hvX5_named : yX5_named.cls = RX5 ∧ yX5_named.cls ≠ "java/lang/invoke/MethodHandle" ∧ yX5_named.cls ≠ "java/lang/invoke/VarHandle" ∧ (parseMethodDescriptor yX5_named.desc).map (fun d => d.parameters.length) = some 0 := by decide +kernel
theorem hvX5_proven : yX5_proven.cls = RX5 ∧ yX5_proven.cls ≠ "java/lang/invoke/MethodHandle" ∧ yX5_proven.cls ≠ "java/lang/invoke/VarHandle" ∧ (parseMethodDescriptor yX5_proven.desc).map (fun d => d.parameters.length) = some 0 := by decide +kernel
theorem hvX5_byName : yX5_byName.cls = RX5 ∧ yX5_byName.cls ≠ "java/lang/invoke/MethodHandle" ∧ yX5_byName.cls ≠ "java/lang/invoke/VarHandle" ∧ (parseMethodDescriptor yX5_byName.desc).map (fun d => d.parameters.length) = some 0 := by decide +kernel
theorem hvX5_byBytes : yX5_byBytes.cls = RX5 ∧ yX5_byBytes.cls ≠ "java/lang/invoke/MethodHandle" ∧ yX5_byBytes.cls ≠ "java/lang/invoke/VarHandle" ∧ (parseMethodDescriptor yX5_byBytes.desc).map (fun d => d.parameters.length) = some 0 := by decide +kernel
theorem hvX5_guess : yX5_guess.cls = RX5 ∧ yX5_guess.cls ≠ "java/lang/invoke/MethodHandle" ∧ yX5_guess.cls ≠ "java/lang/invoke/VarHandle" ∧ (parseMethodDescriptor yX5_guess.desc).map (fun d => d.parameters.length) = some 0 := by decide +kernel
theorem hvX5_program : yX5_program.cls = RX5 ∧ yX5_program.cls ≠ "java/lang/invoke/MethodHandle" ∧ yX5_program.cls ≠ "java/lang/invoke/VarHandle" ∧ (parseMethodDescriptor yX5_program.desc).map (fun d => d.parameters.length) = some 4 := by decide +kernel
theorem hvX5_setDefault : yX5_setDefault.cls = RX5 ∧ yX5_setDefault.cls ≠ "java/lang/invoke/MethodHandle" ∧ yX5_setDefault.cls ≠ "java/lang/invoke/VarHandle" ∧ (parseMethodDescriptor yX5_setDefault.desc).map (fun d => d.parameters.length) = some 3 := by decide +kernel
theorem hvX5_opens : yX5_opens.cls = RX5 ∧ yX5_opens.cls ≠ "java/lang/invoke/MethodHandle" ∧ yX5_opens.cls ≠ "java/lang/invoke/VarHandle" ∧ (parseMethodDescriptor yX5_opens.desc).map (fun d => d.parameters.length) = some 2 := by decide +kernel
theorem hvX5_listed : yX5_listed.cls = RX5 ∧ yX5_listed.cls ≠ "java/lang/invoke/MethodHandle" ∧ yX5_listed.cls ≠ "java/lang/invoke/VarHandle" ∧ (parseMethodDescriptor yX5_listed.desc).map (fun d => d.parameters.length) = some 2 := by decide +kernel
theorem hvX5_programs : yX5_programs.cls = RX5 ∧ yX5_programs.cls ≠ "java/lang/invoke/MethodHandle" ∧ yX5_programs.cls ≠ "java/lang/invoke/VarHandle" ∧ (parseMethodDescriptor yX5_programs.desc).map (fun d => d.parameters.length) = some 1 := by decide +kernel
theorem hvX5_programAt : yX5_programAt.cls = RX5 ∧ yX5_programAt.cls ≠ "java/lang/invoke/MethodHandle" ∧ yX5_programAt.cls ≠ "java/lang/invoke/VarHandle" ∧ (parseMethodDescriptor yX5_programAt.desc).map (fun d => d.parameters.length) = some 2 := by decide +kernel
theorem hvX5_opener : yX5_opener.cls = RX5 ∧ yX5_opener.cls ≠ "java/lang/invoke/MethodHandle" ∧ yX5_opener.cls ≠ "java/lang/invoke/VarHandle" ∧ (parseMethodDescriptor yX5_opener.desc).map (fun d => d.parameters.length) = some 1 := by decide +kernel
set_option maxHeartbeats 4000000 in
set_option maxRecDepth 100000 in
theorem kX5_thrown (l : Launch) (D : va_G) (y3 : ClassId × ClassId × ClassId) (m0 : Nat) (m1 : Nat) (m2 : Nat) (m3 : Nat) (m4 : Nat) (m5 : Nat) (m6 : Nat) (m7 : Nat) (m8 : Nat) (m9 : Nat) (m10 : Nat) (m11 : Nat) (m12 : Nat) (m13 : Nat) (m14 : Nat) (m15 : Nat) (m16 : Nat) (m17 : Nat) (m18 : Nat) (nk : Nat) (np : Nat) (nr : Nat) (nl : Nat) (nb : Nat) (zo : Nat) : rdM l yX5_thrown wsX5_thrown 0 0 D y3 [(m0, .inr (5, [.ref m1, .int (nI nk), .ref m2, .ref m3, .ref m4, .ref m5, .ref m6, .int (nI np), .ref m7, .ref m8, .ref m9, .ref m10, .ref m11, .ref m12, .ref m13, .ref m14, .int (nI nr), .ref m15, .int (nI nl), .ref m16, .int (nI nb), .ref m17, .ref m18, .int (nI zo)]))] [.ref m0] (fun r => r = (nI zo)) := by
  refine rd_of (cc := cX5_thrown) (maxL := 1) (by decide) rfl (Nat.le_of_ble_eq_true rfl) ?_
  intro p e s m args below meth c Q hx hb hml hown hts hP hK hret ls hl
  replace hl : lv_has ls 1 [(0, .ref m0)] := hl
  have hf65 := hts (.fieldLink RX5 65 "KindGuesserModel" "thrown" "I") (by decide +kernel)
  have hiX5 : ∀ q ∈ wsX50, q ∈ wsX5_thrown := by decide +kernel
  refine lv_aload_n hx hb dX5_thrown_0 rfl (lv_at hl 0 rfl) ?_
  refine va_get (D := D) (ci := 5) (v := .int (nI zo)) (C := RX5) (T := TX5) (N := 24) hx hb hts hiX5 hown hK hP 0 rfl rfl 23 (by decide) hf65 (fun _ h9 => h9) rfl dX5_thrown_1 ?_
  exact hret 4 ls _ rfl dX5_thrown_4

set_option maxHeartbeats 4000000 in
set_option maxRecDepth 100000 in
theorem kX5_in (l : Launch) (D : va_G) (y3 : ClassId × ClassId × ClassId) (v : Int32) (lo : Int32) (hi : Int32) : rdM l yX5_in wsX5_in 0 0 D y3 [] [.int v, .int lo, .int hi] (fun r => r = (bI (rgB v lo hi))) := by
  refine rz_of (cc := cX5_in) (maxL := 3) (by decide) rfl (Nat.le_of_ble_eq_true rfl) ?_
  intro p e s m args below meth c Q hx hb hml hown hts hP hK hret ls hl
  replace hl : lv_has ls 3 [(0, .int v), (1, .int lo), (2, .int hi)] := hl
  refine lv_iload_n hx hb dX5_in_0 rfl (lv_at hl 0 rfl) ?_
  refine lv_iload_n hx hb dX5_in_1 rfl (lv_at hl 1 rfl) ?_
  refine lv_icmp_lt (tgt := 14) hx hb dX5_in_2 (by decide) (fun c2 => ?_) (fun c2 => ?_)
  · refine lv_iconst (v := (nI 0)) hx hb dX5_in_14 rfl ?_
    exact hret 15 ls _ (bI_f (by first | exact (rgB_lo c2).symm | exact (rgB_hi c7).symm)) dX5_in_15
  · refine lv_iload_n hx hb dX5_in_5 rfl (lv_at hl 0 rfl) ?_
    refine lv_iload_n hx hb dX5_in_6 rfl (lv_at hl 2 rfl) ?_
    refine lv_icmp_gt (tgt := 14) hx hb dX5_in_7 (by decide) (fun c7 => ?_) (fun c7 => ?_)
    · refine lv_iconst (v := (nI 0)) hx hb dX5_in_14 rfl ?_
      exact hret 15 ls _ (bI_f (by first | exact (rgB_lo c2).symm | exact (rgB_hi c7).symm)) dX5_in_15
    · refine lv_iconst (v := (nI 1)) hx hb dX5_in_10 rfl ?_
      refine lv_goto (tgt := 15) hx hb dX5_in_11 (by decide) ?_
      exact hret 15 ls _ (bI_t (rgB_t (Int32.not_lt.mp c2) (Int32.not_lt.mp c7))) dX5_in_15

set_option maxHeartbeats 4000000 in
set_option maxRecDepth 100000 in
theorem kX5_asked (l : Launch) (D : va_G) (y3 : ClassId × ClassId × ClassId) (m0 : Nat) (m1 : Nat) (m2 : Nat) (m3 : Nat) (m4 : Nat) (m5 : Nat) (m6 : Nat) (m7 : Nat) (m8 : Nat) (m9 : Nat) (m10 : Nat) (m11 : Nat) (m12 : Nat) (m13 : Nat) (m14 : Nat) (m15 : Nat) (m16 : Nat) (m17 : Nat) (m18 : Nat) (nk : Nat) (np : Nat) (nr : Nat) (nl : Nat) (nb : Nat) (zo : Nat) (g : Bool) : wrM l yX5_asked wsX5_asked 0 0 0 0 D y3 [(m0, .inr (5, [.ref m1, .int (nI nk), .ref m2, .ref m3, .ref m4, .ref m5, .ref m6, .int (nI np), .ref m7, .ref m8, .ref m9, .ref m10, .ref m11, .ref m12, .ref m13, .ref m14, .int (nI nr), .ref m15, .int (nI nl), .ref m16, .int (nI nb), .ref m17, .ref m18, .int (nI zo)]))] [.ref m0, .int (bI g)] (fun r (_ : Unit) => r = (bI g)) (fun (_ : Unit) => [(m0, .inr (5, [.ref m1, .int (nI nk), .ref m2, .ref m3, .ref m4, .ref m5, .ref m6, .int (nI np), .ref m7, .ref m8, .ref m9, .ref m10, .ref m11, .ref m12, .ref m13, .ref m14, .int (nI nr), .ref m15, .int (nI nl), .ref m16, .int (nI nb), .ref m17, .ref m18, .int (nI (ak1 g))]))]) := by
  refine wz_of (cc := cX5_asked) (maxL := 2) (by decide) rfl (Nat.le_of_ble_eq_true rfl) ?_
  intro p e s m args below meth c A Q hx hb hml hown hts hP hK hD hA hS hret ls hl
  replace hl : lv_has ls 2 [(0, .ref m0), (1, .int (bI g))] := hl
  have hf65 := hts (.fieldLink RX5 65 "KindGuesserModel" "thrown" "I") (by decide +kernel)
  have hiX5 : ∀ q ∈ wsX50, q ∈ wsX5_asked := by decide +kernel
  have jn10 : ∀ (z9 : Nat), (z9 = ak1 g) → (z9 ≤ 3) → ∀ (H : Heap) (locs : List Loc), va_P D vwCl [(m0, .inr (5, [.ref m1, .int (nI nk), .ref m2, .ref m3, .ref m4, .ref m5, .ref m6, .int (nI np), .ref m7, .ref m8, .ref m9, .ref m10, .ref m11, .ref m12, .ref m13, .ref m14, .int (nI nr), .ref m15, .int (nI nl), .ref m16, .int (nI nb), .ref m17, .ref m18, .int (nI zo)]))] H → va_D A [(m0, .inr (5, [.ref m1, .int (nI nk), .ref m2, .ref m3, .ref m4, .ref m5, .ref m6, .int (nI np), .ref m7, .ref m8, .ref m9, .ref m10, .ref m11, .ref m12, .ref m13, .ref m14, .int (nI nr), .ref m15, .int (nI nl), .ref m16, .int (nI nb), .ref m17, .ref m18, .int (nI zo)]))] → va_S A s.heap H locs → ∀ ls : Array Slot, lv_has ls 2 [(0, .ref m0), (1, .int (bI g))] → W p l e (rmO 0 0 0 0) s m args below meth c H locs 0 0 Q (F0 m 10 ls [.int (nI z9), .ref m0]) := by
    intro z9 hz9 hz3 H locs hP hD hS ls hl
    refine va_put (D := D) (ci := 5) (v := .int (nI z9)) (ty := .int) (C := RX5) (T := TX5) (N := 24) hx hb hts hiX5 tyX5 tyX5_ok nmX5 hown hK hP hD hS 0 rfl rfl 23 (by decide) hf65 (fun _ h9 => h9) rfl (by decide +kernel) rfl rfl (Nat.le_of_ble_eq_true rfl) dX5_asked_10 (fun H locs hP hD hS => ?_)
    have hP : va_P D vwCl [(m0, .inr (5, [.ref m1, .int (nI nk), .ref m2, .ref m3, .ref m4, .ref m5, .ref m6, .int (nI np), .ref m7, .ref m8, .ref m9, .ref m10, .ref m11, .ref m12, .ref m13, .ref m14, .int (nI nr), .ref m15, .int (nI nl), .ref m16, .int (nI nb), .ref m17, .ref m18, .int (nI z9)]))] H := hP
    have hD : va_D A [(m0, .inr (5, [.ref m1, .int (nI nk), .ref m2, .ref m3, .ref m4, .ref m5, .ref m6, .int (nI np), .ref m7, .ref m8, .ref m9, .ref m10, .ref m11, .ref m12, .ref m13, .ref m14, .int (nI nr), .ref m15, .int (nI nl), .ref m16, .int (nI nb), .ref m17, .ref m18, .int (nI z9)]))] := hD
    subst hz9
    refine lv_iload_n hx hb dX5_asked_13 rfl (lv_at hl 1 rfl) ?_
    exact hret 14 ls H locs _ _ () _ g hP hD hS (Nat.le_of_ble_eq_true rfl) (Nat.le_of_ble_eq_true rfl) rfl rfl dX5_asked_14
  refine lv_aload_n hx hb dX5_asked_0 rfl (lv_at hl 0 rfl) ?_
  refine lv_iload_n hx hb dX5_asked_1 rfl (lv_at hl 1 rfl) ?_
  refine lb_if_eq (tgt := 9) hx hb dX5_asked_2 (by decide) (fun c2 => ?_) (fun c2 => ?_)
  · refine lv_iconst (v := (nI 1)) hx hb dX5_asked_9 rfl ?_
    exact jn10 1 (by rw [c2]; rfl) (by omega) _ _ hP hD hS _ (lv_sub hl [0, 1] rfl)
  · refine lv_iconst (v := (nI 0)) hx hb dX5_asked_5 rfl ?_
    refine lv_goto (tgt := 10) hx hb dX5_asked_6 (by decide) ?_
    exact jn10 0 (by rw [c2]; rfl) (by omega) _ _ hP hD hS _ (lv_sub hl [0, 1] rfl)

set_option maxHeartbeats 4000000 in
set_option maxRecDepth 100000 in
theorem kX5_asked_ (l : Launch) (D : va_G) (y3 : ClassId × ClassId × ClassId) (m0 : Nat) (m1 : Nat) (m2 : Nat) (m3 : Nat) (m4 : Nat) (m5 : Nat) (m6 : Nat) (m7 : Nat) (m8 : Nat) (m9 : Nat) (m10 : Nat) (m11 : Nat) (m12 : Nat) (m13 : Nat) (m14 : Nat) (m15 : Nat) (m16 : Nat) (m17 : Nat) (m18 : Nat) (nk : Nat) (np : Nat) (nr : Nat) (nl : Nat) (nb : Nat) (zo : Nat) (g1 : Bool) (g2 : Bool) : wrM l yX5_asked_ wsX5_asked_ 0 0 0 0 D y3 [(m0, .inr (5, [.ref m1, .int (nI nk), .ref m2, .ref m3, .ref m4, .ref m5, .ref m6, .int (nI np), .ref m7, .ref m8, .ref m9, .ref m10, .ref m11, .ref m12, .ref m13, .ref m14, .int (nI nr), .ref m15, .int (nI nl), .ref m16, .int (nI nb), .ref m17, .ref m18, .int (nI zo)]))] [.ref m0, .int (bI g1), .int (bI g2)] (fun r (_ : Unit) => r = (bI (g1 && g2))) (fun (_ : Unit) => [(m0, .inr (5, [.ref m1, .int (nI nk), .ref m2, .ref m3, .ref m4, .ref m5, .ref m6, .int (nI np), .ref m7, .ref m8, .ref m9, .ref m10, .ref m11, .ref m12, .ref m13, .ref m14, .int (nI nr), .ref m15, .int (nI nl), .ref m16, .int (nI nb), .ref m17, .ref m18, .int (nI (ak2 g1 g2))]))]) := by
  refine wz_of (cc := cX5_asked_) (maxL := 3) (by decide) rfl (Nat.le_of_ble_eq_true rfl) ?_
  intro p e s m args below meth c A Q hx hb hml hown hts hP hK hD hA hS hret ls hl
  replace hl : lv_has ls 3 [(0, .ref m0), (1, .int (bI g1)), (2, .int (bI g2))] := hl
  have hf65 := hts (.fieldLink RX5 65 "KindGuesserModel" "thrown" "I") (by decide +kernel)
  have hiX5 : ∀ q ∈ wsX50, q ∈ wsX5_asked_ := by decide +kernel
  have jn18 : ∀ (z9 : Nat), (z9 = ak2 g1 g2) → (z9 ≤ 3) → ∀ (H : Heap) (locs : List Loc), va_P D vwCl [(m0, .inr (5, [.ref m1, .int (nI nk), .ref m2, .ref m3, .ref m4, .ref m5, .ref m6, .int (nI np), .ref m7, .ref m8, .ref m9, .ref m10, .ref m11, .ref m12, .ref m13, .ref m14, .int (nI nr), .ref m15, .int (nI nl), .ref m16, .int (nI nb), .ref m17, .ref m18, .int (nI zo)]))] H → va_D A [(m0, .inr (5, [.ref m1, .int (nI nk), .ref m2, .ref m3, .ref m4, .ref m5, .ref m6, .int (nI np), .ref m7, .ref m8, .ref m9, .ref m10, .ref m11, .ref m12, .ref m13, .ref m14, .int (nI nr), .ref m15, .int (nI nl), .ref m16, .int (nI nb), .ref m17, .ref m18, .int (nI zo)]))] → va_S A s.heap H locs → ∀ ls : Array Slot, lv_has ls 3 [(0, .ref m0), (1, .int (bI g1)), (2, .int (bI g2))] → W p l e (rmO 0 0 0 0) s m args below meth c H locs 0 0 Q (F0 m 18 ls [.int (nI z9), .ref m0]) := by
    intro z9 hz9 hz3 H locs hP hD hS ls hl
    refine va_put (D := D) (ci := 5) (v := .int (nI z9)) (ty := .int) (C := RX5) (T := TX5) (N := 24) hx hb hts hiX5 tyX5 tyX5_ok nmX5 hown hK hP hD hS 0 rfl rfl 23 (by decide) hf65 (fun _ h9 => h9) rfl (by decide +kernel) rfl rfl (Nat.le_of_ble_eq_true rfl) dX5_asked__18 (fun H locs hP hD hS => ?_)
    have hP : va_P D vwCl [(m0, .inr (5, [.ref m1, .int (nI nk), .ref m2, .ref m3, .ref m4, .ref m5, .ref m6, .int (nI np), .ref m7, .ref m8, .ref m9, .ref m10, .ref m11, .ref m12, .ref m13, .ref m14, .int (nI nr), .ref m15, .int (nI nl), .ref m16, .int (nI nb), .ref m17, .ref m18, .int (nI z9)]))] H := hP
    have hD : va_D A [(m0, .inr (5, [.ref m1, .int (nI nk), .ref m2, .ref m3, .ref m4, .ref m5, .ref m6, .int (nI np), .ref m7, .ref m8, .ref m9, .ref m10, .ref m11, .ref m12, .ref m13, .ref m14, .int (nI nr), .ref m15, .int (nI nl), .ref m16, .int (nI nb), .ref m17, .ref m18, .int (nI z9)]))] := hD
    refine lv_aload_n hx hb dX5_asked__21 rfl (lv_at hl 0 rfl) ?_
    refine va_get (D := D) (ci := 5) (v := .int (nI z9)) (C := RX5) (T := TX5) (N := 24) hx hb hts hiX5 hown hK hP 0 rfl rfl 23 (by decide) hf65 (fun _ h9 => h9) rfl dX5_asked__22 ?_
    refine ln_if_ne (tgt := 32) hx hb (by omega) dX5_asked__25 (by decide) (fun c25 => ?_) (fun c25 => ?_)
    · subst hz9
      refine lv_iconst (v := (nI 0)) hx hb dX5_asked__32 rfl ?_
      exact hret 33 ls H locs _ _ () _ (g1 && g2) hP hD hS (Nat.le_of_ble_eq_true rfl) (Nat.le_of_ble_eq_true rfl) (by first | exact bI_t (ak2_t c25) | exact bI_f (ak2_f c25)) rfl dX5_asked__33
    · subst hz9
      refine lv_iconst (v := (nI 1)) hx hb dX5_asked__28 rfl ?_
      refine lv_goto (tgt := 33) hx hb dX5_asked__29 (by decide) ?_
      exact hret 33 ls H locs _ _ () _ (g1 && g2) hP hD hS (Nat.le_of_ble_eq_true rfl) (Nat.le_of_ble_eq_true rfl) (by first | exact bI_t (ak2_t c25) | exact bI_f (ak2_f c25)) rfl dX5_asked__33
  refine lv_aload_n hx hb dX5_asked__0 rfl (lv_at hl 0 rfl) ?_
  refine lv_iload_n hx hb dX5_asked__1 rfl (lv_at hl 1 rfl) ?_
  refine lb_if_ne (tgt := 9) hx hb dX5_asked__2 (by decide) (fun c2 => ?_) (fun c2 => ?_)
  · refine lv_iload_n hx hb dX5_asked__9 rfl (lv_at hl 2 rfl) ?_
    refine lb_if_eq (tgt := 17) hx hb dX5_asked__10 (by decide) (fun c10 => ?_) (fun c10 => ?_)
    · refine lv_iconst (v := (nI 2)) hx hb dX5_asked__17 rfl ?_
      exact jn18 2 (by first | (rw [c2, c10]; rfl) | (rw [c2]; rfl)) (by omega) _ _ hP hD hS _ (lv_sub hl [0, 1, 2] rfl)
    · refine lv_iconst (v := (nI 0)) hx hb dX5_asked__13 rfl ?_
      refine lv_goto (tgt := 18) hx hb dX5_asked__14 (by decide) ?_
      exact jn18 0 (by first | (rw [c2, c10]; rfl) | (rw [c2]; rfl)) (by omega) _ _ hP hD hS _ (lv_sub hl [0, 1, 2] rfl)
  · refine lv_iconst (v := (nI 1)) hx hb dX5_asked__5 rfl ?_
    refine lv_goto (tgt := 18) hx hb dX5_asked__6 (by decide) ?_
    exact jn18 1 (by first | (rw [c2, c10]; rfl) | (rw [c2]; rfl)) (by omega) _ _ hP hD hS _ (lv_sub hl [0, 1, 2] rfl)

set_option maxHeartbeats 4000000 in
set_option maxRecDepth 100000 in
theorem kX5_asked__ (l : Launch) (D : va_G) (y3 : ClassId × ClassId × ClassId) (m0 : Nat) (m1 : Nat) (m2 : Nat) (m3 : Nat) (m4 : Nat) (m5 : Nat) (m6 : Nat) (m7 : Nat) (m8 : Nat) (m9 : Nat) (m10 : Nat) (m11 : Nat) (m12 : Nat) (m13 : Nat) (m14 : Nat) (m15 : Nat) (m16 : Nat) (m17 : Nat) (m18 : Nat) (nk : Nat) (np : Nat) (nr : Nat) (nl : Nat) (nb : Nat) (zo : Nat) (g1 : Bool) (g2 : Bool) (g3 : Bool) : wrM l yX5_asked__ wsX5_asked__ 0 0 0 0 D y3 [(m0, .inr (5, [.ref m1, .int (nI nk), .ref m2, .ref m3, .ref m4, .ref m5, .ref m6, .int (nI np), .ref m7, .ref m8, .ref m9, .ref m10, .ref m11, .ref m12, .ref m13, .ref m14, .int (nI nr), .ref m15, .int (nI nl), .ref m16, .int (nI nb), .ref m17, .ref m18, .int (nI zo)]))] [.ref m0, .int (bI g1), .int (bI g2), .int (bI g3)] (fun r (_ : Unit) => r = (bI (g1 && (g2 && g3)))) (fun (_ : Unit) => [(m0, .inr (5, [.ref m1, .int (nI nk), .ref m2, .ref m3, .ref m4, .ref m5, .ref m6, .int (nI np), .ref m7, .ref m8, .ref m9, .ref m10, .ref m11, .ref m12, .ref m13, .ref m14, .int (nI nr), .ref m15, .int (nI nl), .ref m16, .int (nI nb), .ref m17, .ref m18, .int (nI (ak3 g1 g2 g3))]))]) := by
  refine wz_of (cc := cX5_asked__) (maxL := 4) (by decide) rfl (Nat.le_of_ble_eq_true rfl) ?_
  intro p e s m args below meth c A Q hx hb hml hown hts hP hK hD hA hS hret ls hl
  replace hl : lv_has ls 4 [(0, .ref m0), (1, .int (bI g1)), (2, .int (bI g2)), (3, .int (bI g3))] := hl
  have hf65 := hts (.fieldLink RX5 65 "KindGuesserModel" "thrown" "I") (by decide +kernel)
  have hiX5 : ∀ q ∈ wsX50, q ∈ wsX5_asked__ := by decide +kernel
  have jn26 : ∀ (z9 : Nat), (z9 = ak3 g1 g2 g3) → (z9 ≤ 3) → ∀ (H : Heap) (locs : List Loc), va_P D vwCl [(m0, .inr (5, [.ref m1, .int (nI nk), .ref m2, .ref m3, .ref m4, .ref m5, .ref m6, .int (nI np), .ref m7, .ref m8, .ref m9, .ref m10, .ref m11, .ref m12, .ref m13, .ref m14, .int (nI nr), .ref m15, .int (nI nl), .ref m16, .int (nI nb), .ref m17, .ref m18, .int (nI zo)]))] H → va_D A [(m0, .inr (5, [.ref m1, .int (nI nk), .ref m2, .ref m3, .ref m4, .ref m5, .ref m6, .int (nI np), .ref m7, .ref m8, .ref m9, .ref m10, .ref m11, .ref m12, .ref m13, .ref m14, .int (nI nr), .ref m15, .int (nI nl), .ref m16, .int (nI nb), .ref m17, .ref m18, .int (nI zo)]))] → va_S A s.heap H locs → ∀ ls : Array Slot, lv_has ls 4 [(0, .ref m0), (1, .int (bI g1)), (2, .int (bI g2)), (3, .int (bI g3))] → W p l e (rmO 0 0 0 0) s m args below meth c H locs 0 0 Q (F0 m 26 ls [.int (nI z9), .ref m0]) := by
    intro z9 hz9 hz3 H locs hP hD hS ls hl
    refine va_put (D := D) (ci := 5) (v := .int (nI z9)) (ty := .int) (C := RX5) (T := TX5) (N := 24) hx hb hts hiX5 tyX5 tyX5_ok nmX5 hown hK hP hD hS 0 rfl rfl 23 (by decide) hf65 (fun _ h9 => h9) rfl (by decide +kernel) rfl rfl (Nat.le_of_ble_eq_true rfl) dX5_asked___26 (fun H locs hP hD hS => ?_)
    have hP : va_P D vwCl [(m0, .inr (5, [.ref m1, .int (nI nk), .ref m2, .ref m3, .ref m4, .ref m5, .ref m6, .int (nI np), .ref m7, .ref m8, .ref m9, .ref m10, .ref m11, .ref m12, .ref m13, .ref m14, .int (nI nr), .ref m15, .int (nI nl), .ref m16, .int (nI nb), .ref m17, .ref m18, .int (nI z9)]))] H := hP
    have hD : va_D A [(m0, .inr (5, [.ref m1, .int (nI nk), .ref m2, .ref m3, .ref m4, .ref m5, .ref m6, .int (nI np), .ref m7, .ref m8, .ref m9, .ref m10, .ref m11, .ref m12, .ref m13, .ref m14, .int (nI nr), .ref m15, .int (nI nl), .ref m16, .int (nI nb), .ref m17, .ref m18, .int (nI z9)]))] := hD
    refine lv_aload_n hx hb dX5_asked___29 rfl (lv_at hl 0 rfl) ?_
    refine va_get (D := D) (ci := 5) (v := .int (nI z9)) (C := RX5) (T := TX5) (N := 24) hx hb hts hiX5 hown hK hP 0 rfl rfl 23 (by decide) hf65 (fun _ h9 => h9) rfl dX5_asked___30 ?_
    refine ln_if_ne (tgt := 40) hx hb (by omega) dX5_asked___33 (by decide) (fun c33 => ?_) (fun c33 => ?_)
    · subst hz9
      refine lv_iconst (v := (nI 0)) hx hb dX5_asked___40 rfl ?_
      exact hret 41 ls H locs _ _ () _ (g1 && (g2 && g3)) hP hD hS (Nat.le_of_ble_eq_true rfl) (Nat.le_of_ble_eq_true rfl) (by first | exact bI_t (ak3_t c33) | exact bI_f (ak3_f c33)) rfl dX5_asked___41
    · subst hz9
      refine lv_iconst (v := (nI 1)) hx hb dX5_asked___36 rfl ?_
      refine lv_goto (tgt := 41) hx hb dX5_asked___37 (by decide) ?_
      exact hret 41 ls H locs _ _ () _ (g1 && (g2 && g3)) hP hD hS (Nat.le_of_ble_eq_true rfl) (Nat.le_of_ble_eq_true rfl) (by first | exact bI_t (ak3_t c33) | exact bI_f (ak3_f c33)) rfl dX5_asked___41
  refine lv_aload_n hx hb dX5_asked___0 rfl (lv_at hl 0 rfl) ?_
  refine lv_iload_n hx hb dX5_asked___1 rfl (lv_at hl 1 rfl) ?_
  refine lb_if_ne (tgt := 9) hx hb dX5_asked___2 (by decide) (fun c2 => ?_) (fun c2 => ?_)
  · refine lv_iload_n hx hb dX5_asked___9 rfl (lv_at hl 2 rfl) ?_
    refine lb_if_ne (tgt := 17) hx hb dX5_asked___10 (by decide) (fun c10 => ?_) (fun c10 => ?_)
    · refine lv_iload_n hx hb dX5_asked___17 rfl (lv_at hl 3 rfl) ?_
      refine lb_if_eq (tgt := 25) hx hb dX5_asked___18 (by decide) (fun c18 => ?_) (fun c18 => ?_)
      · refine lv_iconst (v := (nI 3)) hx hb dX5_asked___25 rfl ?_
        exact jn26 3 (by first | (rw [c2, c10, c18]; rfl) | (rw [c2, c10]; rfl) | (rw [c2]; rfl)) (by omega) _ _ hP hD hS _ (lv_sub hl [0, 1, 2, 3] rfl)
      · refine lv_iconst (v := (nI 0)) hx hb dX5_asked___21 rfl ?_
        refine lv_goto (tgt := 26) hx hb dX5_asked___22 (by decide) ?_
        exact jn26 0 (by first | (rw [c2, c10, c18]; rfl) | (rw [c2, c10]; rfl) | (rw [c2]; rfl)) (by omega) _ _ hP hD hS _ (lv_sub hl [0, 1, 2, 3] rfl)
    · refine lv_iconst (v := (nI 2)) hx hb dX5_asked___13 rfl ?_
      refine lv_goto (tgt := 26) hx hb dX5_asked___14 (by decide) ?_
      exact jn26 2 (by first | (rw [c2, c10, c18]; rfl) | (rw [c2, c10]; rfl) | (rw [c2]; rfl)) (by omega) _ _ hP hD hS _ (lv_sub hl [0, 1, 2, 3] rfl)
  · refine lv_iconst (v := (nI 1)) hx hb dX5_asked___5 rfl ?_
    refine lv_goto (tgt := 26) hx hb dX5_asked___6 (by decide) ?_
    exact jn26 1 (by first | (rw [c2, c10, c18]; rfl) | (rw [c2, c10]; rfl) | (rw [c2]; rfl)) (by omega) _ _ hP hD hS _ (lv_sub hl [0, 1, 2, 3] rfl)

set_option maxHeartbeats 4000000 in
set_option maxRecDepth 100000 in
theorem kX5_told (l : Launch) (D : va_G) (y3 : ClassId × ClassId × ClassId) (m0 : Nat) (m1 : Nat) (m2 : Nat) (m3 : Nat) (m4 : Nat) (m5 : Nat) (m6 : Nat) (m7 : Nat) (m8 : Nat) (m9 : Nat) (m10 : Nat) (m11 : Nat) (m12 : Nat) (m13 : Nat) (m14 : Nat) (m15 : Nat) (m16 : Nat) (m17 : Nat) (m18 : Nat) (nk : Nat) (np : Nat) (nr : Nat) (nl : Nat) (nb : Nat) (zo : Nat) (k : Int32) : wrM l yX5_told wsX5_told 0 0 0 0 D y3 [(m0, .inr (5, [.ref m1, .int (nI nk), .ref m2, .ref m3, .ref m4, .ref m5, .ref m6, .int (nI np), .ref m7, .ref m8, .ref m9, .ref m10, .ref m11, .ref m12, .ref m13, .ref m14, .int (nI nr), .ref m15, .int (nI nl), .ref m16, .int (nI nb), .ref m17, .ref m18, .int (nI zo)]))] [.ref m0, .int k] (fun r (_ : Unit) => r = k) (fun (_ : Unit) => [(m0, .inr (5, [.ref m1, .int (nI nk), .ref m2, .ref m3, .ref m4, .ref m5, .ref m6, .int (nI np), .ref m7, .ref m8, .ref m9, .ref m10, .ref m11, .ref m12, .ref m13, .ref m14, .int (nI nr), .ref m15, .int (nI nl), .ref m16, .int (nI nb), .ref m17, .ref m18, .int (nI 0)]))]) := by
  refine wr_of (cc := cX5_told) (maxL := 2) (by decide) rfl (Nat.le_of_ble_eq_true rfl) ?_
  intro p e s m args below meth c A Q hx hb hml hown hts hP hK hD hA hS hret ls hl
  replace hl : lv_has ls 2 [(0, .ref m0), (1, .int k)] := hl
  have hf65 := hts (.fieldLink RX5 65 "KindGuesserModel" "thrown" "I") (by decide +kernel)
  have hiX5 : ∀ q ∈ wsX50, q ∈ wsX5_told := by decide +kernel
  refine lv_aload_n hx hb dX5_told_0 rfl (lv_at hl 0 rfl) ?_
  refine lv_iconst (v := (nI 0)) hx hb dX5_told_1 rfl ?_
  refine va_put (D := D) (ci := 5) (v := .int (nI 0)) (ty := .int) (C := RX5) (T := TX5) (N := 24) hx hb hts hiX5 tyX5 tyX5_ok nmX5 hown hK hP hD hS 0 rfl rfl 23 (by decide) hf65 (fun _ h9 => h9) rfl (by decide +kernel) rfl rfl (Nat.le_of_ble_eq_true rfl) dX5_told_2 (fun H locs hP hD hS => ?_)
  have hP : va_P D vwCl [(m0, .inr (5, [.ref m1, .int (nI nk), .ref m2, .ref m3, .ref m4, .ref m5, .ref m6, .int (nI np), .ref m7, .ref m8, .ref m9, .ref m10, .ref m11, .ref m12, .ref m13, .ref m14, .int (nI nr), .ref m15, .int (nI nl), .ref m16, .int (nI nb), .ref m17, .ref m18, .int (nI 0)]))] H := hP
  have hD : va_D A [(m0, .inr (5, [.ref m1, .int (nI nk), .ref m2, .ref m3, .ref m4, .ref m5, .ref m6, .int (nI np), .ref m7, .ref m8, .ref m9, .ref m10, .ref m11, .ref m12, .ref m13, .ref m14, .int (nI nr), .ref m15, .int (nI nl), .ref m16, .int (nI nb), .ref m17, .ref m18, .int (nI 0)]))] := hD
  refine lv_iload_n hx hb dX5_told_5 rfl (lv_at hl 1 rfl) ?_
  exact hret 6 ls H locs _ _ () _ hP hD hS (Nat.le_of_ble_eq_true rfl) (Nat.le_of_ble_eq_true rfl) rfl dX5_told_6

set_option maxHeartbeats 4000000 in
set_option maxRecDepth 100000 in
theorem kX5_isKind (l : Launch) (D : va_G) (y3 : ClassId × ClassId × ClassId) (m0 : Nat) (m1 : Nat) (m2 : Nat) (m3 : Nat) (m4 : Nat) (m5 : Nat) (m6 : Nat) (m7 : Nat) (m8 : Nat) (m9 : Nat) (m10 : Nat) (m11 : Nat) (m12 : Nat) (m13 : Nat) (m14 : Nat) (m15 : Nat) (m16 : Nat) (m17 : Nat) (m18 : Nat) (nk : Nat) (np : Nat) (nr : Nat) (nl : Nat) (nb : Nat) (zo : Nat) (k : Int32) (hk : nk ≤ 14) : rdM l yX5_isKind wsX5_isKind 1 22 D y3 [(m0, .inr (5, [.ref m1, .int (nI nk), .ref m2, .ref m3, .ref m4, .ref m5, .ref m6, .int (nI np), .ref m7, .ref m8, .ref m9, .ref m10, .ref m11, .ref m12, .ref m13, .ref m14, .int (nI nr), .ref m15, .int (nI nl), .ref m16, .int (nI nb), .ref m17, .ref m18, .int (nI zo)]))] [.ref m0, .int k] (fun r => r = (bI (inB k nk))) := by
  refine rz_of (cc := cX5_isKind) (maxL := 2) (by decide) rfl (Nat.le_of_ble_eq_true rfl) ?_
  intro p e s m args below meth c Q hx hb hml hown hts hP hK hret ls hl
  replace hl : lv_has ls 2 [(0, .ref m0), (1, .int k)] := hl
  have hf69 := hts (.fieldLink RX5 69 "KindGuesserModel" "kinds" "I") (by decide +kernel)
  have hiX5 : ∀ q ∈ wsX50, q ∈ wsX5_isKind := by decide +kernel
  refine lv_iload_n hx hb dX5_isKind_0 rfl (lv_at hl 1 rfl) ?_
  refine lv_iconst (v := (nI 0)) hx hb dX5_isKind_1 rfl ?_
  refine lv_aload_n hx hb dX5_isKind_2 rfl (lv_at hl 0 rfl) ?_
  refine va_get (D := D) (ci := 5) (v := .int (nI nk)) (C := RX5) (T := TX5) (N := 24) hx hb hts hiX5 hown hK hP 0 rfl rfl 1 (by decide) hf69 (fun _ h9 => h9) rfl dX5_isKind_3 ?_
  refine lv_iconst (v := (nI 1)) hx hb dX5_isKind_6 rfl ?_
  refine lv_isub hx hb dX5_isKind_7 ?_
  refine rd_S (own := RX5) (As := [.int k, .int (nI 0), .int ((nI nk) - (nI 1))]) (rest := []) (bytes := cX5_in) (maxL := 3) ⟨hx, hb, hml, hown, hts⟩ (kX5_in l D y3 k (nI 0) ((nI nk) - (nI 1))) gX5_isKind_X5_in rfl hvX5_in ⟨Nat.le_of_ble_eq_true rfl, Nat.le_of_ble_eq_true rfl⟩ hP hK [] rfl  hl.1 rfl (Nat.le_of_ble_eq_true rfl) dX5_isKind_8 ⟨Nat.zero_le _, Nat.zero_le _⟩ (fun r1 hr1 => ?_)
  subst hr1
  exact hret 11 ls _ (congrArg bI (rg_in (by omega))) dX5_isKind_11

set_option maxHeartbeats 4000000 in
set_option maxRecDepth 100000 in
theorem kX5_isRule (l : Launch) (D : va_G) (y3 : ClassId × ClassId × ClassId) (m0 : Nat) (m1 : Nat) (m2 : Nat) (m3 : Nat) (m4 : Nat) (m5 : Nat) (m6 : Nat) (m7 : Nat) (m8 : Nat) (m9 : Nat) (m10 : Nat) (m11 : Nat) (m12 : Nat) (m13 : Nat) (m14 : Nat) (m15 : Nat) (m16 : Nat) (m17 : Nat) (m18 : Nat) (nk : Nat) (np : Nat) (nr : Nat) (nl : Nat) (nb : Nat) (zo : Nat) (k : Int32) (hnr : nr ≤ 12) : rdM l yX5_isRule wsX5_isRule 1 22 D y3 [(m0, .inr (5, [.ref m1, .int (nI nk), .ref m2, .ref m3, .ref m4, .ref m5, .ref m6, .int (nI np), .ref m7, .ref m8, .ref m9, .ref m10, .ref m11, .ref m12, .ref m13, .ref m14, .int (nI nr), .ref m15, .int (nI nl), .ref m16, .int (nI nb), .ref m17, .ref m18, .int (nI zo)]))] [.ref m0, .int k] (fun r => r = (bI (inB k nr))) := by
  refine rz_of (cc := cX5_isRule) (maxL := 2) (by decide) rfl (Nat.le_of_ble_eq_true rfl) ?_
  intro p e s m args below meth c Q hx hb hml hown hts hP hK hret ls hl
  replace hl : lv_has ls 2 [(0, .ref m0), (1, .int k)] := hl
  have hf100 := hts (.fieldLink RX5 100 "KindGuesserModel" "rules" "I") (by decide +kernel)
  have hiX5 : ∀ q ∈ wsX50, q ∈ wsX5_isRule := by decide +kernel
  refine lv_iload_n hx hb dX5_isRule_0 rfl (lv_at hl 1 rfl) ?_
  refine lv_iconst (v := (nI 0)) hx hb dX5_isRule_1 rfl ?_
  refine lv_aload_n hx hb dX5_isRule_2 rfl (lv_at hl 0 rfl) ?_
  refine va_get (D := D) (ci := 5) (v := .int (nI nr)) (C := RX5) (T := TX5) (N := 24) hx hb hts hiX5 hown hK hP 0 rfl rfl 16 (by decide) hf100 (fun _ h9 => h9) rfl dX5_isRule_3 ?_
  refine lv_iconst (v := (nI 1)) hx hb dX5_isRule_6 rfl ?_
  refine lv_isub hx hb dX5_isRule_7 ?_
  refine rd_S (own := RX5) (As := [.int k, .int (nI 0), .int ((nI nr) - (nI 1))]) (rest := []) (bytes := cX5_in) (maxL := 3) ⟨hx, hb, hml, hown, hts⟩ (kX5_in l D y3 k (nI 0) ((nI nr) - (nI 1))) gX5_isRule_X5_in rfl hvX5_in ⟨Nat.le_of_ble_eq_true rfl, Nat.le_of_ble_eq_true rfl⟩ hP hK [] rfl  hl.1 rfl (Nat.le_of_ble_eq_true rfl) dX5_isRule_8 ⟨Nat.zero_le _, Nat.zero_le _⟩ (fun r1 hr1 => ?_)
  subst hr1
  exact hret 11 ls _ (congrArg bI (rg_in (by omega))) dX5_isRule_11

set_option maxHeartbeats 4000000 in
set_option maxRecDepth 100000 in
theorem kX5_isList (l : Launch) (D : va_G) (y3 : ClassId × ClassId × ClassId) (k : Int32) : rdM l yX5_isList wsX5_isList 1 22 D y3 [] [.int k] (fun r => r = (bI (rgB k (nI 0) (nI 2)))) := by
  refine rz_of (cc := cX5_isList) (maxL := 1) (by decide) rfl (Nat.le_of_ble_eq_true rfl) ?_
  intro p e s m args below meth c Q hx hb hml hown hts hP hK hret ls hl
  replace hl : lv_has ls 1 [(0, .int k)] := hl
  refine lv_iload_n hx hb dX5_isList_0 rfl (lv_at hl 0 rfl) ?_
  refine lv_iconst (v := (nI 0)) hx hb dX5_isList_1 rfl ?_
  refine lv_iconst (v := (nI 2)) hx hb dX5_isList_2 rfl ?_
  refine rd_S (own := RX5) (As := [.int k, .int (nI 0), .int (nI 2)]) (rest := []) (bytes := cX5_in) (maxL := 3) ⟨hx, hb, hml, hown, hts⟩ (kX5_in l D y3 k (nI 0) (nI 2)) gX5_isList_X5_in rfl hvX5_in ⟨Nat.le_of_ble_eq_true rfl, Nat.le_of_ble_eq_true rfl⟩ hP hK [] rfl  hl.1 rfl (Nat.le_of_ble_eq_true rfl) dX5_isList_3 ⟨Nat.zero_le _, Nat.zero_le _⟩ (fun r1 hr1 => ?_)
  subst hr1
  exact hret 6 ls _ rfl dX5_isList_6

set_option maxHeartbeats 4000000 in
set_option maxRecDepth 100000 in
theorem kX5_isThere (l : Launch) (D : va_G) (y3 : ClassId × ClassId × ClassId) (m0 : Nat) (m1 : Nat) (m2 : Nat) (m3 : Nat) (m4 : Nat) (m5 : Nat) (m6 : Nat) (m7 : Nat) (m8 : Nat) (m9 : Nat) (m10 : Nat) (m11 : Nat) (m12 : Nat) (m13 : Nat) (m14 : Nat) (m15 : Nat) (m16 : Nat) (m17 : Nat) (m18 : Nat) (nk : Nat) (np : Nat) (nr : Nat) (nl : Nat) (nb : Nat) (zo : Nat) (dr : Nat → Bool) (th : Nat → Bool) (k : Int32) (hnp : np ≤ 20) (hdr : ∀ q : Nat, q < np → dr q = !th q) : rdM l yX5_isThere wsX5_isThere 1 22 D y3 [(m0, .inr (5, [.ref m1, .int (nI nk), .ref m2, .ref m3, .ref m4, .ref m5, .ref m6, .int (nI np), .ref m7, .ref m8, .ref m9, .ref m10, .ref m11, .ref m12, .ref m13, .ref m14, .int (nI nr), .ref m15, .int (nI nl), .ref m16, .int (nI nb), .ref m17, .ref m18, .int (nI zo)])), (m6, .inl (y3.2.1, 20, .inl (fB dr)))] [.ref m0, .int k] (fun r => r = (bI (hasP th np k))) := by
  refine rz_of (cc := cX5_isThere) (maxL := 2) (by decide) rfl (Nat.le_of_ble_eq_true rfl) ?_
  intro p e s m args below meth c Q hx hb hml hown hts hP hK hret ls hl
  replace hl : lv_has ls 2 [(0, .ref m0), (1, .int k)] := hl
  have hf25 := hts (.fieldLink RX5 25 "KindGuesserModel" "dropped" "[Z") (by decide +kernel)
  have hf88 := hts (.fieldLink RX5 88 "KindGuesserModel" "patterns" "I") (by decide +kernel)
  have hiX5 : ∀ q ∈ wsX50, q ∈ wsX5_isThere := by decide +kernel
  refine lv_iload_n hx hb dX5_isThere_0 rfl (lv_at hl 1 rfl) ?_
  refine lv_iconst (v := (nI 0)) hx hb dX5_isThere_1 rfl ?_
  refine lv_aload_n hx hb dX5_isThere_2 rfl (lv_at hl 0 rfl) ?_
  refine va_get (D := D) (ci := 5) (v := .int (nI np)) (C := RX5) (T := TX5) (N := 24) hx hb hts hiX5 hown hK hP 0 rfl rfl 7 (by decide) hf88 (fun _ h9 => h9) rfl dX5_isThere_3 ?_
  refine lv_iconst (v := (nI 1)) hx hb dX5_isThere_6 rfl ?_
  refine lv_isub hx hb dX5_isThere_7 ?_
  refine rd_S (own := RX5) (As := [.int k, .int (nI 0), .int ((nI np) - (nI 1))]) (rest := []) (bytes := cX5_in) (maxL := 3) ⟨hx, hb, hml, hown, hts⟩ (kX5_in l D y3 k (nI 0) ((nI np) - (nI 1))) gX5_isThere_X5_in rfl hvX5_in ⟨Nat.le_of_ble_eq_true rfl, Nat.le_of_ble_eq_true rfl⟩ hP hK [] rfl  hl.1 rfl (Nat.le_of_ble_eq_true rfl) dX5_isThere_8 ⟨Nat.zero_le _, Nat.zero_le _⟩ (fun r1 hr1 => ?_)
  subst hr1
  refine lb_if_eq (tgt := 27) hx hb dX5_isThere_11 (by decide) (fun c11 => ?_) (fun c11 => ?_)
  · refine lv_iconst (v := (nI 0)) hx hb dX5_isThere_27 rfl ?_
    exact hret 28 ls _ (by first | exact bI_t (by rw [ej, hasP_N hj (by omega)]; rw [hdr j hj] at c20; simpa using c20) | exact bI_f (hasP_no (by rw [rg_in (by omega)] at c11; exact c11)) | exact bI_f (by rw [ej, hasP_N hj (by omega)]; rw [hdr j hj] at c20; simpa using c20)) dX5_isThere_28
  · refine lv_aload_n hx hb dX5_isThere_14 rfl (lv_at hl 0 rfl) ?_
    refine va_get (D := D) (ci := 5) (v := .ref m6) (C := RX5) (T := TX5) (N := 24) hx hb hts hiX5 hown hK hP 0 rfl rfl 6 (by decide) hf25 (fun _ h9 => h9) rfl dX5_isThere_15 ?_
    rw [rg_in (by omega)] at c11
    obtain ⟨j, hj, ej⟩ := inB_N c11 (by omega)
    refine lv_iload_n hx hb dX5_isThere_18 rfl (lv_at hl 1 rfl) ?_
    refine ln_eqi (y := (nI j)) ej ?_
    refine ln_zaldB hx hb hK hP 1 1 rfl rfl (by omega) (by decide) dX5_isThere_19 ?_
    refine lb_if_ne (tgt := 27) hx hb dX5_isThere_20 (by decide) (fun c20 => ?_) (fun c20 => ?_)
    · refine lv_iconst (v := (nI 0)) hx hb dX5_isThere_27 rfl ?_
      exact hret 28 ls _ (by first | exact bI_t (by rw [ej, hasP_N hj (by omega)]; rw [hdr j hj] at c20; simpa using c20) | exact bI_f (hasP_no (by rw [rg_in (by omega)] at c11; exact c11)) | exact bI_f (by rw [ej, hasP_N hj (by omega)]; rw [hdr j hj] at c20; simpa using c20)) dX5_isThere_28
    · refine lv_iconst (v := (nI 1)) hx hb dX5_isThere_23 rfl ?_
      refine lv_goto (tgt := 28) hx hb dX5_isThere_24 (by decide) ?_
      exact hret 28 ls _ (by first | exact bI_t (by rw [ej, hasP_N hj (by omega)]; rw [hdr j hj] at c20; simpa using c20) | exact bI_f (hasP_no (by rw [rg_in (by omega)] at c11; exact c11)) | exact bI_f (by rw [ej, hasP_N hj (by omega)]; rw [hdr j hj] at c20; simpa using c20)) dX5_isThere_28

set_option maxHeartbeats 4000000 in
set_option maxRecDepth 100000 in
theorem kX5_kind_ok (l : Launch) (D : va_G) (y3 : ClassId × ClassId × ClassId) (m0 : Nat) (m1 : Nat) (m2 : Nat) (m3 : Nat) (m4 : Nat) (m5 : Nat) (m6 : Nat) (m7 : Nat) (m8 : Nat) (m9 : Nat) (m10 : Nat) (m11 : Nat) (m12 : Nat) (m13 : Nat) (m14 : Nat) (m15 : Nat) (m16 : Nat) (m17 : Nat) (m18 : Nat) (nk : Nat) (np : Nat) (nr : Nat) (nl : Nat) (nb : Nat) (zo : Nat) (par : Nat → Int32) (k : Int32) (hk : nk ≤ 14) (hz : (ak2 (decide (k = -1) || inB k nk) (decide (nk < 14))) = 0) : wrM l yX5_kind wsX5_kind 2 43 0 0 D y3 [(m0, .inr (5, [.ref m1, .int (nI nk), .ref m2, .ref m3, .ref m4, .ref m5, .ref m6, .int (nI np), .ref m7, .ref m8, .ref m9, .ref m10, .ref m11, .ref m12, .ref m13, .ref m14, .int (nI nr), .ref m15, .int (nI nl), .ref m16, .int (nI nb), .ref m17, .ref m18, .int (nI zo)])), (m1, .inl (y3.1, 14, .inl par))] [.ref m0, .int k] (fun r (_ : Unit) => r = (nI nk)) (fun (_ : Unit) => [(m0, .inr (5, [.ref m1, .int (nI (nk + 1)), .ref m2, .ref m3, .ref m4, .ref m5, .ref m6, .int (nI np), .ref m7, .ref m8, .ref m9, .ref m10, .ref m11, .ref m12, .ref m13, .ref m14, .int (nI nr), .ref m15, .int (nI nl), .ref m16, .int (nI nb), .ref m17, .ref m18, .int (nI 0)])), (m1, .inl (y3.1, 14, .inl (upd par nk k)))]) := by
  refine wr_of (cc := cX5_kind) (maxL := 2) (by decide) rfl (Nat.le_of_ble_eq_true rfl) ?_
  intro p e s m args below meth c A Q hx hb hml hown hts hP hK hD hA hS hret ls hl
  replace hl : lv_has ls 2 [(0, .ref m0), (1, .int k)] := hl
  have hf69 := hts (.fieldLink RX5 69 "KindGuesserModel" "kinds" "I") (by decide +kernel)
  have hf7 := hts (.fieldLink RX5 7 "KindGuesserModel" "parent" "[I") (by decide +kernel)
  have hiX5 : ∀ q ∈ wsX50, q ∈ wsX5_kind := by decide +kernel
  have jn19 : ∀ (j1 : Bool), (j1 = (decide (k = -1) || inB k nk)) → ∀ (H : Heap) (locs : List Loc), va_P D vwCl [(m0, .inr (5, [.ref m1, .int (nI nk), .ref m2, .ref m3, .ref m4, .ref m5, .ref m6, .int (nI np), .ref m7, .ref m8, .ref m9, .ref m10, .ref m11, .ref m12, .ref m13, .ref m14, .int (nI nr), .ref m15, .int (nI nl), .ref m16, .int (nI nb), .ref m17, .ref m18, .int (nI zo)])), (m1, .inl (y3.1, 14, .inl par))] H → va_D A [(m0, .inr (5, [.ref m1, .int (nI nk), .ref m2, .ref m3, .ref m4, .ref m5, .ref m6, .int (nI np), .ref m7, .ref m8, .ref m9, .ref m10, .ref m11, .ref m12, .ref m13, .ref m14, .int (nI nr), .ref m15, .int (nI nl), .ref m16, .int (nI nb), .ref m17, .ref m18, .int (nI zo)])), (m1, .inl (y3.1, 14, .inl par))] → va_S A s.heap H locs → ∀ ls : Array Slot, lv_has ls 2 [(0, .ref m0), (1, .int k)] → W p l e (rmO 2 0 0 43) s m args below meth c H locs 0 0 Q (F0 m 19 ls [.int (bI j1), .ref m0]) := by
    intro j1 hj1 H locs hP hD hS ls hl
    refine lv_aload_n hx hb dX5_kind_19 rfl (lv_at hl 0 rfl) ?_
    have jn33 : ∀ (j2 : Bool), (j2 = decide (nk < 14)) → ∀ (H : Heap) (locs : List Loc), va_P D vwCl [(m0, .inr (5, [.ref m1, .int (nI nk), .ref m2, .ref m3, .ref m4, .ref m5, .ref m6, .int (nI np), .ref m7, .ref m8, .ref m9, .ref m10, .ref m11, .ref m12, .ref m13, .ref m14, .int (nI nr), .ref m15, .int (nI nl), .ref m16, .int (nI nb), .ref m17, .ref m18, .int (nI zo)])), (m1, .inl (y3.1, 14, .inl par))] H → va_D A [(m0, .inr (5, [.ref m1, .int (nI nk), .ref m2, .ref m3, .ref m4, .ref m5, .ref m6, .int (nI np), .ref m7, .ref m8, .ref m9, .ref m10, .ref m11, .ref m12, .ref m13, .ref m14, .int (nI nr), .ref m15, .int (nI nl), .ref m16, .int (nI nb), .ref m17, .ref m18, .int (nI zo)])), (m1, .inl (y3.1, 14, .inl par))] → va_S A s.heap H locs → ∀ ls : Array Slot, lv_has ls 2 [(0, .ref m0), (1, .int k)] → W p l e (rmO 2 0 0 43) s m args below meth c H locs 0 0 Q (F0 m 33 ls [.int (bI j2), .int (bI j1), .ref m0]) := by
      intro j2 hj2 H locs hP hD hS ls hl
      refine wr_V (ci := 5) (q0 := 0) (own := RX5) (As := [.int (bI j1), .int (bI j2)]) (rest := []) (bytes := cX5_asked_) (maxL := 3) (wr := [(m1, .inl (y3.1, 14, .inl par))]) (w3 := (fun (_ : Unit) => [(m0, .inr (5, [.ref m1, .int (nI nk), .ref m2, .ref m3, .ref m4, .ref m5, .ref m6, .int (nI np), .ref m7, .ref m8, .ref m9, .ref m10, .ref m11, .ref m12, .ref m13, .ref m14, .int (nI nr), .ref m15, .int (nI nl), .ref m16, .int (nI nb), .ref m17, .ref m18, .int (nI (ak2 j1 j2))])), (m1, .inl (y3.1, 14, .inl par))])) ⟨hx, hb, hml, hown, hts⟩ (kX5_asked_ l D y3 m0 m1 m2 m3 m4 m5 m6 m7 m8 m9 m10 m11 m12 m13 m14 m15 m16 m17 m18 nk np nr nl nb zo j1 j2) gX5_kind_X5_asked_ rfl hvX5_asked_ ⟨Nat.le_of_ble_eq_true rfl, Nat.le_of_ble_eq_true rfl⟩ hP hK hD hS hA [0] [1] [1, 0] rfl rfl rfl rfl (by decide) (fun _ => rfl) rfl rfl rfl hl.1 rfl (Nat.le_of_ble_eq_true rfl) dX5_kind_33 ⟨Nat.le_of_ble_eq_true rfl, Nat.le_of_ble_eq_true rfl⟩ (fun r1 u2 H locs hr1 hP hD hS => ?_)
      have hP : va_P D vwCl [(m0, .inr (5, [.ref m1, .int (nI nk), .ref m2, .ref m3, .ref m4, .ref m5, .ref m6, .int (nI np), .ref m7, .ref m8, .ref m9, .ref m10, .ref m11, .ref m12, .ref m13, .ref m14, .int (nI nr), .ref m15, .int (nI nl), .ref m16, .int (nI nb), .ref m17, .ref m18, .int (nI (ak2 j1 j2))])), (m1, .inl (y3.1, 14, .inl par))] H := hP
      have hD : va_D A [(m0, .inr (5, [.ref m1, .int (nI nk), .ref m2, .ref m3, .ref m4, .ref m5, .ref m6, .int (nI np), .ref m7, .ref m8, .ref m9, .ref m10, .ref m11, .ref m12, .ref m13, .ref m14, .int (nI nr), .ref m15, .int (nI nl), .ref m16, .int (nI nb), .ref m17, .ref m18, .int (nI (ak2 j1 j2))])), (m1, .inl (y3.1, 14, .inl par))] := hD
      subst hr1
      refine lb_if_ne (tgt := 41) hx hb dX5_kind_36 (by decide) (fun c36 => ?_) (fun c36 => ?_)
      · have hlt : nk < 14 := of_decide_eq_true (Bool.and_eq_true_iff.mp (ak2_t hz)).2
        refine lv_aload_n hx hb dX5_kind_41 rfl (lv_at hl 0 rfl) ?_
        refine va_get (D := D) (ci := 5) (v := .ref m1) (C := RX5) (T := TX5) (N := 24) hx hb hts hiX5 hown hK hP 0 rfl rfl 0 (by decide) hf7 (fun _ h9 => h9) rfl dX5_kind_42 ?_
        refine lv_aload_n hx hb dX5_kind_45 rfl (lv_at hl 0 rfl) ?_
        refine va_get (D := D) (ci := 5) (v := .int (nI nk)) (C := RX5) (T := TX5) (N := 24) hx hb hts hiX5 hown hK hP 0 rfl rfl 1 (by decide) hf69 (fun _ h9 => h9) rfl dX5_kind_46 ?_
        refine lv_iload_n hx hb dX5_kind_49 rfl (lv_at hl 1 rfl) ?_
        refine ln_iast hx hb hK hP hD hS 1 0 rfl rfl (by omega) (by decide) dX5_kind_50 _ rfl (fun H locs hP hD hS => ?_)
        have hP : va_P D vwCl [(m0, .inr (5, [.ref m1, .int (nI nk), .ref m2, .ref m3, .ref m4, .ref m5, .ref m6, .int (nI np), .ref m7, .ref m8, .ref m9, .ref m10, .ref m11, .ref m12, .ref m13, .ref m14, .int (nI nr), .ref m15, .int (nI nl), .ref m16, .int (nI nb), .ref m17, .ref m18, .int (nI (ak2 j1 j2))])), (m1, .inl (y3.1, 14, .inl (upd par nk k)))] H := hP
        have hD : va_D A [(m0, .inr (5, [.ref m1, .int (nI nk), .ref m2, .ref m3, .ref m4, .ref m5, .ref m6, .int (nI np), .ref m7, .ref m8, .ref m9, .ref m10, .ref m11, .ref m12, .ref m13, .ref m14, .int (nI nr), .ref m15, .int (nI nl), .ref m16, .int (nI nb), .ref m17, .ref m18, .int (nI (ak2 j1 j2))])), (m1, .inl (y3.1, 14, .inl (upd par nk k)))] := hD
        refine lv_aload_n hx hb dX5_kind_51 rfl (lv_at hl 0 rfl) ?_
        refine lv_dup hx hb dX5_kind_52 rfl ?_
        refine va_get (D := D) (ci := 5) (v := .int (nI nk)) (C := RX5) (T := TX5) (N := 24) hx hb hts hiX5 hown hK hP 0 rfl rfl 1 (by decide) hf69 (fun _ h9 => h9) rfl dX5_kind_53 ?_
        refine lv_iconst (v := (nI 1)) hx hb dX5_kind_56 rfl ?_
        refine ln_iadd (n := nk + 1) hx hb rfl dX5_kind_57 ?_
        refine va_put (D := D) (ci := 5) (v := .int (nI (nk + 1))) (ty := .int) (C := RX5) (T := TX5) (N := 24) hx hb hts hiX5 tyX5 tyX5_ok nmX5 hown hK hP hD hS 0 rfl rfl 1 (by decide) hf69 (fun _ h9 => h9) rfl (by decide +kernel) rfl rfl (Nat.le_of_ble_eq_true rfl) dX5_kind_58 (fun H locs hP hD hS => ?_)
        have hP : va_P D vwCl [(m0, .inr (5, [.ref m1, .int (nI (nk + 1)), .ref m2, .ref m3, .ref m4, .ref m5, .ref m6, .int (nI np), .ref m7, .ref m8, .ref m9, .ref m10, .ref m11, .ref m12, .ref m13, .ref m14, .int (nI nr), .ref m15, .int (nI nl), .ref m16, .int (nI nb), .ref m17, .ref m18, .int (nI (ak2 j1 j2))])), (m1, .inl (y3.1, 14, .inl (upd par nk k)))] H := hP
        have hD : va_D A [(m0, .inr (5, [.ref m1, .int (nI (nk + 1)), .ref m2, .ref m3, .ref m4, .ref m5, .ref m6, .int (nI np), .ref m7, .ref m8, .ref m9, .ref m10, .ref m11, .ref m12, .ref m13, .ref m14, .int (nI nr), .ref m15, .int (nI nl), .ref m16, .int (nI nb), .ref m17, .ref m18, .int (nI (ak2 j1 j2))])), (m1, .inl (y3.1, 14, .inl (upd par nk k)))] := hD
        refine lv_aload_n hx hb dX5_kind_61 rfl (lv_at hl 0 rfl) ?_
        refine va_get (D := D) (ci := 5) (v := .int (nI (nk + 1))) (C := RX5) (T := TX5) (N := 24) hx hb hts hiX5 hown hK hP 0 rfl rfl 1 (by decide) hf69 (fun _ h9 => h9) rfl dX5_kind_62 ?_
        refine lv_iconst (v := (nI 1)) hx hb dX5_kind_65 rfl ?_
        refine ln_isub (n := nk) hx hb (by omega) (by omega) dX5_kind_66 ?_
        rw [show ak2 j1 j2 = 0 from by rw [hj1, hj2]; exact hz] at hP hD
        exact hret 67 ls H locs _ _ () _ hP hD hS (Nat.le_of_ble_eq_true rfl) (Nat.le_of_ble_eq_true rfl) rfl dX5_kind_67
      · rw [hj1, hj2] at c36; rw [ak2_t hz] at c36; cases c36
    refine va_get (D := D) (ci := 5) (v := .int (nI nk)) (C := RX5) (T := TX5) (N := 24) hx hb hts hiX5 hown hK hP 0 rfl rfl 1 (by decide) hf69 (fun _ h9 => h9) rfl dX5_kind_20 ?_
    refine lv_bipush (v := (nI 14)) hx hb dX5_kind_23 rfl ?_
    refine ln_icmp_ge (tgt := 32) hx hb (by omega) (by omega) dX5_kind_25 (by decide) (fun c25 => ?_) (fun c25 => ?_)
    · refine lv_iconst (v := (nI 0)) hx hb dX5_kind_32 rfl ?_
      exact jn33 false (by first | exact (decide_eq_true (by omega)).symm | exact (decide_eq_false (by omega)).symm) _ _ hP hD hS _ (lv_sub hl [0, 1] rfl)
    · refine lv_iconst (v := (nI 1)) hx hb dX5_kind_28 rfl ?_
      refine lv_goto (tgt := 33) hx hb dX5_kind_29 (by decide) ?_
      exact jn33 true (by first | exact (decide_eq_true (by omega)).symm | exact (decide_eq_false (by omega)).symm) _ _ hP hD hS _ (lv_sub hl [0, 1] rfl)
  refine lv_aload_n hx hb dX5_kind_0 rfl (lv_at hl 0 rfl) ?_
  refine lv_iload_n hx hb dX5_kind_1 rfl (lv_at hl 1 rfl) ?_
  refine lv_iconst (v := (-1)) hx hb dX5_kind_2 rfl ?_
  refine lv_icmp_eq (tgt := 14) hx hb dX5_kind_3 (by decide) (fun c3 => ?_) (fun c3 => ?_)
  · refine lv_iconst (v := (nI 1)) hx hb dX5_kind_14 rfl ?_
    refine lv_goto (tgt := 19) hx hb dX5_kind_15 (by decide) ?_
    exact jn19 true (by first | (rw [decide_eq_true c3]; rfl) | (rw [c11, Bool.or_true]) | (rw [decide_eq_false c3, c11]; rfl)) _ _ hP hD hS _ (lv_sub hl [0, 1] rfl)
  · refine lv_aload_n hx hb dX5_kind_6 rfl (lv_at hl 0 rfl) ?_
    refine lv_iload_n hx hb dX5_kind_7 rfl (lv_at hl 1 rfl) ?_
    refine rd_V (ci := 5) (q0 := 0) (own := RX5) (As := [.int k]) (rest := [.ref m0]) (bytes := cX5_isKind) (maxL := 2) ⟨hx, hb, hml, hown, hts⟩ (kX5_isKind l D y3 m0 m1 m2 m3 m4 m5 m6 m7 m8 m9 m10 m11 m12 m13 m14 m15 m16 m17 m18 nk np nr nl nb zo k (by omega)) gX5_kind_X5_isKind rfl hvX5_isKind ⟨Nat.le_of_ble_eq_true rfl, Nat.le_of_ble_eq_true rfl⟩ hP hK [0] rfl rfl rfl hl.1 rfl (Nat.le_of_ble_eq_true rfl) dX5_kind_8 ⟨Nat.le_of_ble_eq_true rfl, Nat.le_of_ble_eq_true rfl⟩ (fun r3 hr3 => ?_)
    subst hr3
    refine lb_if_eq (tgt := 18) hx hb dX5_kind_11 (by decide) (fun c11 => ?_) (fun c11 => ?_)
    · refine lv_iconst (v := (nI 0)) hx hb dX5_kind_18 rfl ?_
      exact jn19 false (by first | (rw [decide_eq_true c3]; rfl) | (rw [c11, Bool.or_true]) | (rw [decide_eq_false c3, c11]; rfl)) _ _ hP hD hS _ (lv_sub hl [0, 1] rfl)
    · refine lv_iconst (v := (nI 1)) hx hb dX5_kind_14 rfl ?_
      refine lv_goto (tgt := 19) hx hb dX5_kind_15 (by decide) ?_
      exact jn19 true (by first | (rw [decide_eq_true c3]; rfl) | (rw [c11, Bool.or_true]) | (rw [decide_eq_false c3, c11]; rfl)) _ _ hP hD hS _ (lv_sub hl [0, 1] rfl)

set_option maxHeartbeats 4000000 in
set_option maxRecDepth 100000 in
theorem kX5_kind_ex (l : Launch) (D : va_G) (y3 : ClassId × ClassId × ClassId) (m0 : Nat) (m1 : Nat) (m2 : Nat) (m3 : Nat) (m4 : Nat) (m5 : Nat) (m6 : Nat) (m7 : Nat) (m8 : Nat) (m9 : Nat) (m10 : Nat) (m11 : Nat) (m12 : Nat) (m13 : Nat) (m14 : Nat) (m15 : Nat) (m16 : Nat) (m17 : Nat) (m18 : Nat) (nk : Nat) (np : Nat) (nr : Nat) (nl : Nat) (nb : Nat) (zo : Nat) (par : Nat → Int32) (k : Int32) (hk : nk ≤ 14) (hz : ¬ (ak2 (decide (k = -1) || inB k nk) (decide (nk < 14))) = 0) : wrM l yX5_kind wsX5_kind 2 43 0 0 D y3 [(m0, .inr (5, [.ref m1, .int (nI nk), .ref m2, .ref m3, .ref m4, .ref m5, .ref m6, .int (nI np), .ref m7, .ref m8, .ref m9, .ref m10, .ref m11, .ref m12, .ref m13, .ref m14, .int (nI nr), .ref m15, .int (nI nl), .ref m16, .int (nI nb), .ref m17, .ref m18, .int (nI zo)])), (m1, .inl (y3.1, 14, .inl par))] [.ref m0, .int k] (fun r (_ : Unit) => r = (nI 0)) (fun (_ : Unit) => [(m0, .inr (5, [.ref m1, .int (nI nk), .ref m2, .ref m3, .ref m4, .ref m5, .ref m6, .int (nI np), .ref m7, .ref m8, .ref m9, .ref m10, .ref m11, .ref m12, .ref m13, .ref m14, .int (nI nr), .ref m15, .int (nI nl), .ref m16, .int (nI nb), .ref m17, .ref m18, .int (nI (ak2 (decide (k = -1) || inB k nk) (decide (nk < 14))))])), (m1, .inl (y3.1, 14, .inl par))]) := by
  refine wr_of (cc := cX5_kind) (maxL := 2) (by decide) rfl (Nat.le_of_ble_eq_true rfl) ?_
  intro p e s m args below meth c A Q hx hb hml hown hts hP hK hD hA hS hret ls hl
  replace hl : lv_has ls 2 [(0, .ref m0), (1, .int k)] := hl
  have hf69 := hts (.fieldLink RX5 69 "KindGuesserModel" "kinds" "I") (by decide +kernel)
  have hiX5 : ∀ q ∈ wsX50, q ∈ wsX5_kind := by decide +kernel
  have jn19 : ∀ (j1 : Bool), (j1 = (decide (k = -1) || inB k nk)) → ∀ (H : Heap) (locs : List Loc), va_P D vwCl [(m0, .inr (5, [.ref m1, .int (nI nk), .ref m2, .ref m3, .ref m4, .ref m5, .ref m6, .int (nI np), .ref m7, .ref m8, .ref m9, .ref m10, .ref m11, .ref m12, .ref m13, .ref m14, .int (nI nr), .ref m15, .int (nI nl), .ref m16, .int (nI nb), .ref m17, .ref m18, .int (nI zo)])), (m1, .inl (y3.1, 14, .inl par))] H → va_D A [(m0, .inr (5, [.ref m1, .int (nI nk), .ref m2, .ref m3, .ref m4, .ref m5, .ref m6, .int (nI np), .ref m7, .ref m8, .ref m9, .ref m10, .ref m11, .ref m12, .ref m13, .ref m14, .int (nI nr), .ref m15, .int (nI nl), .ref m16, .int (nI nb), .ref m17, .ref m18, .int (nI zo)])), (m1, .inl (y3.1, 14, .inl par))] → va_S A s.heap H locs → ∀ ls : Array Slot, lv_has ls 2 [(0, .ref m0), (1, .int k)] → W p l e (rmO 2 0 0 43) s m args below meth c H locs 0 0 Q (F0 m 19 ls [.int (bI j1), .ref m0]) := by
    intro j1 hj1 H locs hP hD hS ls hl
    refine lv_aload_n hx hb dX5_kind_19 rfl (lv_at hl 0 rfl) ?_
    have jn33 : ∀ (j2 : Bool), (j2 = decide (nk < 14)) → ∀ (H : Heap) (locs : List Loc), va_P D vwCl [(m0, .inr (5, [.ref m1, .int (nI nk), .ref m2, .ref m3, .ref m4, .ref m5, .ref m6, .int (nI np), .ref m7, .ref m8, .ref m9, .ref m10, .ref m11, .ref m12, .ref m13, .ref m14, .int (nI nr), .ref m15, .int (nI nl), .ref m16, .int (nI nb), .ref m17, .ref m18, .int (nI zo)])), (m1, .inl (y3.1, 14, .inl par))] H → va_D A [(m0, .inr (5, [.ref m1, .int (nI nk), .ref m2, .ref m3, .ref m4, .ref m5, .ref m6, .int (nI np), .ref m7, .ref m8, .ref m9, .ref m10, .ref m11, .ref m12, .ref m13, .ref m14, .int (nI nr), .ref m15, .int (nI nl), .ref m16, .int (nI nb), .ref m17, .ref m18, .int (nI zo)])), (m1, .inl (y3.1, 14, .inl par))] → va_S A s.heap H locs → ∀ ls : Array Slot, lv_has ls 2 [(0, .ref m0), (1, .int k)] → W p l e (rmO 2 0 0 43) s m args below meth c H locs 0 0 Q (F0 m 33 ls [.int (bI j2), .int (bI j1), .ref m0]) := by
      intro j2 hj2 H locs hP hD hS ls hl
      refine wr_V (ci := 5) (q0 := 0) (own := RX5) (As := [.int (bI j1), .int (bI j2)]) (rest := []) (bytes := cX5_asked_) (maxL := 3) (wr := [(m1, .inl (y3.1, 14, .inl par))]) (w3 := (fun (_ : Unit) => [(m0, .inr (5, [.ref m1, .int (nI nk), .ref m2, .ref m3, .ref m4, .ref m5, .ref m6, .int (nI np), .ref m7, .ref m8, .ref m9, .ref m10, .ref m11, .ref m12, .ref m13, .ref m14, .int (nI nr), .ref m15, .int (nI nl), .ref m16, .int (nI nb), .ref m17, .ref m18, .int (nI (ak2 j1 j2))])), (m1, .inl (y3.1, 14, .inl par))])) ⟨hx, hb, hml, hown, hts⟩ (kX5_asked_ l D y3 m0 m1 m2 m3 m4 m5 m6 m7 m8 m9 m10 m11 m12 m13 m14 m15 m16 m17 m18 nk np nr nl nb zo j1 j2) gX5_kind_X5_asked_ rfl hvX5_asked_ ⟨Nat.le_of_ble_eq_true rfl, Nat.le_of_ble_eq_true rfl⟩ hP hK hD hS hA [0] [1] [1, 0] rfl rfl rfl rfl (by decide) (fun _ => rfl) rfl rfl rfl hl.1 rfl (Nat.le_of_ble_eq_true rfl) dX5_kind_33 ⟨Nat.le_of_ble_eq_true rfl, Nat.le_of_ble_eq_true rfl⟩ (fun r1 u2 H locs hr1 hP hD hS => ?_)
      have hP : va_P D vwCl [(m0, .inr (5, [.ref m1, .int (nI nk), .ref m2, .ref m3, .ref m4, .ref m5, .ref m6, .int (nI np), .ref m7, .ref m8, .ref m9, .ref m10, .ref m11, .ref m12, .ref m13, .ref m14, .int (nI nr), .ref m15, .int (nI nl), .ref m16, .int (nI nb), .ref m17, .ref m18, .int (nI (ak2 j1 j2))])), (m1, .inl (y3.1, 14, .inl par))] H := hP
      have hD : va_D A [(m0, .inr (5, [.ref m1, .int (nI nk), .ref m2, .ref m3, .ref m4, .ref m5, .ref m6, .int (nI np), .ref m7, .ref m8, .ref m9, .ref m10, .ref m11, .ref m12, .ref m13, .ref m14, .int (nI nr), .ref m15, .int (nI nl), .ref m16, .int (nI nb), .ref m17, .ref m18, .int (nI (ak2 j1 j2))])), (m1, .inl (y3.1, 14, .inl par))] := hD
      subst hr1
      refine lb_if_ne (tgt := 41) hx hb dX5_kind_36 (by decide) (fun c36 => ?_) (fun c36 => ?_)
      · rw [hj1, hj2] at c36; rw [ak2_f hz] at c36; cases c36
      · refine lv_iconst (v := (nI 0)) hx hb dX5_kind_39 rfl ?_
        rw [hj1, hj2] at hP hD
        exact hret 40 ls H locs _ _ () _ hP hD hS (Nat.le_of_ble_eq_true rfl) (Nat.le_of_ble_eq_true rfl) rfl dX5_kind_40
    refine va_get (D := D) (ci := 5) (v := .int (nI nk)) (C := RX5) (T := TX5) (N := 24) hx hb hts hiX5 hown hK hP 0 rfl rfl 1 (by decide) hf69 (fun _ h9 => h9) rfl dX5_kind_20 ?_
    refine lv_bipush (v := (nI 14)) hx hb dX5_kind_23 rfl ?_
    refine ln_icmp_ge (tgt := 32) hx hb (by omega) (by omega) dX5_kind_25 (by decide) (fun c25 => ?_) (fun c25 => ?_)
    · refine lv_iconst (v := (nI 0)) hx hb dX5_kind_32 rfl ?_
      exact jn33 false (by first | exact (decide_eq_true (by omega)).symm | exact (decide_eq_false (by omega)).symm) _ _ hP hD hS _ (lv_sub hl [0, 1] rfl)
    · refine lv_iconst (v := (nI 1)) hx hb dX5_kind_28 rfl ?_
      refine lv_goto (tgt := 33) hx hb dX5_kind_29 (by decide) ?_
      exact jn33 true (by first | exact (decide_eq_true (by omega)).symm | exact (decide_eq_false (by omega)).symm) _ _ hP hD hS _ (lv_sub hl [0, 1] rfl)
  refine lv_aload_n hx hb dX5_kind_0 rfl (lv_at hl 0 rfl) ?_
  refine lv_iload_n hx hb dX5_kind_1 rfl (lv_at hl 1 rfl) ?_
  refine lv_iconst (v := (-1)) hx hb dX5_kind_2 rfl ?_
  refine lv_icmp_eq (tgt := 14) hx hb dX5_kind_3 (by decide) (fun c3 => ?_) (fun c3 => ?_)
  · refine lv_iconst (v := (nI 1)) hx hb dX5_kind_14 rfl ?_
    refine lv_goto (tgt := 19) hx hb dX5_kind_15 (by decide) ?_
    exact jn19 true (by first | (rw [decide_eq_true c3]; rfl) | (rw [c11, Bool.or_true]) | (rw [decide_eq_false c3, c11]; rfl)) _ _ hP hD hS _ (lv_sub hl [0, 1] rfl)
  · refine lv_aload_n hx hb dX5_kind_6 rfl (lv_at hl 0 rfl) ?_
    refine lv_iload_n hx hb dX5_kind_7 rfl (lv_at hl 1 rfl) ?_
    refine rd_V (ci := 5) (q0 := 0) (own := RX5) (As := [.int k]) (rest := [.ref m0]) (bytes := cX5_isKind) (maxL := 2) ⟨hx, hb, hml, hown, hts⟩ (kX5_isKind l D y3 m0 m1 m2 m3 m4 m5 m6 m7 m8 m9 m10 m11 m12 m13 m14 m15 m16 m17 m18 nk np nr nl nb zo k (by omega)) gX5_kind_X5_isKind rfl hvX5_isKind ⟨Nat.le_of_ble_eq_true rfl, Nat.le_of_ble_eq_true rfl⟩ hP hK [0] rfl rfl rfl hl.1 rfl (Nat.le_of_ble_eq_true rfl) dX5_kind_8 ⟨Nat.le_of_ble_eq_true rfl, Nat.le_of_ble_eq_true rfl⟩ (fun r3 hr3 => ?_)
    subst hr3
    refine lb_if_eq (tgt := 18) hx hb dX5_kind_11 (by decide) (fun c11 => ?_) (fun c11 => ?_)
    · refine lv_iconst (v := (nI 0)) hx hb dX5_kind_18 rfl ?_
      exact jn19 false (by first | (rw [decide_eq_true c3]; rfl) | (rw [c11, Bool.or_true]) | (rw [decide_eq_false c3, c11]; rfl)) _ _ hP hD hS _ (lv_sub hl [0, 1] rfl)
    · refine lv_iconst (v := (nI 1)) hx hb dX5_kind_14 rfl ?_
      refine lv_goto (tgt := 19) hx hb dX5_kind_15 (by decide) ?_
      exact jn19 true (by first | (rw [decide_eq_true c3]; rfl) | (rw [c11, Bool.or_true]) | (rw [decide_eq_false c3, c11]; rfl)) _ _ hP hD hS _ (lv_sub hl [0, 1] rfl)

set_option maxHeartbeats 4000000 in
set_option maxRecDepth 100000 in
theorem kX5_digits (l : Launch) (D : va_G) (y3 : ClassId × ClassId × ClassId) (x1 : Nat) (x2 : Nat) (i : Nat) (hi : i < 8) (hx1 : x1 < 2 ^ 31) (hx2 : x2 < 2 ^ 31) : rdM l yX5_digits wsX5_digits 0 0 D y3 [] [.int (nI x1), .int (nI x2), .int (nI i)] (fun r => r = (nI (tkN i x1 x2))) := by
  refine rd_of (cc := cX5_digits) (maxL := 5) (by decide) rfl (Nat.le_of_ble_eq_true rfl) ?_
  intro p e s m args below meth c Q hx hb hml hown hts hP hK hret ls hl
  replace hl : lv_has ls 5 [(0, .int (nI x1)), (1, .int (nI x2)), (2, .int (nI i))] := hl
  have jn10 : ∀ (y : Nat), (y = if i < 4 then x1 else x2) → (y < 2 ^ 31) → ∀ ls : Array Slot, lv_has ls 5 [(0, .int (nI x1)), (1, .int (nI x2)), (2, .int (nI i))] → W p l e (rmO 0 0 0 0) s m args below meth c s.heap [] 0 0 Q (F0 m 10 ls [.int (nI y)]) := by
    intro y hy hyl ls hl
    refine lv_istore_n (lv' := [(3, .int (nI y)), (0, .int (nI x1)), (1, .int (nI x2)), (2, .int (nI i))]) hx hb dX5_digits_10 rfl hl (by decide) rfl (fun ls hl => ?_)
    refine lv_iload_n hx hb dX5_digits_11 rfl (lv_at hl 3 rfl) ?_
    refine lv_iconst (v := (nI 4)) hx hb dX5_digits_12 rfl ?_
    refine ln_irem hx hb (by omega) (by omega) (by omega) dX5_digits_13 ?_
    refine lv_istore (lv' := [(4, .int (nI (i % 4))), (3, .int (nI y)), (0, .int (nI x1)), (1, .int (nI x2)), (2, .int (nI i))]) hx hb dX5_digits_14 hl (by decide) rfl (fun ls hl => ?_)
    have lp16 : ∀ (n1 : Nat) (q : Nat) (v : Nat), q < n1 → (q ≤ i % 4) → (v = y / 100 ^ (i % 4 - q)) → (v < 2 ^ 31) → ∀ ls : Array Slot, lv_has ls 5 [(4, .int (nI q)), (3, .int (nI v)), (0, .int (nI x1)), (1, .int (nI x2)), (2, .int (nI i))] → W p l e (rmO 0 0 0 0) s m args below meth c s.heap [] 0 0 Q (F0 m 16 ls []) := by
      intro n1
      induction n1 with
      | zero => intro q v hm; exact absurd hm (Nat.not_lt_zero _)
      | succ n1 ih16 =>
        intro q v hm16 h1 h2 h3 ls hl
        refine lv_iload hx hb dX5_digits_16 (lv_at hl 0 rfl) ?_
        refine ln_if_le (tgt := 32) hx hb (by omega) dX5_digits_18 (by decide) (fun c18 => ?_) (fun c18 => ?_)
        · refine lv_iload_n hx hb dX5_digits_32 rfl (lv_at hl 1 rfl) ?_
          refine lv_bipush (v := (nI 100)) hx hb dX5_digits_33 rfl ?_
          refine ln_irem hx hb (by omega) (by omega) (by omega) dX5_digits_35 ?_
          exact hret 36 ls _ (by unfold tkN; rw [← hy, show (if i < 4 then i else i - 4) = i % 4 from by split <;> omega, h2, show i % 4 - q = i % 4 from by omega]) dX5_digits_36
        · refine lv_iload_n hx hb dX5_digits_21 rfl (lv_at hl 1 rfl) ?_
          refine lv_bipush (v := (nI 100)) hx hb dX5_digits_22 rfl ?_
          refine ln_idiv hx hb (by omega) (by omega) (by omega) dX5_digits_24 ?_
          refine lv_istore_n (lv' := [(3, .int (nI (v / 100))), (4, .int (nI q)), (0, .int (nI x1)), (1, .int (nI x2)), (2, .int (nI i))]) hx hb dX5_digits_25 rfl hl (by decide) rfl (fun ls hl => ?_)
          refine lv_iinc (v := (nI (q - 1))) (lv' := [(4, .int (nI (q - 1))), (3, .int (nI (v / 100))), (0, .int (nI x1)), (1, .int (nI x2)), (2, .int (nI i))]) hx hb dX5_digits_26 hl (k := 1) rfl (by rw [nI_m1] <;> omega) (by decide) rfl (fun ls hl => ?_)
          refine lv_goto (tgt := 16) hx hb dX5_digits_29 (by decide) ?_
          exact ih16 (q - 1) (v / 100) (by omega) (by omega) (by rw [h2, Nat.div_div_eq_div_mul, show i % 4 - (q - 1) = (i % 4 - q) + 1 from by omega, Nat.pow_succ]) (by omega) _ (lv_sub hl [0, 1, 2, 3, 4] rfl)
    exact lp16 _ (i % 4) y (Nat.lt_succ_self _) (Nat.le_refl _) (by rw [Nat.sub_self]; simp) hyl _ (lv_sub hl [0, 1, 2, 3, 4] rfl)
  refine lv_iload_n hx hb dX5_digits_0 rfl (lv_at hl 2 rfl) ?_
  refine lv_iconst (v := (nI 4)) hx hb dX5_digits_1 rfl ?_
  refine ln_icmp_ge (tgt := 9) hx hb (by omega) (by omega) dX5_digits_2 (by decide) (fun c2 => ?_) (fun c2 => ?_)
  · refine lv_iload_n hx hb dX5_digits_9 rfl (lv_at hl 1 rfl) ?_
    exact jn10 x2 (by first | (rw [if_pos (by omega)]; done) | (rw [if_neg (by omega)]; done)) (by omega) _ (lv_sub hl [0, 1, 2] rfl)
  · refine lv_iload_n hx hb dX5_digits_5 rfl (lv_at hl 0 rfl) ?_
    refine lv_goto (tgt := 10) hx hb dX5_digits_6 (by decide) ?_
    exact jn10 x1 (by first | (rw [if_pos (by omega)]; done) | (rw [if_neg (by omega)]; done)) (by omega) _ (lv_sub hl [0, 1, 2] rfl)

set_option maxHeartbeats 4000000 in
set_option maxRecDepth 100000 in
theorem kX5_pattern_ok (l : Launch) (D : va_G) (y3 : ClassId × ClassId × ClassId) (m0 : Nat) (m1 : Nat) (m2 : Nat) (m3 : Nat) (m4 : Nat) (m5 : Nat) (m6 : Nat) (m7 : Nat) (m8 : Nat) (m9 : Nat) (m10 : Nat) (m11 : Nat) (m12 : Nat) (m13 : Nat) (m14 : Nat) (m15 : Nat) (m16 : Nat) (m17 : Nat) (m18 : Nat) (nk : Nat) (np : Nat) (nr : Nat) (nl : Nat) (nb : Nat) (zo : Nat) (kp : Nat → Nat) (wt : Nat → Int32) (ln : Nat → Nat) (tk : Nat → Int32) (k : Int32) (wg : Int32) (tks : Int32) (q1 : Int32) (q2 : Int32) (hk : nk ≤ 14) (hnp : np ≤ 20) (hz : (ak3 (inB k nk) (ptB wg tks q1 q2) (decide (np < 20))) = 0) : wrM l yX5_pattern wsX5_pattern 2 43 0 0 D y3 [(m0, .inr (5, [.ref m1, .int (nI nk), .ref m2, .ref m3, .ref m4, .ref m5, .ref m6, .int (nI np), .ref m7, .ref m8, .ref m9, .ref m10, .ref m11, .ref m12, .ref m13, .ref m14, .int (nI nr), .ref m15, .int (nI nl), .ref m16, .int (nI nb), .ref m17, .ref m18, .int (nI zo)])), (m2, .inl (y3.1, 20, .inl (fN kp))), (m3, .inl (y3.1, 20, .inl wt)), (m4, .inl (y3.1, 20, .inl (fN ln))), (m5, .inl (y3.1, 160, .inl tk))] [.ref m0, .int k, .int wg, .int tks, .int q1, .int q2] (fun r (_ : Unit) => r = (nI np)) (fun (_ : Unit) => [(m0, .inr (5, [.ref m1, .int (nI nk), .ref m2, .ref m3, .ref m4, .ref m5, .ref m6, .int (nI (np + 1)), .ref m7, .ref m8, .ref m9, .ref m10, .ref m11, .ref m12, .ref m13, .ref m14, .int (nI nr), .ref m15, .int (nI nl), .ref m16, .int (nI nb), .ref m17, .ref m18, .int (nI 0)])), (m2, .inl (y3.1, 20, .inl (fN (va_up kp np k.toNatClampNeg)))), (m3, .inl (y3.1, 20, .inl (upd wt np wg))), (m4, .inl (y3.1, 20, .inl (fN (va_up ln np tks.toNatClampNeg)))), (m5, .inl (y3.1, 160, .inl (tkW tk np q1.toNatClampNeg q2.toNatClampNeg tks.toNatClampNeg)))]) := by
  refine wr_of (cc := cX5_pattern) (maxL := 8) (by decide) rfl (Nat.le_of_ble_eq_true rfl) ?_
  intro p e s m args below meth c A Q hx hb hml hown hts hP hK hD hA hS hret ls hl
  replace hl : lv_has ls 8 [(0, .ref m0), (1, .int k), (2, .int wg), (3, .int tks), (4, .int q1), (5, .int q2)] := hl
  have hf13 := hts (.fieldLink RX5 13 "KindGuesserModel" "patternOf" "[I") (by decide +kernel)
  have hf16 := hts (.fieldLink RX5 16 "KindGuesserModel" "weight" "[I") (by decide +kernel)
  have hf19 := hts (.fieldLink RX5 19 "KindGuesserModel" "tokens" "[I") (by decide +kernel)
  have hf22 := hts (.fieldLink RX5 22 "KindGuesserModel" "token" "[I") (by decide +kernel)
  have hf88 := hts (.fieldLink RX5 88 "KindGuesserModel" "patterns" "I") (by decide +kernel)
  have hiX5 : ∀ q ∈ wsX50, q ∈ wsX5_pattern := by decide +kernel
  have jn35 : ∀ (j1 : Bool), (j1 = (rgB wg (nI 0) (nI 100) && (rgB tks (nI 0) (nI 8) && (decide (0 ≤ q1) && decide (0 ≤ q2))))) → ∀ (H : Heap) (locs : List Loc), va_P D vwCl [(m0, .inr (5, [.ref m1, .int (nI nk), .ref m2, .ref m3, .ref m4, .ref m5, .ref m6, .int (nI np), .ref m7, .ref m8, .ref m9, .ref m10, .ref m11, .ref m12, .ref m13, .ref m14, .int (nI nr), .ref m15, .int (nI nl), .ref m16, .int (nI nb), .ref m17, .ref m18, .int (nI zo)])), (m2, .inl (y3.1, 20, .inl (fN kp))), (m3, .inl (y3.1, 20, .inl wt)), (m4, .inl (y3.1, 20, .inl (fN ln))), (m5, .inl (y3.1, 160, .inl tk))] H → va_D A [(m0, .inr (5, [.ref m1, .int (nI nk), .ref m2, .ref m3, .ref m4, .ref m5, .ref m6, .int (nI np), .ref m7, .ref m8, .ref m9, .ref m10, .ref m11, .ref m12, .ref m13, .ref m14, .int (nI nr), .ref m15, .int (nI nl), .ref m16, .int (nI nb), .ref m17, .ref m18, .int (nI zo)])), (m2, .inl (y3.1, 20, .inl (fN kp))), (m3, .inl (y3.1, 20, .inl wt)), (m4, .inl (y3.1, 20, .inl (fN ln))), (m5, .inl (y3.1, 160, .inl tk))] → va_S A s.heap H locs → ∀ ls : Array Slot, lv_has ls 8 [(0, .ref m0), (1, .int k), (2, .int wg), (3, .int tks), (4, .int q1), (5, .int q2)] → W p l e (rmO 2 0 0 43) s m args below meth c H locs 0 0 Q (F0 m 35 ls [.int (bI j1)]) := by
    intro j1 hj1 H locs hP hD hS ls hl
    refine lv_istore (lv' := [(6, .int (bI j1)), (0, .ref m0), (1, .int k), (2, .int wg), (3, .int tks), (4, .int q1), (5, .int q2)]) hx hb dX5_pattern_35 hl (by decide) rfl (fun ls hl => ?_)
    have jn78 : ∀ (g9 : Bool), (g9 = ptB wg tks q1 q2) → ∀ (H : Heap) (locs : List Loc), va_P D vwCl [(m0, .inr (5, [.ref m1, .int (nI nk), .ref m2, .ref m3, .ref m4, .ref m5, .ref m6, .int (nI np), .ref m7, .ref m8, .ref m9, .ref m10, .ref m11, .ref m12, .ref m13, .ref m14, .int (nI nr), .ref m15, .int (nI nl), .ref m16, .int (nI nb), .ref m17, .ref m18, .int (nI zo)])), (m2, .inl (y3.1, 20, .inl (fN kp))), (m3, .inl (y3.1, 20, .inl wt)), (m4, .inl (y3.1, 20, .inl (fN ln))), (m5, .inl (y3.1, 160, .inl tk))] H → va_D A [(m0, .inr (5, [.ref m1, .int (nI nk), .ref m2, .ref m3, .ref m4, .ref m5, .ref m6, .int (nI np), .ref m7, .ref m8, .ref m9, .ref m10, .ref m11, .ref m12, .ref m13, .ref m14, .int (nI nr), .ref m15, .int (nI nl), .ref m16, .int (nI nb), .ref m17, .ref m18, .int (nI zo)])), (m2, .inl (y3.1, 20, .inl (fN kp))), (m3, .inl (y3.1, 20, .inl wt)), (m4, .inl (y3.1, 20, .inl (fN ln))), (m5, .inl (y3.1, 160, .inl tk))] → va_S A s.heap H locs → ∀ ls : Array Slot, lv_has ls 8 [(6, .int (bI g9)), (0, .ref m0), (1, .int k), (2, .int wg), (3, .int tks), (4, .int q1), (5, .int q2)] → W p l e (rmO 2 0 0 43) s m args below meth c H locs 0 0 Q (F0 m 78 ls []) := by
      intro g9 hg9 H locs hP hD hS ls hl
      refine lv_aload_n hx hb dX5_pattern_78 rfl (lv_at hl 1 rfl) ?_
      refine lv_aload_n hx hb dX5_pattern_79 rfl (lv_at hl 1 rfl) ?_
      refine lv_iload_n hx hb dX5_pattern_80 rfl (lv_at hl 2 rfl) ?_
      refine rd_V (ci := 5) (q0 := 0) (own := RX5) (As := [.int k]) (rest := [.ref m0]) (bytes := cX5_isKind) (maxL := 2) ⟨hx, hb, hml, hown, hts⟩ (kX5_isKind l D y3 m0 m1 m2 m3 m4 m5 m6 m7 m8 m9 m10 m11 m12 m13 m14 m15 m16 m17 m18 nk np nr nl nb zo k (by omega)) gX5_pattern_X5_isKind rfl hvX5_isKind ⟨Nat.le_of_ble_eq_true rfl, Nat.le_of_ble_eq_true rfl⟩ hP hK [0] rfl rfl rfl hl.1 rfl (Nat.le_of_ble_eq_true rfl) dX5_pattern_81 ⟨Nat.le_of_ble_eq_true rfl, Nat.le_of_ble_eq_true rfl⟩ (fun r1 hr1 => ?_)
      subst hr1
      have jn100 : ∀ (j3 : Bool), (j3 = decide (np < 20)) → ∀ (H : Heap) (locs : List Loc), va_P D vwCl [(m0, .inr (5, [.ref m1, .int (nI nk), .ref m2, .ref m3, .ref m4, .ref m5, .ref m6, .int (nI np), .ref m7, .ref m8, .ref m9, .ref m10, .ref m11, .ref m12, .ref m13, .ref m14, .int (nI nr), .ref m15, .int (nI nl), .ref m16, .int (nI nb), .ref m17, .ref m18, .int (nI zo)])), (m2, .inl (y3.1, 20, .inl (fN kp))), (m3, .inl (y3.1, 20, .inl wt)), (m4, .inl (y3.1, 20, .inl (fN ln))), (m5, .inl (y3.1, 160, .inl tk))] H → va_D A [(m0, .inr (5, [.ref m1, .int (nI nk), .ref m2, .ref m3, .ref m4, .ref m5, .ref m6, .int (nI np), .ref m7, .ref m8, .ref m9, .ref m10, .ref m11, .ref m12, .ref m13, .ref m14, .int (nI nr), .ref m15, .int (nI nl), .ref m16, .int (nI nb), .ref m17, .ref m18, .int (nI zo)])), (m2, .inl (y3.1, 20, .inl (fN kp))), (m3, .inl (y3.1, 20, .inl wt)), (m4, .inl (y3.1, 20, .inl (fN ln))), (m5, .inl (y3.1, 160, .inl tk))] → va_S A s.heap H locs → ∀ ls : Array Slot, lv_has ls 8 [(6, .int (bI g9)), (0, .ref m0), (1, .int k), (2, .int wg), (3, .int tks), (4, .int q1), (5, .int q2)] → W p l e (rmO 2 0 0 43) s m args below meth c H locs 0 0 Q (F0 m 100 ls [.int (bI j3), .int (bI g9), .int (bI (inB k nk)), .ref m0]) := by
        intro j3 hj3 H locs hP hD hS ls hl
        refine wr_V (ci := 5) (q0 := 0) (own := RX5) (As := [.int (bI (inB k nk)), .int (bI g9), .int (bI j3)]) (rest := []) (bytes := cX5_asked__) (maxL := 4) (wr := [(m2, .inl (y3.1, 20, .inl (fN kp))), (m3, .inl (y3.1, 20, .inl wt)), (m4, .inl (y3.1, 20, .inl (fN ln))), (m5, .inl (y3.1, 160, .inl tk))]) (w3 := (fun (_ : Unit) => [(m0, .inr (5, [.ref m1, .int (nI nk), .ref m2, .ref m3, .ref m4, .ref m5, .ref m6, .int (nI np), .ref m7, .ref m8, .ref m9, .ref m10, .ref m11, .ref m12, .ref m13, .ref m14, .int (nI nr), .ref m15, .int (nI nl), .ref m16, .int (nI nb), .ref m17, .ref m18, .int (nI (ak3 (inB k nk) g9 j3))])), (m2, .inl (y3.1, 20, .inl (fN kp))), (m3, .inl (y3.1, 20, .inl wt)), (m4, .inl (y3.1, 20, .inl (fN ln))), (m5, .inl (y3.1, 160, .inl tk))])) ⟨hx, hb, hml, hown, hts⟩ (kX5_asked__ l D y3 m0 m1 m2 m3 m4 m5 m6 m7 m8 m9 m10 m11 m12 m13 m14 m15 m16 m17 m18 nk np nr nl nb zo (inB k nk) g9 j3) gX5_pattern_X5_asked__ rfl hvX5_asked__ ⟨Nat.le_of_ble_eq_true rfl, Nat.le_of_ble_eq_true rfl⟩ hP hK hD hS hA [0] [1, 2, 3, 4] [4, 0, 1, 2, 3] rfl rfl rfl rfl (by decide) (fun _ => rfl) rfl rfl rfl hl.1 rfl (Nat.le_of_ble_eq_true rfl) dX5_pattern_100 ⟨Nat.le_of_ble_eq_true rfl, Nat.le_of_ble_eq_true rfl⟩ (fun r2 u3 H locs hr2 hP hD hS => ?_)
        have hP : va_P D vwCl [(m0, .inr (5, [.ref m1, .int (nI nk), .ref m2, .ref m3, .ref m4, .ref m5, .ref m6, .int (nI np), .ref m7, .ref m8, .ref m9, .ref m10, .ref m11, .ref m12, .ref m13, .ref m14, .int (nI nr), .ref m15, .int (nI nl), .ref m16, .int (nI nb), .ref m17, .ref m18, .int (nI (ak3 (inB k nk) g9 j3))])), (m2, .inl (y3.1, 20, .inl (fN kp))), (m3, .inl (y3.1, 20, .inl wt)), (m4, .inl (y3.1, 20, .inl (fN ln))), (m5, .inl (y3.1, 160, .inl tk))] H := hP
        have hD : va_D A [(m0, .inr (5, [.ref m1, .int (nI nk), .ref m2, .ref m3, .ref m4, .ref m5, .ref m6, .int (nI np), .ref m7, .ref m8, .ref m9, .ref m10, .ref m11, .ref m12, .ref m13, .ref m14, .int (nI nr), .ref m15, .int (nI nl), .ref m16, .int (nI nb), .ref m17, .ref m18, .int (nI (ak3 (inB k nk) g9 j3))])), (m2, .inl (y3.1, 20, .inl (fN kp))), (m3, .inl (y3.1, 20, .inl wt)), (m4, .inl (y3.1, 20, .inl (fN ln))), (m5, .inl (y3.1, 160, .inl tk))] := hD
        subst hr2
        refine lb_if_ne (tgt := 108) hx hb dX5_pattern_103 (by decide) (fun c103 => ?_) (fun c103 => ?_)
        · obtain ⟨hA1, hA2, hA3⟩ := ak3_a hz
          have hlt : np < 20 := of_decide_eq_true hA3
          obtain ⟨ek, hkn⟩ := inB_c hA1 (by omega)
          obtain ⟨et, htn, e1, hx1, e2, hx2⟩ := pt_e (ptB_0 hA2)
          refine lv_aload_n hx hb dX5_pattern_108 rfl (lv_at hl 1 rfl) ?_
          refine va_get (D := D) (ci := 5) (v := .ref m2) (C := RX5) (T := TX5) (N := 24) hx hb hts hiX5 hown hK hP 0 rfl rfl 2 (by decide) hf13 (fun _ h9 => h9) rfl dX5_pattern_109 ?_
          refine lv_aload_n hx hb dX5_pattern_112 rfl (lv_at hl 1 rfl) ?_
          refine va_get (D := D) (ci := 5) (v := .int (nI np)) (C := RX5) (T := TX5) (N := 24) hx hb hts hiX5 hown hK hP 0 rfl rfl 7 (by decide) hf88 (fun _ h9 => h9) rfl dX5_pattern_113 ?_
          refine lv_iload_n hx hb dX5_pattern_116 rfl (lv_at hl 2 rfl) ?_
          refine ln_eqi (y := (nI k.toNatClampNeg)) ek ?_
          refine ln_iastN hx hb hK hP hD hS 1 0 rfl rfl (by omega) (by decide) dX5_pattern_117 _ rfl (fun H locs hP hD hS => ?_)
          have hP : va_P D vwCl [(m0, .inr (5, [.ref m1, .int (nI nk), .ref m2, .ref m3, .ref m4, .ref m5, .ref m6, .int (nI np), .ref m7, .ref m8, .ref m9, .ref m10, .ref m11, .ref m12, .ref m13, .ref m14, .int (nI nr), .ref m15, .int (nI nl), .ref m16, .int (nI nb), .ref m17, .ref m18, .int (nI (ak3 (inB k nk) g9 j3))])), (m2, .inl (y3.1, 20, .inl (fN (va_up kp np k.toNatClampNeg)))), (m3, .inl (y3.1, 20, .inl wt)), (m4, .inl (y3.1, 20, .inl (fN ln))), (m5, .inl (y3.1, 160, .inl tk))] H := hP
          have hD : va_D A [(m0, .inr (5, [.ref m1, .int (nI nk), .ref m2, .ref m3, .ref m4, .ref m5, .ref m6, .int (nI np), .ref m7, .ref m8, .ref m9, .ref m10, .ref m11, .ref m12, .ref m13, .ref m14, .int (nI nr), .ref m15, .int (nI nl), .ref m16, .int (nI nb), .ref m17, .ref m18, .int (nI (ak3 (inB k nk) g9 j3))])), (m2, .inl (y3.1, 20, .inl (fN (va_up kp np k.toNatClampNeg)))), (m3, .inl (y3.1, 20, .inl wt)), (m4, .inl (y3.1, 20, .inl (fN ln))), (m5, .inl (y3.1, 160, .inl tk))] := hD
          refine lv_aload_n hx hb dX5_pattern_118 rfl (lv_at hl 1 rfl) ?_
          refine va_get (D := D) (ci := 5) (v := .ref m3) (C := RX5) (T := TX5) (N := 24) hx hb hts hiX5 hown hK hP 0 rfl rfl 3 (by decide) hf16 (fun _ h9 => h9) rfl dX5_pattern_119 ?_
          refine lv_aload_n hx hb dX5_pattern_122 rfl (lv_at hl 1 rfl) ?_
          refine va_get (D := D) (ci := 5) (v := .int (nI np)) (C := RX5) (T := TX5) (N := 24) hx hb hts hiX5 hown hK hP 0 rfl rfl 7 (by decide) hf88 (fun _ h9 => h9) rfl dX5_pattern_123 ?_
          refine lv_iload_n hx hb dX5_pattern_126 rfl (lv_at hl 3 rfl) ?_
          refine ln_iast hx hb hK hP hD hS 2 0 rfl rfl (by omega) (by decide) dX5_pattern_127 _ rfl (fun H locs hP hD hS => ?_)
          have hP : va_P D vwCl [(m0, .inr (5, [.ref m1, .int (nI nk), .ref m2, .ref m3, .ref m4, .ref m5, .ref m6, .int (nI np), .ref m7, .ref m8, .ref m9, .ref m10, .ref m11, .ref m12, .ref m13, .ref m14, .int (nI nr), .ref m15, .int (nI nl), .ref m16, .int (nI nb), .ref m17, .ref m18, .int (nI (ak3 (inB k nk) g9 j3))])), (m2, .inl (y3.1, 20, .inl (fN (va_up kp np k.toNatClampNeg)))), (m3, .inl (y3.1, 20, .inl (upd wt np wg))), (m4, .inl (y3.1, 20, .inl (fN ln))), (m5, .inl (y3.1, 160, .inl tk))] H := hP
          have hD : va_D A [(m0, .inr (5, [.ref m1, .int (nI nk), .ref m2, .ref m3, .ref m4, .ref m5, .ref m6, .int (nI np), .ref m7, .ref m8, .ref m9, .ref m10, .ref m11, .ref m12, .ref m13, .ref m14, .int (nI nr), .ref m15, .int (nI nl), .ref m16, .int (nI nb), .ref m17, .ref m18, .int (nI (ak3 (inB k nk) g9 j3))])), (m2, .inl (y3.1, 20, .inl (fN (va_up kp np k.toNatClampNeg)))), (m3, .inl (y3.1, 20, .inl (upd wt np wg))), (m4, .inl (y3.1, 20, .inl (fN ln))), (m5, .inl (y3.1, 160, .inl tk))] := hD
          refine lv_aload_n hx hb dX5_pattern_128 rfl (lv_at hl 1 rfl) ?_
          refine va_get (D := D) (ci := 5) (v := .ref m4) (C := RX5) (T := TX5) (N := 24) hx hb hts hiX5 hown hK hP 0 rfl rfl 4 (by decide) hf19 (fun _ h9 => h9) rfl dX5_pattern_129 ?_
          refine lv_aload_n hx hb dX5_pattern_132 rfl (lv_at hl 1 rfl) ?_
          refine va_get (D := D) (ci := 5) (v := .int (nI np)) (C := RX5) (T := TX5) (N := 24) hx hb hts hiX5 hown hK hP 0 rfl rfl 7 (by decide) hf88 (fun _ h9 => h9) rfl dX5_pattern_133 ?_
          refine lv_iload_n hx hb dX5_pattern_136 rfl (lv_at hl 4 rfl) ?_
          refine ln_eqi (y := (nI tks.toNatClampNeg)) et ?_
          refine ln_iastN hx hb hK hP hD hS 3 0 rfl rfl (by omega) (by decide) dX5_pattern_137 _ rfl (fun H locs hP hD hS => ?_)
          have hP : va_P D vwCl [(m0, .inr (5, [.ref m1, .int (nI nk), .ref m2, .ref m3, .ref m4, .ref m5, .ref m6, .int (nI np), .ref m7, .ref m8, .ref m9, .ref m10, .ref m11, .ref m12, .ref m13, .ref m14, .int (nI nr), .ref m15, .int (nI nl), .ref m16, .int (nI nb), .ref m17, .ref m18, .int (nI (ak3 (inB k nk) g9 j3))])), (m2, .inl (y3.1, 20, .inl (fN (va_up kp np k.toNatClampNeg)))), (m3, .inl (y3.1, 20, .inl (upd wt np wg))), (m4, .inl (y3.1, 20, .inl (fN (va_up ln np tks.toNatClampNeg)))), (m5, .inl (y3.1, 160, .inl tk))] H := hP
          have hD : va_D A [(m0, .inr (5, [.ref m1, .int (nI nk), .ref m2, .ref m3, .ref m4, .ref m5, .ref m6, .int (nI np), .ref m7, .ref m8, .ref m9, .ref m10, .ref m11, .ref m12, .ref m13, .ref m14, .int (nI nr), .ref m15, .int (nI nl), .ref m16, .int (nI nb), .ref m17, .ref m18, .int (nI (ak3 (inB k nk) g9 j3))])), (m2, .inl (y3.1, 20, .inl (fN (va_up kp np k.toNatClampNeg)))), (m3, .inl (y3.1, 20, .inl (upd wt np wg))), (m4, .inl (y3.1, 20, .inl (fN (va_up ln np tks.toNatClampNeg)))), (m5, .inl (y3.1, 160, .inl tk))] := hD
          refine lv_iconst (v := (nI 0)) hx hb dX5_pattern_138 rfl ?_
          refine lv_istore (lv' := [(7, .int (nI 0)), (6, .int (bI g9)), (0, .ref m0), (1, .int k), (2, .int wg), (3, .int tks), (4, .int q1), (5, .int q2)]) hx hb dX5_pattern_139 hl (by decide) rfl (fun ls hl => ?_)
          have lp141 : ∀ (n4 : Nat) (w9 : Nat), tks.toNatClampNeg - w9 < n4 → (w9 ≤ tks.toNatClampNeg) → ∀ (H : Heap) (locs : List Loc), va_P D vwCl [(m0, .inr (5, [.ref m1, .int (nI nk), .ref m2, .ref m3, .ref m4, .ref m5, .ref m6, .int (nI np), .ref m7, .ref m8, .ref m9, .ref m10, .ref m11, .ref m12, .ref m13, .ref m14, .int (nI nr), .ref m15, .int (nI nl), .ref m16, .int (nI nb), .ref m17, .ref m18, .int (nI (ak3 (inB k nk) g9 j3))])), (m2, .inl (y3.1, 20, .inl (fN (va_up kp np k.toNatClampNeg)))), (m3, .inl (y3.1, 20, .inl (upd wt np wg))), (m4, .inl (y3.1, 20, .inl (fN (va_up ln np tks.toNatClampNeg)))), (m5, .inl (y3.1, 160, .inl (tkW tk np q1.toNatClampNeg q2.toNatClampNeg w9)))] H → va_D A [(m0, .inr (5, [.ref m1, .int (nI nk), .ref m2, .ref m3, .ref m4, .ref m5, .ref m6, .int (nI np), .ref m7, .ref m8, .ref m9, .ref m10, .ref m11, .ref m12, .ref m13, .ref m14, .int (nI nr), .ref m15, .int (nI nl), .ref m16, .int (nI nb), .ref m17, .ref m18, .int (nI (ak3 (inB k nk) g9 j3))])), (m2, .inl (y3.1, 20, .inl (fN (va_up kp np k.toNatClampNeg)))), (m3, .inl (y3.1, 20, .inl (upd wt np wg))), (m4, .inl (y3.1, 20, .inl (fN (va_up ln np tks.toNatClampNeg)))), (m5, .inl (y3.1, 160, .inl (tkW tk np q1.toNatClampNeg q2.toNatClampNeg w9)))] → va_S A s.heap H locs → ∀ ls : Array Slot, lv_has ls 8 [(7, .int (nI w9)), (6, .int (bI g9)), (0, .ref m0), (1, .int k), (2, .int wg), (3, .int tks), (4, .int q1), (5, .int q2)] → W p l e (rmO 2 0 0 43) s m args below meth c H locs 0 0 Q (F0 m 141 ls []) := by
            intro n4
            induction n4 with
            | zero => intro w9 hm; exact absurd hm (Nat.not_lt_zero _)
            | succ n4 ih141 =>
              intro w9 hm141 h3 H locs hP hD hS ls hl
              refine lv_iload hx hb dX5_pattern_141 (lv_at hl 0 rfl) ?_
              refine lv_iload_n hx hb dX5_pattern_143 rfl (lv_at hl 5 rfl) ?_
              refine ln_eqi (y := (nI tks.toNatClampNeg)) et ?_
              refine ln_icmp_ge (tgt := 177) hx hb (by omega) (by omega) dX5_pattern_144 (by decide) (fun c144 => ?_) (fun c144 => ?_)
              · refine lv_aload_n hx hb dX5_pattern_177 rfl (lv_at hl 2 rfl) ?_
                refine lv_dup hx hb dX5_pattern_178 rfl ?_
                refine va_get (D := D) (ci := 5) (v := .int (nI np)) (C := RX5) (T := TX5) (N := 24) hx hb hts hiX5 hown hK hP 0 rfl rfl 7 (by decide) hf88 (fun _ h9 => h9) rfl dX5_pattern_179 ?_
                refine lv_iconst (v := (nI 1)) hx hb dX5_pattern_182 rfl ?_
                refine ln_iadd (n := np + 1) hx hb rfl dX5_pattern_183 ?_
                refine va_put (D := D) (ci := 5) (v := .int (nI (np + 1))) (ty := .int) (C := RX5) (T := TX5) (N := 24) hx hb hts hiX5 tyX5 tyX5_ok nmX5 hown hK hP hD hS 0 rfl rfl 7 (by decide) hf88 (fun _ h9 => h9) rfl (by decide +kernel) rfl rfl (Nat.le_of_ble_eq_true rfl) dX5_pattern_184 (fun H locs hP hD hS => ?_)
                have hP : va_P D vwCl [(m0, .inr (5, [.ref m1, .int (nI nk), .ref m2, .ref m3, .ref m4, .ref m5, .ref m6, .int (nI (np + 1)), .ref m7, .ref m8, .ref m9, .ref m10, .ref m11, .ref m12, .ref m13, .ref m14, .int (nI nr), .ref m15, .int (nI nl), .ref m16, .int (nI nb), .ref m17, .ref m18, .int (nI (ak3 (inB k nk) g9 j3))])), (m2, .inl (y3.1, 20, .inl (fN (va_up kp np k.toNatClampNeg)))), (m3, .inl (y3.1, 20, .inl (upd wt np wg))), (m4, .inl (y3.1, 20, .inl (fN (va_up ln np tks.toNatClampNeg)))), (m5, .inl (y3.1, 160, .inl (tkW tk np q1.toNatClampNeg q2.toNatClampNeg w9)))] H := hP
                have hD : va_D A [(m0, .inr (5, [.ref m1, .int (nI nk), .ref m2, .ref m3, .ref m4, .ref m5, .ref m6, .int (nI (np + 1)), .ref m7, .ref m8, .ref m9, .ref m10, .ref m11, .ref m12, .ref m13, .ref m14, .int (nI nr), .ref m15, .int (nI nl), .ref m16, .int (nI nb), .ref m17, .ref m18, .int (nI (ak3 (inB k nk) g9 j3))])), (m2, .inl (y3.1, 20, .inl (fN (va_up kp np k.toNatClampNeg)))), (m3, .inl (y3.1, 20, .inl (upd wt np wg))), (m4, .inl (y3.1, 20, .inl (fN (va_up ln np tks.toNatClampNeg)))), (m5, .inl (y3.1, 160, .inl (tkW tk np q1.toNatClampNeg q2.toNatClampNeg w9)))] := hD
                refine lv_aload_n hx hb dX5_pattern_187 rfl (lv_at hl 2 rfl) ?_
                refine va_get (D := D) (ci := 5) (v := .int (nI (np + 1))) (C := RX5) (T := TX5) (N := 24) hx hb hts hiX5 hown hK hP 0 rfl rfl 7 (by decide) hf88 (fun _ h9 => h9) rfl dX5_pattern_188 ?_
                refine lv_iconst (v := (nI 1)) hx hb dX5_pattern_191 rfl ?_
                refine ln_isub (n := np) hx hb (by omega) (by omega) dX5_pattern_192 ?_
                rw [show w9 = tks.toNatClampNeg from by omega] at hP hD
                rw [show ak3 (inB k nk) g9 j3 = 0 from by rw [hg9, hj3]; exact hz] at hP hD
                exact hret 193 ls H locs _ _ () _ hP hD hS (Nat.le_of_ble_eq_true rfl) (Nat.le_of_ble_eq_true rfl) rfl dX5_pattern_193
              · refine lv_aload_n hx hb dX5_pattern_147 rfl (lv_at hl 2 rfl) ?_
                refine va_get (D := D) (ci := 5) (v := .ref m5) (C := RX5) (T := TX5) (N := 24) hx hb hts hiX5 hown hK hP 0 rfl rfl 5 (by decide) hf22 (fun _ h9 => h9) rfl dX5_pattern_148 ?_
                refine lv_bipush (v := (nI 8)) hx hb dX5_pattern_151 rfl ?_
                refine lv_aload_n hx hb dX5_pattern_153 rfl (lv_at hl 2 rfl) ?_
                refine va_get (D := D) (ci := 5) (v := .int (nI np)) (C := RX5) (T := TX5) (N := 24) hx hb hts hiX5 hown hK hP 0 rfl rfl 7 (by decide) hf88 (fun _ h9 => h9) rfl dX5_pattern_154 ?_
                refine ln_imul (n := (np * 8)) hx hb (by omega) dX5_pattern_157 ?_
                refine lv_iload hx hb dX5_pattern_158 (lv_at hl 0 rfl) ?_
                refine ln_iadd (n := (np * 8) + w9) hx hb rfl dX5_pattern_160 ?_
                refine lv_iload hx hb dX5_pattern_161 (lv_at hl 6 rfl) ?_
                refine ln_eqi (y := (nI q1.toNatClampNeg)) e1 ?_
                refine lv_iload hx hb dX5_pattern_163 (lv_at hl 7 rfl) ?_
                refine ln_eqi (y := (nI q2.toNatClampNeg)) e2 ?_
                refine lv_iload hx hb dX5_pattern_165 (lv_at hl 0 rfl) ?_
                refine rd_S (own := RX5) (As := [.int (nI q1.toNatClampNeg), .int (nI q2.toNatClampNeg), .int (nI w9)]) (rest := [.int (nI ((np * 8) + w9)), .ref m5]) (bytes := cX5_digits) (maxL := 5) ⟨hx, hb, hml, hown, hts⟩ (kX5_digits l D y3 q1.toNatClampNeg q2.toNatClampNeg w9 (by omega) (by omega) (by omega)) gX5_pattern_X5_digits rfl hvX5_digits ⟨Nat.le_of_ble_eq_true rfl, Nat.le_of_ble_eq_true rfl⟩ hP hK [] rfl  hl.1 rfl (Nat.le_of_ble_eq_true rfl) dX5_pattern_167 ⟨Nat.le_of_ble_eq_true rfl, Nat.le_of_ble_eq_true rfl⟩ (fun r5 hr5 => ?_)
                subst hr5
                refine ln_iast hx hb hK hP hD hS 4 0 rfl rfl (by omega) (by decide) dX5_pattern_170 _ rfl (fun H locs hP hD hS => ?_)
                have hP : va_P D vwCl [(m0, .inr (5, [.ref m1, .int (nI nk), .ref m2, .ref m3, .ref m4, .ref m5, .ref m6, .int (nI np), .ref m7, .ref m8, .ref m9, .ref m10, .ref m11, .ref m12, .ref m13, .ref m14, .int (nI nr), .ref m15, .int (nI nl), .ref m16, .int (nI nb), .ref m17, .ref m18, .int (nI (ak3 (inB k nk) g9 j3))])), (m2, .inl (y3.1, 20, .inl (fN (va_up kp np k.toNatClampNeg)))), (m3, .inl (y3.1, 20, .inl (upd wt np wg))), (m4, .inl (y3.1, 20, .inl (fN (va_up ln np tks.toNatClampNeg)))), (m5, .inl (y3.1, 160, .inl (upd (tkW tk np q1.toNatClampNeg q2.toNatClampNeg w9) ((np * 8) + w9) (nI (tkN w9 q1.toNatClampNeg q2.toNatClampNeg)))))] H := hP
                have hD : va_D A [(m0, .inr (5, [.ref m1, .int (nI nk), .ref m2, .ref m3, .ref m4, .ref m5, .ref m6, .int (nI np), .ref m7, .ref m8, .ref m9, .ref m10, .ref m11, .ref m12, .ref m13, .ref m14, .int (nI nr), .ref m15, .int (nI nl), .ref m16, .int (nI nb), .ref m17, .ref m18, .int (nI (ak3 (inB k nk) g9 j3))])), (m2, .inl (y3.1, 20, .inl (fN (va_up kp np k.toNatClampNeg)))), (m3, .inl (y3.1, 20, .inl (upd wt np wg))), (m4, .inl (y3.1, 20, .inl (fN (va_up ln np tks.toNatClampNeg)))), (m5, .inl (y3.1, 160, .inl (upd (tkW tk np q1.toNatClampNeg q2.toNatClampNeg w9) ((np * 8) + w9) (nI (tkN w9 q1.toNatClampNeg q2.toNatClampNeg)))))] := hD
                refine lv_iinc (v := (nI (w9 + 1))) (lv' := [(7, .int (nI (w9 + 1))), (6, .int (bI g9)), (0, .ref m0), (1, .int k), (2, .int wg), (3, .int tks), (4, .int q1), (5, .int q2)]) hx hb dX5_pattern_171 hl (k := 0) rfl (nI_add _ _) (by decide) rfl (fun ls hl => ?_)
                refine lv_goto (tgt := 141) hx hb dX5_pattern_174 (by decide) ?_
                exact ih141 (w9 + 1) (by omega) (by omega) _ _ hP hD hS _ (lv_sub hl [0, 1, 2, 3, 4, 5, 6, 7] rfl)
          exact lp141 _ 0 (Nat.lt_succ_self _) (Nat.zero_le _) _ _ hP hD hS _ (lv_sub hl [0, 1, 2, 3, 4, 5, 6, 7] rfl)
        · rw [hg9, hj3] at c103; rw [ak3_t hz] at c103; cases c103
      refine lv_iload hx hb dX5_pattern_84 (lv_at hl 0 rfl) ?_
      refine lv_aload_n hx hb dX5_pattern_86 rfl (lv_at hl 1 rfl) ?_
      refine va_get (D := D) (ci := 5) (v := .int (nI np)) (C := RX5) (T := TX5) (N := 24) hx hb hts hiX5 hown hK hP 0 rfl rfl 7 (by decide) hf88 (fun _ h9 => h9) rfl dX5_pattern_87 ?_
      refine lv_bipush (v := (nI 20)) hx hb dX5_pattern_90 rfl ?_
      refine ln_icmp_ge (tgt := 99) hx hb (by omega) (by omega) dX5_pattern_92 (by decide) (fun c92 => ?_) (fun c92 => ?_)
      · refine lv_iconst (v := (nI 0)) hx hb dX5_pattern_99 rfl ?_
        exact jn100 false (by first | exact (decide_eq_true (by omega)).symm | exact (decide_eq_false (by omega)).symm) _ _ hP hD hS _ (lv_sub hl [0, 1, 2, 3, 4, 5, 6] rfl)
      · refine lv_iconst (v := (nI 1)) hx hb dX5_pattern_95 rfl ?_
        refine lv_goto (tgt := 100) hx hb dX5_pattern_96 (by decide) ?_
        exact jn100 true (by first | exact (decide_eq_true (by omega)).symm | exact (decide_eq_false (by omega)).symm) _ _ hP hD hS _ (lv_sub hl [0, 1, 2, 3, 4, 5, 6] rfl)
    refine lv_iconst (v := (nI 0)) hx hb dX5_pattern_37 rfl ?_
    refine lv_istore (lv' := [(7, .int (nI 0)), (6, .int (bI j1)), (0, .ref m0), (1, .int k), (2, .int wg), (3, .int tks), (4, .int q1), (5, .int q2)]) hx hb dX5_pattern_38 hl (by decide) rfl (fun ls hl => ?_)
    have lp40 : ∀ (n6 : Nat) (i : Nat) (g : Bool), 8 - i < n6 → (i ≤ 8) → (g = (j1 && alB (fun z => decide (tkN z q1.toNatClampNeg q2.toNatClampNeg ≤ 11)) i)) → (j1 = true → i ≤ tks.toNatClampNeg) → ∀ (H : Heap) (locs : List Loc), va_P D vwCl [(m0, .inr (5, [.ref m1, .int (nI nk), .ref m2, .ref m3, .ref m4, .ref m5, .ref m6, .int (nI np), .ref m7, .ref m8, .ref m9, .ref m10, .ref m11, .ref m12, .ref m13, .ref m14, .int (nI nr), .ref m15, .int (nI nl), .ref m16, .int (nI nb), .ref m17, .ref m18, .int (nI zo)])), (m2, .inl (y3.1, 20, .inl (fN kp))), (m3, .inl (y3.1, 20, .inl wt)), (m4, .inl (y3.1, 20, .inl (fN ln))), (m5, .inl (y3.1, 160, .inl tk))] H → va_D A [(m0, .inr (5, [.ref m1, .int (nI nk), .ref m2, .ref m3, .ref m4, .ref m5, .ref m6, .int (nI np), .ref m7, .ref m8, .ref m9, .ref m10, .ref m11, .ref m12, .ref m13, .ref m14, .int (nI nr), .ref m15, .int (nI nl), .ref m16, .int (nI nb), .ref m17, .ref m18, .int (nI zo)])), (m2, .inl (y3.1, 20, .inl (fN kp))), (m3, .inl (y3.1, 20, .inl wt)), (m4, .inl (y3.1, 20, .inl (fN ln))), (m5, .inl (y3.1, 160, .inl tk))] → va_S A s.heap H locs → ∀ ls : Array Slot, lv_has ls 8 [(7, .int (nI i)), (6, .int (bI g)), (0, .ref m0), (1, .int k), (2, .int wg), (3, .int tks), (4, .int q1), (5, .int q2)] → W p l e (rmO 2 0 0 43) s m args below meth c H locs 0 0 Q (F0 m 40 ls []) := by
      intro n6
      induction n6 with
      | zero => intro i g hm; exact absurd hm (Nat.not_lt_zero _)
      | succ n6 ih40 =>
        intro i g hm40 h8 hg h9 H locs hP hD hS ls hl
        refine lv_iload hx hb dX5_pattern_40 (lv_at hl 0 rfl) ?_
        refine lv_iload_n hx hb dX5_pattern_42 rfl (lv_at hl 5 rfl) ?_
        refine lv_icmp_ge (tgt := 78) hx hb dX5_pattern_43 (by decide) (fun c43 => ?_) (fun c43 => ?_)
        · exact jn78 g (pt_fin hj1 hg h9 (by first | exact Or.inl c43 | exact Or.inr c48)) _ _ hP hD hS _ (lv_sub hl [1, 2, 3, 4, 5, 6, 7] rfl)
        · refine lv_iload hx hb dX5_pattern_46 (lv_at hl 1 rfl) ?_
          refine lb_if_eq (tgt := 78) hx hb dX5_pattern_48 (by decide) (fun c48 => ?_) (fun c48 => ?_)
          · exact jn78 g (pt_fin hj1 hg h9 (by first | exact Or.inl c43 | exact Or.inr c48)) _ _ hP hD hS _ (lv_sub hl [1, 2, 3, 4, 5, 6, 7] rfl)
          · have hx9 : j1 = true := pt_j hg c48
            obtain ⟨et, htn, e1, hx1, e2, hx2⟩ := pt_e (hj1.symm.trans hx9)
            have hi9 := pt_lt2 et htn h8 c43
            refine lv_iload hx hb dX5_pattern_51 (lv_at hl 6 rfl) ?_
            refine ln_eqi (y := (nI q1.toNatClampNeg)) e1 ?_
            refine lv_iload hx hb dX5_pattern_53 (lv_at hl 7 rfl) ?_
            refine ln_eqi (y := (nI q2.toNatClampNeg)) e2 ?_
            refine lv_iload hx hb dX5_pattern_55 (lv_at hl 0 rfl) ?_
            refine rd_S (own := RX5) (As := [.int (nI q1.toNatClampNeg), .int (nI q2.toNatClampNeg), .int (nI i)]) (rest := []) (bytes := cX5_digits) (maxL := 5) ⟨hx, hb, hml, hown, hts⟩ (kX5_digits l D y3 q1.toNatClampNeg q2.toNatClampNeg i (by omega) (by omega) (by omega)) gX5_pattern_X5_digits rfl hvX5_digits ⟨Nat.le_of_ble_eq_true rfl, Nat.le_of_ble_eq_true rfl⟩ hP hK [] rfl  hl.1 rfl (Nat.le_of_ble_eq_true rfl) dX5_pattern_57 ⟨Nat.le_of_ble_eq_true rfl, Nat.le_of_ble_eq_true rfl⟩ (fun r7 hr7 => ?_)
            subst hr7
            refine lv_bipush (v := (nI 11)) hx hb dX5_pattern_60 rfl ?_
            refine ln_icmp_gt (tgt := 69) hx hb (Nat.lt_trans (tkN_lt _ _ _) (by omega)) (by omega) dX5_pattern_62 (by decide) (fun c62 => ?_) (fun c62 => ?_)
            · refine lv_iconst (v := (nI 0)) hx hb dX5_pattern_69 rfl ?_
              refine lv_istore (lv' := [(6, .int (nI 0)), (7, .int (nI i)), (0, .ref m0), (1, .int k), (2, .int wg), (3, .int tks), (4, .int q1), (5, .int q2)]) hx hb dX5_pattern_70 hl (by decide) rfl (fun ls hl => ?_)
              refine lv_iinc (v := (nI (i + 1))) (lv' := [(7, .int (nI (i + 1))), (6, .int (nI 0)), (0, .ref m0), (1, .int k), (2, .int wg), (3, .int tks), (4, .int q1), (5, .int q2)]) hx hb dX5_pattern_72 hl (k := 1) rfl (nI_add _ _) (by decide) rfl (fun ls hl => ?_)
              refine lv_goto (tgt := 40) hx hb dX5_pattern_75 (by decide) ?_
              exact ih40 (i + 1) false (by omega) (by omega) (by rw [pt_s hg c48]; first | exact (decide_eq_true (by omega)).symm | exact (decide_eq_false (by omega)).symm) (fun _ => hi9) _ _ hP hD hS _ (lv_sub hl [0, 1, 2, 3, 4, 5, 6, 7] rfl)
            · refine lv_iconst (v := (nI 1)) hx hb dX5_pattern_65 rfl ?_
              refine lv_goto (tgt := 70) hx hb dX5_pattern_66 (by decide) ?_
              refine lv_istore (lv' := [(6, .int (nI 1)), (7, .int (nI i)), (0, .ref m0), (1, .int k), (2, .int wg), (3, .int tks), (4, .int q1), (5, .int q2)]) hx hb dX5_pattern_70 hl (by decide) rfl (fun ls hl => ?_)
              refine lv_iinc (v := (nI (i + 1))) (lv' := [(7, .int (nI (i + 1))), (6, .int (nI 1)), (0, .ref m0), (1, .int k), (2, .int wg), (3, .int tks), (4, .int q1), (5, .int q2)]) hx hb dX5_pattern_72 hl (k := 1) rfl (nI_add _ _) (by decide) rfl (fun ls hl => ?_)
              refine lv_goto (tgt := 40) hx hb dX5_pattern_75 (by decide) ?_
              exact ih40 (i + 1) true (by omega) (by omega) (by rw [pt_s hg c48]; first | exact (decide_eq_true (by omega)).symm | exact (decide_eq_false (by omega)).symm) (fun _ => hi9) _ _ hP hD hS _ (lv_sub hl [0, 1, 2, 3, 4, 5, 6, 7] rfl)
    exact lp40 _ 0 j1 (Nat.lt_succ_self _) (Nat.zero_le _) (by show j1 = (j1 && true); rw [Bool.and_true]) (fun _ => Nat.zero_le _) _ _ hP hD hS _ (lv_sub hl [0, 1, 2, 3, 4, 5, 6, 7] rfl)
  refine lv_iload_n hx hb dX5_pattern_0 rfl (lv_at hl 2 rfl) ?_
  refine lv_iconst (v := (nI 0)) hx hb dX5_pattern_1 rfl ?_
  refine lv_bipush (v := (nI 100)) hx hb dX5_pattern_2 rfl ?_
  refine rd_S (own := RX5) (As := [.int wg, .int (nI 0), .int (nI 100)]) (rest := []) (bytes := cX5_in) (maxL := 3) ⟨hx, hb, hml, hown, hts⟩ (kX5_in l D y3 wg (nI 0) (nI 100)) gX5_pattern_X5_in rfl hvX5_in ⟨Nat.le_of_ble_eq_true rfl, Nat.le_of_ble_eq_true rfl⟩ hP hK [] rfl  hl.1 rfl (Nat.le_of_ble_eq_true rfl) dX5_pattern_4 ⟨Nat.le_of_ble_eq_true rfl, Nat.le_of_ble_eq_true rfl⟩ (fun r8 hr8 => ?_)
  subst hr8
  refine lb_if_eq (tgt := 34) hx hb dX5_pattern_7 (by decide) (fun c7 => ?_) (fun c7 => ?_)
  · refine lv_iconst (v := (nI 0)) hx hb dX5_pattern_34 rfl ?_
    exact jn35 false (by first | (rw [c7]; rfl) | (rw [c7, c17]; rfl) | (rw [c7, c17, decide_eq_false (Int32.not_le.mpr c22)]; rfl) | (rw [c7, c17, decide_eq_false (Int32.not_le.mpr c27)]; simp)) _ _ hP hD hS _ (lv_sub hl [0, 1, 2, 3, 4, 5] rfl)
  · refine lv_iload_n hx hb dX5_pattern_10 rfl (lv_at hl 3 rfl) ?_
    refine lv_iconst (v := (nI 0)) hx hb dX5_pattern_11 rfl ?_
    refine lv_bipush (v := (nI 8)) hx hb dX5_pattern_12 rfl ?_
    refine rd_S (own := RX5) (As := [.int tks, .int (nI 0), .int (nI 8)]) (rest := []) (bytes := cX5_in) (maxL := 3) ⟨hx, hb, hml, hown, hts⟩ (kX5_in l D y3 tks (nI 0) (nI 8)) gX5_pattern_X5_in rfl hvX5_in ⟨Nat.le_of_ble_eq_true rfl, Nat.le_of_ble_eq_true rfl⟩ hP hK [] rfl  hl.1 rfl (Nat.le_of_ble_eq_true rfl) dX5_pattern_14 ⟨Nat.le_of_ble_eq_true rfl, Nat.le_of_ble_eq_true rfl⟩ (fun r9 hr9 => ?_)
    subst hr9
    refine lb_if_eq (tgt := 34) hx hb dX5_pattern_17 (by decide) (fun c17 => ?_) (fun c17 => ?_)
    · refine lv_iconst (v := (nI 0)) hx hb dX5_pattern_34 rfl ?_
      exact jn35 false (by first | (rw [c7]; rfl) | (rw [c7, c17]; rfl) | (rw [c7, c17, decide_eq_false (Int32.not_le.mpr c22)]; rfl) | (rw [c7, c17, decide_eq_false (Int32.not_le.mpr c27)]; simp)) _ _ hP hD hS _ (lv_sub hl [0, 1, 2, 3, 4, 5] rfl)
    · refine lv_iload hx hb dX5_pattern_20 (lv_at hl 4 rfl) ?_
      refine lv_if_lt (tgt := 34) hx hb dX5_pattern_22 (by decide) (fun c22 => ?_) (fun c22 => ?_)
      · refine lv_iconst (v := (nI 0)) hx hb dX5_pattern_34 rfl ?_
        exact jn35 false (by first | (rw [c7]; rfl) | (rw [c7, c17]; rfl) | (rw [c7, c17, decide_eq_false (Int32.not_le.mpr c22)]; rfl) | (rw [c7, c17, decide_eq_false (Int32.not_le.mpr c27)]; simp)) _ _ hP hD hS _ (lv_sub hl [0, 1, 2, 3, 4, 5] rfl)
      · refine lv_iload hx hb dX5_pattern_25 (lv_at hl 5 rfl) ?_
        refine lv_if_lt (tgt := 34) hx hb dX5_pattern_27 (by decide) (fun c27 => ?_) (fun c27 => ?_)
        · refine lv_iconst (v := (nI 0)) hx hb dX5_pattern_34 rfl ?_
          exact jn35 false (by first | (rw [c7]; rfl) | (rw [c7, c17]; rfl) | (rw [c7, c17, decide_eq_false (Int32.not_le.mpr c22)]; rfl) | (rw [c7, c17, decide_eq_false (Int32.not_le.mpr c27)]; simp)) _ _ hP hD hS _ (lv_sub hl [0, 1, 2, 3, 4, 5] rfl)
        · refine lv_iconst (v := (nI 1)) hx hb dX5_pattern_30 rfl ?_
          refine lv_goto (tgt := 35) hx hb dX5_pattern_31 (by decide) ?_
          exact jn35 true (by rw [c7, c17, decide_eq_true (Int32.not_lt.mp c22), decide_eq_true (Int32.not_lt.mp c27)]; rfl) _ _ hP hD hS _ (lv_sub hl [0, 1, 2, 3, 4, 5] rfl)

set_option maxHeartbeats 4000000 in
set_option maxRecDepth 100000 in
theorem kX5_pattern_ex (l : Launch) (D : va_G) (y3 : ClassId × ClassId × ClassId) (m0 : Nat) (m1 : Nat) (m2 : Nat) (m3 : Nat) (m4 : Nat) (m5 : Nat) (m6 : Nat) (m7 : Nat) (m8 : Nat) (m9 : Nat) (m10 : Nat) (m11 : Nat) (m12 : Nat) (m13 : Nat) (m14 : Nat) (m15 : Nat) (m16 : Nat) (m17 : Nat) (m18 : Nat) (nk : Nat) (np : Nat) (nr : Nat) (nl : Nat) (nb : Nat) (zo : Nat) (kp : Nat → Nat) (wt : Nat → Int32) (ln : Nat → Nat) (tk : Nat → Int32) (k : Int32) (wg : Int32) (tks : Int32) (q1 : Int32) (q2 : Int32) (hk : nk ≤ 14) (hnp : np ≤ 20) (hz : ¬ (ak3 (inB k nk) (ptB wg tks q1 q2) (decide (np < 20))) = 0) : wrM l yX5_pattern wsX5_pattern 2 43 0 0 D y3 [(m0, .inr (5, [.ref m1, .int (nI nk), .ref m2, .ref m3, .ref m4, .ref m5, .ref m6, .int (nI np), .ref m7, .ref m8, .ref m9, .ref m10, .ref m11, .ref m12, .ref m13, .ref m14, .int (nI nr), .ref m15, .int (nI nl), .ref m16, .int (nI nb), .ref m17, .ref m18, .int (nI zo)])), (m2, .inl (y3.1, 20, .inl (fN kp))), (m3, .inl (y3.1, 20, .inl wt)), (m4, .inl (y3.1, 20, .inl (fN ln))), (m5, .inl (y3.1, 160, .inl tk))] [.ref m0, .int k, .int wg, .int tks, .int q1, .int q2] (fun r (_ : Unit) => r = (nI 0)) (fun (_ : Unit) => [(m0, .inr (5, [.ref m1, .int (nI nk), .ref m2, .ref m3, .ref m4, .ref m5, .ref m6, .int (nI np), .ref m7, .ref m8, .ref m9, .ref m10, .ref m11, .ref m12, .ref m13, .ref m14, .int (nI nr), .ref m15, .int (nI nl), .ref m16, .int (nI nb), .ref m17, .ref m18, .int (nI (ak3 (inB k nk) (ptB wg tks q1 q2) (decide (np < 20))))])), (m2, .inl (y3.1, 20, .inl (fN kp))), (m3, .inl (y3.1, 20, .inl wt)), (m4, .inl (y3.1, 20, .inl (fN ln))), (m5, .inl (y3.1, 160, .inl tk))]) := by
  refine wr_of (cc := cX5_pattern) (maxL := 8) (by decide) rfl (Nat.le_of_ble_eq_true rfl) ?_
  intro p e s m args below meth c A Q hx hb hml hown hts hP hK hD hA hS hret ls hl
  replace hl : lv_has ls 8 [(0, .ref m0), (1, .int k), (2, .int wg), (3, .int tks), (4, .int q1), (5, .int q2)] := hl
  have hf88 := hts (.fieldLink RX5 88 "KindGuesserModel" "patterns" "I") (by decide +kernel)
  have hiX5 : ∀ q ∈ wsX50, q ∈ wsX5_pattern := by decide +kernel
  have jn35 : ∀ (j1 : Bool), (j1 = (rgB wg (nI 0) (nI 100) && (rgB tks (nI 0) (nI 8) && (decide (0 ≤ q1) && decide (0 ≤ q2))))) → ∀ (H : Heap) (locs : List Loc), va_P D vwCl [(m0, .inr (5, [.ref m1, .int (nI nk), .ref m2, .ref m3, .ref m4, .ref m5, .ref m6, .int (nI np), .ref m7, .ref m8, .ref m9, .ref m10, .ref m11, .ref m12, .ref m13, .ref m14, .int (nI nr), .ref m15, .int (nI nl), .ref m16, .int (nI nb), .ref m17, .ref m18, .int (nI zo)])), (m2, .inl (y3.1, 20, .inl (fN kp))), (m3, .inl (y3.1, 20, .inl wt)), (m4, .inl (y3.1, 20, .inl (fN ln))), (m5, .inl (y3.1, 160, .inl tk))] H → va_D A [(m0, .inr (5, [.ref m1, .int (nI nk), .ref m2, .ref m3, .ref m4, .ref m5, .ref m6, .int (nI np), .ref m7, .ref m8, .ref m9, .ref m10, .ref m11, .ref m12, .ref m13, .ref m14, .int (nI nr), .ref m15, .int (nI nl), .ref m16, .int (nI nb), .ref m17, .ref m18, .int (nI zo)])), (m2, .inl (y3.1, 20, .inl (fN kp))), (m3, .inl (y3.1, 20, .inl wt)), (m4, .inl (y3.1, 20, .inl (fN ln))), (m5, .inl (y3.1, 160, .inl tk))] → va_S A s.heap H locs → ∀ ls : Array Slot, lv_has ls 8 [(0, .ref m0), (1, .int k), (2, .int wg), (3, .int tks), (4, .int q1), (5, .int q2)] → W p l e (rmO 2 0 0 43) s m args below meth c H locs 0 0 Q (F0 m 35 ls [.int (bI j1)]) := by
    intro j1 hj1 H locs hP hD hS ls hl
    refine lv_istore (lv' := [(6, .int (bI j1)), (0, .ref m0), (1, .int k), (2, .int wg), (3, .int tks), (4, .int q1), (5, .int q2)]) hx hb dX5_pattern_35 hl (by decide) rfl (fun ls hl => ?_)
    have jn78 : ∀ (g9 : Bool), (g9 = ptB wg tks q1 q2) → ∀ (H : Heap) (locs : List Loc), va_P D vwCl [(m0, .inr (5, [.ref m1, .int (nI nk), .ref m2, .ref m3, .ref m4, .ref m5, .ref m6, .int (nI np), .ref m7, .ref m8, .ref m9, .ref m10, .ref m11, .ref m12, .ref m13, .ref m14, .int (nI nr), .ref m15, .int (nI nl), .ref m16, .int (nI nb), .ref m17, .ref m18, .int (nI zo)])), (m2, .inl (y3.1, 20, .inl (fN kp))), (m3, .inl (y3.1, 20, .inl wt)), (m4, .inl (y3.1, 20, .inl (fN ln))), (m5, .inl (y3.1, 160, .inl tk))] H → va_D A [(m0, .inr (5, [.ref m1, .int (nI nk), .ref m2, .ref m3, .ref m4, .ref m5, .ref m6, .int (nI np), .ref m7, .ref m8, .ref m9, .ref m10, .ref m11, .ref m12, .ref m13, .ref m14, .int (nI nr), .ref m15, .int (nI nl), .ref m16, .int (nI nb), .ref m17, .ref m18, .int (nI zo)])), (m2, .inl (y3.1, 20, .inl (fN kp))), (m3, .inl (y3.1, 20, .inl wt)), (m4, .inl (y3.1, 20, .inl (fN ln))), (m5, .inl (y3.1, 160, .inl tk))] → va_S A s.heap H locs → ∀ ls : Array Slot, lv_has ls 8 [(6, .int (bI g9)), (0, .ref m0), (1, .int k), (2, .int wg), (3, .int tks), (4, .int q1), (5, .int q2)] → W p l e (rmO 2 0 0 43) s m args below meth c H locs 0 0 Q (F0 m 78 ls []) := by
      intro g9 hg9 H locs hP hD hS ls hl
      refine lv_aload_n hx hb dX5_pattern_78 rfl (lv_at hl 1 rfl) ?_
      refine lv_aload_n hx hb dX5_pattern_79 rfl (lv_at hl 1 rfl) ?_
      refine lv_iload_n hx hb dX5_pattern_80 rfl (lv_at hl 2 rfl) ?_
      refine rd_V (ci := 5) (q0 := 0) (own := RX5) (As := [.int k]) (rest := [.ref m0]) (bytes := cX5_isKind) (maxL := 2) ⟨hx, hb, hml, hown, hts⟩ (kX5_isKind l D y3 m0 m1 m2 m3 m4 m5 m6 m7 m8 m9 m10 m11 m12 m13 m14 m15 m16 m17 m18 nk np nr nl nb zo k (by omega)) gX5_pattern_X5_isKind rfl hvX5_isKind ⟨Nat.le_of_ble_eq_true rfl, Nat.le_of_ble_eq_true rfl⟩ hP hK [0] rfl rfl rfl hl.1 rfl (Nat.le_of_ble_eq_true rfl) dX5_pattern_81 ⟨Nat.le_of_ble_eq_true rfl, Nat.le_of_ble_eq_true rfl⟩ (fun r1 hr1 => ?_)
      subst hr1
      have jn100 : ∀ (j3 : Bool), (j3 = decide (np < 20)) → ∀ (H : Heap) (locs : List Loc), va_P D vwCl [(m0, .inr (5, [.ref m1, .int (nI nk), .ref m2, .ref m3, .ref m4, .ref m5, .ref m6, .int (nI np), .ref m7, .ref m8, .ref m9, .ref m10, .ref m11, .ref m12, .ref m13, .ref m14, .int (nI nr), .ref m15, .int (nI nl), .ref m16, .int (nI nb), .ref m17, .ref m18, .int (nI zo)])), (m2, .inl (y3.1, 20, .inl (fN kp))), (m3, .inl (y3.1, 20, .inl wt)), (m4, .inl (y3.1, 20, .inl (fN ln))), (m5, .inl (y3.1, 160, .inl tk))] H → va_D A [(m0, .inr (5, [.ref m1, .int (nI nk), .ref m2, .ref m3, .ref m4, .ref m5, .ref m6, .int (nI np), .ref m7, .ref m8, .ref m9, .ref m10, .ref m11, .ref m12, .ref m13, .ref m14, .int (nI nr), .ref m15, .int (nI nl), .ref m16, .int (nI nb), .ref m17, .ref m18, .int (nI zo)])), (m2, .inl (y3.1, 20, .inl (fN kp))), (m3, .inl (y3.1, 20, .inl wt)), (m4, .inl (y3.1, 20, .inl (fN ln))), (m5, .inl (y3.1, 160, .inl tk))] → va_S A s.heap H locs → ∀ ls : Array Slot, lv_has ls 8 [(6, .int (bI g9)), (0, .ref m0), (1, .int k), (2, .int wg), (3, .int tks), (4, .int q1), (5, .int q2)] → W p l e (rmO 2 0 0 43) s m args below meth c H locs 0 0 Q (F0 m 100 ls [.int (bI j3), .int (bI g9), .int (bI (inB k nk)), .ref m0]) := by
        intro j3 hj3 H locs hP hD hS ls hl
        refine wr_V (ci := 5) (q0 := 0) (own := RX5) (As := [.int (bI (inB k nk)), .int (bI g9), .int (bI j3)]) (rest := []) (bytes := cX5_asked__) (maxL := 4) (wr := [(m2, .inl (y3.1, 20, .inl (fN kp))), (m3, .inl (y3.1, 20, .inl wt)), (m4, .inl (y3.1, 20, .inl (fN ln))), (m5, .inl (y3.1, 160, .inl tk))]) (w3 := (fun (_ : Unit) => [(m0, .inr (5, [.ref m1, .int (nI nk), .ref m2, .ref m3, .ref m4, .ref m5, .ref m6, .int (nI np), .ref m7, .ref m8, .ref m9, .ref m10, .ref m11, .ref m12, .ref m13, .ref m14, .int (nI nr), .ref m15, .int (nI nl), .ref m16, .int (nI nb), .ref m17, .ref m18, .int (nI (ak3 (inB k nk) g9 j3))])), (m2, .inl (y3.1, 20, .inl (fN kp))), (m3, .inl (y3.1, 20, .inl wt)), (m4, .inl (y3.1, 20, .inl (fN ln))), (m5, .inl (y3.1, 160, .inl tk))])) ⟨hx, hb, hml, hown, hts⟩ (kX5_asked__ l D y3 m0 m1 m2 m3 m4 m5 m6 m7 m8 m9 m10 m11 m12 m13 m14 m15 m16 m17 m18 nk np nr nl nb zo (inB k nk) g9 j3) gX5_pattern_X5_asked__ rfl hvX5_asked__ ⟨Nat.le_of_ble_eq_true rfl, Nat.le_of_ble_eq_true rfl⟩ hP hK hD hS hA [0] [1, 2, 3, 4] [4, 0, 1, 2, 3] rfl rfl rfl rfl (by decide) (fun _ => rfl) rfl rfl rfl hl.1 rfl (Nat.le_of_ble_eq_true rfl) dX5_pattern_100 ⟨Nat.le_of_ble_eq_true rfl, Nat.le_of_ble_eq_true rfl⟩ (fun r2 u3 H locs hr2 hP hD hS => ?_)
        have hP : va_P D vwCl [(m0, .inr (5, [.ref m1, .int (nI nk), .ref m2, .ref m3, .ref m4, .ref m5, .ref m6, .int (nI np), .ref m7, .ref m8, .ref m9, .ref m10, .ref m11, .ref m12, .ref m13, .ref m14, .int (nI nr), .ref m15, .int (nI nl), .ref m16, .int (nI nb), .ref m17, .ref m18, .int (nI (ak3 (inB k nk) g9 j3))])), (m2, .inl (y3.1, 20, .inl (fN kp))), (m3, .inl (y3.1, 20, .inl wt)), (m4, .inl (y3.1, 20, .inl (fN ln))), (m5, .inl (y3.1, 160, .inl tk))] H := hP
        have hD : va_D A [(m0, .inr (5, [.ref m1, .int (nI nk), .ref m2, .ref m3, .ref m4, .ref m5, .ref m6, .int (nI np), .ref m7, .ref m8, .ref m9, .ref m10, .ref m11, .ref m12, .ref m13, .ref m14, .int (nI nr), .ref m15, .int (nI nl), .ref m16, .int (nI nb), .ref m17, .ref m18, .int (nI (ak3 (inB k nk) g9 j3))])), (m2, .inl (y3.1, 20, .inl (fN kp))), (m3, .inl (y3.1, 20, .inl wt)), (m4, .inl (y3.1, 20, .inl (fN ln))), (m5, .inl (y3.1, 160, .inl tk))] := hD
        subst hr2
        refine lb_if_ne (tgt := 108) hx hb dX5_pattern_103 (by decide) (fun c103 => ?_) (fun c103 => ?_)
        · rw [hg9, hj3] at c103; rw [ak3_f hz] at c103; cases c103
        · refine lv_iconst (v := (nI 0)) hx hb dX5_pattern_106 rfl ?_
          rw [hg9, hj3] at hP hD
          exact hret 107 ls H locs _ _ () _ hP hD hS (Nat.le_of_ble_eq_true rfl) (Nat.le_of_ble_eq_true rfl) rfl dX5_pattern_107
      refine lv_iload hx hb dX5_pattern_84 (lv_at hl 0 rfl) ?_
      refine lv_aload_n hx hb dX5_pattern_86 rfl (lv_at hl 1 rfl) ?_
      refine va_get (D := D) (ci := 5) (v := .int (nI np)) (C := RX5) (T := TX5) (N := 24) hx hb hts hiX5 hown hK hP 0 rfl rfl 7 (by decide) hf88 (fun _ h9 => h9) rfl dX5_pattern_87 ?_
      refine lv_bipush (v := (nI 20)) hx hb dX5_pattern_90 rfl ?_
      refine ln_icmp_ge (tgt := 99) hx hb (by omega) (by omega) dX5_pattern_92 (by decide) (fun c92 => ?_) (fun c92 => ?_)
      · refine lv_iconst (v := (nI 0)) hx hb dX5_pattern_99 rfl ?_
        exact jn100 false (by first | exact (decide_eq_true (by omega)).symm | exact (decide_eq_false (by omega)).symm) _ _ hP hD hS _ (lv_sub hl [0, 1, 2, 3, 4, 5, 6] rfl)
      · refine lv_iconst (v := (nI 1)) hx hb dX5_pattern_95 rfl ?_
        refine lv_goto (tgt := 100) hx hb dX5_pattern_96 (by decide) ?_
        exact jn100 true (by first | exact (decide_eq_true (by omega)).symm | exact (decide_eq_false (by omega)).symm) _ _ hP hD hS _ (lv_sub hl [0, 1, 2, 3, 4, 5, 6] rfl)
    refine lv_iconst (v := (nI 0)) hx hb dX5_pattern_37 rfl ?_
    refine lv_istore (lv' := [(7, .int (nI 0)), (6, .int (bI j1)), (0, .ref m0), (1, .int k), (2, .int wg), (3, .int tks), (4, .int q1), (5, .int q2)]) hx hb dX5_pattern_38 hl (by decide) rfl (fun ls hl => ?_)
    have lp40 : ∀ (n4 : Nat) (i : Nat) (g : Bool), 8 - i < n4 → (i ≤ 8) → (g = (j1 && alB (fun z => decide (tkN z q1.toNatClampNeg q2.toNatClampNeg ≤ 11)) i)) → (j1 = true → i ≤ tks.toNatClampNeg) → ∀ (H : Heap) (locs : List Loc), va_P D vwCl [(m0, .inr (5, [.ref m1, .int (nI nk), .ref m2, .ref m3, .ref m4, .ref m5, .ref m6, .int (nI np), .ref m7, .ref m8, .ref m9, .ref m10, .ref m11, .ref m12, .ref m13, .ref m14, .int (nI nr), .ref m15, .int (nI nl), .ref m16, .int (nI nb), .ref m17, .ref m18, .int (nI zo)])), (m2, .inl (y3.1, 20, .inl (fN kp))), (m3, .inl (y3.1, 20, .inl wt)), (m4, .inl (y3.1, 20, .inl (fN ln))), (m5, .inl (y3.1, 160, .inl tk))] H → va_D A [(m0, .inr (5, [.ref m1, .int (nI nk), .ref m2, .ref m3, .ref m4, .ref m5, .ref m6, .int (nI np), .ref m7, .ref m8, .ref m9, .ref m10, .ref m11, .ref m12, .ref m13, .ref m14, .int (nI nr), .ref m15, .int (nI nl), .ref m16, .int (nI nb), .ref m17, .ref m18, .int (nI zo)])), (m2, .inl (y3.1, 20, .inl (fN kp))), (m3, .inl (y3.1, 20, .inl wt)), (m4, .inl (y3.1, 20, .inl (fN ln))), (m5, .inl (y3.1, 160, .inl tk))] → va_S A s.heap H locs → ∀ ls : Array Slot, lv_has ls 8 [(7, .int (nI i)), (6, .int (bI g)), (0, .ref m0), (1, .int k), (2, .int wg), (3, .int tks), (4, .int q1), (5, .int q2)] → W p l e (rmO 2 0 0 43) s m args below meth c H locs 0 0 Q (F0 m 40 ls []) := by
      intro n4
      induction n4 with
      | zero => intro i g hm; exact absurd hm (Nat.not_lt_zero _)
      | succ n4 ih40 =>
        intro i g hm40 h8 hg h9 H locs hP hD hS ls hl
        refine lv_iload hx hb dX5_pattern_40 (lv_at hl 0 rfl) ?_
        refine lv_iload_n hx hb dX5_pattern_42 rfl (lv_at hl 5 rfl) ?_
        refine lv_icmp_ge (tgt := 78) hx hb dX5_pattern_43 (by decide) (fun c43 => ?_) (fun c43 => ?_)
        · exact jn78 g (pt_fin hj1 hg h9 (by first | exact Or.inl c43 | exact Or.inr c48)) _ _ hP hD hS _ (lv_sub hl [1, 2, 3, 4, 5, 6, 7] rfl)
        · refine lv_iload hx hb dX5_pattern_46 (lv_at hl 1 rfl) ?_
          refine lb_if_eq (tgt := 78) hx hb dX5_pattern_48 (by decide) (fun c48 => ?_) (fun c48 => ?_)
          · exact jn78 g (pt_fin hj1 hg h9 (by first | exact Or.inl c43 | exact Or.inr c48)) _ _ hP hD hS _ (lv_sub hl [1, 2, 3, 4, 5, 6, 7] rfl)
          · have hx9 : j1 = true := pt_j hg c48
            obtain ⟨et, htn, e1, hx1, e2, hx2⟩ := pt_e (hj1.symm.trans hx9)
            have hi9 := pt_lt2 et htn h8 c43
            refine lv_iload hx hb dX5_pattern_51 (lv_at hl 6 rfl) ?_
            refine ln_eqi (y := (nI q1.toNatClampNeg)) e1 ?_
            refine lv_iload hx hb dX5_pattern_53 (lv_at hl 7 rfl) ?_
            refine ln_eqi (y := (nI q2.toNatClampNeg)) e2 ?_
            refine lv_iload hx hb dX5_pattern_55 (lv_at hl 0 rfl) ?_
            refine rd_S (own := RX5) (As := [.int (nI q1.toNatClampNeg), .int (nI q2.toNatClampNeg), .int (nI i)]) (rest := []) (bytes := cX5_digits) (maxL := 5) ⟨hx, hb, hml, hown, hts⟩ (kX5_digits l D y3 q1.toNatClampNeg q2.toNatClampNeg i (by omega) (by omega) (by omega)) gX5_pattern_X5_digits rfl hvX5_digits ⟨Nat.le_of_ble_eq_true rfl, Nat.le_of_ble_eq_true rfl⟩ hP hK [] rfl  hl.1 rfl (Nat.le_of_ble_eq_true rfl) dX5_pattern_57 ⟨Nat.le_of_ble_eq_true rfl, Nat.le_of_ble_eq_true rfl⟩ (fun r5 hr5 => ?_)
            subst hr5
            refine lv_bipush (v := (nI 11)) hx hb dX5_pattern_60 rfl ?_
            refine ln_icmp_gt (tgt := 69) hx hb (Nat.lt_trans (tkN_lt _ _ _) (by omega)) (by omega) dX5_pattern_62 (by decide) (fun c62 => ?_) (fun c62 => ?_)
            · refine lv_iconst (v := (nI 0)) hx hb dX5_pattern_69 rfl ?_
              refine lv_istore (lv' := [(6, .int (nI 0)), (7, .int (nI i)), (0, .ref m0), (1, .int k), (2, .int wg), (3, .int tks), (4, .int q1), (5, .int q2)]) hx hb dX5_pattern_70 hl (by decide) rfl (fun ls hl => ?_)
              refine lv_iinc (v := (nI (i + 1))) (lv' := [(7, .int (nI (i + 1))), (6, .int (nI 0)), (0, .ref m0), (1, .int k), (2, .int wg), (3, .int tks), (4, .int q1), (5, .int q2)]) hx hb dX5_pattern_72 hl (k := 1) rfl (nI_add _ _) (by decide) rfl (fun ls hl => ?_)
              refine lv_goto (tgt := 40) hx hb dX5_pattern_75 (by decide) ?_
              exact ih40 (i + 1) false (by omega) (by omega) (by rw [pt_s hg c48]; first | exact (decide_eq_true (by omega)).symm | exact (decide_eq_false (by omega)).symm) (fun _ => hi9) _ _ hP hD hS _ (lv_sub hl [0, 1, 2, 3, 4, 5, 6, 7] rfl)
            · refine lv_iconst (v := (nI 1)) hx hb dX5_pattern_65 rfl ?_
              refine lv_goto (tgt := 70) hx hb dX5_pattern_66 (by decide) ?_
              refine lv_istore (lv' := [(6, .int (nI 1)), (7, .int (nI i)), (0, .ref m0), (1, .int k), (2, .int wg), (3, .int tks), (4, .int q1), (5, .int q2)]) hx hb dX5_pattern_70 hl (by decide) rfl (fun ls hl => ?_)
              refine lv_iinc (v := (nI (i + 1))) (lv' := [(7, .int (nI (i + 1))), (6, .int (nI 1)), (0, .ref m0), (1, .int k), (2, .int wg), (3, .int tks), (4, .int q1), (5, .int q2)]) hx hb dX5_pattern_72 hl (k := 1) rfl (nI_add _ _) (by decide) rfl (fun ls hl => ?_)
              refine lv_goto (tgt := 40) hx hb dX5_pattern_75 (by decide) ?_
              exact ih40 (i + 1) true (by omega) (by omega) (by rw [pt_s hg c48]; first | exact (decide_eq_true (by omega)).symm | exact (decide_eq_false (by omega)).symm) (fun _ => hi9) _ _ hP hD hS _ (lv_sub hl [0, 1, 2, 3, 4, 5, 6, 7] rfl)
    exact lp40 _ 0 j1 (Nat.lt_succ_self _) (Nat.zero_le _) (by show j1 = (j1 && true); rw [Bool.and_true]) (fun _ => Nat.zero_le _) _ _ hP hD hS _ (lv_sub hl [0, 1, 2, 3, 4, 5, 6, 7] rfl)
  refine lv_iload_n hx hb dX5_pattern_0 rfl (lv_at hl 2 rfl) ?_
  refine lv_iconst (v := (nI 0)) hx hb dX5_pattern_1 rfl ?_
  refine lv_bipush (v := (nI 100)) hx hb dX5_pattern_2 rfl ?_
  refine rd_S (own := RX5) (As := [.int wg, .int (nI 0), .int (nI 100)]) (rest := []) (bytes := cX5_in) (maxL := 3) ⟨hx, hb, hml, hown, hts⟩ (kX5_in l D y3 wg (nI 0) (nI 100)) gX5_pattern_X5_in rfl hvX5_in ⟨Nat.le_of_ble_eq_true rfl, Nat.le_of_ble_eq_true rfl⟩ hP hK [] rfl  hl.1 rfl (Nat.le_of_ble_eq_true rfl) dX5_pattern_4 ⟨Nat.le_of_ble_eq_true rfl, Nat.le_of_ble_eq_true rfl⟩ (fun r6 hr6 => ?_)
  subst hr6
  refine lb_if_eq (tgt := 34) hx hb dX5_pattern_7 (by decide) (fun c7 => ?_) (fun c7 => ?_)
  · refine lv_iconst (v := (nI 0)) hx hb dX5_pattern_34 rfl ?_
    exact jn35 false (by first | (rw [c7]; rfl) | (rw [c7, c17]; rfl) | (rw [c7, c17, decide_eq_false (Int32.not_le.mpr c22)]; rfl) | (rw [c7, c17, decide_eq_false (Int32.not_le.mpr c27)]; simp)) _ _ hP hD hS _ (lv_sub hl [0, 1, 2, 3, 4, 5] rfl)
  · refine lv_iload_n hx hb dX5_pattern_10 rfl (lv_at hl 3 rfl) ?_
    refine lv_iconst (v := (nI 0)) hx hb dX5_pattern_11 rfl ?_
    refine lv_bipush (v := (nI 8)) hx hb dX5_pattern_12 rfl ?_
    refine rd_S (own := RX5) (As := [.int tks, .int (nI 0), .int (nI 8)]) (rest := []) (bytes := cX5_in) (maxL := 3) ⟨hx, hb, hml, hown, hts⟩ (kX5_in l D y3 tks (nI 0) (nI 8)) gX5_pattern_X5_in rfl hvX5_in ⟨Nat.le_of_ble_eq_true rfl, Nat.le_of_ble_eq_true rfl⟩ hP hK [] rfl  hl.1 rfl (Nat.le_of_ble_eq_true rfl) dX5_pattern_14 ⟨Nat.le_of_ble_eq_true rfl, Nat.le_of_ble_eq_true rfl⟩ (fun r7 hr7 => ?_)
    subst hr7
    refine lb_if_eq (tgt := 34) hx hb dX5_pattern_17 (by decide) (fun c17 => ?_) (fun c17 => ?_)
    · refine lv_iconst (v := (nI 0)) hx hb dX5_pattern_34 rfl ?_
      exact jn35 false (by first | (rw [c7]; rfl) | (rw [c7, c17]; rfl) | (rw [c7, c17, decide_eq_false (Int32.not_le.mpr c22)]; rfl) | (rw [c7, c17, decide_eq_false (Int32.not_le.mpr c27)]; simp)) _ _ hP hD hS _ (lv_sub hl [0, 1, 2, 3, 4, 5] rfl)
    · refine lv_iload hx hb dX5_pattern_20 (lv_at hl 4 rfl) ?_
      refine lv_if_lt (tgt := 34) hx hb dX5_pattern_22 (by decide) (fun c22 => ?_) (fun c22 => ?_)
      · refine lv_iconst (v := (nI 0)) hx hb dX5_pattern_34 rfl ?_
        exact jn35 false (by first | (rw [c7]; rfl) | (rw [c7, c17]; rfl) | (rw [c7, c17, decide_eq_false (Int32.not_le.mpr c22)]; rfl) | (rw [c7, c17, decide_eq_false (Int32.not_le.mpr c27)]; simp)) _ _ hP hD hS _ (lv_sub hl [0, 1, 2, 3, 4, 5] rfl)
      · refine lv_iload hx hb dX5_pattern_25 (lv_at hl 5 rfl) ?_
        refine lv_if_lt (tgt := 34) hx hb dX5_pattern_27 (by decide) (fun c27 => ?_) (fun c27 => ?_)
        · refine lv_iconst (v := (nI 0)) hx hb dX5_pattern_34 rfl ?_
          exact jn35 false (by first | (rw [c7]; rfl) | (rw [c7, c17]; rfl) | (rw [c7, c17, decide_eq_false (Int32.not_le.mpr c22)]; rfl) | (rw [c7, c17, decide_eq_false (Int32.not_le.mpr c27)]; simp)) _ _ hP hD hS _ (lv_sub hl [0, 1, 2, 3, 4, 5] rfl)
        · refine lv_iconst (v := (nI 1)) hx hb dX5_pattern_30 rfl ?_
          refine lv_goto (tgt := 35) hx hb dX5_pattern_31 (by decide) ?_
          exact jn35 true (by rw [c7, c17, decide_eq_true (Int32.not_lt.mp c22), decide_eq_true (Int32.not_lt.mp c27)]; rfl) _ _ hP hD hS _ (lv_sub hl [0, 1, 2, 3, 4, 5] rfl)

set_option maxHeartbeats 4000000 in
set_option maxRecDepth 100000 in
theorem kX5_drop_ok (l : Launch) (D : va_G) (y3 : ClassId × ClassId × ClassId) (m0 : Nat) (m1 : Nat) (m2 : Nat) (m3 : Nat) (m4 : Nat) (m5 : Nat) (m6 : Nat) (m7 : Nat) (m8 : Nat) (m9 : Nat) (m10 : Nat) (m11 : Nat) (m12 : Nat) (m13 : Nat) (m14 : Nat) (m15 : Nat) (m16 : Nat) (m17 : Nat) (m18 : Nat) (nk : Nat) (np : Nat) (nr : Nat) (nl : Nat) (nb : Nat) (zo : Nat) (dr : Nat → Bool) (th : Nat → Bool) (nt : Nat) (k : Int32) (hnp : np ≤ 20) (hdr : ∀ q : Nat, q < np → dr q = !th q) (hnt : nt = cntB th np) (hz : (ak1 (hasP th np k)) = 0) : wrM l yX5_drop wsX5_drop 2 43 0 0 D y3 [(m0, .inr (5, [.ref m1, .int (nI nk), .ref m2, .ref m3, .ref m4, .ref m5, .ref m6, .int (nI np), .ref m7, .ref m8, .ref m9, .ref m10, .ref m11, .ref m12, .ref m13, .ref m14, .int (nI nr), .ref m15, .int (nI nl), .ref m16, .int (nI nb), .ref m17, .ref m18, .int (nI zo)])), (m6, .inl (y3.2.1, 20, .inl (fB dr)))] [.ref m0, .int k] (fun r (_ : Unit) => r = (nI (nt - 1))) (fun (_ : Unit) => [(m0, .inr (5, [.ref m1, .int (nI nk), .ref m2, .ref m3, .ref m4, .ref m5, .ref m6, .int (nI np), .ref m7, .ref m8, .ref m9, .ref m10, .ref m11, .ref m12, .ref m13, .ref m14, .int (nI nr), .ref m15, .int (nI nl), .ref m16, .int (nI nb), .ref m17, .ref m18, .int (nI 0)])), (m6, .inl (y3.2.1, 20, .inl (fB (va_up dr k.toNatClampNeg true))))]) := by
  refine wr_of (cc := cX5_drop) (maxL := 4) (by decide) rfl (Nat.le_of_ble_eq_true rfl) ?_
  intro p e s m args below meth c A Q hx hb hml hown hts hP hK hD hA hS hret ls hl
  replace hl : lv_has ls 4 [(0, .ref m0), (1, .int k)] := hl
  have hf25 := hts (.fieldLink RX5 25 "KindGuesserModel" "dropped" "[Z") (by decide +kernel)
  have hf88 := hts (.fieldLink RX5 88 "KindGuesserModel" "patterns" "I") (by decide +kernel)
  have hiX5 : ∀ q ∈ wsX50, q ∈ wsX5_drop := by decide +kernel
  refine lv_aload_n hx hb dX5_drop_0 rfl (lv_at hl 0 rfl) ?_
  refine lv_aload_n hx hb dX5_drop_1 rfl (lv_at hl 0 rfl) ?_
  refine lv_iload_n hx hb dX5_drop_2 rfl (lv_at hl 1 rfl) ?_
  refine rd_V (ci := 5) (q0 := 0) (own := RX5) (As := [.int k]) (rest := [.ref m0]) (bytes := cX5_isThere) (maxL := 2) ⟨hx, hb, hml, hown, hts⟩ (kX5_isThere l D y3 m0 m1 m2 m3 m4 m5 m6 m7 m8 m9 m10 m11 m12 m13 m14 m15 m16 m17 m18 nk np nr nl nb zo dr th k (by omega) (by assumption)) gX5_drop_X5_isThere rfl hvX5_isThere ⟨Nat.le_of_ble_eq_true rfl, Nat.le_of_ble_eq_true rfl⟩ hP hK [0, 1] rfl rfl rfl hl.1 rfl (Nat.le_of_ble_eq_true rfl) dX5_drop_3 ⟨Nat.le_of_ble_eq_true rfl, Nat.le_of_ble_eq_true rfl⟩ (fun r1 hr1 => ?_)
  subst hr1
  refine wr_V (ci := 5) (q0 := 0) (own := RX5) (As := [.int (bI (hasP th np k))]) (rest := []) (bytes := cX5_asked) (maxL := 2) (wr := [(m6, .inl (y3.2.1, 20, .inl (fB dr)))]) (w3 := (fun (_ : Unit) => [(m0, .inr (5, [.ref m1, .int (nI nk), .ref m2, .ref m3, .ref m4, .ref m5, .ref m6, .int (nI np), .ref m7, .ref m8, .ref m9, .ref m10, .ref m11, .ref m12, .ref m13, .ref m14, .int (nI nr), .ref m15, .int (nI nl), .ref m16, .int (nI nb), .ref m17, .ref m18, .int (nI (ak1 (hasP th np k)))])), (m6, .inl (y3.2.1, 20, .inl (fB dr)))])) ⟨hx, hb, hml, hown, hts⟩ (kX5_asked l D y3 m0 m1 m2 m3 m4 m5 m6 m7 m8 m9 m10 m11 m12 m13 m14 m15 m16 m17 m18 nk np nr nl nb zo (hasP th np k)) gX5_drop_X5_asked rfl hvX5_asked ⟨Nat.le_of_ble_eq_true rfl, Nat.le_of_ble_eq_true rfl⟩ hP hK hD hS hA [0] [1] [1, 0] rfl rfl rfl rfl (by decide) (fun _ => rfl) rfl rfl rfl hl.1 rfl (Nat.le_of_ble_eq_true rfl) dX5_drop_6 ⟨Nat.le_of_ble_eq_true rfl, Nat.le_of_ble_eq_true rfl⟩ (fun r2 u3 H locs hr2 hP hD hS => ?_)
  have hP : va_P D vwCl [(m0, .inr (5, [.ref m1, .int (nI nk), .ref m2, .ref m3, .ref m4, .ref m5, .ref m6, .int (nI np), .ref m7, .ref m8, .ref m9, .ref m10, .ref m11, .ref m12, .ref m13, .ref m14, .int (nI nr), .ref m15, .int (nI nl), .ref m16, .int (nI nb), .ref m17, .ref m18, .int (nI (ak1 (hasP th np k)))])), (m6, .inl (y3.2.1, 20, .inl (fB dr)))] H := hP
  have hD : va_D A [(m0, .inr (5, [.ref m1, .int (nI nk), .ref m2, .ref m3, .ref m4, .ref m5, .ref m6, .int (nI np), .ref m7, .ref m8, .ref m9, .ref m10, .ref m11, .ref m12, .ref m13, .ref m14, .int (nI nr), .ref m15, .int (nI nl), .ref m16, .int (nI nb), .ref m17, .ref m18, .int (nI (ak1 (hasP th np k)))])), (m6, .inl (y3.2.1, 20, .inl (fB dr)))] := hD
  subst hr2
  refine lb_if_ne (tgt := 14) hx hb dX5_drop_9 (by decide) (fun c9 => ?_) (fun c9 => ?_)
  · obtain ⟨ek, hkn, hth⟩ := hasP_c (ak1_t hz) (by omega)
    refine lv_aload_n hx hb dX5_drop_14 rfl (lv_at hl 0 rfl) ?_
    refine va_get (D := D) (ci := 5) (v := .ref m6) (C := RX5) (T := TX5) (N := 24) hx hb hts hiX5 hown hK hP 0 rfl rfl 6 (by decide) hf25 (fun _ h9 => h9) rfl dX5_drop_15 ?_
    refine lv_iload_n hx hb dX5_drop_18 rfl (lv_at hl 1 rfl) ?_
    refine ln_eqi (y := (nI k.toNatClampNeg)) ek ?_
    refine lv_iconst (v := (nI 1)) hx hb dX5_drop_19 rfl ?_
    refine ln_zastB (b := true) hx hb hK hP hD hS 1 1 rfl rfl (by omega) (by decide) dX5_drop_20 _ rfl (fun H locs hP hD hS => ?_)
    have hP : va_P D vwCl [(m0, .inr (5, [.ref m1, .int (nI nk), .ref m2, .ref m3, .ref m4, .ref m5, .ref m6, .int (nI np), .ref m7, .ref m8, .ref m9, .ref m10, .ref m11, .ref m12, .ref m13, .ref m14, .int (nI nr), .ref m15, .int (nI nl), .ref m16, .int (nI nb), .ref m17, .ref m18, .int (nI (ak1 (hasP th np k)))])), (m6, .inl (y3.2.1, 20, .inl (fB (va_up dr k.toNatClampNeg true))))] H := hP
    have hD : va_D A [(m0, .inr (5, [.ref m1, .int (nI nk), .ref m2, .ref m3, .ref m4, .ref m5, .ref m6, .int (nI np), .ref m7, .ref m8, .ref m9, .ref m10, .ref m11, .ref m12, .ref m13, .ref m14, .int (nI nr), .ref m15, .int (nI nl), .ref m16, .int (nI nb), .ref m17, .ref m18, .int (nI (ak1 (hasP th np k)))])), (m6, .inl (y3.2.1, 20, .inl (fB (va_up dr k.toNatClampNeg true))))] := hD
    refine lv_iconst (v := (nI 0)) hx hb dX5_drop_21 rfl ?_
    refine lv_istore_n (lv' := [(2, .int (nI 0)), (0, .ref m0), (1, .int k)]) hx hb dX5_drop_22 rfl hl (by decide) rfl (fun ls hl => ?_)
    refine lv_iconst (v := (nI 0)) hx hb dX5_drop_23 rfl ?_
    refine lv_istore_n (lv' := [(3, .int (nI 0)), (2, .int (nI 0)), (0, .ref m0), (1, .int k)]) hx hb dX5_drop_24 rfl hl (by decide) rfl (fun ls hl => ?_)
    have lp25 : ∀ (n4 : Nat) (i : Nat) (n9 : Nat), np - i < n4 → (i ≤ np) → (n9 = cntB (fun q => !(va_up dr k.toNatClampNeg true q)) i) → ∀ (H : Heap) (locs : List Loc), va_P D vwCl [(m0, .inr (5, [.ref m1, .int (nI nk), .ref m2, .ref m3, .ref m4, .ref m5, .ref m6, .int (nI np), .ref m7, .ref m8, .ref m9, .ref m10, .ref m11, .ref m12, .ref m13, .ref m14, .int (nI nr), .ref m15, .int (nI nl), .ref m16, .int (nI nb), .ref m17, .ref m18, .int (nI (ak1 (hasP th np k)))])), (m6, .inl (y3.2.1, 20, .inl (fB (va_up dr k.toNatClampNeg true))))] H → va_D A [(m0, .inr (5, [.ref m1, .int (nI nk), .ref m2, .ref m3, .ref m4, .ref m5, .ref m6, .int (nI np), .ref m7, .ref m8, .ref m9, .ref m10, .ref m11, .ref m12, .ref m13, .ref m14, .int (nI nr), .ref m15, .int (nI nl), .ref m16, .int (nI nb), .ref m17, .ref m18, .int (nI (ak1 (hasP th np k)))])), (m6, .inl (y3.2.1, 20, .inl (fB (va_up dr k.toNatClampNeg true))))] → va_S A s.heap H locs → ∀ ls : Array Slot, lv_has ls 4 [(3, .int (nI i)), (2, .int (nI n9)), (0, .ref m0), (1, .int k)] → W p l e (rmO 2 0 0 43) s m args below meth c H locs 0 0 Q (F0 m 25 ls []) := by
      intro n4
      induction n4 with
      | zero => intro i n9 hm; exact absurd hm (Nat.not_lt_zero _)
      | succ n4 ih25 =>
        intro i n9 hm25 h1 h2 H locs hP hD hS ls hl
        refine lv_iload_n hx hb dX5_drop_25 rfl (lv_at hl 0 rfl) ?_
        refine lv_aload_n hx hb dX5_drop_26 rfl (lv_at hl 2 rfl) ?_
        refine va_get (D := D) (ci := 5) (v := .int (nI np)) (C := RX5) (T := TX5) (N := 24) hx hb hts hiX5 hown hK hP 0 rfl rfl 7 (by decide) hf88 (fun _ h9 => h9) rfl dX5_drop_27 ?_
        refine ln_icmp_ge (tgt := 56) hx hb (by omega) (by omega) dX5_drop_30 (by decide) (fun c30 => ?_) (fun c30 => ?_)
        · refine lv_iload_n hx hb dX5_drop_56 rfl (lv_at hl 1 rfl) ?_
          rw [show ak1 (hasP th np k) = 0 from hz] at hP hD
          exact hret 57 ls H locs _ _ () _ hP hD hS (Nat.le_of_ble_eq_true rfl) (Nat.le_of_ble_eq_true rfl) (by rw [h2, show i = np from by omega, dr_cnt hdr hkn hth, hnt]) dX5_drop_57
        · refine lv_iload_n hx hb dX5_drop_33 rfl (lv_at hl 1 rfl) ?_
          refine lv_aload_n hx hb dX5_drop_34 rfl (lv_at hl 2 rfl) ?_
          refine va_get (D := D) (ci := 5) (v := .ref m6) (C := RX5) (T := TX5) (N := 24) hx hb hts hiX5 hown hK hP 0 rfl rfl 6 (by decide) hf25 (fun _ h9 => h9) rfl dX5_drop_35 ?_
          refine lv_iload_n hx hb dX5_drop_38 rfl (lv_at hl 0 rfl) ?_
          refine ln_zaldB hx hb hK hP 1 1 rfl rfl (by omega) (by decide) dX5_drop_39 ?_
          refine lb_if_eq (tgt := 47) hx hb dX5_drop_40 (by decide) (fun c40 => ?_) (fun c40 => ?_)
          · refine lv_iconst (v := (nI 1)) hx hb dX5_drop_47 rfl ?_
            refine ln_iadd (n := n9 + 1) hx hb rfl dX5_drop_48 ?_
            refine lv_istore_n (lv' := [(2, .int (nI (n9 + 1))), (3, .int (nI i)), (0, .ref m0), (1, .int k)]) hx hb dX5_drop_49 rfl hl (by decide) rfl (fun ls hl => ?_)
            refine lv_iinc (v := (nI (i + 1))) (lv' := [(3, .int (nI (i + 1))), (2, .int (nI (n9 + 1))), (0, .ref m0), (1, .int k)]) hx hb dX5_drop_50 hl (k := 1) rfl (nI_add _ _) (by decide) rfl (fun ls hl => ?_)
            refine lv_goto (tgt := 25) hx hb dX5_drop_53 (by decide) ?_
            exact ih25 (i + 1) (n9 + 1) (by omega) (by omega) (by first | (rw [cntB_t (by show (!_) = true; rw [c40]; rfl)]; omega) | (rw [cntB_f (by show (!_) = false; rw [c40]; rfl)]; omega)) _ _ hP hD hS _ (lv_sub hl [0, 1, 2, 3] rfl)
          · refine lv_iconst (v := (nI 0)) hx hb dX5_drop_43 rfl ?_
            refine lv_goto (tgt := 48) hx hb dX5_drop_44 (by decide) ?_
            refine ln_iadd (n := n9 + 0) hx hb rfl dX5_drop_48 ?_
            refine lv_istore_n (lv' := [(2, .int (nI (n9 + 0))), (3, .int (nI i)), (0, .ref m0), (1, .int k)]) hx hb dX5_drop_49 rfl hl (by decide) rfl (fun ls hl => ?_)
            refine lv_iinc (v := (nI (i + 1))) (lv' := [(3, .int (nI (i + 1))), (2, .int (nI (n9 + 0))), (0, .ref m0), (1, .int k)]) hx hb dX5_drop_50 hl (k := 1) rfl (nI_add _ _) (by decide) rfl (fun ls hl => ?_)
            refine lv_goto (tgt := 25) hx hb dX5_drop_53 (by decide) ?_
            exact ih25 (i + 1) (n9 + 0) (by omega) (by omega) (by first | (rw [cntB_t (by show (!_) = true; rw [c40]; rfl)]; omega) | (rw [cntB_f (by show (!_) = false; rw [c40]; rfl)]; omega)) _ _ hP hD hS _ (lv_sub hl [0, 1, 2, 3] rfl)
    exact lp25 _ 0 0 (Nat.lt_succ_self _) (Nat.zero_le _) rfl _ _ hP hD hS _ (lv_sub hl [0, 1, 2, 3] rfl)
  · rw [ak1_t hz] at c9; cases c9

set_option maxHeartbeats 4000000 in
set_option maxRecDepth 100000 in
theorem kX5_drop_ex (l : Launch) (D : va_G) (y3 : ClassId × ClassId × ClassId) (m0 : Nat) (m1 : Nat) (m2 : Nat) (m3 : Nat) (m4 : Nat) (m5 : Nat) (m6 : Nat) (m7 : Nat) (m8 : Nat) (m9 : Nat) (m10 : Nat) (m11 : Nat) (m12 : Nat) (m13 : Nat) (m14 : Nat) (m15 : Nat) (m16 : Nat) (m17 : Nat) (m18 : Nat) (nk : Nat) (np : Nat) (nr : Nat) (nl : Nat) (nb : Nat) (zo : Nat) (dr : Nat → Bool) (th : Nat → Bool) (nt : Nat) (k : Int32) (hnp : np ≤ 20) (hdr : ∀ q : Nat, q < np → dr q = !th q) (hnt : nt = cntB th np) (hz : ¬ (ak1 (hasP th np k)) = 0) : wrM l yX5_drop wsX5_drop 2 43 0 0 D y3 [(m0, .inr (5, [.ref m1, .int (nI nk), .ref m2, .ref m3, .ref m4, .ref m5, .ref m6, .int (nI np), .ref m7, .ref m8, .ref m9, .ref m10, .ref m11, .ref m12, .ref m13, .ref m14, .int (nI nr), .ref m15, .int (nI nl), .ref m16, .int (nI nb), .ref m17, .ref m18, .int (nI zo)])), (m6, .inl (y3.2.1, 20, .inl (fB dr)))] [.ref m0, .int k] (fun r (_ : Unit) => r = (nI 0)) (fun (_ : Unit) => [(m0, .inr (5, [.ref m1, .int (nI nk), .ref m2, .ref m3, .ref m4, .ref m5, .ref m6, .int (nI np), .ref m7, .ref m8, .ref m9, .ref m10, .ref m11, .ref m12, .ref m13, .ref m14, .int (nI nr), .ref m15, .int (nI nl), .ref m16, .int (nI nb), .ref m17, .ref m18, .int (nI (ak1 (hasP th np k)))])), (m6, .inl (y3.2.1, 20, .inl (fB dr)))]) := by
  refine wr_of (cc := cX5_drop) (maxL := 4) (by decide) rfl (Nat.le_of_ble_eq_true rfl) ?_
  intro p e s m args below meth c A Q hx hb hml hown hts hP hK hD hA hS hret ls hl
  replace hl : lv_has ls 4 [(0, .ref m0), (1, .int k)] := hl
  refine lv_aload_n hx hb dX5_drop_0 rfl (lv_at hl 0 rfl) ?_
  refine lv_aload_n hx hb dX5_drop_1 rfl (lv_at hl 0 rfl) ?_
  refine lv_iload_n hx hb dX5_drop_2 rfl (lv_at hl 1 rfl) ?_
  refine rd_V (ci := 5) (q0 := 0) (own := RX5) (As := [.int k]) (rest := [.ref m0]) (bytes := cX5_isThere) (maxL := 2) ⟨hx, hb, hml, hown, hts⟩ (kX5_isThere l D y3 m0 m1 m2 m3 m4 m5 m6 m7 m8 m9 m10 m11 m12 m13 m14 m15 m16 m17 m18 nk np nr nl nb zo dr th k (by omega) (by assumption)) gX5_drop_X5_isThere rfl hvX5_isThere ⟨Nat.le_of_ble_eq_true rfl, Nat.le_of_ble_eq_true rfl⟩ hP hK [0, 1] rfl rfl rfl hl.1 rfl (Nat.le_of_ble_eq_true rfl) dX5_drop_3 ⟨Nat.le_of_ble_eq_true rfl, Nat.le_of_ble_eq_true rfl⟩ (fun r1 hr1 => ?_)
  subst hr1
  refine wr_V (ci := 5) (q0 := 0) (own := RX5) (As := [.int (bI (hasP th np k))]) (rest := []) (bytes := cX5_asked) (maxL := 2) (wr := [(m6, .inl (y3.2.1, 20, .inl (fB dr)))]) (w3 := (fun (_ : Unit) => [(m0, .inr (5, [.ref m1, .int (nI nk), .ref m2, .ref m3, .ref m4, .ref m5, .ref m6, .int (nI np), .ref m7, .ref m8, .ref m9, .ref m10, .ref m11, .ref m12, .ref m13, .ref m14, .int (nI nr), .ref m15, .int (nI nl), .ref m16, .int (nI nb), .ref m17, .ref m18, .int (nI (ak1 (hasP th np k)))])), (m6, .inl (y3.2.1, 20, .inl (fB dr)))])) ⟨hx, hb, hml, hown, hts⟩ (kX5_asked l D y3 m0 m1 m2 m3 m4 m5 m6 m7 m8 m9 m10 m11 m12 m13 m14 m15 m16 m17 m18 nk np nr nl nb zo (hasP th np k)) gX5_drop_X5_asked rfl hvX5_asked ⟨Nat.le_of_ble_eq_true rfl, Nat.le_of_ble_eq_true rfl⟩ hP hK hD hS hA [0] [1] [1, 0] rfl rfl rfl rfl (by decide) (fun _ => rfl) rfl rfl rfl hl.1 rfl (Nat.le_of_ble_eq_true rfl) dX5_drop_6 ⟨Nat.le_of_ble_eq_true rfl, Nat.le_of_ble_eq_true rfl⟩ (fun r2 u3 H locs hr2 hP hD hS => ?_)
  have hP : va_P D vwCl [(m0, .inr (5, [.ref m1, .int (nI nk), .ref m2, .ref m3, .ref m4, .ref m5, .ref m6, .int (nI np), .ref m7, .ref m8, .ref m9, .ref m10, .ref m11, .ref m12, .ref m13, .ref m14, .int (nI nr), .ref m15, .int (nI nl), .ref m16, .int (nI nb), .ref m17, .ref m18, .int (nI (ak1 (hasP th np k)))])), (m6, .inl (y3.2.1, 20, .inl (fB dr)))] H := hP
  have hD : va_D A [(m0, .inr (5, [.ref m1, .int (nI nk), .ref m2, .ref m3, .ref m4, .ref m5, .ref m6, .int (nI np), .ref m7, .ref m8, .ref m9, .ref m10, .ref m11, .ref m12, .ref m13, .ref m14, .int (nI nr), .ref m15, .int (nI nl), .ref m16, .int (nI nb), .ref m17, .ref m18, .int (nI (ak1 (hasP th np k)))])), (m6, .inl (y3.2.1, 20, .inl (fB dr)))] := hD
  subst hr2
  refine lb_if_ne (tgt := 14) hx hb dX5_drop_9 (by decide) (fun c9 => ?_) (fun c9 => ?_)
  · rw [ak1_f hz] at c9; cases c9
  · refine lv_iconst (v := (nI 0)) hx hb dX5_drop_12 rfl ?_
    exact hret 13 ls H locs _ _ () _ hP hD hS (Nat.le_of_ble_eq_true rfl) (Nat.le_of_ble_eq_true rfl) rfl dX5_drop_13

set_option maxHeartbeats 4000000 in
set_option maxRecDepth 100000 in
theorem kX5_rule_ok (l : Launch) (D : va_G) (y3 : ClassId × ClassId × ClassId) (m0 : Nat) (m1 : Nat) (m2 : Nat) (m3 : Nat) (m4 : Nat) (m5 : Nat) (m6 : Nat) (m7 : Nat) (m8 : Nat) (m9 : Nat) (m10 : Nat) (m11 : Nat) (m12 : Nat) (m13 : Nat) (m14 : Nat) (m15 : Nat) (m16 : Nat) (m17 : Nat) (m18 : Nat) (nk : Nat) (np : Nat) (nr : Nat) (nl : Nat) (nb : Nat) (zo : Nat) (kr : Nat → Nat) (pr : Nat → Int32) (k : Int32) (wg : Int32) (hk : nk ≤ 14) (hnr : nr ≤ 12) (hz : (ak3 (inB k nk) (rgB wg (nI 0) (nI 100)) (decide (nr < 12))) = 0) : wrM l yX5_rule wsX5_rule 2 43 0 0 D y3 [(m0, .inr (5, [.ref m1, .int (nI nk), .ref m2, .ref m3, .ref m4, .ref m5, .ref m6, .int (nI np), .ref m7, .ref m8, .ref m9, .ref m10, .ref m11, .ref m12, .ref m13, .ref m14, .int (nI nr), .ref m15, .int (nI nl), .ref m16, .int (nI nb), .ref m17, .ref m18, .int (nI zo)])), (m7, .inl (y3.1, 12, .inl (fN kr))), (m8, .inl (y3.1, 12, .inl pr))] [.ref m0, .int k, .int wg] (fun r (_ : Unit) => r = (nI nr)) (fun (_ : Unit) => [(m0, .inr (5, [.ref m1, .int (nI nk), .ref m2, .ref m3, .ref m4, .ref m5, .ref m6, .int (nI np), .ref m7, .ref m8, .ref m9, .ref m10, .ref m11, .ref m12, .ref m13, .ref m14, .int (nI (nr + 1)), .ref m15, .int (nI nl), .ref m16, .int (nI nb), .ref m17, .ref m18, .int (nI 0)])), (m7, .inl (y3.1, 12, .inl (fN (va_up kr nr k.toNatClampNeg)))), (m8, .inl (y3.1, 12, .inl (upd pr nr wg)))]) := by
  refine wr_of (cc := cX5_rule) (maxL := 3) (by decide) rfl (Nat.le_of_ble_eq_true rfl) ?_
  intro p e s m args below meth c A Q hx hb hml hown hts hP hK hD hA hS hret ls hl
  replace hl : lv_has ls 3 [(0, .ref m0), (1, .int k), (2, .int wg)] := hl
  have hf100 := hts (.fieldLink RX5 100 "KindGuesserModel" "rules" "I") (by decide +kernel)
  have hf29 := hts (.fieldLink RX5 29 "KindGuesserModel" "ruleOf" "[I") (by decide +kernel)
  have hf32 := hts (.fieldLink RX5 32 "KindGuesserModel" "priority" "[I") (by decide +kernel)
  have hiX5 : ∀ q ∈ wsX50, q ∈ wsX5_rule := by decide +kernel
  refine lv_aload_n hx hb dX5_rule_0 rfl (lv_at hl 0 rfl) ?_
  refine lv_aload_n hx hb dX5_rule_1 rfl (lv_at hl 0 rfl) ?_
  refine lv_iload_n hx hb dX5_rule_2 rfl (lv_at hl 1 rfl) ?_
  refine rd_V (ci := 5) (q0 := 0) (own := RX5) (As := [.int k]) (rest := [.ref m0]) (bytes := cX5_isKind) (maxL := 2) ⟨hx, hb, hml, hown, hts⟩ (kX5_isKind l D y3 m0 m1 m2 m3 m4 m5 m6 m7 m8 m9 m10 m11 m12 m13 m14 m15 m16 m17 m18 nk np nr nl nb zo k (by omega)) gX5_rule_X5_isKind rfl hvX5_isKind ⟨Nat.le_of_ble_eq_true rfl, Nat.le_of_ble_eq_true rfl⟩ hP hK [0] rfl rfl rfl hl.1 rfl (Nat.le_of_ble_eq_true rfl) dX5_rule_3 ⟨Nat.le_of_ble_eq_true rfl, Nat.le_of_ble_eq_true rfl⟩ (fun r1 hr1 => ?_)
  subst hr1
  refine lv_iload_n hx hb dX5_rule_6 rfl (lv_at hl 2 rfl) ?_
  refine lv_iconst (v := (nI 0)) hx hb dX5_rule_7 rfl ?_
  refine lv_bipush (v := (nI 100)) hx hb dX5_rule_8 rfl ?_
  refine rd_S (own := RX5) (As := [.int wg, .int (nI 0), .int (nI 100)]) (rest := [.int (bI (inB k nk)), .ref m0]) (bytes := cX5_in) (maxL := 3) ⟨hx, hb, hml, hown, hts⟩ (kX5_in l D y3 wg (nI 0) (nI 100)) gX5_rule_X5_in rfl hvX5_in ⟨Nat.le_of_ble_eq_true rfl, Nat.le_of_ble_eq_true rfl⟩ hP hK [] rfl  hl.1 rfl (Nat.le_of_ble_eq_true rfl) dX5_rule_10 ⟨Nat.le_of_ble_eq_true rfl, Nat.le_of_ble_eq_true rfl⟩ (fun r2 hr2 => ?_)
  subst hr2
  have jn27 : ∀ (j3 : Bool), (j3 = decide (nr < 12)) → ∀ (H : Heap) (locs : List Loc), va_P D vwCl [(m0, .inr (5, [.ref m1, .int (nI nk), .ref m2, .ref m3, .ref m4, .ref m5, .ref m6, .int (nI np), .ref m7, .ref m8, .ref m9, .ref m10, .ref m11, .ref m12, .ref m13, .ref m14, .int (nI nr), .ref m15, .int (nI nl), .ref m16, .int (nI nb), .ref m17, .ref m18, .int (nI zo)])), (m7, .inl (y3.1, 12, .inl (fN kr))), (m8, .inl (y3.1, 12, .inl pr))] H → va_D A [(m0, .inr (5, [.ref m1, .int (nI nk), .ref m2, .ref m3, .ref m4, .ref m5, .ref m6, .int (nI np), .ref m7, .ref m8, .ref m9, .ref m10, .ref m11, .ref m12, .ref m13, .ref m14, .int (nI nr), .ref m15, .int (nI nl), .ref m16, .int (nI nb), .ref m17, .ref m18, .int (nI zo)])), (m7, .inl (y3.1, 12, .inl (fN kr))), (m8, .inl (y3.1, 12, .inl pr))] → va_S A s.heap H locs → ∀ ls : Array Slot, lv_has ls 3 [(0, .ref m0), (1, .int k), (2, .int wg)] → W p l e (rmO 2 0 0 43) s m args below meth c H locs 0 0 Q (F0 m 27 ls [.int (bI j3), .int (bI (rgB wg (nI 0) (nI 100))), .int (bI (inB k nk)), .ref m0]) := by
    intro j3 hj3 H locs hP hD hS ls hl
    refine wr_V (ci := 5) (q0 := 0) (own := RX5) (As := [.int (bI (inB k nk)), .int (bI (rgB wg (nI 0) (nI 100))), .int (bI j3)]) (rest := []) (bytes := cX5_asked__) (maxL := 4) (wr := [(m7, .inl (y3.1, 12, .inl (fN kr))), (m8, .inl (y3.1, 12, .inl pr))]) (w3 := (fun (_ : Unit) => [(m0, .inr (5, [.ref m1, .int (nI nk), .ref m2, .ref m3, .ref m4, .ref m5, .ref m6, .int (nI np), .ref m7, .ref m8, .ref m9, .ref m10, .ref m11, .ref m12, .ref m13, .ref m14, .int (nI nr), .ref m15, .int (nI nl), .ref m16, .int (nI nb), .ref m17, .ref m18, .int (nI (ak3 (inB k nk) (rgB wg (nI 0) (nI 100)) j3))])), (m7, .inl (y3.1, 12, .inl (fN kr))), (m8, .inl (y3.1, 12, .inl pr))])) ⟨hx, hb, hml, hown, hts⟩ (kX5_asked__ l D y3 m0 m1 m2 m3 m4 m5 m6 m7 m8 m9 m10 m11 m12 m13 m14 m15 m16 m17 m18 nk np nr nl nb zo (inB k nk) (rgB wg (nI 0) (nI 100)) j3) gX5_rule_X5_asked__ rfl hvX5_asked__ ⟨Nat.le_of_ble_eq_true rfl, Nat.le_of_ble_eq_true rfl⟩ hP hK hD hS hA [0] [1, 2] [2, 0, 1] rfl rfl rfl rfl (by decide) (fun _ => rfl) rfl rfl rfl hl.1 rfl (Nat.le_of_ble_eq_true rfl) dX5_rule_27 ⟨Nat.le_of_ble_eq_true rfl, Nat.le_of_ble_eq_true rfl⟩ (fun r3 u4 H locs hr3 hP hD hS => ?_)
    have hP : va_P D vwCl [(m0, .inr (5, [.ref m1, .int (nI nk), .ref m2, .ref m3, .ref m4, .ref m5, .ref m6, .int (nI np), .ref m7, .ref m8, .ref m9, .ref m10, .ref m11, .ref m12, .ref m13, .ref m14, .int (nI nr), .ref m15, .int (nI nl), .ref m16, .int (nI nb), .ref m17, .ref m18, .int (nI (ak3 (inB k nk) (rgB wg (nI 0) (nI 100)) j3))])), (m7, .inl (y3.1, 12, .inl (fN kr))), (m8, .inl (y3.1, 12, .inl pr))] H := hP
    have hD : va_D A [(m0, .inr (5, [.ref m1, .int (nI nk), .ref m2, .ref m3, .ref m4, .ref m5, .ref m6, .int (nI np), .ref m7, .ref m8, .ref m9, .ref m10, .ref m11, .ref m12, .ref m13, .ref m14, .int (nI nr), .ref m15, .int (nI nl), .ref m16, .int (nI nb), .ref m17, .ref m18, .int (nI (ak3 (inB k nk) (rgB wg (nI 0) (nI 100)) j3))])), (m7, .inl (y3.1, 12, .inl (fN kr))), (m8, .inl (y3.1, 12, .inl pr))] := hD
    subst hr3
    refine lb_if_ne (tgt := 35) hx hb dX5_rule_30 (by decide) (fun c30 => ?_) (fun c30 => ?_)
    · obtain ⟨hA1, hA2, hA3⟩ := ak3_a hz
      have hlt : nr < 12 := of_decide_eq_true hA3
      obtain ⟨ek, hkn⟩ := inB_c hA1 (by omega)
      refine lv_aload_n hx hb dX5_rule_35 rfl (lv_at hl 0 rfl) ?_
      refine va_get (D := D) (ci := 5) (v := .ref m7) (C := RX5) (T := TX5) (N := 24) hx hb hts hiX5 hown hK hP 0 rfl rfl 8 (by decide) hf29 (fun _ h9 => h9) rfl dX5_rule_36 ?_
      refine lv_aload_n hx hb dX5_rule_39 rfl (lv_at hl 0 rfl) ?_
      refine va_get (D := D) (ci := 5) (v := .int (nI nr)) (C := RX5) (T := TX5) (N := 24) hx hb hts hiX5 hown hK hP 0 rfl rfl 16 (by decide) hf100 (fun _ h9 => h9) rfl dX5_rule_40 ?_
      refine lv_iload_n hx hb dX5_rule_43 rfl (lv_at hl 1 rfl) ?_
      refine ln_eqi (y := (nI k.toNatClampNeg)) ek ?_
      refine ln_iastN hx hb hK hP hD hS 1 0 rfl rfl (by omega) (by decide) dX5_rule_44 _ rfl (fun H locs hP hD hS => ?_)
      have hP : va_P D vwCl [(m0, .inr (5, [.ref m1, .int (nI nk), .ref m2, .ref m3, .ref m4, .ref m5, .ref m6, .int (nI np), .ref m7, .ref m8, .ref m9, .ref m10, .ref m11, .ref m12, .ref m13, .ref m14, .int (nI nr), .ref m15, .int (nI nl), .ref m16, .int (nI nb), .ref m17, .ref m18, .int (nI (ak3 (inB k nk) (rgB wg (nI 0) (nI 100)) j3))])), (m7, .inl (y3.1, 12, .inl (fN (va_up kr nr k.toNatClampNeg)))), (m8, .inl (y3.1, 12, .inl pr))] H := hP
      have hD : va_D A [(m0, .inr (5, [.ref m1, .int (nI nk), .ref m2, .ref m3, .ref m4, .ref m5, .ref m6, .int (nI np), .ref m7, .ref m8, .ref m9, .ref m10, .ref m11, .ref m12, .ref m13, .ref m14, .int (nI nr), .ref m15, .int (nI nl), .ref m16, .int (nI nb), .ref m17, .ref m18, .int (nI (ak3 (inB k nk) (rgB wg (nI 0) (nI 100)) j3))])), (m7, .inl (y3.1, 12, .inl (fN (va_up kr nr k.toNatClampNeg)))), (m8, .inl (y3.1, 12, .inl pr))] := hD
      refine lv_aload_n hx hb dX5_rule_45 rfl (lv_at hl 0 rfl) ?_
      refine va_get (D := D) (ci := 5) (v := .ref m8) (C := RX5) (T := TX5) (N := 24) hx hb hts hiX5 hown hK hP 0 rfl rfl 9 (by decide) hf32 (fun _ h9 => h9) rfl dX5_rule_46 ?_
      refine lv_aload_n hx hb dX5_rule_49 rfl (lv_at hl 0 rfl) ?_
      refine va_get (D := D) (ci := 5) (v := .int (nI nr)) (C := RX5) (T := TX5) (N := 24) hx hb hts hiX5 hown hK hP 0 rfl rfl 16 (by decide) hf100 (fun _ h9 => h9) rfl dX5_rule_50 ?_
      refine lv_iload_n hx hb dX5_rule_53 rfl (lv_at hl 2 rfl) ?_
      refine ln_iast hx hb hK hP hD hS 2 0 rfl rfl (by omega) (by decide) dX5_rule_54 _ rfl (fun H locs hP hD hS => ?_)
      have hP : va_P D vwCl [(m0, .inr (5, [.ref m1, .int (nI nk), .ref m2, .ref m3, .ref m4, .ref m5, .ref m6, .int (nI np), .ref m7, .ref m8, .ref m9, .ref m10, .ref m11, .ref m12, .ref m13, .ref m14, .int (nI nr), .ref m15, .int (nI nl), .ref m16, .int (nI nb), .ref m17, .ref m18, .int (nI (ak3 (inB k nk) (rgB wg (nI 0) (nI 100)) j3))])), (m7, .inl (y3.1, 12, .inl (fN (va_up kr nr k.toNatClampNeg)))), (m8, .inl (y3.1, 12, .inl (upd pr nr wg)))] H := hP
      have hD : va_D A [(m0, .inr (5, [.ref m1, .int (nI nk), .ref m2, .ref m3, .ref m4, .ref m5, .ref m6, .int (nI np), .ref m7, .ref m8, .ref m9, .ref m10, .ref m11, .ref m12, .ref m13, .ref m14, .int (nI nr), .ref m15, .int (nI nl), .ref m16, .int (nI nb), .ref m17, .ref m18, .int (nI (ak3 (inB k nk) (rgB wg (nI 0) (nI 100)) j3))])), (m7, .inl (y3.1, 12, .inl (fN (va_up kr nr k.toNatClampNeg)))), (m8, .inl (y3.1, 12, .inl (upd pr nr wg)))] := hD
      refine lv_aload_n hx hb dX5_rule_55 rfl (lv_at hl 0 rfl) ?_
      refine lv_dup hx hb dX5_rule_56 rfl ?_
      refine va_get (D := D) (ci := 5) (v := .int (nI nr)) (C := RX5) (T := TX5) (N := 24) hx hb hts hiX5 hown hK hP 0 rfl rfl 16 (by decide) hf100 (fun _ h9 => h9) rfl dX5_rule_57 ?_
      refine lv_iconst (v := (nI 1)) hx hb dX5_rule_60 rfl ?_
      refine ln_iadd (n := nr + 1) hx hb rfl dX5_rule_61 ?_
      refine va_put (D := D) (ci := 5) (v := .int (nI (nr + 1))) (ty := .int) (C := RX5) (T := TX5) (N := 24) hx hb hts hiX5 tyX5 tyX5_ok nmX5 hown hK hP hD hS 0 rfl rfl 16 (by decide) hf100 (fun _ h9 => h9) rfl (by decide +kernel) rfl rfl (Nat.le_of_ble_eq_true rfl) dX5_rule_62 (fun H locs hP hD hS => ?_)
      have hP : va_P D vwCl [(m0, .inr (5, [.ref m1, .int (nI nk), .ref m2, .ref m3, .ref m4, .ref m5, .ref m6, .int (nI np), .ref m7, .ref m8, .ref m9, .ref m10, .ref m11, .ref m12, .ref m13, .ref m14, .int (nI (nr + 1)), .ref m15, .int (nI nl), .ref m16, .int (nI nb), .ref m17, .ref m18, .int (nI (ak3 (inB k nk) (rgB wg (nI 0) (nI 100)) j3))])), (m7, .inl (y3.1, 12, .inl (fN (va_up kr nr k.toNatClampNeg)))), (m8, .inl (y3.1, 12, .inl (upd pr nr wg)))] H := hP
      have hD : va_D A [(m0, .inr (5, [.ref m1, .int (nI nk), .ref m2, .ref m3, .ref m4, .ref m5, .ref m6, .int (nI np), .ref m7, .ref m8, .ref m9, .ref m10, .ref m11, .ref m12, .ref m13, .ref m14, .int (nI (nr + 1)), .ref m15, .int (nI nl), .ref m16, .int (nI nb), .ref m17, .ref m18, .int (nI (ak3 (inB k nk) (rgB wg (nI 0) (nI 100)) j3))])), (m7, .inl (y3.1, 12, .inl (fN (va_up kr nr k.toNatClampNeg)))), (m8, .inl (y3.1, 12, .inl (upd pr nr wg)))] := hD
      refine lv_aload_n hx hb dX5_rule_65 rfl (lv_at hl 0 rfl) ?_
      refine va_get (D := D) (ci := 5) (v := .int (nI (nr + 1))) (C := RX5) (T := TX5) (N := 24) hx hb hts hiX5 hown hK hP 0 rfl rfl 16 (by decide) hf100 (fun _ h9 => h9) rfl dX5_rule_66 ?_
      refine lv_iconst (v := (nI 1)) hx hb dX5_rule_69 rfl ?_
      refine ln_isub (n := nr) hx hb (by omega) (by omega) dX5_rule_70 ?_
      rw [show ak3 (inB k nk) (rgB wg (nI 0) (nI 100)) j3 = 0 from by rw [hj3]; exact hz] at hP hD
      exact hret 71 ls H locs _ _ () _ hP hD hS (Nat.le_of_ble_eq_true rfl) (Nat.le_of_ble_eq_true rfl) rfl dX5_rule_71
    · rw [hj3] at c30; rw [ak3_t hz] at c30; cases c30
  refine lv_aload_n hx hb dX5_rule_13 rfl (lv_at hl 0 rfl) ?_
  refine va_get (D := D) (ci := 5) (v := .int (nI nr)) (C := RX5) (T := TX5) (N := 24) hx hb hts hiX5 hown hK hP 0 rfl rfl 16 (by decide) hf100 (fun _ h9 => h9) rfl dX5_rule_14 ?_
  refine lv_bipush (v := (nI 12)) hx hb dX5_rule_17 rfl ?_
  refine ln_icmp_ge (tgt := 26) hx hb (by omega) (by omega) dX5_rule_19 (by decide) (fun c19 => ?_) (fun c19 => ?_)
  · refine lv_iconst (v := (nI 0)) hx hb dX5_rule_26 rfl ?_
    exact jn27 false (by first | exact (decide_eq_true (by omega)).symm | exact (decide_eq_false (by omega)).symm) _ _ hP hD hS _ (lv_sub hl [0, 1, 2] rfl)
  · refine lv_iconst (v := (nI 1)) hx hb dX5_rule_22 rfl ?_
    refine lv_goto (tgt := 27) hx hb dX5_rule_23 (by decide) ?_
    exact jn27 true (by first | exact (decide_eq_true (by omega)).symm | exact (decide_eq_false (by omega)).symm) _ _ hP hD hS _ (lv_sub hl [0, 1, 2] rfl)

set_option maxHeartbeats 4000000 in
set_option maxRecDepth 100000 in
theorem kX5_rule_ex (l : Launch) (D : va_G) (y3 : ClassId × ClassId × ClassId) (m0 : Nat) (m1 : Nat) (m2 : Nat) (m3 : Nat) (m4 : Nat) (m5 : Nat) (m6 : Nat) (m7 : Nat) (m8 : Nat) (m9 : Nat) (m10 : Nat) (m11 : Nat) (m12 : Nat) (m13 : Nat) (m14 : Nat) (m15 : Nat) (m16 : Nat) (m17 : Nat) (m18 : Nat) (nk : Nat) (np : Nat) (nr : Nat) (nl : Nat) (nb : Nat) (zo : Nat) (kr : Nat → Nat) (pr : Nat → Int32) (k : Int32) (wg : Int32) (hk : nk ≤ 14) (hnr : nr ≤ 12) (hz : ¬ (ak3 (inB k nk) (rgB wg (nI 0) (nI 100)) (decide (nr < 12))) = 0) : wrM l yX5_rule wsX5_rule 2 43 0 0 D y3 [(m0, .inr (5, [.ref m1, .int (nI nk), .ref m2, .ref m3, .ref m4, .ref m5, .ref m6, .int (nI np), .ref m7, .ref m8, .ref m9, .ref m10, .ref m11, .ref m12, .ref m13, .ref m14, .int (nI nr), .ref m15, .int (nI nl), .ref m16, .int (nI nb), .ref m17, .ref m18, .int (nI zo)])), (m7, .inl (y3.1, 12, .inl (fN kr))), (m8, .inl (y3.1, 12, .inl pr))] [.ref m0, .int k, .int wg] (fun r (_ : Unit) => r = (nI 0)) (fun (_ : Unit) => [(m0, .inr (5, [.ref m1, .int (nI nk), .ref m2, .ref m3, .ref m4, .ref m5, .ref m6, .int (nI np), .ref m7, .ref m8, .ref m9, .ref m10, .ref m11, .ref m12, .ref m13, .ref m14, .int (nI nr), .ref m15, .int (nI nl), .ref m16, .int (nI nb), .ref m17, .ref m18, .int (nI (ak3 (inB k nk) (rgB wg (nI 0) (nI 100)) (decide (nr < 12))))])), (m7, .inl (y3.1, 12, .inl (fN kr))), (m8, .inl (y3.1, 12, .inl pr))]) := by
  refine wr_of (cc := cX5_rule) (maxL := 3) (by decide) rfl (Nat.le_of_ble_eq_true rfl) ?_
  intro p e s m args below meth c A Q hx hb hml hown hts hP hK hD hA hS hret ls hl
  replace hl : lv_has ls 3 [(0, .ref m0), (1, .int k), (2, .int wg)] := hl
  have hf100 := hts (.fieldLink RX5 100 "KindGuesserModel" "rules" "I") (by decide +kernel)
  have hiX5 : ∀ q ∈ wsX50, q ∈ wsX5_rule := by decide +kernel
  refine lv_aload_n hx hb dX5_rule_0 rfl (lv_at hl 0 rfl) ?_
  refine lv_aload_n hx hb dX5_rule_1 rfl (lv_at hl 0 rfl) ?_
  refine lv_iload_n hx hb dX5_rule_2 rfl (lv_at hl 1 rfl) ?_
  refine rd_V (ci := 5) (q0 := 0) (own := RX5) (As := [.int k]) (rest := [.ref m0]) (bytes := cX5_isKind) (maxL := 2) ⟨hx, hb, hml, hown, hts⟩ (kX5_isKind l D y3 m0 m1 m2 m3 m4 m5 m6 m7 m8 m9 m10 m11 m12 m13 m14 m15 m16 m17 m18 nk np nr nl nb zo k (by omega)) gX5_rule_X5_isKind rfl hvX5_isKind ⟨Nat.le_of_ble_eq_true rfl, Nat.le_of_ble_eq_true rfl⟩ hP hK [0] rfl rfl rfl hl.1 rfl (Nat.le_of_ble_eq_true rfl) dX5_rule_3 ⟨Nat.le_of_ble_eq_true rfl, Nat.le_of_ble_eq_true rfl⟩ (fun r1 hr1 => ?_)
  subst hr1
  refine lv_iload_n hx hb dX5_rule_6 rfl (lv_at hl 2 rfl) ?_
  refine lv_iconst (v := (nI 0)) hx hb dX5_rule_7 rfl ?_
  refine lv_bipush (v := (nI 100)) hx hb dX5_rule_8 rfl ?_
  refine rd_S (own := RX5) (As := [.int wg, .int (nI 0), .int (nI 100)]) (rest := [.int (bI (inB k nk)), .ref m0]) (bytes := cX5_in) (maxL := 3) ⟨hx, hb, hml, hown, hts⟩ (kX5_in l D y3 wg (nI 0) (nI 100)) gX5_rule_X5_in rfl hvX5_in ⟨Nat.le_of_ble_eq_true rfl, Nat.le_of_ble_eq_true rfl⟩ hP hK [] rfl  hl.1 rfl (Nat.le_of_ble_eq_true rfl) dX5_rule_10 ⟨Nat.le_of_ble_eq_true rfl, Nat.le_of_ble_eq_true rfl⟩ (fun r2 hr2 => ?_)
  subst hr2
  have jn27 : ∀ (j3 : Bool), (j3 = decide (nr < 12)) → ∀ (H : Heap) (locs : List Loc), va_P D vwCl [(m0, .inr (5, [.ref m1, .int (nI nk), .ref m2, .ref m3, .ref m4, .ref m5, .ref m6, .int (nI np), .ref m7, .ref m8, .ref m9, .ref m10, .ref m11, .ref m12, .ref m13, .ref m14, .int (nI nr), .ref m15, .int (nI nl), .ref m16, .int (nI nb), .ref m17, .ref m18, .int (nI zo)])), (m7, .inl (y3.1, 12, .inl (fN kr))), (m8, .inl (y3.1, 12, .inl pr))] H → va_D A [(m0, .inr (5, [.ref m1, .int (nI nk), .ref m2, .ref m3, .ref m4, .ref m5, .ref m6, .int (nI np), .ref m7, .ref m8, .ref m9, .ref m10, .ref m11, .ref m12, .ref m13, .ref m14, .int (nI nr), .ref m15, .int (nI nl), .ref m16, .int (nI nb), .ref m17, .ref m18, .int (nI zo)])), (m7, .inl (y3.1, 12, .inl (fN kr))), (m8, .inl (y3.1, 12, .inl pr))] → va_S A s.heap H locs → ∀ ls : Array Slot, lv_has ls 3 [(0, .ref m0), (1, .int k), (2, .int wg)] → W p l e (rmO 2 0 0 43) s m args below meth c H locs 0 0 Q (F0 m 27 ls [.int (bI j3), .int (bI (rgB wg (nI 0) (nI 100))), .int (bI (inB k nk)), .ref m0]) := by
    intro j3 hj3 H locs hP hD hS ls hl
    refine wr_V (ci := 5) (q0 := 0) (own := RX5) (As := [.int (bI (inB k nk)), .int (bI (rgB wg (nI 0) (nI 100))), .int (bI j3)]) (rest := []) (bytes := cX5_asked__) (maxL := 4) (wr := [(m7, .inl (y3.1, 12, .inl (fN kr))), (m8, .inl (y3.1, 12, .inl pr))]) (w3 := (fun (_ : Unit) => [(m0, .inr (5, [.ref m1, .int (nI nk), .ref m2, .ref m3, .ref m4, .ref m5, .ref m6, .int (nI np), .ref m7, .ref m8, .ref m9, .ref m10, .ref m11, .ref m12, .ref m13, .ref m14, .int (nI nr), .ref m15, .int (nI nl), .ref m16, .int (nI nb), .ref m17, .ref m18, .int (nI (ak3 (inB k nk) (rgB wg (nI 0) (nI 100)) j3))])), (m7, .inl (y3.1, 12, .inl (fN kr))), (m8, .inl (y3.1, 12, .inl pr))])) ⟨hx, hb, hml, hown, hts⟩ (kX5_asked__ l D y3 m0 m1 m2 m3 m4 m5 m6 m7 m8 m9 m10 m11 m12 m13 m14 m15 m16 m17 m18 nk np nr nl nb zo (inB k nk) (rgB wg (nI 0) (nI 100)) j3) gX5_rule_X5_asked__ rfl hvX5_asked__ ⟨Nat.le_of_ble_eq_true rfl, Nat.le_of_ble_eq_true rfl⟩ hP hK hD hS hA [0] [1, 2] [2, 0, 1] rfl rfl rfl rfl (by decide) (fun _ => rfl) rfl rfl rfl hl.1 rfl (Nat.le_of_ble_eq_true rfl) dX5_rule_27 ⟨Nat.le_of_ble_eq_true rfl, Nat.le_of_ble_eq_true rfl⟩ (fun r3 u4 H locs hr3 hP hD hS => ?_)
    have hP : va_P D vwCl [(m0, .inr (5, [.ref m1, .int (nI nk), .ref m2, .ref m3, .ref m4, .ref m5, .ref m6, .int (nI np), .ref m7, .ref m8, .ref m9, .ref m10, .ref m11, .ref m12, .ref m13, .ref m14, .int (nI nr), .ref m15, .int (nI nl), .ref m16, .int (nI nb), .ref m17, .ref m18, .int (nI (ak3 (inB k nk) (rgB wg (nI 0) (nI 100)) j3))])), (m7, .inl (y3.1, 12, .inl (fN kr))), (m8, .inl (y3.1, 12, .inl pr))] H := hP
    have hD : va_D A [(m0, .inr (5, [.ref m1, .int (nI nk), .ref m2, .ref m3, .ref m4, .ref m5, .ref m6, .int (nI np), .ref m7, .ref m8, .ref m9, .ref m10, .ref m11, .ref m12, .ref m13, .ref m14, .int (nI nr), .ref m15, .int (nI nl), .ref m16, .int (nI nb), .ref m17, .ref m18, .int (nI (ak3 (inB k nk) (rgB wg (nI 0) (nI 100)) j3))])), (m7, .inl (y3.1, 12, .inl (fN kr))), (m8, .inl (y3.1, 12, .inl pr))] := hD
    subst hr3
    refine lb_if_ne (tgt := 35) hx hb dX5_rule_30 (by decide) (fun c30 => ?_) (fun c30 => ?_)
    · rw [hj3] at c30; rw [ak3_f hz] at c30; cases c30
    · refine lv_iconst (v := (nI 0)) hx hb dX5_rule_33 rfl ?_
      rw [hj3] at hP hD
      exact hret 34 ls H locs _ _ () _ hP hD hS (Nat.le_of_ble_eq_true rfl) (Nat.le_of_ble_eq_true rfl) rfl dX5_rule_34
  refine lv_aload_n hx hb dX5_rule_13 rfl (lv_at hl 0 rfl) ?_
  refine va_get (D := D) (ci := 5) (v := .int (nI nr)) (C := RX5) (T := TX5) (N := 24) hx hb hts hiX5 hown hK hP 0 rfl rfl 16 (by decide) hf100 (fun _ h9 => h9) rfl dX5_rule_14 ?_
  refine lv_bipush (v := (nI 12)) hx hb dX5_rule_17 rfl ?_
  refine ln_icmp_ge (tgt := 26) hx hb (by omega) (by omega) dX5_rule_19 (by decide) (fun c19 => ?_) (fun c19 => ?_)
  · refine lv_iconst (v := (nI 0)) hx hb dX5_rule_26 rfl ?_
    exact jn27 false (by first | exact (decide_eq_true (by omega)).symm | exact (decide_eq_false (by omega)).symm) _ _ hP hD hS _ (lv_sub hl [0, 1, 2] rfl)
  · refine lv_iconst (v := (nI 1)) hx hb dX5_rule_22 rfl ?_
    refine lv_goto (tgt := 27) hx hb dX5_rule_23 (by decide) ?_
    exact jn27 true (by first | exact (decide_eq_true (by omega)).symm | exact (decide_eq_false (by omega)).symm) _ _ hP hD hS _ (lv_sub hl [0, 1, 2] rfl)

set_option maxHeartbeats 4000000 in
set_option maxRecDepth 100000 in
theorem kX5_test_ok (l : Launch) (D : va_G) (y3 : ClassId × ClassId × ClassId) (m0 : Nat) (m1 : Nat) (m2 : Nat) (m3 : Nat) (m4 : Nat) (m5 : Nat) (m6 : Nat) (m7 : Nat) (m8 : Nat) (m9 : Nat) (m10 : Nat) (m11 : Nat) (m12 : Nat) (m13 : Nat) (m14 : Nat) (m15 : Nat) (m16 : Nat) (m17 : Nat) (m18 : Nat) (nk : Nat) (np : Nat) (nr : Nat) (nl : Nat) (nb : Nat) (zo : Nat) (tc : Nat → Nat) (lev : Nat → Nat) (fo : Nat → Nat) (tu : Nat → Nat) (wn : Nat → Int32) (mk : Nat → Int32) (ru : Int32) (dp : Int32) (fm : Int32) (tz : Int32) (vl : Int32) (mm : Int32) (hnr : nr ≤ 12) (htc : ∀ q : Nat, tc q ≤ 6) (hlv : ∀ q : Nat, lev q ≤ 5) (hz : (ak3 (inB ru nr) (teB (gnl lev tc ru.toNatClampNeg) dp fm tz vl mm) (decide (tc ru.toNatClampNeg < 6))) = 0) : wrM l yX5_test wsX5_test 2 43 0 0 D y3 [(m0, .inr (5, [.ref m1, .int (nI nk), .ref m2, .ref m3, .ref m4, .ref m5, .ref m6, .int (nI np), .ref m7, .ref m8, .ref m9, .ref m10, .ref m11, .ref m12, .ref m13, .ref m14, .int (nI nr), .ref m15, .int (nI nl), .ref m16, .int (nI nb), .ref m17, .ref m18, .int (nI zo)])), (m9, .inl (y3.1, 12, .inl (fN tc))), (m10, .inl (y3.1, 72, .inl (fN lev))), (m11, .inl (y3.1, 72, .inl (fN fo))), (m12, .inl (y3.1, 72, .inl (fN tu))), (m13, .inl (y3.1, 72, .inl wn)), (m14, .inl (y3.1, 72, .inl mk))] [.ref m0, .int ru, .int dp, .int fm, .int tz, .int vl, .int mm] (fun r (_ : Unit) => r = (nI ((tc ru.toNatClampNeg) + 1))) (fun (_ : Unit) => [(m0, .inr (5, [.ref m1, .int (nI nk), .ref m2, .ref m3, .ref m4, .ref m5, .ref m6, .int (nI np), .ref m7, .ref m8, .ref m9, .ref m10, .ref m11, .ref m12, .ref m13, .ref m14, .int (nI nr), .ref m15, .int (nI nl), .ref m16, .int (nI nb), .ref m17, .ref m18, .int (nI 0)])), (m9, .inl (y3.1, 12, .inl (fN (va_up tc ru.toNatClampNeg ((tc ru.toNatClampNeg) + 1))))), (m10, .inl (y3.1, 72, .inl (fN (va_up lev ((ru.toNatClampNeg * 6) + (tc ru.toNatClampNeg)) dp.toNatClampNeg)))), (m11, .inl (y3.1, 72, .inl (fN (va_up fo ((ru.toNatClampNeg * 6) + (tc ru.toNatClampNeg)) fm.toNatClampNeg)))), (m12, .inl (y3.1, 72, .inl (fN (va_up tu ((ru.toNatClampNeg * 6) + (tc ru.toNatClampNeg)) tz.toNatClampNeg)))), (m13, .inl (y3.1, 72, .inl (upd wn ((ru.toNatClampNeg * 6) + (tc ru.toNatClampNeg)) vl))), (m14, .inl (y3.1, 72, .inl (upd mk ((ru.toNatClampNeg * 6) + (tc ru.toNatClampNeg)) mm)))]) := by
  refine wr_of (cc := cX5_test) (maxL := 12) (by decide) rfl (Nat.le_of_ble_eq_true rfl) ?_
  intro p e s m args below meth c A Q hx hb hml hown hts hP hK hD hA hS hret ls hl
  replace hl : lv_has ls 12 [(0, .ref m0), (1, .int ru), (2, .int dp), (3, .int fm), (4, .int tz), (5, .int vl), (6, .int mm)] := hl
  have hf35 := hts (.fieldLink RX5 35 "KindGuesserModel" "tests" "[I") (by decide +kernel)
  have hf38 := hts (.fieldLink RX5 38 "KindGuesserModel" "level" "[I") (by decide +kernel)
  have hf41 := hts (.fieldLink RX5 41 "KindGuesserModel" "from" "[I") (by decide +kernel)
  have hf44 := hts (.fieldLink RX5 44 "KindGuesserModel" "to" "[I") (by decide +kernel)
  have hf47 := hts (.fieldLink RX5 47 "KindGuesserModel" "value" "[I") (by decide +kernel)
  have hf50 := hts (.fieldLink RX5 50 "KindGuesserModel" "mask" "[I") (by decide +kernel)
  have hiX5 : ∀ q ∈ wsX50, q ∈ wsX5_test := by decide +kernel
  refine lv_aload_n hx hb dX5_test_0 rfl (lv_at hl 0 rfl) ?_
  refine lv_iload_n hx hb dX5_test_1 rfl (lv_at hl 1 rfl) ?_
  refine rd_V (ci := 5) (q0 := 0) (own := RX5) (As := [.int ru]) (rest := []) (bytes := cX5_isRule) (maxL := 2) ⟨hx, hb, hml, hown, hts⟩ (kX5_isRule l D y3 m0 m1 m2 m3 m4 m5 m6 m7 m8 m9 m10 m11 m12 m13 m14 m15 m16 m17 m18 nk np nr nl nb zo ru (by omega)) gX5_test_X5_isRule rfl hvX5_isRule ⟨Nat.le_of_ble_eq_true rfl, Nat.le_of_ble_eq_true rfl⟩ hP hK [0] rfl rfl rfl hl.1 rfl (Nat.le_of_ble_eq_true rfl) dX5_test_2 ⟨Nat.le_of_ble_eq_true rfl, Nat.le_of_ble_eq_true rfl⟩ (fun r1 hr1 => ?_)
  subst hr1
  have jn22 : ∀ (t9 : Nat), (t9 = if inB ru nr = true then tc ru.toNatClampNeg else 0) → ∀ (H : Heap) (locs : List Loc), va_P D vwCl [(m0, .inr (5, [.ref m1, .int (nI nk), .ref m2, .ref m3, .ref m4, .ref m5, .ref m6, .int (nI np), .ref m7, .ref m8, .ref m9, .ref m10, .ref m11, .ref m12, .ref m13, .ref m14, .int (nI nr), .ref m15, .int (nI nl), .ref m16, .int (nI nb), .ref m17, .ref m18, .int (nI zo)])), (m9, .inl (y3.1, 12, .inl (fN tc))), (m10, .inl (y3.1, 72, .inl (fN lev))), (m11, .inl (y3.1, 72, .inl (fN fo))), (m12, .inl (y3.1, 72, .inl (fN tu))), (m13, .inl (y3.1, 72, .inl wn)), (m14, .inl (y3.1, 72, .inl mk))] H → va_D A [(m0, .inr (5, [.ref m1, .int (nI nk), .ref m2, .ref m3, .ref m4, .ref m5, .ref m6, .int (nI np), .ref m7, .ref m8, .ref m9, .ref m10, .ref m11, .ref m12, .ref m13, .ref m14, .int (nI nr), .ref m15, .int (nI nl), .ref m16, .int (nI nb), .ref m17, .ref m18, .int (nI zo)])), (m9, .inl (y3.1, 12, .inl (fN tc))), (m10, .inl (y3.1, 72, .inl (fN lev))), (m11, .inl (y3.1, 72, .inl (fN fo))), (m12, .inl (y3.1, 72, .inl (fN tu))), (m13, .inl (y3.1, 72, .inl wn)), (m14, .inl (y3.1, 72, .inl mk))] → va_S A s.heap H locs → ∀ ls : Array Slot, lv_has ls 12 [(0, .ref m0), (1, .int ru), (2, .int dp), (3, .int fm), (4, .int tz), (5, .int vl), (6, .int mm), (7, .int (bI (inB ru nr)))] → W p l e (rmO 2 0 0 43) s m args below meth c H locs 0 0 Q (F0 m 22 ls [.int (nI t9)]) := by
    intro t9 ht9 H locs hP hD hS ls hl
    have ht6 : t9 ≤ 6 := by rw [ht9]; split; exact htc _; omega
    refine lv_istore (lv' := [(8, .int (nI t9)), (0, .ref m0), (1, .int ru), (2, .int dp), (3, .int fm), (4, .int tz), (5, .int vl), (6, .int mm), (7, .int (bI (inB ru nr)))]) hx hb dX5_test_22 hl (by decide) rfl (fun ls hl => ?_)
    have jn49 : ∀ (mg9 : Nat), (inB ru nr = true → mg9 = gnl lev tc ru.toNatClampNeg) → ∀ (H : Heap) (locs : List Loc), va_P D vwCl [(m0, .inr (5, [.ref m1, .int (nI nk), .ref m2, .ref m3, .ref m4, .ref m5, .ref m6, .int (nI np), .ref m7, .ref m8, .ref m9, .ref m10, .ref m11, .ref m12, .ref m13, .ref m14, .int (nI nr), .ref m15, .int (nI nl), .ref m16, .int (nI nb), .ref m17, .ref m18, .int (nI zo)])), (m9, .inl (y3.1, 12, .inl (fN tc))), (m10, .inl (y3.1, 72, .inl (fN lev))), (m11, .inl (y3.1, 72, .inl (fN fo))), (m12, .inl (y3.1, 72, .inl (fN tu))), (m13, .inl (y3.1, 72, .inl wn)), (m14, .inl (y3.1, 72, .inl mk))] H → va_D A [(m0, .inr (5, [.ref m1, .int (nI nk), .ref m2, .ref m3, .ref m4, .ref m5, .ref m6, .int (nI np), .ref m7, .ref m8, .ref m9, .ref m10, .ref m11, .ref m12, .ref m13, .ref m14, .int (nI nr), .ref m15, .int (nI nl), .ref m16, .int (nI nb), .ref m17, .ref m18, .int (nI zo)])), (m9, .inl (y3.1, 12, .inl (fN tc))), (m10, .inl (y3.1, 72, .inl (fN lev))), (m11, .inl (y3.1, 72, .inl (fN fo))), (m12, .inl (y3.1, 72, .inl (fN tu))), (m13, .inl (y3.1, 72, .inl wn)), (m14, .inl (y3.1, 72, .inl mk))] → va_S A s.heap H locs → ∀ ls : Array Slot, lv_has ls 12 [(8, .int (nI t9)), (0, .ref m0), (1, .int ru), (2, .int dp), (3, .int fm), (4, .int tz), (5, .int vl), (6, .int mm), (7, .int (bI (inB ru nr)))] → W p l e (rmO 2 0 0 43) s m args below meth c H locs 0 0 Q (F0 m 49 ls [.int (nI mg9)]) := by
      intro mg9 hmg9 H locs hP hD hS ls hl
      refine lv_istore (lv' := [(9, .int (nI mg9)), (8, .int (nI t9)), (0, .ref m0), (1, .int ru), (2, .int dp), (3, .int fm), (4, .int tz), (5, .int vl), (6, .int mm), (7, .int (bI (inB ru nr)))]) hx hb dX5_test_49 hl (by decide) rfl (fun ls hl => ?_)
      have jn111 : ∀ (j2 : Bool), (j2 = teB mg9 dp fm tz vl mm) → ∀ (H : Heap) (locs : List Loc), va_P D vwCl [(m0, .inr (5, [.ref m1, .int (nI nk), .ref m2, .ref m3, .ref m4, .ref m5, .ref m6, .int (nI np), .ref m7, .ref m8, .ref m9, .ref m10, .ref m11, .ref m12, .ref m13, .ref m14, .int (nI nr), .ref m15, .int (nI nl), .ref m16, .int (nI nb), .ref m17, .ref m18, .int (nI zo)])), (m9, .inl (y3.1, 12, .inl (fN tc))), (m10, .inl (y3.1, 72, .inl (fN lev))), (m11, .inl (y3.1, 72, .inl (fN fo))), (m12, .inl (y3.1, 72, .inl (fN tu))), (m13, .inl (y3.1, 72, .inl wn)), (m14, .inl (y3.1, 72, .inl mk))] H → va_D A [(m0, .inr (5, [.ref m1, .int (nI nk), .ref m2, .ref m3, .ref m4, .ref m5, .ref m6, .int (nI np), .ref m7, .ref m8, .ref m9, .ref m10, .ref m11, .ref m12, .ref m13, .ref m14, .int (nI nr), .ref m15, .int (nI nl), .ref m16, .int (nI nb), .ref m17, .ref m18, .int (nI zo)])), (m9, .inl (y3.1, 12, .inl (fN tc))), (m10, .inl (y3.1, 72, .inl (fN lev))), (m11, .inl (y3.1, 72, .inl (fN fo))), (m12, .inl (y3.1, 72, .inl (fN tu))), (m13, .inl (y3.1, 72, .inl wn)), (m14, .inl (y3.1, 72, .inl mk))] → va_S A s.heap H locs → ∀ ls : Array Slot, lv_has ls 12 [(9, .int (nI mg9)), (8, .int (nI t9)), (0, .ref m0), (1, .int ru), (2, .int dp), (3, .int fm), (4, .int tz), (5, .int vl), (6, .int mm), (7, .int (bI (inB ru nr)))] → W p l e (rmO 2 0 0 43) s m args below meth c H locs 0 0 Q (F0 m 111 ls [.int (bI j2)]) := by
        intro j2 hj2 H locs hP hD hS ls hl
        refine lv_istore (lv' := [(10, .int (bI j2)), (9, .int (nI mg9)), (8, .int (nI t9)), (0, .ref m0), (1, .int ru), (2, .int dp), (3, .int fm), (4, .int tz), (5, .int vl), (6, .int mm), (7, .int (bI (inB ru nr)))]) hx hb dX5_test_111 hl (by decide) rfl (fun ls hl => ?_)
        have jn130 : ∀ (j3 : Bool), (j3 = decide (t9 < 6)) → ∀ (H : Heap) (locs : List Loc), va_P D vwCl [(m0, .inr (5, [.ref m1, .int (nI nk), .ref m2, .ref m3, .ref m4, .ref m5, .ref m6, .int (nI np), .ref m7, .ref m8, .ref m9, .ref m10, .ref m11, .ref m12, .ref m13, .ref m14, .int (nI nr), .ref m15, .int (nI nl), .ref m16, .int (nI nb), .ref m17, .ref m18, .int (nI zo)])), (m9, .inl (y3.1, 12, .inl (fN tc))), (m10, .inl (y3.1, 72, .inl (fN lev))), (m11, .inl (y3.1, 72, .inl (fN fo))), (m12, .inl (y3.1, 72, .inl (fN tu))), (m13, .inl (y3.1, 72, .inl wn)), (m14, .inl (y3.1, 72, .inl mk))] H → va_D A [(m0, .inr (5, [.ref m1, .int (nI nk), .ref m2, .ref m3, .ref m4, .ref m5, .ref m6, .int (nI np), .ref m7, .ref m8, .ref m9, .ref m10, .ref m11, .ref m12, .ref m13, .ref m14, .int (nI nr), .ref m15, .int (nI nl), .ref m16, .int (nI nb), .ref m17, .ref m18, .int (nI zo)])), (m9, .inl (y3.1, 12, .inl (fN tc))), (m10, .inl (y3.1, 72, .inl (fN lev))), (m11, .inl (y3.1, 72, .inl (fN fo))), (m12, .inl (y3.1, 72, .inl (fN tu))), (m13, .inl (y3.1, 72, .inl wn)), (m14, .inl (y3.1, 72, .inl mk))] → va_S A s.heap H locs → ∀ ls : Array Slot, lv_has ls 12 [(10, .int (bI j2)), (9, .int (nI mg9)), (8, .int (nI t9)), (0, .ref m0), (1, .int ru), (2, .int dp), (3, .int fm), (4, .int tz), (5, .int vl), (6, .int mm), (7, .int (bI (inB ru nr)))] → W p l e (rmO 2 0 0 43) s m args below meth c H locs 0 0 Q (F0 m 130 ls [.int (bI j3), .int (bI j2), .int (bI (inB ru nr)), .ref m0]) := by
          intro j3 hj3 H locs hP hD hS ls hl
          refine wr_V (ci := 5) (q0 := 0) (own := RX5) (As := [.int (bI (inB ru nr)), .int (bI j2), .int (bI j3)]) (rest := []) (bytes := cX5_asked__) (maxL := 4) (wr := [(m9, .inl (y3.1, 12, .inl (fN tc))), (m10, .inl (y3.1, 72, .inl (fN lev))), (m11, .inl (y3.1, 72, .inl (fN fo))), (m12, .inl (y3.1, 72, .inl (fN tu))), (m13, .inl (y3.1, 72, .inl wn)), (m14, .inl (y3.1, 72, .inl mk))]) (w3 := (fun (_ : Unit) => [(m0, .inr (5, [.ref m1, .int (nI nk), .ref m2, .ref m3, .ref m4, .ref m5, .ref m6, .int (nI np), .ref m7, .ref m8, .ref m9, .ref m10, .ref m11, .ref m12, .ref m13, .ref m14, .int (nI nr), .ref m15, .int (nI nl), .ref m16, .int (nI nb), .ref m17, .ref m18, .int (nI (ak3 (inB ru nr) j2 j3))])), (m9, .inl (y3.1, 12, .inl (fN tc))), (m10, .inl (y3.1, 72, .inl (fN lev))), (m11, .inl (y3.1, 72, .inl (fN fo))), (m12, .inl (y3.1, 72, .inl (fN tu))), (m13, .inl (y3.1, 72, .inl wn)), (m14, .inl (y3.1, 72, .inl mk))])) ⟨hx, hb, hml, hown, hts⟩ (kX5_asked__ l D y3 m0 m1 m2 m3 m4 m5 m6 m7 m8 m9 m10 m11 m12 m13 m14 m15 m16 m17 m18 nk np nr nl nb zo (inB ru nr) j2 j3) gX5_test_X5_asked__ rfl hvX5_asked__ ⟨Nat.le_of_ble_eq_true rfl, Nat.le_of_ble_eq_true rfl⟩ hP hK hD hS hA [0] [1, 2, 3, 4, 5, 6] [6, 0, 1, 2, 3, 4, 5] rfl rfl rfl rfl (by decide) (fun _ => rfl) rfl rfl rfl hl.1 rfl (Nat.le_of_ble_eq_true rfl) dX5_test_130 ⟨Nat.le_of_ble_eq_true rfl, Nat.le_of_ble_eq_true rfl⟩ (fun r2 u3 H locs hr2 hP hD hS => ?_)
          have hP : va_P D vwCl [(m0, .inr (5, [.ref m1, .int (nI nk), .ref m2, .ref m3, .ref m4, .ref m5, .ref m6, .int (nI np), .ref m7, .ref m8, .ref m9, .ref m10, .ref m11, .ref m12, .ref m13, .ref m14, .int (nI nr), .ref m15, .int (nI nl), .ref m16, .int (nI nb), .ref m17, .ref m18, .int (nI (ak3 (inB ru nr) j2 j3))])), (m9, .inl (y3.1, 12, .inl (fN tc))), (m10, .inl (y3.1, 72, .inl (fN lev))), (m11, .inl (y3.1, 72, .inl (fN fo))), (m12, .inl (y3.1, 72, .inl (fN tu))), (m13, .inl (y3.1, 72, .inl wn)), (m14, .inl (y3.1, 72, .inl mk))] H := hP
          have hD : va_D A [(m0, .inr (5, [.ref m1, .int (nI nk), .ref m2, .ref m3, .ref m4, .ref m5, .ref m6, .int (nI np), .ref m7, .ref m8, .ref m9, .ref m10, .ref m11, .ref m12, .ref m13, .ref m14, .int (nI nr), .ref m15, .int (nI nl), .ref m16, .int (nI nb), .ref m17, .ref m18, .int (nI (ak3 (inB ru nr) j2 j3))])), (m9, .inl (y3.1, 12, .inl (fN tc))), (m10, .inl (y3.1, 72, .inl (fN lev))), (m11, .inl (y3.1, 72, .inl (fN fo))), (m12, .inl (y3.1, 72, .inl (fN tu))), (m13, .inl (y3.1, 72, .inl wn)), (m14, .inl (y3.1, 72, .inl mk))] := hD
          subst hr2
          refine lb_if_ne (tgt := 138) hx hb dX5_test_133 (by decide) (fun c133 => ?_) (fun c133 => ?_)
          · have hzz : ak3 (inB ru nr) j2 j3 = (ak3 (inB ru nr) (teB (gnl lev tc ru.toNatClampNeg) dp fm tz vl mm) (decide (tc ru.toNatClampNeg < 6))) := (by rw [hj2, hj3]; exact ak3_eq (fun hb => by rw [hmg9 hb, ht9, if_pos hb]; exact ⟨rfl, rfl⟩))
            obtain ⟨hA1, hA2, hA3⟩ := ak3_a hz
            obtain ⟨ek, hkn⟩ := inB_c hA1 (by omega)
            have et9 : t9 = tc ru.toNatClampNeg := by rw [ht9, if_pos hA1]
            have hlt : tc ru.toNatClampNeg < 6 := of_decide_eq_true hA3
            obtain ⟨ed, hdn, ef, hfn, ez, hzn⟩ := teB_e (gnl_le hlv tc _) hA2
            refine lv_bipush (v := (nI 6)) hx hb dX5_test_138 rfl ?_
            refine lv_iload_n hx hb dX5_test_140 rfl (lv_at hl 4 rfl) ?_
            refine ln_eqi (y := (nI ru.toNatClampNeg)) ek ?_
            refine ln_imul (n := (ru.toNatClampNeg * 6)) hx hb (by omega) dX5_test_141 ?_
            refine lv_iload hx hb dX5_test_142 (lv_at hl 2 rfl) ?_
            refine ln_iadd (n := ((ru.toNatClampNeg * 6) + (tc ru.toNatClampNeg))) hx hb (by omega) dX5_test_144 ?_
            refine lv_istore (lv' := [(11, .int (nI ((ru.toNatClampNeg * 6) + (tc ru.toNatClampNeg)))), (10, .int (bI j2)), (9, .int (nI mg9)), (8, .int (nI t9)), (0, .ref m0), (1, .int ru), (2, .int dp), (3, .int fm), (4, .int tz), (5, .int vl), (6, .int mm), (7, .int (bI (inB ru nr)))]) hx hb dX5_test_145 hl (by decide) rfl (fun ls hl => ?_)
            refine lv_aload_n hx hb dX5_test_147 rfl (lv_at hl 4 rfl) ?_
            refine va_get (D := D) (ci := 5) (v := .ref m10) (C := RX5) (T := TX5) (N := 24) hx hb hts hiX5 hown hK hP 0 rfl rfl 11 (by decide) hf38 (fun _ h9 => h9) rfl dX5_test_148 ?_
            refine lv_iload hx hb dX5_test_151 (lv_at hl 0 rfl) ?_
            refine lv_iload_n hx hb dX5_test_153 rfl (lv_at hl 6 rfl) ?_
            refine ln_eqi (y := (nI dp.toNatClampNeg)) ed ?_
            refine ln_iastN hx hb hK hP hD hS 2 0 rfl rfl (by omega) (by decide) dX5_test_154 _ rfl (fun H locs hP hD hS => ?_)
            have hP : va_P D vwCl [(m0, .inr (5, [.ref m1, .int (nI nk), .ref m2, .ref m3, .ref m4, .ref m5, .ref m6, .int (nI np), .ref m7, .ref m8, .ref m9, .ref m10, .ref m11, .ref m12, .ref m13, .ref m14, .int (nI nr), .ref m15, .int (nI nl), .ref m16, .int (nI nb), .ref m17, .ref m18, .int (nI (ak3 (inB ru nr) j2 j3))])), (m9, .inl (y3.1, 12, .inl (fN tc))), (m10, .inl (y3.1, 72, .inl (fN (va_up lev ((ru.toNatClampNeg * 6) + (tc ru.toNatClampNeg)) dp.toNatClampNeg)))), (m11, .inl (y3.1, 72, .inl (fN fo))), (m12, .inl (y3.1, 72, .inl (fN tu))), (m13, .inl (y3.1, 72, .inl wn)), (m14, .inl (y3.1, 72, .inl mk))] H := hP
            have hD : va_D A [(m0, .inr (5, [.ref m1, .int (nI nk), .ref m2, .ref m3, .ref m4, .ref m5, .ref m6, .int (nI np), .ref m7, .ref m8, .ref m9, .ref m10, .ref m11, .ref m12, .ref m13, .ref m14, .int (nI nr), .ref m15, .int (nI nl), .ref m16, .int (nI nb), .ref m17, .ref m18, .int (nI (ak3 (inB ru nr) j2 j3))])), (m9, .inl (y3.1, 12, .inl (fN tc))), (m10, .inl (y3.1, 72, .inl (fN (va_up lev ((ru.toNatClampNeg * 6) + (tc ru.toNatClampNeg)) dp.toNatClampNeg)))), (m11, .inl (y3.1, 72, .inl (fN fo))), (m12, .inl (y3.1, 72, .inl (fN tu))), (m13, .inl (y3.1, 72, .inl wn)), (m14, .inl (y3.1, 72, .inl mk))] := hD
            refine lv_aload_n hx hb dX5_test_155 rfl (lv_at hl 4 rfl) ?_
            refine va_get (D := D) (ci := 5) (v := .ref m11) (C := RX5) (T := TX5) (N := 24) hx hb hts hiX5 hown hK hP 0 rfl rfl 12 (by decide) hf41 (fun _ h9 => h9) rfl dX5_test_156 ?_
            refine lv_iload hx hb dX5_test_159 (lv_at hl 0 rfl) ?_
            refine lv_iload_n hx hb dX5_test_161 rfl (lv_at hl 7 rfl) ?_
            refine ln_eqi (y := (nI fm.toNatClampNeg)) ef ?_
            refine ln_iastN hx hb hK hP hD hS 3 0 rfl rfl (by omega) (by decide) dX5_test_162 _ rfl (fun H locs hP hD hS => ?_)
            have hP : va_P D vwCl [(m0, .inr (5, [.ref m1, .int (nI nk), .ref m2, .ref m3, .ref m4, .ref m5, .ref m6, .int (nI np), .ref m7, .ref m8, .ref m9, .ref m10, .ref m11, .ref m12, .ref m13, .ref m14, .int (nI nr), .ref m15, .int (nI nl), .ref m16, .int (nI nb), .ref m17, .ref m18, .int (nI (ak3 (inB ru nr) j2 j3))])), (m9, .inl (y3.1, 12, .inl (fN tc))), (m10, .inl (y3.1, 72, .inl (fN (va_up lev ((ru.toNatClampNeg * 6) + (tc ru.toNatClampNeg)) dp.toNatClampNeg)))), (m11, .inl (y3.1, 72, .inl (fN (va_up fo ((ru.toNatClampNeg * 6) + (tc ru.toNatClampNeg)) fm.toNatClampNeg)))), (m12, .inl (y3.1, 72, .inl (fN tu))), (m13, .inl (y3.1, 72, .inl wn)), (m14, .inl (y3.1, 72, .inl mk))] H := hP
            have hD : va_D A [(m0, .inr (5, [.ref m1, .int (nI nk), .ref m2, .ref m3, .ref m4, .ref m5, .ref m6, .int (nI np), .ref m7, .ref m8, .ref m9, .ref m10, .ref m11, .ref m12, .ref m13, .ref m14, .int (nI nr), .ref m15, .int (nI nl), .ref m16, .int (nI nb), .ref m17, .ref m18, .int (nI (ak3 (inB ru nr) j2 j3))])), (m9, .inl (y3.1, 12, .inl (fN tc))), (m10, .inl (y3.1, 72, .inl (fN (va_up lev ((ru.toNatClampNeg * 6) + (tc ru.toNatClampNeg)) dp.toNatClampNeg)))), (m11, .inl (y3.1, 72, .inl (fN (va_up fo ((ru.toNatClampNeg * 6) + (tc ru.toNatClampNeg)) fm.toNatClampNeg)))), (m12, .inl (y3.1, 72, .inl (fN tu))), (m13, .inl (y3.1, 72, .inl wn)), (m14, .inl (y3.1, 72, .inl mk))] := hD
            refine lv_aload_n hx hb dX5_test_163 rfl (lv_at hl 4 rfl) ?_
            refine va_get (D := D) (ci := 5) (v := .ref m12) (C := RX5) (T := TX5) (N := 24) hx hb hts hiX5 hown hK hP 0 rfl rfl 13 (by decide) hf44 (fun _ h9 => h9) rfl dX5_test_164 ?_
            refine lv_iload hx hb dX5_test_167 (lv_at hl 0 rfl) ?_
            refine lv_iload hx hb dX5_test_169 (lv_at hl 8 rfl) ?_
            refine ln_eqi (y := (nI tz.toNatClampNeg)) ez ?_
            refine ln_iastN hx hb hK hP hD hS 4 0 rfl rfl (by omega) (by decide) dX5_test_171 _ rfl (fun H locs hP hD hS => ?_)
            have hP : va_P D vwCl [(m0, .inr (5, [.ref m1, .int (nI nk), .ref m2, .ref m3, .ref m4, .ref m5, .ref m6, .int (nI np), .ref m7, .ref m8, .ref m9, .ref m10, .ref m11, .ref m12, .ref m13, .ref m14, .int (nI nr), .ref m15, .int (nI nl), .ref m16, .int (nI nb), .ref m17, .ref m18, .int (nI (ak3 (inB ru nr) j2 j3))])), (m9, .inl (y3.1, 12, .inl (fN tc))), (m10, .inl (y3.1, 72, .inl (fN (va_up lev ((ru.toNatClampNeg * 6) + (tc ru.toNatClampNeg)) dp.toNatClampNeg)))), (m11, .inl (y3.1, 72, .inl (fN (va_up fo ((ru.toNatClampNeg * 6) + (tc ru.toNatClampNeg)) fm.toNatClampNeg)))), (m12, .inl (y3.1, 72, .inl (fN (va_up tu ((ru.toNatClampNeg * 6) + (tc ru.toNatClampNeg)) tz.toNatClampNeg)))), (m13, .inl (y3.1, 72, .inl wn)), (m14, .inl (y3.1, 72, .inl mk))] H := hP
            have hD : va_D A [(m0, .inr (5, [.ref m1, .int (nI nk), .ref m2, .ref m3, .ref m4, .ref m5, .ref m6, .int (nI np), .ref m7, .ref m8, .ref m9, .ref m10, .ref m11, .ref m12, .ref m13, .ref m14, .int (nI nr), .ref m15, .int (nI nl), .ref m16, .int (nI nb), .ref m17, .ref m18, .int (nI (ak3 (inB ru nr) j2 j3))])), (m9, .inl (y3.1, 12, .inl (fN tc))), (m10, .inl (y3.1, 72, .inl (fN (va_up lev ((ru.toNatClampNeg * 6) + (tc ru.toNatClampNeg)) dp.toNatClampNeg)))), (m11, .inl (y3.1, 72, .inl (fN (va_up fo ((ru.toNatClampNeg * 6) + (tc ru.toNatClampNeg)) fm.toNatClampNeg)))), (m12, .inl (y3.1, 72, .inl (fN (va_up tu ((ru.toNatClampNeg * 6) + (tc ru.toNatClampNeg)) tz.toNatClampNeg)))), (m13, .inl (y3.1, 72, .inl wn)), (m14, .inl (y3.1, 72, .inl mk))] := hD
            refine lv_aload_n hx hb dX5_test_172 rfl (lv_at hl 4 rfl) ?_
            refine va_get (D := D) (ci := 5) (v := .ref m13) (C := RX5) (T := TX5) (N := 24) hx hb hts hiX5 hown hK hP 0 rfl rfl 14 (by decide) hf47 (fun _ h9 => h9) rfl dX5_test_173 ?_
            refine lv_iload hx hb dX5_test_176 (lv_at hl 0 rfl) ?_
            refine lv_iload hx hb dX5_test_178 (lv_at hl 9 rfl) ?_
            refine ln_iast hx hb hK hP hD hS 5 0 rfl rfl (by omega) (by decide) dX5_test_180 _ rfl (fun H locs hP hD hS => ?_)
            have hP : va_P D vwCl [(m0, .inr (5, [.ref m1, .int (nI nk), .ref m2, .ref m3, .ref m4, .ref m5, .ref m6, .int (nI np), .ref m7, .ref m8, .ref m9, .ref m10, .ref m11, .ref m12, .ref m13, .ref m14, .int (nI nr), .ref m15, .int (nI nl), .ref m16, .int (nI nb), .ref m17, .ref m18, .int (nI (ak3 (inB ru nr) j2 j3))])), (m9, .inl (y3.1, 12, .inl (fN tc))), (m10, .inl (y3.1, 72, .inl (fN (va_up lev ((ru.toNatClampNeg * 6) + (tc ru.toNatClampNeg)) dp.toNatClampNeg)))), (m11, .inl (y3.1, 72, .inl (fN (va_up fo ((ru.toNatClampNeg * 6) + (tc ru.toNatClampNeg)) fm.toNatClampNeg)))), (m12, .inl (y3.1, 72, .inl (fN (va_up tu ((ru.toNatClampNeg * 6) + (tc ru.toNatClampNeg)) tz.toNatClampNeg)))), (m13, .inl (y3.1, 72, .inl (upd wn ((ru.toNatClampNeg * 6) + (tc ru.toNatClampNeg)) vl))), (m14, .inl (y3.1, 72, .inl mk))] H := hP
            have hD : va_D A [(m0, .inr (5, [.ref m1, .int (nI nk), .ref m2, .ref m3, .ref m4, .ref m5, .ref m6, .int (nI np), .ref m7, .ref m8, .ref m9, .ref m10, .ref m11, .ref m12, .ref m13, .ref m14, .int (nI nr), .ref m15, .int (nI nl), .ref m16, .int (nI nb), .ref m17, .ref m18, .int (nI (ak3 (inB ru nr) j2 j3))])), (m9, .inl (y3.1, 12, .inl (fN tc))), (m10, .inl (y3.1, 72, .inl (fN (va_up lev ((ru.toNatClampNeg * 6) + (tc ru.toNatClampNeg)) dp.toNatClampNeg)))), (m11, .inl (y3.1, 72, .inl (fN (va_up fo ((ru.toNatClampNeg * 6) + (tc ru.toNatClampNeg)) fm.toNatClampNeg)))), (m12, .inl (y3.1, 72, .inl (fN (va_up tu ((ru.toNatClampNeg * 6) + (tc ru.toNatClampNeg)) tz.toNatClampNeg)))), (m13, .inl (y3.1, 72, .inl (upd wn ((ru.toNatClampNeg * 6) + (tc ru.toNatClampNeg)) vl))), (m14, .inl (y3.1, 72, .inl mk))] := hD
            refine lv_aload_n hx hb dX5_test_181 rfl (lv_at hl 4 rfl) ?_
            refine va_get (D := D) (ci := 5) (v := .ref m14) (C := RX5) (T := TX5) (N := 24) hx hb hts hiX5 hown hK hP 0 rfl rfl 15 (by decide) hf50 (fun _ h9 => h9) rfl dX5_test_182 ?_
            refine lv_iload hx hb dX5_test_185 (lv_at hl 0 rfl) ?_
            refine lv_iload hx hb dX5_test_187 (lv_at hl 10 rfl) ?_
            refine ln_iast hx hb hK hP hD hS 6 0 rfl rfl (by omega) (by decide) dX5_test_189 _ rfl (fun H locs hP hD hS => ?_)
            have hP : va_P D vwCl [(m0, .inr (5, [.ref m1, .int (nI nk), .ref m2, .ref m3, .ref m4, .ref m5, .ref m6, .int (nI np), .ref m7, .ref m8, .ref m9, .ref m10, .ref m11, .ref m12, .ref m13, .ref m14, .int (nI nr), .ref m15, .int (nI nl), .ref m16, .int (nI nb), .ref m17, .ref m18, .int (nI (ak3 (inB ru nr) j2 j3))])), (m9, .inl (y3.1, 12, .inl (fN tc))), (m10, .inl (y3.1, 72, .inl (fN (va_up lev ((ru.toNatClampNeg * 6) + (tc ru.toNatClampNeg)) dp.toNatClampNeg)))), (m11, .inl (y3.1, 72, .inl (fN (va_up fo ((ru.toNatClampNeg * 6) + (tc ru.toNatClampNeg)) fm.toNatClampNeg)))), (m12, .inl (y3.1, 72, .inl (fN (va_up tu ((ru.toNatClampNeg * 6) + (tc ru.toNatClampNeg)) tz.toNatClampNeg)))), (m13, .inl (y3.1, 72, .inl (upd wn ((ru.toNatClampNeg * 6) + (tc ru.toNatClampNeg)) vl))), (m14, .inl (y3.1, 72, .inl (upd mk ((ru.toNatClampNeg * 6) + (tc ru.toNatClampNeg)) mm)))] H := hP
            have hD : va_D A [(m0, .inr (5, [.ref m1, .int (nI nk), .ref m2, .ref m3, .ref m4, .ref m5, .ref m6, .int (nI np), .ref m7, .ref m8, .ref m9, .ref m10, .ref m11, .ref m12, .ref m13, .ref m14, .int (nI nr), .ref m15, .int (nI nl), .ref m16, .int (nI nb), .ref m17, .ref m18, .int (nI (ak3 (inB ru nr) j2 j3))])), (m9, .inl (y3.1, 12, .inl (fN tc))), (m10, .inl (y3.1, 72, .inl (fN (va_up lev ((ru.toNatClampNeg * 6) + (tc ru.toNatClampNeg)) dp.toNatClampNeg)))), (m11, .inl (y3.1, 72, .inl (fN (va_up fo ((ru.toNatClampNeg * 6) + (tc ru.toNatClampNeg)) fm.toNatClampNeg)))), (m12, .inl (y3.1, 72, .inl (fN (va_up tu ((ru.toNatClampNeg * 6) + (tc ru.toNatClampNeg)) tz.toNatClampNeg)))), (m13, .inl (y3.1, 72, .inl (upd wn ((ru.toNatClampNeg * 6) + (tc ru.toNatClampNeg)) vl))), (m14, .inl (y3.1, 72, .inl (upd mk ((ru.toNatClampNeg * 6) + (tc ru.toNatClampNeg)) mm)))] := hD
            refine lv_aload_n hx hb dX5_test_190 rfl (lv_at hl 4 rfl) ?_
            refine va_get (D := D) (ci := 5) (v := .ref m9) (C := RX5) (T := TX5) (N := 24) hx hb hts hiX5 hown hK hP 0 rfl rfl 10 (by decide) hf35 (fun _ h9 => h9) rfl dX5_test_191 ?_
            refine lv_iload_n hx hb dX5_test_194 rfl (lv_at hl 5 rfl) ?_
            refine ln_eqi (y := (nI ru.toNatClampNeg)) ek ?_
            refine lv_dup2_11 hx hb dX5_test_195 rfl rfl ?_
            refine ln_ialdN hx hb hK hP 1 0 rfl rfl (by omega) (by decide) dX5_test_196 ?_
            refine lv_iconst (v := (nI 1)) hx hb dX5_test_197 rfl ?_
            refine ln_iadd (n := (tc ru.toNatClampNeg) + 1) hx hb rfl dX5_test_198 ?_
            refine ln_iastN hx hb hK hP hD hS 1 0 rfl rfl (by omega) (by decide) dX5_test_199 _ rfl (fun H locs hP hD hS => ?_)
            have hP : va_P D vwCl [(m0, .inr (5, [.ref m1, .int (nI nk), .ref m2, .ref m3, .ref m4, .ref m5, .ref m6, .int (nI np), .ref m7, .ref m8, .ref m9, .ref m10, .ref m11, .ref m12, .ref m13, .ref m14, .int (nI nr), .ref m15, .int (nI nl), .ref m16, .int (nI nb), .ref m17, .ref m18, .int (nI (ak3 (inB ru nr) j2 j3))])), (m9, .inl (y3.1, 12, .inl (fN (va_up tc ru.toNatClampNeg ((tc ru.toNatClampNeg) + 1))))), (m10, .inl (y3.1, 72, .inl (fN (va_up lev ((ru.toNatClampNeg * 6) + (tc ru.toNatClampNeg)) dp.toNatClampNeg)))), (m11, .inl (y3.1, 72, .inl (fN (va_up fo ((ru.toNatClampNeg * 6) + (tc ru.toNatClampNeg)) fm.toNatClampNeg)))), (m12, .inl (y3.1, 72, .inl (fN (va_up tu ((ru.toNatClampNeg * 6) + (tc ru.toNatClampNeg)) tz.toNatClampNeg)))), (m13, .inl (y3.1, 72, .inl (upd wn ((ru.toNatClampNeg * 6) + (tc ru.toNatClampNeg)) vl))), (m14, .inl (y3.1, 72, .inl (upd mk ((ru.toNatClampNeg * 6) + (tc ru.toNatClampNeg)) mm)))] H := hP
            have hD : va_D A [(m0, .inr (5, [.ref m1, .int (nI nk), .ref m2, .ref m3, .ref m4, .ref m5, .ref m6, .int (nI np), .ref m7, .ref m8, .ref m9, .ref m10, .ref m11, .ref m12, .ref m13, .ref m14, .int (nI nr), .ref m15, .int (nI nl), .ref m16, .int (nI nb), .ref m17, .ref m18, .int (nI (ak3 (inB ru nr) j2 j3))])), (m9, .inl (y3.1, 12, .inl (fN (va_up tc ru.toNatClampNeg ((tc ru.toNatClampNeg) + 1))))), (m10, .inl (y3.1, 72, .inl (fN (va_up lev ((ru.toNatClampNeg * 6) + (tc ru.toNatClampNeg)) dp.toNatClampNeg)))), (m11, .inl (y3.1, 72, .inl (fN (va_up fo ((ru.toNatClampNeg * 6) + (tc ru.toNatClampNeg)) fm.toNatClampNeg)))), (m12, .inl (y3.1, 72, .inl (fN (va_up tu ((ru.toNatClampNeg * 6) + (tc ru.toNatClampNeg)) tz.toNatClampNeg)))), (m13, .inl (y3.1, 72, .inl (upd wn ((ru.toNatClampNeg * 6) + (tc ru.toNatClampNeg)) vl))), (m14, .inl (y3.1, 72, .inl (upd mk ((ru.toNatClampNeg * 6) + (tc ru.toNatClampNeg)) mm)))] := hD
            refine lv_aload_n hx hb dX5_test_200 rfl (lv_at hl 4 rfl) ?_
            refine va_get (D := D) (ci := 5) (v := .ref m9) (C := RX5) (T := TX5) (N := 24) hx hb hts hiX5 hown hK hP 0 rfl rfl 10 (by decide) hf35 (fun _ h9 => h9) rfl dX5_test_201 ?_
            refine lv_iload_n hx hb dX5_test_204 rfl (lv_at hl 5 rfl) ?_
            refine ln_eqi (y := (nI ru.toNatClampNeg)) ek ?_
            refine ln_ialdN hx hb hK hP 1 0 rfl rfl (by omega) (by decide) dX5_test_205 ?_
            refine ln_eqi (y := (nI ((tc ru.toNatClampNeg) + 1))) (by rw [up_s]) ?_
            rw [show ak3 (inB ru nr) j2 j3 = 0 from hzz.trans hz] at hP hD
            exact hret 206 ls H locs _ _ () _ hP hD hS (Nat.le_of_ble_eq_true rfl) (Nat.le_of_ble_eq_true rfl) rfl dX5_test_206
          · have hzz : ak3 (inB ru nr) j2 j3 = (ak3 (inB ru nr) (teB (gnl lev tc ru.toNatClampNeg) dp fm tz vl mm) (decide (tc ru.toNatClampNeg < 6))) := (by rw [hj2, hj3]; exact ak3_eq (fun hb => by rw [hmg9 hb, ht9, if_pos hb]; exact ⟨rfl, rfl⟩)); rw [ak3_t (hzz.trans hz)] at c133; cases c133
        refine lv_aload_n hx hb dX5_test_113 rfl (lv_at hl 3 rfl) ?_
        refine lv_iload hx hb dX5_test_114 (lv_at hl 10 rfl) ?_
        refine lv_iload hx hb dX5_test_116 (lv_at hl 0 rfl) ?_
        refine lv_iload hx hb dX5_test_118 (lv_at hl 2 rfl) ?_
        refine lv_bipush (v := (nI 6)) hx hb dX5_test_120 rfl ?_
        refine ln_icmp_ge (tgt := 129) hx hb (by omega) (by omega) dX5_test_122 (by decide) (fun c122 => ?_) (fun c122 => ?_)
        · refine lv_iconst (v := (nI 0)) hx hb dX5_test_129 rfl ?_
          exact jn130 false (by first | exact (decide_eq_true (by omega)).symm | exact (decide_eq_false (by omega)).symm) _ _ hP hD hS _ (lv_sub hl [0, 1, 2, 3, 4, 5, 6, 7, 8, 9, 10] rfl)
        · refine lv_iconst (v := (nI 1)) hx hb dX5_test_125 rfl ?_
          refine lv_goto (tgt := 130) hx hb dX5_test_126 (by decide) ?_
          exact jn130 true (by first | exact (decide_eq_true (by omega)).symm | exact (decide_eq_false (by omega)).symm) _ _ hP hD hS _ (lv_sub hl [0, 1, 2, 3, 4, 5, 6, 7, 8, 9, 10] rfl)
      refine lv_iload_n hx hb dX5_test_51 rfl (lv_at hl 4 rfl) ?_
      refine lv_iconst (v := (nI 0)) hx hb dX5_test_52 rfl ?_
      refine lv_iload hx hb dX5_test_53 (lv_at hl 0 rfl) ?_
      refine rd_S (own := RX5) (As := [.int dp, .int (nI 0), .int (nI mg9)]) (rest := []) (bytes := cX5_in) (maxL := 3) ⟨hx, hb, hml, hown, hts⟩ (kX5_in l D y3 dp (nI 0) (nI mg9)) gX5_test_X5_in rfl hvX5_in ⟨Nat.le_of_ble_eq_true rfl, Nat.le_of_ble_eq_true rfl⟩ hP hK [] rfl  hl.1 rfl (Nat.le_of_ble_eq_true rfl) dX5_test_55 ⟨Nat.le_of_ble_eq_true rfl, Nat.le_of_ble_eq_true rfl⟩ (fun r4 hr4 => ?_)
      subst hr4
      refine lb_if_eq (tgt := 110) hx hb dX5_test_58 (by decide) (fun c58 => ?_) (fun c58 => ?_)
      · refine lv_iconst (v := (nI 0)) hx hb dX5_test_110 rfl ?_
        exact jn111 false (by unfold teB; first | (rw [c58]; rfl) | (rw [c58, c68]; rfl) | (rw [c58, c68, c79]; rfl) | (rw [c58, c68, c79, c91]; rfl) | (rw [c58, c68, c79, c91, c103]; rfl)) _ _ hP hD hS _ (lv_sub hl [0, 1, 2, 3, 4, 5, 6, 7, 8, 9] rfl)
      · refine lv_iload_n hx hb dX5_test_61 rfl (lv_at hl 5 rfl) ?_
        refine lv_iconst (v := (nI 0)) hx hb dX5_test_62 rfl ?_
        refine lv_bipush (v := (nI 15)) hx hb dX5_test_63 rfl ?_
        refine rd_S (own := RX5) (As := [.int fm, .int (nI 0), .int (nI 15)]) (rest := []) (bytes := cX5_in) (maxL := 3) ⟨hx, hb, hml, hown, hts⟩ (kX5_in l D y3 fm (nI 0) (nI 15)) gX5_test_X5_in rfl hvX5_in ⟨Nat.le_of_ble_eq_true rfl, Nat.le_of_ble_eq_true rfl⟩ hP hK [] rfl  hl.1 rfl (Nat.le_of_ble_eq_true rfl) dX5_test_65 ⟨Nat.le_of_ble_eq_true rfl, Nat.le_of_ble_eq_true rfl⟩ (fun r5 hr5 => ?_)
        subst hr5
        refine lb_if_eq (tgt := 110) hx hb dX5_test_68 (by decide) (fun c68 => ?_) (fun c68 => ?_)
        · refine lv_iconst (v := (nI 0)) hx hb dX5_test_110 rfl ?_
          exact jn111 false (by unfold teB; first | (rw [c58]; rfl) | (rw [c58, c68]; rfl) | (rw [c58, c68, c79]; rfl) | (rw [c58, c68, c79, c91]; rfl) | (rw [c58, c68, c79, c91, c103]; rfl)) _ _ hP hD hS _ (lv_sub hl [0, 1, 2, 3, 4, 5, 6, 7, 8, 9] rfl)
        · refine lv_iload hx hb dX5_test_71 (lv_at hl 6 rfl) ?_
          refine lv_iload_n hx hb dX5_test_73 rfl (lv_at hl 5 rfl) ?_
          refine lv_bipush (v := (nI 15)) hx hb dX5_test_74 rfl ?_
          refine rd_S (own := RX5) (As := [.int tz, .int fm, .int (nI 15)]) (rest := []) (bytes := cX5_in) (maxL := 3) ⟨hx, hb, hml, hown, hts⟩ (kX5_in l D y3 tz fm (nI 15)) gX5_test_X5_in rfl hvX5_in ⟨Nat.le_of_ble_eq_true rfl, Nat.le_of_ble_eq_true rfl⟩ hP hK [] rfl  hl.1 rfl (Nat.le_of_ble_eq_true rfl) dX5_test_76 ⟨Nat.le_of_ble_eq_true rfl, Nat.le_of_ble_eq_true rfl⟩ (fun r6 hr6 => ?_)
          subst hr6
          refine lb_if_eq (tgt := 110) hx hb dX5_test_79 (by decide) (fun c79 => ?_) (fun c79 => ?_)
          · refine lv_iconst (v := (nI 0)) hx hb dX5_test_110 rfl ?_
            exact jn111 false (by unfold teB; first | (rw [c58]; rfl) | (rw [c58, c68]; rfl) | (rw [c58, c68, c79]; rfl) | (rw [c58, c68, c79, c91]; rfl) | (rw [c58, c68, c79, c91, c103]; rfl)) _ _ hP hD hS _ (lv_sub hl [0, 1, 2, 3, 4, 5, 6, 7, 8, 9] rfl)
          · refine lv_iload hx hb dX5_test_82 (lv_at hl 7 rfl) ?_
            refine lv_iconst (v := (nI 0)) hx hb dX5_test_84 rfl ?_
            refine lv_sipush (v := (nI 255)) hx hb dX5_test_85 rfl ?_
            refine rd_S (own := RX5) (As := [.int vl, .int (nI 0), .int (nI 255)]) (rest := []) (bytes := cX5_in) (maxL := 3) ⟨hx, hb, hml, hown, hts⟩ (kX5_in l D y3 vl (nI 0) (nI 255)) gX5_test_X5_in rfl hvX5_in ⟨Nat.le_of_ble_eq_true rfl, Nat.le_of_ble_eq_true rfl⟩ hP hK [] rfl  hl.1 rfl (Nat.le_of_ble_eq_true rfl) dX5_test_88 ⟨Nat.le_of_ble_eq_true rfl, Nat.le_of_ble_eq_true rfl⟩ (fun r7 hr7 => ?_)
            subst hr7
            refine lb_if_eq (tgt := 110) hx hb dX5_test_91 (by decide) (fun c91 => ?_) (fun c91 => ?_)
            · refine lv_iconst (v := (nI 0)) hx hb dX5_test_110 rfl ?_
              exact jn111 false (by unfold teB; first | (rw [c58]; rfl) | (rw [c58, c68]; rfl) | (rw [c58, c68, c79]; rfl) | (rw [c58, c68, c79, c91]; rfl) | (rw [c58, c68, c79, c91, c103]; rfl)) _ _ hP hD hS _ (lv_sub hl [0, 1, 2, 3, 4, 5, 6, 7, 8, 9] rfl)
            · refine lv_iload hx hb dX5_test_94 (lv_at hl 8 rfl) ?_
              refine lv_iconst (v := (nI 0)) hx hb dX5_test_96 rfl ?_
              refine lv_sipush (v := (nI 255)) hx hb dX5_test_97 rfl ?_
              refine rd_S (own := RX5) (As := [.int mm, .int (nI 0), .int (nI 255)]) (rest := []) (bytes := cX5_in) (maxL := 3) ⟨hx, hb, hml, hown, hts⟩ (kX5_in l D y3 mm (nI 0) (nI 255)) gX5_test_X5_in rfl hvX5_in ⟨Nat.le_of_ble_eq_true rfl, Nat.le_of_ble_eq_true rfl⟩ hP hK [] rfl  hl.1 rfl (Nat.le_of_ble_eq_true rfl) dX5_test_100 ⟨Nat.le_of_ble_eq_true rfl, Nat.le_of_ble_eq_true rfl⟩ (fun r8 hr8 => ?_)
              subst hr8
              refine lb_if_eq (tgt := 110) hx hb dX5_test_103 (by decide) (fun c103 => ?_) (fun c103 => ?_)
              · refine lv_iconst (v := (nI 0)) hx hb dX5_test_110 rfl ?_
                exact jn111 false (by unfold teB; first | (rw [c58]; rfl) | (rw [c58, c68]; rfl) | (rw [c58, c68, c79]; rfl) | (rw [c58, c68, c79, c91]; rfl) | (rw [c58, c68, c79, c91, c103]; rfl)) _ _ hP hD hS _ (lv_sub hl [0, 1, 2, 3, 4, 5, 6, 7, 8, 9] rfl)
              · refine lv_iconst (v := (nI 1)) hx hb dX5_test_106 rfl ?_
                refine lv_goto (tgt := 111) hx hb dX5_test_107 (by decide) ?_
                exact jn111 true (by unfold teB; rw [c58, c68, c79, c91, c103]; rfl) _ _ hP hD hS _ (lv_sub hl [0, 1, 2, 3, 4, 5, 6, 7, 8, 9] rfl)
    refine lv_iload hx hb dX5_test_24 (lv_at hl 0 rfl) ?_
    refine ln_if_ne (tgt := 33) hx hb (by omega) dX5_test_26 (by decide) (fun c26 => ?_) (fun c26 => ?_)
    · refine lv_aload_n hx hb dX5_test_33 rfl (lv_at hl 1 rfl) ?_
      refine va_get (D := D) (ci := 5) (v := .ref m10) (C := RX5) (T := TX5) (N := 24) hx hb hts hiX5 hown hK hP 0 rfl rfl 11 (by decide) hf38 (fun _ h9 => h9) rfl dX5_test_34 ?_
      refine lv_bipush (v := (nI 6)) hx hb dX5_test_37 rfl ?_
      have hb9 : inB ru nr = true := by cases hb : inB ru nr; exact absurd (by rw [ht9, hb]; rfl) c26; rfl
      obtain ⟨ek9, hkn9⟩ := inB_c hb9 (by omega)
      refine lv_iload_n hx hb dX5_test_39 rfl (lv_at hl 2 rfl) ?_
      refine ln_eqi (y := (nI ru.toNatClampNeg)) ek9 ?_
      refine ln_imul (n := (ru.toNatClampNeg * 6)) hx hb (by omega) dX5_test_40 ?_
      refine lv_iload hx hb dX5_test_41 (lv_at hl 0 rfl) ?_
      refine ln_iadd (n := (ru.toNatClampNeg * 6) + t9) hx hb rfl dX5_test_43 ?_
      refine lv_iconst (v := (nI 1)) hx hb dX5_test_44 rfl ?_
      refine ln_isub (n := ((ru.toNatClampNeg * 6) + t9) - 1) hx hb (by omega) (by omega) dX5_test_45 ?_
      refine ln_ialdN hx hb hK hP 2 0 rfl rfl (by omega) (by decide) dX5_test_46 ?_
      refine lv_iconst (v := (nI 1)) hx hb dX5_test_47 rfl ?_
      refine ln_iadd (n := (lev (((ru.toNatClampNeg * 6) + t9) - 1)) + 1) hx hb rfl dX5_test_48 ?_
      exact jn49 ((lev (((ru.toNatClampNeg * 6) + t9) - 1)) + 1) (fun hb => by rw [hb, if_pos rfl] at ht9; subst ht9; unfold gnl; first | rw [if_pos c26] | rw [if_neg c26]) _ _ hP hD hS _ (lv_sub hl [0, 1, 2, 3, 4, 5, 6, 7, 8] rfl)
    · refine lv_iconst (v := (nI 0)) hx hb dX5_test_29 rfl ?_
      refine lv_goto (tgt := 49) hx hb dX5_test_30 (by decide) ?_
      exact jn49 0 (fun hb => by rw [hb, if_pos rfl] at ht9; subst ht9; unfold gnl; first | rw [if_pos c26] | rw [if_neg c26]) _ _ hP hD hS _ (lv_sub hl [0, 1, 2, 3, 4, 5, 6, 7, 8] rfl)
  refine lv_istore (lv' := [(7, .int (bI (inB ru nr))), (0, .ref m0), (1, .int ru), (2, .int dp), (3, .int fm), (4, .int tz), (5, .int vl), (6, .int mm)]) hx hb dX5_test_5 hl (by decide) rfl (fun ls hl => ?_)
  refine lv_iload hx hb dX5_test_7 (lv_at hl 0 rfl) ?_
  refine lb_if_eq (tgt := 21) hx hb dX5_test_9 (by decide) (fun c9 => ?_) (fun c9 => ?_)
  · refine lv_iconst (v := (nI 0)) hx hb dX5_test_21 rfl ?_
    exact jn22 0 (by first | (rw [if_pos c9]; done) | (rw [if_neg (by rw [c9]; decide)]; done)) _ _ hP hD hS _ (lv_sub hl [1, 2, 3, 4, 5, 6, 7, 0] rfl)
  · refine lv_aload_n hx hb dX5_test_12 rfl (lv_at hl 1 rfl) ?_
    refine va_get (D := D) (ci := 5) (v := .ref m9) (C := RX5) (T := TX5) (N := 24) hx hb hts hiX5 hown hK hP 0 rfl rfl 10 (by decide) hf35 (fun _ h9 => h9) rfl dX5_test_13 ?_
    obtain ⟨ek9, hkn9⟩ := inB_c c9 (by omega)
    refine lv_iload_n hx hb dX5_test_16 rfl (lv_at hl 2 rfl) ?_
    refine ln_eqi (y := (nI ru.toNatClampNeg)) ek9 ?_
    refine ln_ialdN hx hb hK hP 1 0 rfl rfl (by omega) (by decide) dX5_test_17 ?_
    refine lv_goto (tgt := 22) hx hb dX5_test_18 (by decide) ?_
    exact jn22 (tc ru.toNatClampNeg) (by first | (rw [if_pos c9]; done) | (rw [if_neg (by rw [c9]; decide)]; done)) _ _ hP hD hS _ (lv_sub hl [1, 2, 3, 4, 5, 6, 7, 0] rfl)

set_option maxHeartbeats 4000000 in
set_option maxRecDepth 100000 in
theorem kX5_test_ex (l : Launch) (D : va_G) (y3 : ClassId × ClassId × ClassId) (m0 : Nat) (m1 : Nat) (m2 : Nat) (m3 : Nat) (m4 : Nat) (m5 : Nat) (m6 : Nat) (m7 : Nat) (m8 : Nat) (m9 : Nat) (m10 : Nat) (m11 : Nat) (m12 : Nat) (m13 : Nat) (m14 : Nat) (m15 : Nat) (m16 : Nat) (m17 : Nat) (m18 : Nat) (nk : Nat) (np : Nat) (nr : Nat) (nl : Nat) (nb : Nat) (zo : Nat) (tc : Nat → Nat) (lev : Nat → Nat) (fo : Nat → Nat) (tu : Nat → Nat) (wn : Nat → Int32) (mk : Nat → Int32) (ru : Int32) (dp : Int32) (fm : Int32) (tz : Int32) (vl : Int32) (mm : Int32) (hnr : nr ≤ 12) (htc : ∀ q : Nat, tc q ≤ 6) (hlv : ∀ q : Nat, lev q ≤ 5) (hz : ¬ (ak3 (inB ru nr) (teB (gnl lev tc ru.toNatClampNeg) dp fm tz vl mm) (decide (tc ru.toNatClampNeg < 6))) = 0) : wrM l yX5_test wsX5_test 2 43 0 0 D y3 [(m0, .inr (5, [.ref m1, .int (nI nk), .ref m2, .ref m3, .ref m4, .ref m5, .ref m6, .int (nI np), .ref m7, .ref m8, .ref m9, .ref m10, .ref m11, .ref m12, .ref m13, .ref m14, .int (nI nr), .ref m15, .int (nI nl), .ref m16, .int (nI nb), .ref m17, .ref m18, .int (nI zo)])), (m9, .inl (y3.1, 12, .inl (fN tc))), (m10, .inl (y3.1, 72, .inl (fN lev))), (m11, .inl (y3.1, 72, .inl (fN fo))), (m12, .inl (y3.1, 72, .inl (fN tu))), (m13, .inl (y3.1, 72, .inl wn)), (m14, .inl (y3.1, 72, .inl mk))] [.ref m0, .int ru, .int dp, .int fm, .int tz, .int vl, .int mm] (fun r (_ : Unit) => r = (nI 0)) (fun (_ : Unit) => [(m0, .inr (5, [.ref m1, .int (nI nk), .ref m2, .ref m3, .ref m4, .ref m5, .ref m6, .int (nI np), .ref m7, .ref m8, .ref m9, .ref m10, .ref m11, .ref m12, .ref m13, .ref m14, .int (nI nr), .ref m15, .int (nI nl), .ref m16, .int (nI nb), .ref m17, .ref m18, .int (nI (ak3 (inB ru nr) (teB (gnl lev tc ru.toNatClampNeg) dp fm tz vl mm) (decide (tc ru.toNatClampNeg < 6))))])), (m9, .inl (y3.1, 12, .inl (fN tc))), (m10, .inl (y3.1, 72, .inl (fN lev))), (m11, .inl (y3.1, 72, .inl (fN fo))), (m12, .inl (y3.1, 72, .inl (fN tu))), (m13, .inl (y3.1, 72, .inl wn)), (m14, .inl (y3.1, 72, .inl mk))]) := by
  refine wr_of (cc := cX5_test) (maxL := 12) (by decide) rfl (Nat.le_of_ble_eq_true rfl) ?_
  intro p e s m args below meth c A Q hx hb hml hown hts hP hK hD hA hS hret ls hl
  replace hl : lv_has ls 12 [(0, .ref m0), (1, .int ru), (2, .int dp), (3, .int fm), (4, .int tz), (5, .int vl), (6, .int mm)] := hl
  have hf35 := hts (.fieldLink RX5 35 "KindGuesserModel" "tests" "[I") (by decide +kernel)
  have hf38 := hts (.fieldLink RX5 38 "KindGuesserModel" "level" "[I") (by decide +kernel)
  have hiX5 : ∀ q ∈ wsX50, q ∈ wsX5_test := by decide +kernel
  refine lv_aload_n hx hb dX5_test_0 rfl (lv_at hl 0 rfl) ?_
  refine lv_iload_n hx hb dX5_test_1 rfl (lv_at hl 1 rfl) ?_
  refine rd_V (ci := 5) (q0 := 0) (own := RX5) (As := [.int ru]) (rest := []) (bytes := cX5_isRule) (maxL := 2) ⟨hx, hb, hml, hown, hts⟩ (kX5_isRule l D y3 m0 m1 m2 m3 m4 m5 m6 m7 m8 m9 m10 m11 m12 m13 m14 m15 m16 m17 m18 nk np nr nl nb zo ru (by omega)) gX5_test_X5_isRule rfl hvX5_isRule ⟨Nat.le_of_ble_eq_true rfl, Nat.le_of_ble_eq_true rfl⟩ hP hK [0] rfl rfl rfl hl.1 rfl (Nat.le_of_ble_eq_true rfl) dX5_test_2 ⟨Nat.le_of_ble_eq_true rfl, Nat.le_of_ble_eq_true rfl⟩ (fun r1 hr1 => ?_)
  subst hr1
  have jn22 : ∀ (t9 : Nat), (t9 = if inB ru nr = true then tc ru.toNatClampNeg else 0) → ∀ (H : Heap) (locs : List Loc), va_P D vwCl [(m0, .inr (5, [.ref m1, .int (nI nk), .ref m2, .ref m3, .ref m4, .ref m5, .ref m6, .int (nI np), .ref m7, .ref m8, .ref m9, .ref m10, .ref m11, .ref m12, .ref m13, .ref m14, .int (nI nr), .ref m15, .int (nI nl), .ref m16, .int (nI nb), .ref m17, .ref m18, .int (nI zo)])), (m9, .inl (y3.1, 12, .inl (fN tc))), (m10, .inl (y3.1, 72, .inl (fN lev))), (m11, .inl (y3.1, 72, .inl (fN fo))), (m12, .inl (y3.1, 72, .inl (fN tu))), (m13, .inl (y3.1, 72, .inl wn)), (m14, .inl (y3.1, 72, .inl mk))] H → va_D A [(m0, .inr (5, [.ref m1, .int (nI nk), .ref m2, .ref m3, .ref m4, .ref m5, .ref m6, .int (nI np), .ref m7, .ref m8, .ref m9, .ref m10, .ref m11, .ref m12, .ref m13, .ref m14, .int (nI nr), .ref m15, .int (nI nl), .ref m16, .int (nI nb), .ref m17, .ref m18, .int (nI zo)])), (m9, .inl (y3.1, 12, .inl (fN tc))), (m10, .inl (y3.1, 72, .inl (fN lev))), (m11, .inl (y3.1, 72, .inl (fN fo))), (m12, .inl (y3.1, 72, .inl (fN tu))), (m13, .inl (y3.1, 72, .inl wn)), (m14, .inl (y3.1, 72, .inl mk))] → va_S A s.heap H locs → ∀ ls : Array Slot, lv_has ls 12 [(0, .ref m0), (1, .int ru), (2, .int dp), (3, .int fm), (4, .int tz), (5, .int vl), (6, .int mm), (7, .int (bI (inB ru nr)))] → W p l e (rmO 2 0 0 43) s m args below meth c H locs 0 0 Q (F0 m 22 ls [.int (nI t9)]) := by
    intro t9 ht9 H locs hP hD hS ls hl
    have ht6 : t9 ≤ 6 := by rw [ht9]; split; exact htc _; omega
    refine lv_istore (lv' := [(8, .int (nI t9)), (0, .ref m0), (1, .int ru), (2, .int dp), (3, .int fm), (4, .int tz), (5, .int vl), (6, .int mm), (7, .int (bI (inB ru nr)))]) hx hb dX5_test_22 hl (by decide) rfl (fun ls hl => ?_)
    have jn49 : ∀ (mg9 : Nat), (inB ru nr = true → mg9 = gnl lev tc ru.toNatClampNeg) → ∀ (H : Heap) (locs : List Loc), va_P D vwCl [(m0, .inr (5, [.ref m1, .int (nI nk), .ref m2, .ref m3, .ref m4, .ref m5, .ref m6, .int (nI np), .ref m7, .ref m8, .ref m9, .ref m10, .ref m11, .ref m12, .ref m13, .ref m14, .int (nI nr), .ref m15, .int (nI nl), .ref m16, .int (nI nb), .ref m17, .ref m18, .int (nI zo)])), (m9, .inl (y3.1, 12, .inl (fN tc))), (m10, .inl (y3.1, 72, .inl (fN lev))), (m11, .inl (y3.1, 72, .inl (fN fo))), (m12, .inl (y3.1, 72, .inl (fN tu))), (m13, .inl (y3.1, 72, .inl wn)), (m14, .inl (y3.1, 72, .inl mk))] H → va_D A [(m0, .inr (5, [.ref m1, .int (nI nk), .ref m2, .ref m3, .ref m4, .ref m5, .ref m6, .int (nI np), .ref m7, .ref m8, .ref m9, .ref m10, .ref m11, .ref m12, .ref m13, .ref m14, .int (nI nr), .ref m15, .int (nI nl), .ref m16, .int (nI nb), .ref m17, .ref m18, .int (nI zo)])), (m9, .inl (y3.1, 12, .inl (fN tc))), (m10, .inl (y3.1, 72, .inl (fN lev))), (m11, .inl (y3.1, 72, .inl (fN fo))), (m12, .inl (y3.1, 72, .inl (fN tu))), (m13, .inl (y3.1, 72, .inl wn)), (m14, .inl (y3.1, 72, .inl mk))] → va_S A s.heap H locs → ∀ ls : Array Slot, lv_has ls 12 [(8, .int (nI t9)), (0, .ref m0), (1, .int ru), (2, .int dp), (3, .int fm), (4, .int tz), (5, .int vl), (6, .int mm), (7, .int (bI (inB ru nr)))] → W p l e (rmO 2 0 0 43) s m args below meth c H locs 0 0 Q (F0 m 49 ls [.int (nI mg9)]) := by
      intro mg9 hmg9 H locs hP hD hS ls hl
      refine lv_istore (lv' := [(9, .int (nI mg9)), (8, .int (nI t9)), (0, .ref m0), (1, .int ru), (2, .int dp), (3, .int fm), (4, .int tz), (5, .int vl), (6, .int mm), (7, .int (bI (inB ru nr)))]) hx hb dX5_test_49 hl (by decide) rfl (fun ls hl => ?_)
      have jn111 : ∀ (j2 : Bool), (j2 = teB mg9 dp fm tz vl mm) → ∀ (H : Heap) (locs : List Loc), va_P D vwCl [(m0, .inr (5, [.ref m1, .int (nI nk), .ref m2, .ref m3, .ref m4, .ref m5, .ref m6, .int (nI np), .ref m7, .ref m8, .ref m9, .ref m10, .ref m11, .ref m12, .ref m13, .ref m14, .int (nI nr), .ref m15, .int (nI nl), .ref m16, .int (nI nb), .ref m17, .ref m18, .int (nI zo)])), (m9, .inl (y3.1, 12, .inl (fN tc))), (m10, .inl (y3.1, 72, .inl (fN lev))), (m11, .inl (y3.1, 72, .inl (fN fo))), (m12, .inl (y3.1, 72, .inl (fN tu))), (m13, .inl (y3.1, 72, .inl wn)), (m14, .inl (y3.1, 72, .inl mk))] H → va_D A [(m0, .inr (5, [.ref m1, .int (nI nk), .ref m2, .ref m3, .ref m4, .ref m5, .ref m6, .int (nI np), .ref m7, .ref m8, .ref m9, .ref m10, .ref m11, .ref m12, .ref m13, .ref m14, .int (nI nr), .ref m15, .int (nI nl), .ref m16, .int (nI nb), .ref m17, .ref m18, .int (nI zo)])), (m9, .inl (y3.1, 12, .inl (fN tc))), (m10, .inl (y3.1, 72, .inl (fN lev))), (m11, .inl (y3.1, 72, .inl (fN fo))), (m12, .inl (y3.1, 72, .inl (fN tu))), (m13, .inl (y3.1, 72, .inl wn)), (m14, .inl (y3.1, 72, .inl mk))] → va_S A s.heap H locs → ∀ ls : Array Slot, lv_has ls 12 [(9, .int (nI mg9)), (8, .int (nI t9)), (0, .ref m0), (1, .int ru), (2, .int dp), (3, .int fm), (4, .int tz), (5, .int vl), (6, .int mm), (7, .int (bI (inB ru nr)))] → W p l e (rmO 2 0 0 43) s m args below meth c H locs 0 0 Q (F0 m 111 ls [.int (bI j2)]) := by
        intro j2 hj2 H locs hP hD hS ls hl
        refine lv_istore (lv' := [(10, .int (bI j2)), (9, .int (nI mg9)), (8, .int (nI t9)), (0, .ref m0), (1, .int ru), (2, .int dp), (3, .int fm), (4, .int tz), (5, .int vl), (6, .int mm), (7, .int (bI (inB ru nr)))]) hx hb dX5_test_111 hl (by decide) rfl (fun ls hl => ?_)
        have jn130 : ∀ (j3 : Bool), (j3 = decide (t9 < 6)) → ∀ (H : Heap) (locs : List Loc), va_P D vwCl [(m0, .inr (5, [.ref m1, .int (nI nk), .ref m2, .ref m3, .ref m4, .ref m5, .ref m6, .int (nI np), .ref m7, .ref m8, .ref m9, .ref m10, .ref m11, .ref m12, .ref m13, .ref m14, .int (nI nr), .ref m15, .int (nI nl), .ref m16, .int (nI nb), .ref m17, .ref m18, .int (nI zo)])), (m9, .inl (y3.1, 12, .inl (fN tc))), (m10, .inl (y3.1, 72, .inl (fN lev))), (m11, .inl (y3.1, 72, .inl (fN fo))), (m12, .inl (y3.1, 72, .inl (fN tu))), (m13, .inl (y3.1, 72, .inl wn)), (m14, .inl (y3.1, 72, .inl mk))] H → va_D A [(m0, .inr (5, [.ref m1, .int (nI nk), .ref m2, .ref m3, .ref m4, .ref m5, .ref m6, .int (nI np), .ref m7, .ref m8, .ref m9, .ref m10, .ref m11, .ref m12, .ref m13, .ref m14, .int (nI nr), .ref m15, .int (nI nl), .ref m16, .int (nI nb), .ref m17, .ref m18, .int (nI zo)])), (m9, .inl (y3.1, 12, .inl (fN tc))), (m10, .inl (y3.1, 72, .inl (fN lev))), (m11, .inl (y3.1, 72, .inl (fN fo))), (m12, .inl (y3.1, 72, .inl (fN tu))), (m13, .inl (y3.1, 72, .inl wn)), (m14, .inl (y3.1, 72, .inl mk))] → va_S A s.heap H locs → ∀ ls : Array Slot, lv_has ls 12 [(10, .int (bI j2)), (9, .int (nI mg9)), (8, .int (nI t9)), (0, .ref m0), (1, .int ru), (2, .int dp), (3, .int fm), (4, .int tz), (5, .int vl), (6, .int mm), (7, .int (bI (inB ru nr)))] → W p l e (rmO 2 0 0 43) s m args below meth c H locs 0 0 Q (F0 m 130 ls [.int (bI j3), .int (bI j2), .int (bI (inB ru nr)), .ref m0]) := by
          intro j3 hj3 H locs hP hD hS ls hl
          refine wr_V (ci := 5) (q0 := 0) (own := RX5) (As := [.int (bI (inB ru nr)), .int (bI j2), .int (bI j3)]) (rest := []) (bytes := cX5_asked__) (maxL := 4) (wr := [(m9, .inl (y3.1, 12, .inl (fN tc))), (m10, .inl (y3.1, 72, .inl (fN lev))), (m11, .inl (y3.1, 72, .inl (fN fo))), (m12, .inl (y3.1, 72, .inl (fN tu))), (m13, .inl (y3.1, 72, .inl wn)), (m14, .inl (y3.1, 72, .inl mk))]) (w3 := (fun (_ : Unit) => [(m0, .inr (5, [.ref m1, .int (nI nk), .ref m2, .ref m3, .ref m4, .ref m5, .ref m6, .int (nI np), .ref m7, .ref m8, .ref m9, .ref m10, .ref m11, .ref m12, .ref m13, .ref m14, .int (nI nr), .ref m15, .int (nI nl), .ref m16, .int (nI nb), .ref m17, .ref m18, .int (nI (ak3 (inB ru nr) j2 j3))])), (m9, .inl (y3.1, 12, .inl (fN tc))), (m10, .inl (y3.1, 72, .inl (fN lev))), (m11, .inl (y3.1, 72, .inl (fN fo))), (m12, .inl (y3.1, 72, .inl (fN tu))), (m13, .inl (y3.1, 72, .inl wn)), (m14, .inl (y3.1, 72, .inl mk))])) ⟨hx, hb, hml, hown, hts⟩ (kX5_asked__ l D y3 m0 m1 m2 m3 m4 m5 m6 m7 m8 m9 m10 m11 m12 m13 m14 m15 m16 m17 m18 nk np nr nl nb zo (inB ru nr) j2 j3) gX5_test_X5_asked__ rfl hvX5_asked__ ⟨Nat.le_of_ble_eq_true rfl, Nat.le_of_ble_eq_true rfl⟩ hP hK hD hS hA [0] [1, 2, 3, 4, 5, 6] [6, 0, 1, 2, 3, 4, 5] rfl rfl rfl rfl (by decide) (fun _ => rfl) rfl rfl rfl hl.1 rfl (Nat.le_of_ble_eq_true rfl) dX5_test_130 ⟨Nat.le_of_ble_eq_true rfl, Nat.le_of_ble_eq_true rfl⟩ (fun r2 u3 H locs hr2 hP hD hS => ?_)
          have hP : va_P D vwCl [(m0, .inr (5, [.ref m1, .int (nI nk), .ref m2, .ref m3, .ref m4, .ref m5, .ref m6, .int (nI np), .ref m7, .ref m8, .ref m9, .ref m10, .ref m11, .ref m12, .ref m13, .ref m14, .int (nI nr), .ref m15, .int (nI nl), .ref m16, .int (nI nb), .ref m17, .ref m18, .int (nI (ak3 (inB ru nr) j2 j3))])), (m9, .inl (y3.1, 12, .inl (fN tc))), (m10, .inl (y3.1, 72, .inl (fN lev))), (m11, .inl (y3.1, 72, .inl (fN fo))), (m12, .inl (y3.1, 72, .inl (fN tu))), (m13, .inl (y3.1, 72, .inl wn)), (m14, .inl (y3.1, 72, .inl mk))] H := hP
          have hD : va_D A [(m0, .inr (5, [.ref m1, .int (nI nk), .ref m2, .ref m3, .ref m4, .ref m5, .ref m6, .int (nI np), .ref m7, .ref m8, .ref m9, .ref m10, .ref m11, .ref m12, .ref m13, .ref m14, .int (nI nr), .ref m15, .int (nI nl), .ref m16, .int (nI nb), .ref m17, .ref m18, .int (nI (ak3 (inB ru nr) j2 j3))])), (m9, .inl (y3.1, 12, .inl (fN tc))), (m10, .inl (y3.1, 72, .inl (fN lev))), (m11, .inl (y3.1, 72, .inl (fN fo))), (m12, .inl (y3.1, 72, .inl (fN tu))), (m13, .inl (y3.1, 72, .inl wn)), (m14, .inl (y3.1, 72, .inl mk))] := hD
          subst hr2
          refine lb_if_ne (tgt := 138) hx hb dX5_test_133 (by decide) (fun c133 => ?_) (fun c133 => ?_)
          · have hzz : ak3 (inB ru nr) j2 j3 = (ak3 (inB ru nr) (teB (gnl lev tc ru.toNatClampNeg) dp fm tz vl mm) (decide (tc ru.toNatClampNeg < 6))) := (by rw [hj2, hj3]; exact ak3_eq (fun hb => by rw [hmg9 hb, ht9, if_pos hb]; exact ⟨rfl, rfl⟩)); rw [ak3_f (fun q => hz (hzz.symm.trans q))] at c133; cases c133
          · have hzz : ak3 (inB ru nr) j2 j3 = (ak3 (inB ru nr) (teB (gnl lev tc ru.toNatClampNeg) dp fm tz vl mm) (decide (tc ru.toNatClampNeg < 6))) := (by rw [hj2, hj3]; exact ak3_eq (fun hb => by rw [hmg9 hb, ht9, if_pos hb]; exact ⟨rfl, rfl⟩))
            refine lv_iconst (v := (nI 0)) hx hb dX5_test_136 rfl ?_
            rw [hzz] at hP hD
            exact hret 137 ls H locs _ _ () _ hP hD hS (Nat.le_of_ble_eq_true rfl) (Nat.le_of_ble_eq_true rfl) rfl dX5_test_137
        refine lv_aload_n hx hb dX5_test_113 rfl (lv_at hl 3 rfl) ?_
        refine lv_iload hx hb dX5_test_114 (lv_at hl 10 rfl) ?_
        refine lv_iload hx hb dX5_test_116 (lv_at hl 0 rfl) ?_
        refine lv_iload hx hb dX5_test_118 (lv_at hl 2 rfl) ?_
        refine lv_bipush (v := (nI 6)) hx hb dX5_test_120 rfl ?_
        refine ln_icmp_ge (tgt := 129) hx hb (by omega) (by omega) dX5_test_122 (by decide) (fun c122 => ?_) (fun c122 => ?_)
        · refine lv_iconst (v := (nI 0)) hx hb dX5_test_129 rfl ?_
          exact jn130 false (by first | exact (decide_eq_true (by omega)).symm | exact (decide_eq_false (by omega)).symm) _ _ hP hD hS _ (lv_sub hl [0, 1, 2, 3, 4, 5, 6, 7, 8, 9, 10] rfl)
        · refine lv_iconst (v := (nI 1)) hx hb dX5_test_125 rfl ?_
          refine lv_goto (tgt := 130) hx hb dX5_test_126 (by decide) ?_
          exact jn130 true (by first | exact (decide_eq_true (by omega)).symm | exact (decide_eq_false (by omega)).symm) _ _ hP hD hS _ (lv_sub hl [0, 1, 2, 3, 4, 5, 6, 7, 8, 9, 10] rfl)
      refine lv_iload_n hx hb dX5_test_51 rfl (lv_at hl 4 rfl) ?_
      refine lv_iconst (v := (nI 0)) hx hb dX5_test_52 rfl ?_
      refine lv_iload hx hb dX5_test_53 (lv_at hl 0 rfl) ?_
      refine rd_S (own := RX5) (As := [.int dp, .int (nI 0), .int (nI mg9)]) (rest := []) (bytes := cX5_in) (maxL := 3) ⟨hx, hb, hml, hown, hts⟩ (kX5_in l D y3 dp (nI 0) (nI mg9)) gX5_test_X5_in rfl hvX5_in ⟨Nat.le_of_ble_eq_true rfl, Nat.le_of_ble_eq_true rfl⟩ hP hK [] rfl  hl.1 rfl (Nat.le_of_ble_eq_true rfl) dX5_test_55 ⟨Nat.le_of_ble_eq_true rfl, Nat.le_of_ble_eq_true rfl⟩ (fun r4 hr4 => ?_)
      subst hr4
      refine lb_if_eq (tgt := 110) hx hb dX5_test_58 (by decide) (fun c58 => ?_) (fun c58 => ?_)
      · refine lv_iconst (v := (nI 0)) hx hb dX5_test_110 rfl ?_
        exact jn111 false (by unfold teB; first | (rw [c58]; rfl) | (rw [c58, c68]; rfl) | (rw [c58, c68, c79]; rfl) | (rw [c58, c68, c79, c91]; rfl) | (rw [c58, c68, c79, c91, c103]; rfl)) _ _ hP hD hS _ (lv_sub hl [0, 1, 2, 3, 4, 5, 6, 7, 8, 9] rfl)
      · refine lv_iload_n hx hb dX5_test_61 rfl (lv_at hl 5 rfl) ?_
        refine lv_iconst (v := (nI 0)) hx hb dX5_test_62 rfl ?_
        refine lv_bipush (v := (nI 15)) hx hb dX5_test_63 rfl ?_
        refine rd_S (own := RX5) (As := [.int fm, .int (nI 0), .int (nI 15)]) (rest := []) (bytes := cX5_in) (maxL := 3) ⟨hx, hb, hml, hown, hts⟩ (kX5_in l D y3 fm (nI 0) (nI 15)) gX5_test_X5_in rfl hvX5_in ⟨Nat.le_of_ble_eq_true rfl, Nat.le_of_ble_eq_true rfl⟩ hP hK [] rfl  hl.1 rfl (Nat.le_of_ble_eq_true rfl) dX5_test_65 ⟨Nat.le_of_ble_eq_true rfl, Nat.le_of_ble_eq_true rfl⟩ (fun r5 hr5 => ?_)
        subst hr5
        refine lb_if_eq (tgt := 110) hx hb dX5_test_68 (by decide) (fun c68 => ?_) (fun c68 => ?_)
        · refine lv_iconst (v := (nI 0)) hx hb dX5_test_110 rfl ?_
          exact jn111 false (by unfold teB; first | (rw [c58]; rfl) | (rw [c58, c68]; rfl) | (rw [c58, c68, c79]; rfl) | (rw [c58, c68, c79, c91]; rfl) | (rw [c58, c68, c79, c91, c103]; rfl)) _ _ hP hD hS _ (lv_sub hl [0, 1, 2, 3, 4, 5, 6, 7, 8, 9] rfl)
        · refine lv_iload hx hb dX5_test_71 (lv_at hl 6 rfl) ?_
          refine lv_iload_n hx hb dX5_test_73 rfl (lv_at hl 5 rfl) ?_
          refine lv_bipush (v := (nI 15)) hx hb dX5_test_74 rfl ?_
          refine rd_S (own := RX5) (As := [.int tz, .int fm, .int (nI 15)]) (rest := []) (bytes := cX5_in) (maxL := 3) ⟨hx, hb, hml, hown, hts⟩ (kX5_in l D y3 tz fm (nI 15)) gX5_test_X5_in rfl hvX5_in ⟨Nat.le_of_ble_eq_true rfl, Nat.le_of_ble_eq_true rfl⟩ hP hK [] rfl  hl.1 rfl (Nat.le_of_ble_eq_true rfl) dX5_test_76 ⟨Nat.le_of_ble_eq_true rfl, Nat.le_of_ble_eq_true rfl⟩ (fun r6 hr6 => ?_)
          subst hr6
          refine lb_if_eq (tgt := 110) hx hb dX5_test_79 (by decide) (fun c79 => ?_) (fun c79 => ?_)
          · refine lv_iconst (v := (nI 0)) hx hb dX5_test_110 rfl ?_
            exact jn111 false (by unfold teB; first | (rw [c58]; rfl) | (rw [c58, c68]; rfl) | (rw [c58, c68, c79]; rfl) | (rw [c58, c68, c79, c91]; rfl) | (rw [c58, c68, c79, c91, c103]; rfl)) _ _ hP hD hS _ (lv_sub hl [0, 1, 2, 3, 4, 5, 6, 7, 8, 9] rfl)
          · refine lv_iload hx hb dX5_test_82 (lv_at hl 7 rfl) ?_
            refine lv_iconst (v := (nI 0)) hx hb dX5_test_84 rfl ?_
            refine lv_sipush (v := (nI 255)) hx hb dX5_test_85 rfl ?_
            refine rd_S (own := RX5) (As := [.int vl, .int (nI 0), .int (nI 255)]) (rest := []) (bytes := cX5_in) (maxL := 3) ⟨hx, hb, hml, hown, hts⟩ (kX5_in l D y3 vl (nI 0) (nI 255)) gX5_test_X5_in rfl hvX5_in ⟨Nat.le_of_ble_eq_true rfl, Nat.le_of_ble_eq_true rfl⟩ hP hK [] rfl  hl.1 rfl (Nat.le_of_ble_eq_true rfl) dX5_test_88 ⟨Nat.le_of_ble_eq_true rfl, Nat.le_of_ble_eq_true rfl⟩ (fun r7 hr7 => ?_)
            subst hr7
            refine lb_if_eq (tgt := 110) hx hb dX5_test_91 (by decide) (fun c91 => ?_) (fun c91 => ?_)
            · refine lv_iconst (v := (nI 0)) hx hb dX5_test_110 rfl ?_
              exact jn111 false (by unfold teB; first | (rw [c58]; rfl) | (rw [c58, c68]; rfl) | (rw [c58, c68, c79]; rfl) | (rw [c58, c68, c79, c91]; rfl) | (rw [c58, c68, c79, c91, c103]; rfl)) _ _ hP hD hS _ (lv_sub hl [0, 1, 2, 3, 4, 5, 6, 7, 8, 9] rfl)
            · refine lv_iload hx hb dX5_test_94 (lv_at hl 8 rfl) ?_
              refine lv_iconst (v := (nI 0)) hx hb dX5_test_96 rfl ?_
              refine lv_sipush (v := (nI 255)) hx hb dX5_test_97 rfl ?_
              refine rd_S (own := RX5) (As := [.int mm, .int (nI 0), .int (nI 255)]) (rest := []) (bytes := cX5_in) (maxL := 3) ⟨hx, hb, hml, hown, hts⟩ (kX5_in l D y3 mm (nI 0) (nI 255)) gX5_test_X5_in rfl hvX5_in ⟨Nat.le_of_ble_eq_true rfl, Nat.le_of_ble_eq_true rfl⟩ hP hK [] rfl  hl.1 rfl (Nat.le_of_ble_eq_true rfl) dX5_test_100 ⟨Nat.le_of_ble_eq_true rfl, Nat.le_of_ble_eq_true rfl⟩ (fun r8 hr8 => ?_)
              subst hr8
              refine lb_if_eq (tgt := 110) hx hb dX5_test_103 (by decide) (fun c103 => ?_) (fun c103 => ?_)
              · refine lv_iconst (v := (nI 0)) hx hb dX5_test_110 rfl ?_
                exact jn111 false (by unfold teB; first | (rw [c58]; rfl) | (rw [c58, c68]; rfl) | (rw [c58, c68, c79]; rfl) | (rw [c58, c68, c79, c91]; rfl) | (rw [c58, c68, c79, c91, c103]; rfl)) _ _ hP hD hS _ (lv_sub hl [0, 1, 2, 3, 4, 5, 6, 7, 8, 9] rfl)
              · refine lv_iconst (v := (nI 1)) hx hb dX5_test_106 rfl ?_
                refine lv_goto (tgt := 111) hx hb dX5_test_107 (by decide) ?_
                exact jn111 true (by unfold teB; rw [c58, c68, c79, c91, c103]; rfl) _ _ hP hD hS _ (lv_sub hl [0, 1, 2, 3, 4, 5, 6, 7, 8, 9] rfl)
    refine lv_iload hx hb dX5_test_24 (lv_at hl 0 rfl) ?_
    refine ln_if_ne (tgt := 33) hx hb (by omega) dX5_test_26 (by decide) (fun c26 => ?_) (fun c26 => ?_)
    · refine lv_aload_n hx hb dX5_test_33 rfl (lv_at hl 1 rfl) ?_
      refine va_get (D := D) (ci := 5) (v := .ref m10) (C := RX5) (T := TX5) (N := 24) hx hb hts hiX5 hown hK hP 0 rfl rfl 11 (by decide) hf38 (fun _ h9 => h9) rfl dX5_test_34 ?_
      refine lv_bipush (v := (nI 6)) hx hb dX5_test_37 rfl ?_
      have hb9 : inB ru nr = true := by cases hb : inB ru nr; exact absurd (by rw [ht9, hb]; rfl) c26; rfl
      obtain ⟨ek9, hkn9⟩ := inB_c hb9 (by omega)
      refine lv_iload_n hx hb dX5_test_39 rfl (lv_at hl 2 rfl) ?_
      refine ln_eqi (y := (nI ru.toNatClampNeg)) ek9 ?_
      refine ln_imul (n := (ru.toNatClampNeg * 6)) hx hb (by omega) dX5_test_40 ?_
      refine lv_iload hx hb dX5_test_41 (lv_at hl 0 rfl) ?_
      refine ln_iadd (n := (ru.toNatClampNeg * 6) + t9) hx hb rfl dX5_test_43 ?_
      refine lv_iconst (v := (nI 1)) hx hb dX5_test_44 rfl ?_
      refine ln_isub (n := ((ru.toNatClampNeg * 6) + t9) - 1) hx hb (by omega) (by omega) dX5_test_45 ?_
      refine ln_ialdN hx hb hK hP 2 0 rfl rfl (by omega) (by decide) dX5_test_46 ?_
      refine lv_iconst (v := (nI 1)) hx hb dX5_test_47 rfl ?_
      refine ln_iadd (n := (lev (((ru.toNatClampNeg * 6) + t9) - 1)) + 1) hx hb rfl dX5_test_48 ?_
      exact jn49 ((lev (((ru.toNatClampNeg * 6) + t9) - 1)) + 1) (fun hb => by rw [hb, if_pos rfl] at ht9; subst ht9; unfold gnl; first | rw [if_pos c26] | rw [if_neg c26]) _ _ hP hD hS _ (lv_sub hl [0, 1, 2, 3, 4, 5, 6, 7, 8] rfl)
    · refine lv_iconst (v := (nI 0)) hx hb dX5_test_29 rfl ?_
      refine lv_goto (tgt := 49) hx hb dX5_test_30 (by decide) ?_
      exact jn49 0 (fun hb => by rw [hb, if_pos rfl] at ht9; subst ht9; unfold gnl; first | rw [if_pos c26] | rw [if_neg c26]) _ _ hP hD hS _ (lv_sub hl [0, 1, 2, 3, 4, 5, 6, 7, 8] rfl)
  refine lv_istore (lv' := [(7, .int (bI (inB ru nr))), (0, .ref m0), (1, .int ru), (2, .int dp), (3, .int fm), (4, .int tz), (5, .int vl), (6, .int mm)]) hx hb dX5_test_5 hl (by decide) rfl (fun ls hl => ?_)
  refine lv_iload hx hb dX5_test_7 (lv_at hl 0 rfl) ?_
  refine lb_if_eq (tgt := 21) hx hb dX5_test_9 (by decide) (fun c9 => ?_) (fun c9 => ?_)
  · refine lv_iconst (v := (nI 0)) hx hb dX5_test_21 rfl ?_
    exact jn22 0 (by first | (rw [if_pos c9]; done) | (rw [if_neg (by rw [c9]; decide)]; done)) _ _ hP hD hS _ (lv_sub hl [1, 2, 3, 4, 5, 6, 7, 0] rfl)
  · refine lv_aload_n hx hb dX5_test_12 rfl (lv_at hl 1 rfl) ?_
    refine va_get (D := D) (ci := 5) (v := .ref m9) (C := RX5) (T := TX5) (N := 24) hx hb hts hiX5 hown hK hP 0 rfl rfl 10 (by decide) hf35 (fun _ h9 => h9) rfl dX5_test_13 ?_
    obtain ⟨ek9, hkn9⟩ := inB_c c9 (by omega)
    refine lv_iload_n hx hb dX5_test_16 rfl (lv_at hl 2 rfl) ?_
    refine ln_eqi (y := (nI ru.toNatClampNeg)) ek9 ?_
    refine ln_ialdN hx hb hK hP 1 0 rfl rfl (by omega) (by decide) dX5_test_17 ?_
    refine lv_goto (tgt := 22) hx hb dX5_test_18 (by decide) ?_
    exact jn22 (tc ru.toNatClampNeg) (by first | (rw [if_pos c9]; done) | (rw [if_neg (by rw [c9]; decide)]; done)) _ _ hP hD hS _ (lv_sub hl [1, 2, 3, 4, 5, 6, 7, 0] rfl)

set_option maxHeartbeats 4000000 in
set_option maxRecDepth 100000 in
theorem kX5_kinds (l : Launch) (D : va_G) (y3 : ClassId × ClassId × ClassId) (m0 : Nat) (m1 : Nat) (m2 : Nat) (m3 : Nat) (m4 : Nat) (m5 : Nat) (m6 : Nat) (m7 : Nat) (m8 : Nat) (m9 : Nat) (m10 : Nat) (m11 : Nat) (m12 : Nat) (m13 : Nat) (m14 : Nat) (m15 : Nat) (m16 : Nat) (m17 : Nat) (m18 : Nat) (nk : Nat) (np : Nat) (nr : Nat) (nl : Nat) (nb : Nat) (zo : Nat) : wrM l yX5_kinds wsX5_kinds 1 21 0 0 D y3 [(m0, .inr (5, [.ref m1, .int (nI nk), .ref m2, .ref m3, .ref m4, .ref m5, .ref m6, .int (nI np), .ref m7, .ref m8, .ref m9, .ref m10, .ref m11, .ref m12, .ref m13, .ref m14, .int (nI nr), .ref m15, .int (nI nl), .ref m16, .int (nI nb), .ref m17, .ref m18, .int (nI zo)]))] [.ref m0] (fun r (_ : Unit) => r = (nI nk)) (fun (_ : Unit) => [(m0, .inr (5, [.ref m1, .int (nI nk), .ref m2, .ref m3, .ref m4, .ref m5, .ref m6, .int (nI np), .ref m7, .ref m8, .ref m9, .ref m10, .ref m11, .ref m12, .ref m13, .ref m14, .int (nI nr), .ref m15, .int (nI nl), .ref m16, .int (nI nb), .ref m17, .ref m18, .int (nI 0)]))]) := by
  refine wr_of (cc := cX5_kinds) (maxL := 1) (by decide) rfl (Nat.le_of_ble_eq_true rfl) ?_
  intro p e s m args below meth c A Q hx hb hml hown hts hP hK hD hA hS hret ls hl
  replace hl : lv_has ls 1 [(0, .ref m0)] := hl
  have hf69 := hts (.fieldLink RX5 69 "KindGuesserModel" "kinds" "I") (by decide +kernel)
  have hiX5 : ∀ q ∈ wsX50, q ∈ wsX5_kinds := by decide +kernel
  refine lv_aload_n hx hb dX5_kinds_0 rfl (lv_at hl 0 rfl) ?_
  refine lv_aload_n hx hb dX5_kinds_1 rfl (lv_at hl 0 rfl) ?_
  refine va_get (D := D) (ci := 5) (v := .int (nI nk)) (C := RX5) (T := TX5) (N := 24) hx hb hts hiX5 hown hK hP 0 rfl rfl 1 (by decide) hf69 (fun _ h9 => h9) rfl dX5_kinds_2 ?_
  refine wr_V (ci := 5) (q0 := 0) (own := RX5) (As := [.int (nI nk)]) (rest := []) (bytes := cX5_told) (maxL := 2) (wr := []) (w3 := (fun (_ : Unit) => [(m0, .inr (5, [.ref m1, .int (nI nk), .ref m2, .ref m3, .ref m4, .ref m5, .ref m6, .int (nI np), .ref m7, .ref m8, .ref m9, .ref m10, .ref m11, .ref m12, .ref m13, .ref m14, .int (nI nr), .ref m15, .int (nI nl), .ref m16, .int (nI nb), .ref m17, .ref m18, .int (nI 0)]))])) ⟨hx, hb, hml, hown, hts⟩ (kX5_told l D y3 m0 m1 m2 m3 m4 m5 m6 m7 m8 m9 m10 m11 m12 m13 m14 m15 m16 m17 m18 nk np nr nl nb zo (nI nk)) gX5_kinds_X5_told rfl hvX5_told ⟨Nat.le_of_ble_eq_true rfl, Nat.le_of_ble_eq_true rfl⟩ hP hK hD hS hA [0] [] [0] rfl rfl rfl rfl (by decide) (fun _ => rfl) rfl rfl rfl hl.1 rfl (Nat.le_of_ble_eq_true rfl) dX5_kinds_5 ⟨Nat.le_of_ble_eq_true rfl, Nat.le_of_ble_eq_true rfl⟩ (fun r1 u2 H locs hr1 hP hD hS => ?_)
  have hP : va_P D vwCl [(m0, .inr (5, [.ref m1, .int (nI nk), .ref m2, .ref m3, .ref m4, .ref m5, .ref m6, .int (nI np), .ref m7, .ref m8, .ref m9, .ref m10, .ref m11, .ref m12, .ref m13, .ref m14, .int (nI nr), .ref m15, .int (nI nl), .ref m16, .int (nI nb), .ref m17, .ref m18, .int (nI 0)]))] H := hP
  have hD : va_D A [(m0, .inr (5, [.ref m1, .int (nI nk), .ref m2, .ref m3, .ref m4, .ref m5, .ref m6, .int (nI np), .ref m7, .ref m8, .ref m9, .ref m10, .ref m11, .ref m12, .ref m13, .ref m14, .int (nI nr), .ref m15, .int (nI nl), .ref m16, .int (nI nb), .ref m17, .ref m18, .int (nI 0)]))] := hD
  subst hr1
  exact hret 8 ls H locs _ _ () _ hP hD hS (Nat.le_of_ble_eq_true rfl) (Nat.le_of_ble_eq_true rfl) rfl dX5_kinds_8

set_option maxHeartbeats 4000000 in
set_option maxRecDepth 100000 in
theorem kX5_special (l : Launch) (D : va_G) (y3 : ClassId × ClassId × ClassId) (m0 : Nat) (m1 : Nat) (m2 : Nat) (m3 : Nat) (m4 : Nat) (m5 : Nat) (m6 : Nat) (m7 : Nat) (m8 : Nat) (m9 : Nat) (m10 : Nat) (m11 : Nat) (m12 : Nat) (m13 : Nat) (m14 : Nat) (m15 : Nat) (m16 : Nat) (m17 : Nat) (m18 : Nat) (nk : Nat) (np : Nat) (nr : Nat) (nl : Nat) (nb : Nat) (zo : Nat) (par : Nat → Int32) (j : Nat) (o : Int32) (hj : j < nk) (hk : nk ≤ 14) (hp : parOK par nk) (ho : ¬ o = -1) : rdM l yX5_special wsX5_special 0 0 D y3 [(m0, .inr (5, [.ref m1, .int (nI nk), .ref m2, .ref m3, .ref m4, .ref m5, .ref m6, .int (nI np), .ref m7, .ref m8, .ref m9, .ref m10, .ref m11, .ref m12, .ref m13, .ref m14, .int (nI nr), .ref m15, .int (nI nl), .ref m16, .int (nI nb), .ref m17, .ref m18, .int (nI zo)])), (m1, .inl (y3.1, 14, .inl par))] [.ref m0, .int (nI j), .int o] (fun r => r = (bI (spc par 14 (nI j) o))) := by
  refine rz_of (cc := cX5_special) (maxL := 4) (by decide) rfl (Nat.le_of_ble_eq_true rfl) ?_
  intro p e s m args below meth c Q hx hb hml hown hts hP hK hret ls hl
  replace hl : lv_has ls 4 [(0, .ref m0), (1, .int (nI j)), (2, .int o)] := hl
  have hf7 := hts (.fieldLink RX5 7 "KindGuesserModel" "parent" "[I") (by decide +kernel)
  have hiX5 : ∀ q ∈ wsX50, q ∈ wsX5_special := by decide +kernel
  refine lv_iload_n hx hb dX5_special_0 rfl (lv_at hl 1 rfl) ?_
  refine lv_istore_n (lv' := [(3, .int (nI j)), (0, .ref m0), (1, .int (nI j)), (2, .int o)]) hx hb dX5_special_1 rfl hl (by decide) rfl (fun ls hl => ?_)
  have lp2 : ∀ (n1 : Nat) (v : Option Nat) (f : Nat), msr v < n1 → (∀ i : Nat, v = some i → i < nk) → (spc par f (oI v) o = spc par 14 (nI j) o) → (msr v ≤ f) → ∀ ls : Array Slot, lv_has ls 4 [(3, .int (oI v)), (0, .ref m0), (1, .int (nI j)), (2, .int o)] → W p l e (rmO 0 0 0 0) s m args below meth c s.heap [] 0 0 Q (F0 m 2 ls []) := by
    intro n1
    induction n1 with
    | zero => intro v f hm; exact absurd hm (Nat.not_lt_zero _)
    | succ n1 ih2 =>
      intro v f hm2 h1 h2 h3 ls hl
      refine lv_iload_n hx hb dX5_special_2 rfl (lv_at hl 0 rfl) ?_
      refine lv_iconst (v := (-1)) hx hb dX5_special_3 rfl ?_
      refine lv_icmp_eq (tgt := 22) hx hb dX5_special_4 (by decide) (fun c4 => ?_) (fun c4 => ?_)
      · refine lv_iload_n hx hb dX5_special_22 rfl (lv_at hl 0 rfl) ?_
        refine lv_iload_n hx hb dX5_special_23 rfl (lv_at hl 3 rfl) ?_
        refine lv_icmp_ne (tgt := 31) hx hb dX5_special_24 (by decide) (fun c24 => ?_) (fun c24 => ?_)
        · refine lv_iconst (v := (nI 0)) hx hb dX5_special_31 rfl ?_
          exact hret 32 ls _ (by first | exact bI_t (by rw [← h2]; exact sp_t ho h3 c24) | exact bI_f (by rw [← h2, c4, spc_m1]) | exact absurd c9 c24) dX5_special_32
        · refine lv_iconst (v := (nI 1)) hx hb dX5_special_27 rfl ?_
          refine lv_goto (tgt := 32) hx hb dX5_special_28 (by decide) ?_
          exact hret 32 ls _ (by first | exact bI_t (by rw [← h2]; exact sp_t ho h3 c24) | exact bI_f (by rw [← h2, c4, spc_m1]) | exact absurd c9 c24) dX5_special_32
      · refine lv_iload_n hx hb dX5_special_7 rfl (lv_at hl 0 rfl) ?_
        refine lv_iload_n hx hb dX5_special_8 rfl (lv_at hl 3 rfl) ?_
        refine lv_icmp_eq (tgt := 22) hx hb dX5_special_9 (by decide) (fun c9 => ?_) (fun c9 => ?_)
        · refine lv_iload_n hx hb dX5_special_22 rfl (lv_at hl 0 rfl) ?_
          refine lv_iload_n hx hb dX5_special_23 rfl (lv_at hl 3 rfl) ?_
          refine lv_icmp_ne (tgt := 31) hx hb dX5_special_24 (by decide) (fun c24 => ?_) (fun c24 => ?_)
          · refine lv_iconst (v := (nI 0)) hx hb dX5_special_31 rfl ?_
            exact hret 32 ls _ (by first | exact bI_t (by rw [← h2]; exact sp_t ho h3 c24) | exact bI_f (by rw [← h2, c4, spc_m1]) | exact absurd c9 c24) dX5_special_32
          · refine lv_iconst (v := (nI 1)) hx hb dX5_special_27 rfl ?_
            refine lv_goto (tgt := 32) hx hb dX5_special_28 (by decide) ?_
            exact hret 32 ls _ (by first | exact bI_t (by rw [← h2]; exact sp_t ho h3 c24) | exact bI_f (by rw [← h2, c4, spc_m1]) | exact absurd c9 c24) dX5_special_32
        · obtain ⟨i, ev⟩ := oI_some c4
          have hi := h1 i ev
          obtain ⟨v2, ev2, hv2, hmv⟩ := par_n hp hi
          refine lv_aload_n hx hb dX5_special_12 rfl (lv_at hl 1 rfl) ?_
          refine va_get (D := D) (ci := 5) (v := .ref m1) (C := RX5) (T := TX5) (N := 24) hx hb hts hiX5 hown hK hP 0 rfl rfl 0 (by decide) hf7 (fun _ h9 => h9) rfl dX5_special_13 ?_
          refine lv_iload_n hx hb dX5_special_16 rfl (lv_at hl 0 rfl) ?_
          refine ln_eqi (y := (nI i)) (by rw [ev]; rfl) ?_
          refine ln_iald hx hb hK hP 1 0 rfl rfl (by omega) (by decide) dX5_special_17 ?_
          refine ln_eqi (y := (oI v2)) ev2 ?_
          refine lv_istore_n (lv' := [(3, .int (oI v2)), (0, .ref m0), (1, .int (nI j)), (2, .int o)]) hx hb dX5_special_18 rfl hl (by decide) rfl (fun ls hl => ?_)
          refine lv_goto (tgt := 2) hx hb dX5_special_19 (by decide) ?_
          exact ih2 v2 (f - 1) (by rw [ev] at hm2; exact Nat.lt_of_lt_of_le hmv (Nat.le_of_lt_succ hm2)) hv2 (by rw [← h2, ev]; exact sp_s (by rw [← ev]; exact c4) (by rw [← ev]; exact c9) (by rw [ev] at h3; exact h3) ev2 (by omega)) (by rw [ev] at h3; exact Nat.le_sub_one_of_lt (Nat.lt_of_lt_of_le hmv h3)) _ (lv_sub hl [0, 1, 2, 3] rfl)
  exact lp2 _ (some j) 14 (Nat.lt_succ_self _) (fun i hi => by cases hi; exact hj) rfl (by show j + 1 ≤ 14; omega) _ (lv_sub hl [0, 1, 2, 3] rfl)

set_option maxHeartbeats 4000000 in
set_option maxRecDepth 100000 in
theorem kX5_isSpecial_ok (l : Launch) (D : va_G) (y3 : ClassId × ClassId × ClassId) (m0 : Nat) (m1 : Nat) (m2 : Nat) (m3 : Nat) (m4 : Nat) (m5 : Nat) (m6 : Nat) (m7 : Nat) (m8 : Nat) (m9 : Nat) (m10 : Nat) (m11 : Nat) (m12 : Nat) (m13 : Nat) (m14 : Nat) (m15 : Nat) (m16 : Nat) (m17 : Nat) (m18 : Nat) (nk : Nat) (np : Nat) (nr : Nat) (nl : Nat) (nb : Nat) (zo : Nat) (par : Nat → Int32) (k : Int32) (o : Int32) (hk : nk ≤ 14) (hp : parOK par nk) (hz : (ak1 (inB k nk && inB o nk)) = 0) : wrM l yX5_isSpecial wsX5_isSpecial 2 43 0 0 D y3 [(m0, .inr (5, [.ref m1, .int (nI nk), .ref m2, .ref m3, .ref m4, .ref m5, .ref m6, .int (nI np), .ref m7, .ref m8, .ref m9, .ref m10, .ref m11, .ref m12, .ref m13, .ref m14, .int (nI nr), .ref m15, .int (nI nl), .ref m16, .int (nI nb), .ref m17, .ref m18, .int (nI zo)])), (m1, .inl (y3.1, 14, .inl par))] [.ref m0, .int k, .int o] (fun r (_ : Unit) => r = (bI (spc par 14 k o))) (fun (_ : Unit) => [(m0, .inr (5, [.ref m1, .int (nI nk), .ref m2, .ref m3, .ref m4, .ref m5, .ref m6, .int (nI np), .ref m7, .ref m8, .ref m9, .ref m10, .ref m11, .ref m12, .ref m13, .ref m14, .int (nI nr), .ref m15, .int (nI nl), .ref m16, .int (nI nb), .ref m17, .ref m18, .int (nI 0)])), (m1, .inl (y3.1, 14, .inl par))]) := by
  refine wz_of (cc := cX5_isSpecial) (maxL := 3) (by decide) rfl (Nat.le_of_ble_eq_true rfl) ?_
  intro p e s m args below meth c A Q hx hb hml hown hts hP hK hD hA hS hret ls hl
  replace hl : lv_has ls 3 [(0, .ref m0), (1, .int k), (2, .int o)] := hl
  have jn22 : ∀ (j1 : Bool), (j1 = (inB k nk && inB o nk)) → ∀ (H : Heap) (locs : List Loc), va_P D vwCl [(m0, .inr (5, [.ref m1, .int (nI nk), .ref m2, .ref m3, .ref m4, .ref m5, .ref m6, .int (nI np), .ref m7, .ref m8, .ref m9, .ref m10, .ref m11, .ref m12, .ref m13, .ref m14, .int (nI nr), .ref m15, .int (nI nl), .ref m16, .int (nI nb), .ref m17, .ref m18, .int (nI zo)])), (m1, .inl (y3.1, 14, .inl par))] H → va_D A [(m0, .inr (5, [.ref m1, .int (nI nk), .ref m2, .ref m3, .ref m4, .ref m5, .ref m6, .int (nI np), .ref m7, .ref m8, .ref m9, .ref m10, .ref m11, .ref m12, .ref m13, .ref m14, .int (nI nr), .ref m15, .int (nI nl), .ref m16, .int (nI nb), .ref m17, .ref m18, .int (nI zo)])), (m1, .inl (y3.1, 14, .inl par))] → va_S A s.heap H locs → ∀ ls : Array Slot, lv_has ls 3 [(0, .ref m0), (1, .int k), (2, .int o)] → W p l e (rmO 2 0 0 43) s m args below meth c H locs 0 0 Q (F0 m 22 ls [.int (bI j1), .ref m0]) := by
    intro j1 hj1 H locs hP hD hS ls hl
    refine wr_V (ci := 5) (q0 := 0) (own := RX5) (As := [.int (bI j1)]) (rest := []) (bytes := cX5_asked) (maxL := 2) (wr := [(m1, .inl (y3.1, 14, .inl par))]) (w3 := (fun (_ : Unit) => [(m0, .inr (5, [.ref m1, .int (nI nk), .ref m2, .ref m3, .ref m4, .ref m5, .ref m6, .int (nI np), .ref m7, .ref m8, .ref m9, .ref m10, .ref m11, .ref m12, .ref m13, .ref m14, .int (nI nr), .ref m15, .int (nI nl), .ref m16, .int (nI nb), .ref m17, .ref m18, .int (nI (ak1 j1))])), (m1, .inl (y3.1, 14, .inl par))])) ⟨hx, hb, hml, hown, hts⟩ (kX5_asked l D y3 m0 m1 m2 m3 m4 m5 m6 m7 m8 m9 m10 m11 m12 m13 m14 m15 m16 m17 m18 nk np nr nl nb zo j1) gX5_isSpecial_X5_asked rfl hvX5_asked ⟨Nat.le_of_ble_eq_true rfl, Nat.le_of_ble_eq_true rfl⟩ hP hK hD hS hA [0] [1] [1, 0] rfl rfl rfl rfl (by decide) (fun _ => rfl) rfl rfl rfl hl.1 rfl (Nat.le_of_ble_eq_true rfl) dX5_isSpecial_22 ⟨Nat.le_of_ble_eq_true rfl, Nat.le_of_ble_eq_true rfl⟩ (fun r1 u2 H locs hr1 hP hD hS => ?_)
    have hP : va_P D vwCl [(m0, .inr (5, [.ref m1, .int (nI nk), .ref m2, .ref m3, .ref m4, .ref m5, .ref m6, .int (nI np), .ref m7, .ref m8, .ref m9, .ref m10, .ref m11, .ref m12, .ref m13, .ref m14, .int (nI nr), .ref m15, .int (nI nl), .ref m16, .int (nI nb), .ref m17, .ref m18, .int (nI (ak1 j1))])), (m1, .inl (y3.1, 14, .inl par))] H := hP
    have hD : va_D A [(m0, .inr (5, [.ref m1, .int (nI nk), .ref m2, .ref m3, .ref m4, .ref m5, .ref m6, .int (nI np), .ref m7, .ref m8, .ref m9, .ref m10, .ref m11, .ref m12, .ref m13, .ref m14, .int (nI nr), .ref m15, .int (nI nl), .ref m16, .int (nI nb), .ref m17, .ref m18, .int (nI (ak1 j1))])), (m1, .inl (y3.1, 14, .inl par))] := hD
    subst hr1
    refine lb_if_eq (tgt := 41) hx hb dX5_isSpecial_25 (by decide) (fun c25 => ?_) (fun c25 => ?_)
    · rw [hj1] at c25; rw [ak1_t hz] at c25; cases c25
    · have hA := Bool.and_eq_true_iff.mp (ak1_t hz)
      obtain ⟨ek, hkn⟩ := inB_c hA.1 (by omega)
      obtain ⟨eo, hon⟩ := inB_c hA.2 (by omega)
      have ho : ¬ o = -1 := by rw [eo]; exact nI_ne_m1 (by omega)
      refine lv_aload_n hx hb dX5_isSpecial_28 rfl (lv_at hl 0 rfl) ?_
      refine lv_iload_n hx hb dX5_isSpecial_29 rfl (lv_at hl 1 rfl) ?_
      refine ln_eqi (y := (nI k.toNatClampNeg)) ek ?_
      refine lv_iload_n hx hb dX5_isSpecial_30 rfl (lv_at hl 2 rfl) ?_
      refine rd_V (ci := 5) (q0 := 0) (own := RX5) (As := [.int (nI k.toNatClampNeg), .int o]) (rest := []) (bytes := cX5_special) (maxL := 4) ⟨hx, hb, hml, hown, hts⟩ (kX5_special l D y3 m0 m1 m2 m3 m4 m5 m6 m7 m8 m9 m10 m11 m12 m13 m14 m15 m16 m17 m18 nk np nr nl nb (ak1 j1) par k.toNatClampNeg o (by omega) (by omega) (by assumption) (by assumption)) gX5_isSpecial_X5_special rfl hvX5_special ⟨Nat.le_of_ble_eq_true rfl, Nat.le_of_ble_eq_true rfl⟩ hP hK [0, 1] rfl rfl rfl hl.1 rfl (Nat.le_of_ble_eq_true rfl) dX5_isSpecial_31 ⟨Nat.le_of_ble_eq_true rfl, Nat.le_of_ble_eq_true rfl⟩ (fun r3 hr3 => ?_)
      subst hr3
      refine lb_if_eq (tgt := 41) hx hb dX5_isSpecial_34 (by decide) (fun c34 => ?_) (fun c34 => ?_)
      · refine lv_iconst (v := (nI 0)) hx hb dX5_isSpecial_41 rfl ?_
        rw [show ak1 j1 = 0 from by rw [hj1]; exact hz] at hP hD
        exact hret 42 ls H locs _ _ () _ (spc par 14 k o) hP hD hS (Nat.le_of_ble_eq_true rfl) (Nat.le_of_ble_eq_true rfl) (by rw [ek]; first | exact bI_t c34 | exact bI_f c34) rfl dX5_isSpecial_42
      · refine lv_iconst (v := (nI 1)) hx hb dX5_isSpecial_37 rfl ?_
        refine lv_goto (tgt := 42) hx hb dX5_isSpecial_38 (by decide) ?_
        rw [show ak1 j1 = 0 from by rw [hj1]; exact hz] at hP hD
        exact hret 42 ls H locs _ _ () _ (spc par 14 k o) hP hD hS (Nat.le_of_ble_eq_true rfl) (Nat.le_of_ble_eq_true rfl) (by rw [ek]; first | exact bI_t c34 | exact bI_f c34) rfl dX5_isSpecial_42
  refine lv_aload_n hx hb dX5_isSpecial_0 rfl (lv_at hl 0 rfl) ?_
  refine lv_aload_n hx hb dX5_isSpecial_1 rfl (lv_at hl 0 rfl) ?_
  refine lv_iload_n hx hb dX5_isSpecial_2 rfl (lv_at hl 1 rfl) ?_
  refine rd_V (ci := 5) (q0 := 0) (own := RX5) (As := [.int k]) (rest := [.ref m0]) (bytes := cX5_isKind) (maxL := 2) ⟨hx, hb, hml, hown, hts⟩ (kX5_isKind l D y3 m0 m1 m2 m3 m4 m5 m6 m7 m8 m9 m10 m11 m12 m13 m14 m15 m16 m17 m18 nk np nr nl nb zo k (by omega)) gX5_isSpecial_X5_isKind rfl hvX5_isKind ⟨Nat.le_of_ble_eq_true rfl, Nat.le_of_ble_eq_true rfl⟩ hP hK [0] rfl rfl rfl hl.1 rfl (Nat.le_of_ble_eq_true rfl) dX5_isSpecial_3 ⟨Nat.le_of_ble_eq_true rfl, Nat.le_of_ble_eq_true rfl⟩ (fun r4 hr4 => ?_)
  subst hr4
  refine lb_if_eq (tgt := 21) hx hb dX5_isSpecial_6 (by decide) (fun c6 => ?_) (fun c6 => ?_)
  · refine lv_iconst (v := (nI 0)) hx hb dX5_isSpecial_21 rfl ?_
    exact jn22 false (by first | (rw [c6]; rfl) | (rw [c6, c14]; rfl)) _ _ hP hD hS _ (lv_sub hl [0, 1, 2] rfl)
  · refine lv_aload_n hx hb dX5_isSpecial_9 rfl (lv_at hl 0 rfl) ?_
    refine lv_iload_n hx hb dX5_isSpecial_10 rfl (lv_at hl 2 rfl) ?_
    refine rd_V (ci := 5) (q0 := 0) (own := RX5) (As := [.int o]) (rest := [.ref m0]) (bytes := cX5_isKind) (maxL := 2) ⟨hx, hb, hml, hown, hts⟩ (kX5_isKind l D y3 m0 m1 m2 m3 m4 m5 m6 m7 m8 m9 m10 m11 m12 m13 m14 m15 m16 m17 m18 nk np nr nl nb zo o (by omega)) gX5_isSpecial_X5_isKind rfl hvX5_isKind ⟨Nat.le_of_ble_eq_true rfl, Nat.le_of_ble_eq_true rfl⟩ hP hK [0] rfl rfl rfl hl.1 rfl (Nat.le_of_ble_eq_true rfl) dX5_isSpecial_11 ⟨Nat.le_of_ble_eq_true rfl, Nat.le_of_ble_eq_true rfl⟩ (fun r5 hr5 => ?_)
    subst hr5
    refine lb_if_eq (tgt := 21) hx hb dX5_isSpecial_14 (by decide) (fun c14 => ?_) (fun c14 => ?_)
    · refine lv_iconst (v := (nI 0)) hx hb dX5_isSpecial_21 rfl ?_
      exact jn22 false (by first | (rw [c6]; rfl) | (rw [c6, c14]; rfl)) _ _ hP hD hS _ (lv_sub hl [0, 1, 2] rfl)
    · refine lv_iconst (v := (nI 1)) hx hb dX5_isSpecial_17 rfl ?_
      refine lv_goto (tgt := 22) hx hb dX5_isSpecial_18 (by decide) ?_
      exact jn22 true (by rw [c6, c14]; rfl) _ _ hP hD hS _ (lv_sub hl [0, 1, 2] rfl)

set_option maxHeartbeats 4000000 in
set_option maxRecDepth 100000 in
theorem kX5_isSpecial_ex (l : Launch) (D : va_G) (y3 : ClassId × ClassId × ClassId) (m0 : Nat) (m1 : Nat) (m2 : Nat) (m3 : Nat) (m4 : Nat) (m5 : Nat) (m6 : Nat) (m7 : Nat) (m8 : Nat) (m9 : Nat) (m10 : Nat) (m11 : Nat) (m12 : Nat) (m13 : Nat) (m14 : Nat) (m15 : Nat) (m16 : Nat) (m17 : Nat) (m18 : Nat) (nk : Nat) (np : Nat) (nr : Nat) (nl : Nat) (nb : Nat) (zo : Nat) (par : Nat → Int32) (k : Int32) (o : Int32) (hk : nk ≤ 14) (hp : parOK par nk) (hz : ¬ (ak1 (inB k nk && inB o nk)) = 0) : wrM l yX5_isSpecial wsX5_isSpecial 2 43 0 0 D y3 [(m0, .inr (5, [.ref m1, .int (nI nk), .ref m2, .ref m3, .ref m4, .ref m5, .ref m6, .int (nI np), .ref m7, .ref m8, .ref m9, .ref m10, .ref m11, .ref m12, .ref m13, .ref m14, .int (nI nr), .ref m15, .int (nI nl), .ref m16, .int (nI nb), .ref m17, .ref m18, .int (nI zo)])), (m1, .inl (y3.1, 14, .inl par))] [.ref m0, .int k, .int o] (fun r (_ : Unit) => r = (bI false)) (fun (_ : Unit) => [(m0, .inr (5, [.ref m1, .int (nI nk), .ref m2, .ref m3, .ref m4, .ref m5, .ref m6, .int (nI np), .ref m7, .ref m8, .ref m9, .ref m10, .ref m11, .ref m12, .ref m13, .ref m14, .int (nI nr), .ref m15, .int (nI nl), .ref m16, .int (nI nb), .ref m17, .ref m18, .int (nI (ak1 (inB k nk && inB o nk)))])), (m1, .inl (y3.1, 14, .inl par))]) := by
  refine wz_of (cc := cX5_isSpecial) (maxL := 3) (by decide) rfl (Nat.le_of_ble_eq_true rfl) ?_
  intro p e s m args below meth c A Q hx hb hml hown hts hP hK hD hA hS hret ls hl
  replace hl : lv_has ls 3 [(0, .ref m0), (1, .int k), (2, .int o)] := hl
  have jn22 : ∀ (j1 : Bool), (j1 = (inB k nk && inB o nk)) → ∀ (H : Heap) (locs : List Loc), va_P D vwCl [(m0, .inr (5, [.ref m1, .int (nI nk), .ref m2, .ref m3, .ref m4, .ref m5, .ref m6, .int (nI np), .ref m7, .ref m8, .ref m9, .ref m10, .ref m11, .ref m12, .ref m13, .ref m14, .int (nI nr), .ref m15, .int (nI nl), .ref m16, .int (nI nb), .ref m17, .ref m18, .int (nI zo)])), (m1, .inl (y3.1, 14, .inl par))] H → va_D A [(m0, .inr (5, [.ref m1, .int (nI nk), .ref m2, .ref m3, .ref m4, .ref m5, .ref m6, .int (nI np), .ref m7, .ref m8, .ref m9, .ref m10, .ref m11, .ref m12, .ref m13, .ref m14, .int (nI nr), .ref m15, .int (nI nl), .ref m16, .int (nI nb), .ref m17, .ref m18, .int (nI zo)])), (m1, .inl (y3.1, 14, .inl par))] → va_S A s.heap H locs → ∀ ls : Array Slot, lv_has ls 3 [(0, .ref m0), (1, .int k), (2, .int o)] → W p l e (rmO 2 0 0 43) s m args below meth c H locs 0 0 Q (F0 m 22 ls [.int (bI j1), .ref m0]) := by
    intro j1 hj1 H locs hP hD hS ls hl
    refine wr_V (ci := 5) (q0 := 0) (own := RX5) (As := [.int (bI j1)]) (rest := []) (bytes := cX5_asked) (maxL := 2) (wr := [(m1, .inl (y3.1, 14, .inl par))]) (w3 := (fun (_ : Unit) => [(m0, .inr (5, [.ref m1, .int (nI nk), .ref m2, .ref m3, .ref m4, .ref m5, .ref m6, .int (nI np), .ref m7, .ref m8, .ref m9, .ref m10, .ref m11, .ref m12, .ref m13, .ref m14, .int (nI nr), .ref m15, .int (nI nl), .ref m16, .int (nI nb), .ref m17, .ref m18, .int (nI (ak1 j1))])), (m1, .inl (y3.1, 14, .inl par))])) ⟨hx, hb, hml, hown, hts⟩ (kX5_asked l D y3 m0 m1 m2 m3 m4 m5 m6 m7 m8 m9 m10 m11 m12 m13 m14 m15 m16 m17 m18 nk np nr nl nb zo j1) gX5_isSpecial_X5_asked rfl hvX5_asked ⟨Nat.le_of_ble_eq_true rfl, Nat.le_of_ble_eq_true rfl⟩ hP hK hD hS hA [0] [1] [1, 0] rfl rfl rfl rfl (by decide) (fun _ => rfl) rfl rfl rfl hl.1 rfl (Nat.le_of_ble_eq_true rfl) dX5_isSpecial_22 ⟨Nat.le_of_ble_eq_true rfl, Nat.le_of_ble_eq_true rfl⟩ (fun r1 u2 H locs hr1 hP hD hS => ?_)
    have hP : va_P D vwCl [(m0, .inr (5, [.ref m1, .int (nI nk), .ref m2, .ref m3, .ref m4, .ref m5, .ref m6, .int (nI np), .ref m7, .ref m8, .ref m9, .ref m10, .ref m11, .ref m12, .ref m13, .ref m14, .int (nI nr), .ref m15, .int (nI nl), .ref m16, .int (nI nb), .ref m17, .ref m18, .int (nI (ak1 j1))])), (m1, .inl (y3.1, 14, .inl par))] H := hP
    have hD : va_D A [(m0, .inr (5, [.ref m1, .int (nI nk), .ref m2, .ref m3, .ref m4, .ref m5, .ref m6, .int (nI np), .ref m7, .ref m8, .ref m9, .ref m10, .ref m11, .ref m12, .ref m13, .ref m14, .int (nI nr), .ref m15, .int (nI nl), .ref m16, .int (nI nb), .ref m17, .ref m18, .int (nI (ak1 j1))])), (m1, .inl (y3.1, 14, .inl par))] := hD
    subst hr1
    refine lb_if_eq (tgt := 41) hx hb dX5_isSpecial_25 (by decide) (fun c25 => ?_) (fun c25 => ?_)
    · refine lv_iconst (v := (nI 0)) hx hb dX5_isSpecial_41 rfl ?_
      rw [hj1] at hP hD
      exact hret 42 ls H locs _ _ () _ false hP hD hS (Nat.le_of_ble_eq_true rfl) (Nat.le_of_ble_eq_true rfl) rfl rfl dX5_isSpecial_42
    · rw [hj1] at c25; rw [ak1_f hz] at c25; cases c25
  refine lv_aload_n hx hb dX5_isSpecial_0 rfl (lv_at hl 0 rfl) ?_
  refine lv_aload_n hx hb dX5_isSpecial_1 rfl (lv_at hl 0 rfl) ?_
  refine lv_iload_n hx hb dX5_isSpecial_2 rfl (lv_at hl 1 rfl) ?_
  refine rd_V (ci := 5) (q0 := 0) (own := RX5) (As := [.int k]) (rest := [.ref m0]) (bytes := cX5_isKind) (maxL := 2) ⟨hx, hb, hml, hown, hts⟩ (kX5_isKind l D y3 m0 m1 m2 m3 m4 m5 m6 m7 m8 m9 m10 m11 m12 m13 m14 m15 m16 m17 m18 nk np nr nl nb zo k (by omega)) gX5_isSpecial_X5_isKind rfl hvX5_isKind ⟨Nat.le_of_ble_eq_true rfl, Nat.le_of_ble_eq_true rfl⟩ hP hK [0] rfl rfl rfl hl.1 rfl (Nat.le_of_ble_eq_true rfl) dX5_isSpecial_3 ⟨Nat.le_of_ble_eq_true rfl, Nat.le_of_ble_eq_true rfl⟩ (fun r3 hr3 => ?_)
  subst hr3
  refine lb_if_eq (tgt := 21) hx hb dX5_isSpecial_6 (by decide) (fun c6 => ?_) (fun c6 => ?_)
  · refine lv_iconst (v := (nI 0)) hx hb dX5_isSpecial_21 rfl ?_
    exact jn22 false (by first | (rw [c6]; rfl) | (rw [c6, c14]; rfl)) _ _ hP hD hS _ (lv_sub hl [0, 1, 2] rfl)
  · refine lv_aload_n hx hb dX5_isSpecial_9 rfl (lv_at hl 0 rfl) ?_
    refine lv_iload_n hx hb dX5_isSpecial_10 rfl (lv_at hl 2 rfl) ?_
    refine rd_V (ci := 5) (q0 := 0) (own := RX5) (As := [.int o]) (rest := [.ref m0]) (bytes := cX5_isKind) (maxL := 2) ⟨hx, hb, hml, hown, hts⟩ (kX5_isKind l D y3 m0 m1 m2 m3 m4 m5 m6 m7 m8 m9 m10 m11 m12 m13 m14 m15 m16 m17 m18 nk np nr nl nb zo o (by omega)) gX5_isSpecial_X5_isKind rfl hvX5_isKind ⟨Nat.le_of_ble_eq_true rfl, Nat.le_of_ble_eq_true rfl⟩ hP hK [0] rfl rfl rfl hl.1 rfl (Nat.le_of_ble_eq_true rfl) dX5_isSpecial_11 ⟨Nat.le_of_ble_eq_true rfl, Nat.le_of_ble_eq_true rfl⟩ (fun r4 hr4 => ?_)
    subst hr4
    refine lb_if_eq (tgt := 21) hx hb dX5_isSpecial_14 (by decide) (fun c14 => ?_) (fun c14 => ?_)
    · refine lv_iconst (v := (nI 0)) hx hb dX5_isSpecial_21 rfl ?_
      exact jn22 false (by first | (rw [c6]; rfl) | (rw [c6, c14]; rfl)) _ _ hP hD hS _ (lv_sub hl [0, 1, 2] rfl)
    · refine lv_iconst (v := (nI 1)) hx hb dX5_isSpecial_17 rfl ?_
      refine lv_goto (tgt := 22) hx hb dX5_isSpecial_18 (by decide) ?_
      exact jn22 true (by rw [c6, c14]; rfl) _ _ hP hD hS _ (lv_sub hl [0, 1, 2] rfl)

set_option maxHeartbeats 4000000 in
set_option maxRecDepth 100000 in
theorem kX5_letter_ok (l : Launch) (D : va_G) (y3 : ClassId × ClassId × ClassId) (m0 : Nat) (m1 : Nat) (m2 : Nat) (m3 : Nat) (m4 : Nat) (m5 : Nat) (m6 : Nat) (m7 : Nat) (m8 : Nat) (m9 : Nat) (m10 : Nat) (m11 : Nat) (m12 : Nat) (m13 : Nat) (m14 : Nat) (m15 : Nat) (m16 : Nat) (m17 : Nat) (m18 : Nat) (nk : Nat) (np : Nat) (nr : Nat) (nl : Nat) (nb : Nat) (zo : Nat) (lt : Nat → Int32) (k : Int32) (hnl : nl ≤ 12) (hz : (ak2 (rgB k (nI 0) (nI 9)) (decide (nl < 12))) = 0) : wrM l yX5_letter wsX5_letter 1 22 0 0 D y3 [(m0, .inr (5, [.ref m1, .int (nI nk), .ref m2, .ref m3, .ref m4, .ref m5, .ref m6, .int (nI np), .ref m7, .ref m8, .ref m9, .ref m10, .ref m11, .ref m12, .ref m13, .ref m14, .int (nI nr), .ref m15, .int (nI nl), .ref m16, .int (nI nb), .ref m17, .ref m18, .int (nI zo)])), (m15, .inl (y3.1, 12, .inl lt))] [.ref m0, .int k] (fun r (_ : Unit) => r = (nI (nl + 1))) (fun (_ : Unit) => [(m0, .inr (5, [.ref m1, .int (nI nk), .ref m2, .ref m3, .ref m4, .ref m5, .ref m6, .int (nI np), .ref m7, .ref m8, .ref m9, .ref m10, .ref m11, .ref m12, .ref m13, .ref m14, .int (nI nr), .ref m15, .int (nI (nl + 1)), .ref m16, .int (nI nb), .ref m17, .ref m18, .int (nI 0)])), (m15, .inl (y3.1, 12, .inl (upd lt nl k)))]) := by
  refine wr_of (cc := cX5_letter) (maxL := 2) (by decide) rfl (Nat.le_of_ble_eq_true rfl) ?_
  intro p e s m args below meth c A Q hx hb hml hown hts hP hK hD hA hS hret ls hl
  replace hl : lv_has ls 2 [(0, .ref m0), (1, .int k)] := hl
  have hf114 := hts (.fieldLink RX5 114 "KindGuesserModel" "letters" "I") (by decide +kernel)
  have hf53 := hts (.fieldLink RX5 53 "KindGuesserModel" "name" "[I") (by decide +kernel)
  have hiX5 : ∀ q ∈ wsX50, q ∈ wsX5_letter := by decide +kernel
  refine lv_aload_n hx hb dX5_letter_0 rfl (lv_at hl 0 rfl) ?_
  refine lv_iload_n hx hb dX5_letter_1 rfl (lv_at hl 1 rfl) ?_
  refine lv_iconst (v := (nI 0)) hx hb dX5_letter_2 rfl ?_
  refine lv_bipush (v := (nI 9)) hx hb dX5_letter_3 rfl ?_
  refine rd_S (own := RX5) (As := [.int k, .int (nI 0), .int (nI 9)]) (rest := [.ref m0]) (bytes := cX5_in) (maxL := 3) ⟨hx, hb, hml, hown, hts⟩ (kX5_in l D y3 k (nI 0) (nI 9)) gX5_letter_X5_in rfl hvX5_in ⟨Nat.le_of_ble_eq_true rfl, Nat.le_of_ble_eq_true rfl⟩ hP hK [] rfl  hl.1 rfl (Nat.le_of_ble_eq_true rfl) dX5_letter_5 ⟨Nat.le_of_ble_eq_true rfl, Nat.le_of_ble_eq_true rfl⟩ (fun r1 hr1 => ?_)
  subst hr1
  have jn22 : ∀ (j2 : Bool), (j2 = decide (nl < 12)) → ∀ (H : Heap) (locs : List Loc), va_P D vwCl [(m0, .inr (5, [.ref m1, .int (nI nk), .ref m2, .ref m3, .ref m4, .ref m5, .ref m6, .int (nI np), .ref m7, .ref m8, .ref m9, .ref m10, .ref m11, .ref m12, .ref m13, .ref m14, .int (nI nr), .ref m15, .int (nI nl), .ref m16, .int (nI nb), .ref m17, .ref m18, .int (nI zo)])), (m15, .inl (y3.1, 12, .inl lt))] H → va_D A [(m0, .inr (5, [.ref m1, .int (nI nk), .ref m2, .ref m3, .ref m4, .ref m5, .ref m6, .int (nI np), .ref m7, .ref m8, .ref m9, .ref m10, .ref m11, .ref m12, .ref m13, .ref m14, .int (nI nr), .ref m15, .int (nI nl), .ref m16, .int (nI nb), .ref m17, .ref m18, .int (nI zo)])), (m15, .inl (y3.1, 12, .inl lt))] → va_S A s.heap H locs → ∀ ls : Array Slot, lv_has ls 2 [(0, .ref m0), (1, .int k)] → W p l e (rmO 1 0 0 22) s m args below meth c H locs 0 0 Q (F0 m 22 ls [.int (bI j2), .int (bI (rgB k (nI 0) (nI 9))), .ref m0]) := by
    intro j2 hj2 H locs hP hD hS ls hl
    refine wr_V (ci := 5) (q0 := 0) (own := RX5) (As := [.int (bI (rgB k (nI 0) (nI 9))), .int (bI j2)]) (rest := []) (bytes := cX5_asked_) (maxL := 3) (wr := [(m15, .inl (y3.1, 12, .inl lt))]) (w3 := (fun (_ : Unit) => [(m0, .inr (5, [.ref m1, .int (nI nk), .ref m2, .ref m3, .ref m4, .ref m5, .ref m6, .int (nI np), .ref m7, .ref m8, .ref m9, .ref m10, .ref m11, .ref m12, .ref m13, .ref m14, .int (nI nr), .ref m15, .int (nI nl), .ref m16, .int (nI nb), .ref m17, .ref m18, .int (nI (ak2 (rgB k (nI 0) (nI 9)) j2))])), (m15, .inl (y3.1, 12, .inl lt))])) ⟨hx, hb, hml, hown, hts⟩ (kX5_asked_ l D y3 m0 m1 m2 m3 m4 m5 m6 m7 m8 m9 m10 m11 m12 m13 m14 m15 m16 m17 m18 nk np nr nl nb zo (rgB k (nI 0) (nI 9)) j2) gX5_letter_X5_asked_ rfl hvX5_asked_ ⟨Nat.le_of_ble_eq_true rfl, Nat.le_of_ble_eq_true rfl⟩ hP hK hD hS hA [0] [1] [1, 0] rfl rfl rfl rfl (by decide) (fun _ => rfl) rfl rfl rfl hl.1 rfl (Nat.le_of_ble_eq_true rfl) dX5_letter_22 ⟨Nat.le_of_ble_eq_true rfl, Nat.le_of_ble_eq_true rfl⟩ (fun r2 u3 H locs hr2 hP hD hS => ?_)
    have hP : va_P D vwCl [(m0, .inr (5, [.ref m1, .int (nI nk), .ref m2, .ref m3, .ref m4, .ref m5, .ref m6, .int (nI np), .ref m7, .ref m8, .ref m9, .ref m10, .ref m11, .ref m12, .ref m13, .ref m14, .int (nI nr), .ref m15, .int (nI nl), .ref m16, .int (nI nb), .ref m17, .ref m18, .int (nI (ak2 (rgB k (nI 0) (nI 9)) j2))])), (m15, .inl (y3.1, 12, .inl lt))] H := hP
    have hD : va_D A [(m0, .inr (5, [.ref m1, .int (nI nk), .ref m2, .ref m3, .ref m4, .ref m5, .ref m6, .int (nI np), .ref m7, .ref m8, .ref m9, .ref m10, .ref m11, .ref m12, .ref m13, .ref m14, .int (nI nr), .ref m15, .int (nI nl), .ref m16, .int (nI nb), .ref m17, .ref m18, .int (nI (ak2 (rgB k (nI 0) (nI 9)) j2))])), (m15, .inl (y3.1, 12, .inl lt))] := hD
    subst hr2
    refine lb_if_ne (tgt := 30) hx hb dX5_letter_25 (by decide) (fun c25 => ?_) (fun c25 => ?_)
    · have hlt : nl < 12 := of_decide_eq_true (Bool.and_eq_true_iff.mp (ak2_t hz)).2
      refine lv_aload_n hx hb dX5_letter_30 rfl (lv_at hl 0 rfl) ?_
      refine va_get (D := D) (ci := 5) (v := .ref m15) (C := RX5) (T := TX5) (N := 24) hx hb hts hiX5 hown hK hP 0 rfl rfl 17 (by decide) hf53 (fun _ h9 => h9) rfl dX5_letter_31 ?_
      refine lv_aload_n hx hb dX5_letter_34 rfl (lv_at hl 0 rfl) ?_
      refine va_get (D := D) (ci := 5) (v := .int (nI nl)) (C := RX5) (T := TX5) (N := 24) hx hb hts hiX5 hown hK hP 0 rfl rfl 18 (by decide) hf114 (fun _ h9 => h9) rfl dX5_letter_35 ?_
      refine lv_iload_n hx hb dX5_letter_38 rfl (lv_at hl 1 rfl) ?_
      refine ln_iast hx hb hK hP hD hS 1 0 rfl rfl (by omega) (by decide) dX5_letter_39 _ rfl (fun H locs hP hD hS => ?_)
      have hP : va_P D vwCl [(m0, .inr (5, [.ref m1, .int (nI nk), .ref m2, .ref m3, .ref m4, .ref m5, .ref m6, .int (nI np), .ref m7, .ref m8, .ref m9, .ref m10, .ref m11, .ref m12, .ref m13, .ref m14, .int (nI nr), .ref m15, .int (nI nl), .ref m16, .int (nI nb), .ref m17, .ref m18, .int (nI (ak2 (rgB k (nI 0) (nI 9)) j2))])), (m15, .inl (y3.1, 12, .inl (upd lt nl k)))] H := hP
      have hD : va_D A [(m0, .inr (5, [.ref m1, .int (nI nk), .ref m2, .ref m3, .ref m4, .ref m5, .ref m6, .int (nI np), .ref m7, .ref m8, .ref m9, .ref m10, .ref m11, .ref m12, .ref m13, .ref m14, .int (nI nr), .ref m15, .int (nI nl), .ref m16, .int (nI nb), .ref m17, .ref m18, .int (nI (ak2 (rgB k (nI 0) (nI 9)) j2))])), (m15, .inl (y3.1, 12, .inl (upd lt nl k)))] := hD
      refine lv_aload_n hx hb dX5_letter_40 rfl (lv_at hl 0 rfl) ?_
      refine lv_dup hx hb dX5_letter_41 rfl ?_
      refine va_get (D := D) (ci := 5) (v := .int (nI nl)) (C := RX5) (T := TX5) (N := 24) hx hb hts hiX5 hown hK hP 0 rfl rfl 18 (by decide) hf114 (fun _ h9 => h9) rfl dX5_letter_42 ?_
      refine lv_iconst (v := (nI 1)) hx hb dX5_letter_45 rfl ?_
      refine ln_iadd (n := nl + 1) hx hb rfl dX5_letter_46 ?_
      refine va_put (D := D) (ci := 5) (v := .int (nI (nl + 1))) (ty := .int) (C := RX5) (T := TX5) (N := 24) hx hb hts hiX5 tyX5 tyX5_ok nmX5 hown hK hP hD hS 0 rfl rfl 18 (by decide) hf114 (fun _ h9 => h9) rfl (by decide +kernel) rfl rfl (Nat.le_of_ble_eq_true rfl) dX5_letter_47 (fun H locs hP hD hS => ?_)
      have hP : va_P D vwCl [(m0, .inr (5, [.ref m1, .int (nI nk), .ref m2, .ref m3, .ref m4, .ref m5, .ref m6, .int (nI np), .ref m7, .ref m8, .ref m9, .ref m10, .ref m11, .ref m12, .ref m13, .ref m14, .int (nI nr), .ref m15, .int (nI (nl + 1)), .ref m16, .int (nI nb), .ref m17, .ref m18, .int (nI (ak2 (rgB k (nI 0) (nI 9)) j2))])), (m15, .inl (y3.1, 12, .inl (upd lt nl k)))] H := hP
      have hD : va_D A [(m0, .inr (5, [.ref m1, .int (nI nk), .ref m2, .ref m3, .ref m4, .ref m5, .ref m6, .int (nI np), .ref m7, .ref m8, .ref m9, .ref m10, .ref m11, .ref m12, .ref m13, .ref m14, .int (nI nr), .ref m15, .int (nI (nl + 1)), .ref m16, .int (nI nb), .ref m17, .ref m18, .int (nI (ak2 (rgB k (nI 0) (nI 9)) j2))])), (m15, .inl (y3.1, 12, .inl (upd lt nl k)))] := hD
      refine lv_aload_n hx hb dX5_letter_50 rfl (lv_at hl 0 rfl) ?_
      refine va_get (D := D) (ci := 5) (v := .int (nI (nl + 1))) (C := RX5) (T := TX5) (N := 24) hx hb hts hiX5 hown hK hP 0 rfl rfl 18 (by decide) hf114 (fun _ h9 => h9) rfl dX5_letter_51 ?_
      rw [show ak2 (rgB k (nI 0) (nI 9)) j2 = 0 from by rw [hj2]; exact hz] at hP hD
      exact hret 54 ls H locs _ _ () _ hP hD hS (Nat.le_of_ble_eq_true rfl) (Nat.le_of_ble_eq_true rfl) rfl dX5_letter_54
    · rw [hj2] at c25; rw [ak2_t hz] at c25; cases c25
  refine lv_aload_n hx hb dX5_letter_8 rfl (lv_at hl 0 rfl) ?_
  refine va_get (D := D) (ci := 5) (v := .int (nI nl)) (C := RX5) (T := TX5) (N := 24) hx hb hts hiX5 hown hK hP 0 rfl rfl 18 (by decide) hf114 (fun _ h9 => h9) rfl dX5_letter_9 ?_
  refine lv_bipush (v := (nI 12)) hx hb dX5_letter_12 rfl ?_
  refine ln_icmp_ge (tgt := 21) hx hb (by omega) (by omega) dX5_letter_14 (by decide) (fun c14 => ?_) (fun c14 => ?_)
  · refine lv_iconst (v := (nI 0)) hx hb dX5_letter_21 rfl ?_
    exact jn22 false (by first | exact (decide_eq_true (by omega)).symm | exact (decide_eq_false (by omega)).symm) _ _ hP hD hS _ (lv_sub hl [0, 1] rfl)
  · refine lv_iconst (v := (nI 1)) hx hb dX5_letter_17 rfl ?_
    refine lv_goto (tgt := 22) hx hb dX5_letter_18 (by decide) ?_
    exact jn22 true (by first | exact (decide_eq_true (by omega)).symm | exact (decide_eq_false (by omega)).symm) _ _ hP hD hS _ (lv_sub hl [0, 1] rfl)

set_option maxHeartbeats 4000000 in
set_option maxRecDepth 100000 in
theorem kX5_letter_ex (l : Launch) (D : va_G) (y3 : ClassId × ClassId × ClassId) (m0 : Nat) (m1 : Nat) (m2 : Nat) (m3 : Nat) (m4 : Nat) (m5 : Nat) (m6 : Nat) (m7 : Nat) (m8 : Nat) (m9 : Nat) (m10 : Nat) (m11 : Nat) (m12 : Nat) (m13 : Nat) (m14 : Nat) (m15 : Nat) (m16 : Nat) (m17 : Nat) (m18 : Nat) (nk : Nat) (np : Nat) (nr : Nat) (nl : Nat) (nb : Nat) (zo : Nat) (lt : Nat → Int32) (k : Int32) (hnl : nl ≤ 12) (hz : ¬ (ak2 (rgB k (nI 0) (nI 9)) (decide (nl < 12))) = 0) : wrM l yX5_letter wsX5_letter 1 22 0 0 D y3 [(m0, .inr (5, [.ref m1, .int (nI nk), .ref m2, .ref m3, .ref m4, .ref m5, .ref m6, .int (nI np), .ref m7, .ref m8, .ref m9, .ref m10, .ref m11, .ref m12, .ref m13, .ref m14, .int (nI nr), .ref m15, .int (nI nl), .ref m16, .int (nI nb), .ref m17, .ref m18, .int (nI zo)])), (m15, .inl (y3.1, 12, .inl lt))] [.ref m0, .int k] (fun r (_ : Unit) => r = (nI 0)) (fun (_ : Unit) => [(m0, .inr (5, [.ref m1, .int (nI nk), .ref m2, .ref m3, .ref m4, .ref m5, .ref m6, .int (nI np), .ref m7, .ref m8, .ref m9, .ref m10, .ref m11, .ref m12, .ref m13, .ref m14, .int (nI nr), .ref m15, .int (nI nl), .ref m16, .int (nI nb), .ref m17, .ref m18, .int (nI (ak2 (rgB k (nI 0) (nI 9)) (decide (nl < 12))))])), (m15, .inl (y3.1, 12, .inl lt))]) := by
  refine wr_of (cc := cX5_letter) (maxL := 2) (by decide) rfl (Nat.le_of_ble_eq_true rfl) ?_
  intro p e s m args below meth c A Q hx hb hml hown hts hP hK hD hA hS hret ls hl
  replace hl : lv_has ls 2 [(0, .ref m0), (1, .int k)] := hl
  have hf114 := hts (.fieldLink RX5 114 "KindGuesserModel" "letters" "I") (by decide +kernel)
  have hiX5 : ∀ q ∈ wsX50, q ∈ wsX5_letter := by decide +kernel
  refine lv_aload_n hx hb dX5_letter_0 rfl (lv_at hl 0 rfl) ?_
  refine lv_iload_n hx hb dX5_letter_1 rfl (lv_at hl 1 rfl) ?_
  refine lv_iconst (v := (nI 0)) hx hb dX5_letter_2 rfl ?_
  refine lv_bipush (v := (nI 9)) hx hb dX5_letter_3 rfl ?_
  refine rd_S (own := RX5) (As := [.int k, .int (nI 0), .int (nI 9)]) (rest := [.ref m0]) (bytes := cX5_in) (maxL := 3) ⟨hx, hb, hml, hown, hts⟩ (kX5_in l D y3 k (nI 0) (nI 9)) gX5_letter_X5_in rfl hvX5_in ⟨Nat.le_of_ble_eq_true rfl, Nat.le_of_ble_eq_true rfl⟩ hP hK [] rfl  hl.1 rfl (Nat.le_of_ble_eq_true rfl) dX5_letter_5 ⟨Nat.le_of_ble_eq_true rfl, Nat.le_of_ble_eq_true rfl⟩ (fun r1 hr1 => ?_)
  subst hr1
  have jn22 : ∀ (j2 : Bool), (j2 = decide (nl < 12)) → ∀ (H : Heap) (locs : List Loc), va_P D vwCl [(m0, .inr (5, [.ref m1, .int (nI nk), .ref m2, .ref m3, .ref m4, .ref m5, .ref m6, .int (nI np), .ref m7, .ref m8, .ref m9, .ref m10, .ref m11, .ref m12, .ref m13, .ref m14, .int (nI nr), .ref m15, .int (nI nl), .ref m16, .int (nI nb), .ref m17, .ref m18, .int (nI zo)])), (m15, .inl (y3.1, 12, .inl lt))] H → va_D A [(m0, .inr (5, [.ref m1, .int (nI nk), .ref m2, .ref m3, .ref m4, .ref m5, .ref m6, .int (nI np), .ref m7, .ref m8, .ref m9, .ref m10, .ref m11, .ref m12, .ref m13, .ref m14, .int (nI nr), .ref m15, .int (nI nl), .ref m16, .int (nI nb), .ref m17, .ref m18, .int (nI zo)])), (m15, .inl (y3.1, 12, .inl lt))] → va_S A s.heap H locs → ∀ ls : Array Slot, lv_has ls 2 [(0, .ref m0), (1, .int k)] → W p l e (rmO 1 0 0 22) s m args below meth c H locs 0 0 Q (F0 m 22 ls [.int (bI j2), .int (bI (rgB k (nI 0) (nI 9))), .ref m0]) := by
    intro j2 hj2 H locs hP hD hS ls hl
    refine wr_V (ci := 5) (q0 := 0) (own := RX5) (As := [.int (bI (rgB k (nI 0) (nI 9))), .int (bI j2)]) (rest := []) (bytes := cX5_asked_) (maxL := 3) (wr := [(m15, .inl (y3.1, 12, .inl lt))]) (w3 := (fun (_ : Unit) => [(m0, .inr (5, [.ref m1, .int (nI nk), .ref m2, .ref m3, .ref m4, .ref m5, .ref m6, .int (nI np), .ref m7, .ref m8, .ref m9, .ref m10, .ref m11, .ref m12, .ref m13, .ref m14, .int (nI nr), .ref m15, .int (nI nl), .ref m16, .int (nI nb), .ref m17, .ref m18, .int (nI (ak2 (rgB k (nI 0) (nI 9)) j2))])), (m15, .inl (y3.1, 12, .inl lt))])) ⟨hx, hb, hml, hown, hts⟩ (kX5_asked_ l D y3 m0 m1 m2 m3 m4 m5 m6 m7 m8 m9 m10 m11 m12 m13 m14 m15 m16 m17 m18 nk np nr nl nb zo (rgB k (nI 0) (nI 9)) j2) gX5_letter_X5_asked_ rfl hvX5_asked_ ⟨Nat.le_of_ble_eq_true rfl, Nat.le_of_ble_eq_true rfl⟩ hP hK hD hS hA [0] [1] [1, 0] rfl rfl rfl rfl (by decide) (fun _ => rfl) rfl rfl rfl hl.1 rfl (Nat.le_of_ble_eq_true rfl) dX5_letter_22 ⟨Nat.le_of_ble_eq_true rfl, Nat.le_of_ble_eq_true rfl⟩ (fun r2 u3 H locs hr2 hP hD hS => ?_)
    have hP : va_P D vwCl [(m0, .inr (5, [.ref m1, .int (nI nk), .ref m2, .ref m3, .ref m4, .ref m5, .ref m6, .int (nI np), .ref m7, .ref m8, .ref m9, .ref m10, .ref m11, .ref m12, .ref m13, .ref m14, .int (nI nr), .ref m15, .int (nI nl), .ref m16, .int (nI nb), .ref m17, .ref m18, .int (nI (ak2 (rgB k (nI 0) (nI 9)) j2))])), (m15, .inl (y3.1, 12, .inl lt))] H := hP
    have hD : va_D A [(m0, .inr (5, [.ref m1, .int (nI nk), .ref m2, .ref m3, .ref m4, .ref m5, .ref m6, .int (nI np), .ref m7, .ref m8, .ref m9, .ref m10, .ref m11, .ref m12, .ref m13, .ref m14, .int (nI nr), .ref m15, .int (nI nl), .ref m16, .int (nI nb), .ref m17, .ref m18, .int (nI (ak2 (rgB k (nI 0) (nI 9)) j2))])), (m15, .inl (y3.1, 12, .inl lt))] := hD
    subst hr2
    refine lb_if_ne (tgt := 30) hx hb dX5_letter_25 (by decide) (fun c25 => ?_) (fun c25 => ?_)
    · rw [hj2] at c25; rw [ak2_f hz] at c25; cases c25
    · refine lv_iconst (v := (nI 0)) hx hb dX5_letter_28 rfl ?_
      rw [hj2] at hP hD
      exact hret 29 ls H locs _ _ () _ hP hD hS (Nat.le_of_ble_eq_true rfl) (Nat.le_of_ble_eq_true rfl) rfl dX5_letter_29
  refine lv_aload_n hx hb dX5_letter_8 rfl (lv_at hl 0 rfl) ?_
  refine va_get (D := D) (ci := 5) (v := .int (nI nl)) (C := RX5) (T := TX5) (N := 24) hx hb hts hiX5 hown hK hP 0 rfl rfl 18 (by decide) hf114 (fun _ h9 => h9) rfl dX5_letter_9 ?_
  refine lv_bipush (v := (nI 12)) hx hb dX5_letter_12 rfl ?_
  refine ln_icmp_ge (tgt := 21) hx hb (by omega) (by omega) dX5_letter_14 (by decide) (fun c14 => ?_) (fun c14 => ?_)
  · refine lv_iconst (v := (nI 0)) hx hb dX5_letter_21 rfl ?_
    exact jn22 false (by first | exact (decide_eq_true (by omega)).symm | exact (decide_eq_false (by omega)).symm) _ _ hP hD hS _ (lv_sub hl [0, 1] rfl)
  · refine lv_iconst (v := (nI 1)) hx hb dX5_letter_17 rfl ?_
    refine lv_goto (tgt := 22) hx hb dX5_letter_18 (by decide) ?_
    exact jn22 true (by first | exact (decide_eq_true (by omega)).symm | exact (decide_eq_false (by omega)).symm) _ _ hP hD hS _ (lv_sub hl [0, 1] rfl)

set_option maxHeartbeats 4000000 in
set_option maxRecDepth 100000 in
theorem kX5_put_ok (l : Launch) (D : va_G) (y3 : ClassId × ClassId × ClassId) (m0 : Nat) (m1 : Nat) (m2 : Nat) (m3 : Nat) (m4 : Nat) (m5 : Nat) (m6 : Nat) (m7 : Nat) (m8 : Nat) (m9 : Nat) (m10 : Nat) (m11 : Nat) (m12 : Nat) (m13 : Nat) (m14 : Nat) (m15 : Nat) (m16 : Nat) (m17 : Nat) (m18 : Nat) (nk : Nat) (np : Nat) (nr : Nat) (nl : Nat) (nb : Nat) (zo : Nat) (vb : Nat → Int32) (k : Int32) (hnb : nb ≤ 16) (hz : (ak2 (rgB k (nI 0) (nI 255)) (decide (nb < 16))) = 0) : wrM l yX5_put wsX5_put 1 22 0 0 D y3 [(m0, .inr (5, [.ref m1, .int (nI nk), .ref m2, .ref m3, .ref m4, .ref m5, .ref m6, .int (nI np), .ref m7, .ref m8, .ref m9, .ref m10, .ref m11, .ref m12, .ref m13, .ref m14, .int (nI nr), .ref m15, .int (nI nl), .ref m16, .int (nI nb), .ref m17, .ref m18, .int (nI zo)])), (m16, .inl (y3.1, 16, .inl vb))] [.ref m0, .int k] (fun r (_ : Unit) => r = (nI (nb + 1))) (fun (_ : Unit) => [(m0, .inr (5, [.ref m1, .int (nI nk), .ref m2, .ref m3, .ref m4, .ref m5, .ref m6, .int (nI np), .ref m7, .ref m8, .ref m9, .ref m10, .ref m11, .ref m12, .ref m13, .ref m14, .int (nI nr), .ref m15, .int (nI nl), .ref m16, .int (nI (nb + 1)), .ref m17, .ref m18, .int (nI 0)])), (m16, .inl (y3.1, 16, .inl (upd vb nb k)))]) := by
  refine wr_of (cc := cX5_put) (maxL := 2) (by decide) rfl (Nat.le_of_ble_eq_true rfl) ?_
  intro p e s m args below meth c A Q hx hb hml hown hts hP hK hD hA hS hret ls hl
  replace hl : lv_has ls 2 [(0, .ref m0), (1, .int k)] := hl
  have hf117 := hts (.fieldLink RX5 117 "KindGuesserModel" "bytes" "I") (by decide +kernel)
  have hf56 := hts (.fieldLink RX5 56 "KindGuesserModel" "data" "[I") (by decide +kernel)
  have hiX5 : ∀ q ∈ wsX50, q ∈ wsX5_put := by decide +kernel
  refine lv_aload_n hx hb dX5_put_0 rfl (lv_at hl 0 rfl) ?_
  refine lv_iload_n hx hb dX5_put_1 rfl (lv_at hl 1 rfl) ?_
  refine lv_iconst (v := (nI 0)) hx hb dX5_put_2 rfl ?_
  refine lv_sipush (v := (nI 255)) hx hb dX5_put_3 rfl ?_
  refine rd_S (own := RX5) (As := [.int k, .int (nI 0), .int (nI 255)]) (rest := [.ref m0]) (bytes := cX5_in) (maxL := 3) ⟨hx, hb, hml, hown, hts⟩ (kX5_in l D y3 k (nI 0) (nI 255)) gX5_put_X5_in rfl hvX5_in ⟨Nat.le_of_ble_eq_true rfl, Nat.le_of_ble_eq_true rfl⟩ hP hK [] rfl  hl.1 rfl (Nat.le_of_ble_eq_true rfl) dX5_put_6 ⟨Nat.le_of_ble_eq_true rfl, Nat.le_of_ble_eq_true rfl⟩ (fun r1 hr1 => ?_)
  subst hr1
  have jn23 : ∀ (j2 : Bool), (j2 = decide (nb < 16)) → ∀ (H : Heap) (locs : List Loc), va_P D vwCl [(m0, .inr (5, [.ref m1, .int (nI nk), .ref m2, .ref m3, .ref m4, .ref m5, .ref m6, .int (nI np), .ref m7, .ref m8, .ref m9, .ref m10, .ref m11, .ref m12, .ref m13, .ref m14, .int (nI nr), .ref m15, .int (nI nl), .ref m16, .int (nI nb), .ref m17, .ref m18, .int (nI zo)])), (m16, .inl (y3.1, 16, .inl vb))] H → va_D A [(m0, .inr (5, [.ref m1, .int (nI nk), .ref m2, .ref m3, .ref m4, .ref m5, .ref m6, .int (nI np), .ref m7, .ref m8, .ref m9, .ref m10, .ref m11, .ref m12, .ref m13, .ref m14, .int (nI nr), .ref m15, .int (nI nl), .ref m16, .int (nI nb), .ref m17, .ref m18, .int (nI zo)])), (m16, .inl (y3.1, 16, .inl vb))] → va_S A s.heap H locs → ∀ ls : Array Slot, lv_has ls 2 [(0, .ref m0), (1, .int k)] → W p l e (rmO 1 0 0 22) s m args below meth c H locs 0 0 Q (F0 m 23 ls [.int (bI j2), .int (bI (rgB k (nI 0) (nI 255))), .ref m0]) := by
    intro j2 hj2 H locs hP hD hS ls hl
    refine wr_V (ci := 5) (q0 := 0) (own := RX5) (As := [.int (bI (rgB k (nI 0) (nI 255))), .int (bI j2)]) (rest := []) (bytes := cX5_asked_) (maxL := 3) (wr := [(m16, .inl (y3.1, 16, .inl vb))]) (w3 := (fun (_ : Unit) => [(m0, .inr (5, [.ref m1, .int (nI nk), .ref m2, .ref m3, .ref m4, .ref m5, .ref m6, .int (nI np), .ref m7, .ref m8, .ref m9, .ref m10, .ref m11, .ref m12, .ref m13, .ref m14, .int (nI nr), .ref m15, .int (nI nl), .ref m16, .int (nI nb), .ref m17, .ref m18, .int (nI (ak2 (rgB k (nI 0) (nI 255)) j2))])), (m16, .inl (y3.1, 16, .inl vb))])) ⟨hx, hb, hml, hown, hts⟩ (kX5_asked_ l D y3 m0 m1 m2 m3 m4 m5 m6 m7 m8 m9 m10 m11 m12 m13 m14 m15 m16 m17 m18 nk np nr nl nb zo (rgB k (nI 0) (nI 255)) j2) gX5_put_X5_asked_ rfl hvX5_asked_ ⟨Nat.le_of_ble_eq_true rfl, Nat.le_of_ble_eq_true rfl⟩ hP hK hD hS hA [0] [1] [1, 0] rfl rfl rfl rfl (by decide) (fun _ => rfl) rfl rfl rfl hl.1 rfl (Nat.le_of_ble_eq_true rfl) dX5_put_23 ⟨Nat.le_of_ble_eq_true rfl, Nat.le_of_ble_eq_true rfl⟩ (fun r2 u3 H locs hr2 hP hD hS => ?_)
    have hP : va_P D vwCl [(m0, .inr (5, [.ref m1, .int (nI nk), .ref m2, .ref m3, .ref m4, .ref m5, .ref m6, .int (nI np), .ref m7, .ref m8, .ref m9, .ref m10, .ref m11, .ref m12, .ref m13, .ref m14, .int (nI nr), .ref m15, .int (nI nl), .ref m16, .int (nI nb), .ref m17, .ref m18, .int (nI (ak2 (rgB k (nI 0) (nI 255)) j2))])), (m16, .inl (y3.1, 16, .inl vb))] H := hP
    have hD : va_D A [(m0, .inr (5, [.ref m1, .int (nI nk), .ref m2, .ref m3, .ref m4, .ref m5, .ref m6, .int (nI np), .ref m7, .ref m8, .ref m9, .ref m10, .ref m11, .ref m12, .ref m13, .ref m14, .int (nI nr), .ref m15, .int (nI nl), .ref m16, .int (nI nb), .ref m17, .ref m18, .int (nI (ak2 (rgB k (nI 0) (nI 255)) j2))])), (m16, .inl (y3.1, 16, .inl vb))] := hD
    subst hr2
    refine lb_if_ne (tgt := 31) hx hb dX5_put_26 (by decide) (fun c26 => ?_) (fun c26 => ?_)
    · have hlt : nb < 16 := of_decide_eq_true (Bool.and_eq_true_iff.mp (ak2_t hz)).2
      refine lv_aload_n hx hb dX5_put_31 rfl (lv_at hl 0 rfl) ?_
      refine va_get (D := D) (ci := 5) (v := .ref m16) (C := RX5) (T := TX5) (N := 24) hx hb hts hiX5 hown hK hP 0 rfl rfl 19 (by decide) hf56 (fun _ h9 => h9) rfl dX5_put_32 ?_
      refine lv_aload_n hx hb dX5_put_35 rfl (lv_at hl 0 rfl) ?_
      refine va_get (D := D) (ci := 5) (v := .int (nI nb)) (C := RX5) (T := TX5) (N := 24) hx hb hts hiX5 hown hK hP 0 rfl rfl 20 (by decide) hf117 (fun _ h9 => h9) rfl dX5_put_36 ?_
      refine lv_iload_n hx hb dX5_put_39 rfl (lv_at hl 1 rfl) ?_
      refine ln_iast hx hb hK hP hD hS 1 0 rfl rfl (by omega) (by decide) dX5_put_40 _ rfl (fun H locs hP hD hS => ?_)
      have hP : va_P D vwCl [(m0, .inr (5, [.ref m1, .int (nI nk), .ref m2, .ref m3, .ref m4, .ref m5, .ref m6, .int (nI np), .ref m7, .ref m8, .ref m9, .ref m10, .ref m11, .ref m12, .ref m13, .ref m14, .int (nI nr), .ref m15, .int (nI nl), .ref m16, .int (nI nb), .ref m17, .ref m18, .int (nI (ak2 (rgB k (nI 0) (nI 255)) j2))])), (m16, .inl (y3.1, 16, .inl (upd vb nb k)))] H := hP
      have hD : va_D A [(m0, .inr (5, [.ref m1, .int (nI nk), .ref m2, .ref m3, .ref m4, .ref m5, .ref m6, .int (nI np), .ref m7, .ref m8, .ref m9, .ref m10, .ref m11, .ref m12, .ref m13, .ref m14, .int (nI nr), .ref m15, .int (nI nl), .ref m16, .int (nI nb), .ref m17, .ref m18, .int (nI (ak2 (rgB k (nI 0) (nI 255)) j2))])), (m16, .inl (y3.1, 16, .inl (upd vb nb k)))] := hD
      refine lv_aload_n hx hb dX5_put_41 rfl (lv_at hl 0 rfl) ?_
      refine lv_dup hx hb dX5_put_42 rfl ?_
      refine va_get (D := D) (ci := 5) (v := .int (nI nb)) (C := RX5) (T := TX5) (N := 24) hx hb hts hiX5 hown hK hP 0 rfl rfl 20 (by decide) hf117 (fun _ h9 => h9) rfl dX5_put_43 ?_
      refine lv_iconst (v := (nI 1)) hx hb dX5_put_46 rfl ?_
      refine ln_iadd (n := nb + 1) hx hb rfl dX5_put_47 ?_
      refine va_put (D := D) (ci := 5) (v := .int (nI (nb + 1))) (ty := .int) (C := RX5) (T := TX5) (N := 24) hx hb hts hiX5 tyX5 tyX5_ok nmX5 hown hK hP hD hS 0 rfl rfl 20 (by decide) hf117 (fun _ h9 => h9) rfl (by decide +kernel) rfl rfl (Nat.le_of_ble_eq_true rfl) dX5_put_48 (fun H locs hP hD hS => ?_)
      have hP : va_P D vwCl [(m0, .inr (5, [.ref m1, .int (nI nk), .ref m2, .ref m3, .ref m4, .ref m5, .ref m6, .int (nI np), .ref m7, .ref m8, .ref m9, .ref m10, .ref m11, .ref m12, .ref m13, .ref m14, .int (nI nr), .ref m15, .int (nI nl), .ref m16, .int (nI (nb + 1)), .ref m17, .ref m18, .int (nI (ak2 (rgB k (nI 0) (nI 255)) j2))])), (m16, .inl (y3.1, 16, .inl (upd vb nb k)))] H := hP
      have hD : va_D A [(m0, .inr (5, [.ref m1, .int (nI nk), .ref m2, .ref m3, .ref m4, .ref m5, .ref m6, .int (nI np), .ref m7, .ref m8, .ref m9, .ref m10, .ref m11, .ref m12, .ref m13, .ref m14, .int (nI nr), .ref m15, .int (nI nl), .ref m16, .int (nI (nb + 1)), .ref m17, .ref m18, .int (nI (ak2 (rgB k (nI 0) (nI 255)) j2))])), (m16, .inl (y3.1, 16, .inl (upd vb nb k)))] := hD
      refine lv_aload_n hx hb dX5_put_51 rfl (lv_at hl 0 rfl) ?_
      refine va_get (D := D) (ci := 5) (v := .int (nI (nb + 1))) (C := RX5) (T := TX5) (N := 24) hx hb hts hiX5 hown hK hP 0 rfl rfl 20 (by decide) hf117 (fun _ h9 => h9) rfl dX5_put_52 ?_
      rw [show ak2 (rgB k (nI 0) (nI 255)) j2 = 0 from by rw [hj2]; exact hz] at hP hD
      exact hret 55 ls H locs _ _ () _ hP hD hS (Nat.le_of_ble_eq_true rfl) (Nat.le_of_ble_eq_true rfl) rfl dX5_put_55
    · rw [hj2] at c26; rw [ak2_t hz] at c26; cases c26
  refine lv_aload_n hx hb dX5_put_9 rfl (lv_at hl 0 rfl) ?_
  refine va_get (D := D) (ci := 5) (v := .int (nI nb)) (C := RX5) (T := TX5) (N := 24) hx hb hts hiX5 hown hK hP 0 rfl rfl 20 (by decide) hf117 (fun _ h9 => h9) rfl dX5_put_10 ?_
  refine lv_bipush (v := (nI 16)) hx hb dX5_put_13 rfl ?_
  refine ln_icmp_ge (tgt := 22) hx hb (by omega) (by omega) dX5_put_15 (by decide) (fun c15 => ?_) (fun c15 => ?_)
  · refine lv_iconst (v := (nI 0)) hx hb dX5_put_22 rfl ?_
    exact jn23 false (by first | exact (decide_eq_true (by omega)).symm | exact (decide_eq_false (by omega)).symm) _ _ hP hD hS _ (lv_sub hl [0, 1] rfl)
  · refine lv_iconst (v := (nI 1)) hx hb dX5_put_18 rfl ?_
    refine lv_goto (tgt := 23) hx hb dX5_put_19 (by decide) ?_
    exact jn23 true (by first | exact (decide_eq_true (by omega)).symm | exact (decide_eq_false (by omega)).symm) _ _ hP hD hS _ (lv_sub hl [0, 1] rfl)

set_option maxHeartbeats 4000000 in
set_option maxRecDepth 100000 in
theorem kX5_put_ex (l : Launch) (D : va_G) (y3 : ClassId × ClassId × ClassId) (m0 : Nat) (m1 : Nat) (m2 : Nat) (m3 : Nat) (m4 : Nat) (m5 : Nat) (m6 : Nat) (m7 : Nat) (m8 : Nat) (m9 : Nat) (m10 : Nat) (m11 : Nat) (m12 : Nat) (m13 : Nat) (m14 : Nat) (m15 : Nat) (m16 : Nat) (m17 : Nat) (m18 : Nat) (nk : Nat) (np : Nat) (nr : Nat) (nl : Nat) (nb : Nat) (zo : Nat) (vb : Nat → Int32) (k : Int32) (hnb : nb ≤ 16) (hz : ¬ (ak2 (rgB k (nI 0) (nI 255)) (decide (nb < 16))) = 0) : wrM l yX5_put wsX5_put 1 22 0 0 D y3 [(m0, .inr (5, [.ref m1, .int (nI nk), .ref m2, .ref m3, .ref m4, .ref m5, .ref m6, .int (nI np), .ref m7, .ref m8, .ref m9, .ref m10, .ref m11, .ref m12, .ref m13, .ref m14, .int (nI nr), .ref m15, .int (nI nl), .ref m16, .int (nI nb), .ref m17, .ref m18, .int (nI zo)])), (m16, .inl (y3.1, 16, .inl vb))] [.ref m0, .int k] (fun r (_ : Unit) => r = (nI 0)) (fun (_ : Unit) => [(m0, .inr (5, [.ref m1, .int (nI nk), .ref m2, .ref m3, .ref m4, .ref m5, .ref m6, .int (nI np), .ref m7, .ref m8, .ref m9, .ref m10, .ref m11, .ref m12, .ref m13, .ref m14, .int (nI nr), .ref m15, .int (nI nl), .ref m16, .int (nI nb), .ref m17, .ref m18, .int (nI (ak2 (rgB k (nI 0) (nI 255)) (decide (nb < 16))))])), (m16, .inl (y3.1, 16, .inl vb))]) := by
  refine wr_of (cc := cX5_put) (maxL := 2) (by decide) rfl (Nat.le_of_ble_eq_true rfl) ?_
  intro p e s m args below meth c A Q hx hb hml hown hts hP hK hD hA hS hret ls hl
  replace hl : lv_has ls 2 [(0, .ref m0), (1, .int k)] := hl
  have hf117 := hts (.fieldLink RX5 117 "KindGuesserModel" "bytes" "I") (by decide +kernel)
  have hiX5 : ∀ q ∈ wsX50, q ∈ wsX5_put := by decide +kernel
  refine lv_aload_n hx hb dX5_put_0 rfl (lv_at hl 0 rfl) ?_
  refine lv_iload_n hx hb dX5_put_1 rfl (lv_at hl 1 rfl) ?_
  refine lv_iconst (v := (nI 0)) hx hb dX5_put_2 rfl ?_
  refine lv_sipush (v := (nI 255)) hx hb dX5_put_3 rfl ?_
  refine rd_S (own := RX5) (As := [.int k, .int (nI 0), .int (nI 255)]) (rest := [.ref m0]) (bytes := cX5_in) (maxL := 3) ⟨hx, hb, hml, hown, hts⟩ (kX5_in l D y3 k (nI 0) (nI 255)) gX5_put_X5_in rfl hvX5_in ⟨Nat.le_of_ble_eq_true rfl, Nat.le_of_ble_eq_true rfl⟩ hP hK [] rfl  hl.1 rfl (Nat.le_of_ble_eq_true rfl) dX5_put_6 ⟨Nat.le_of_ble_eq_true rfl, Nat.le_of_ble_eq_true rfl⟩ (fun r1 hr1 => ?_)
  subst hr1
  have jn23 : ∀ (j2 : Bool), (j2 = decide (nb < 16)) → ∀ (H : Heap) (locs : List Loc), va_P D vwCl [(m0, .inr (5, [.ref m1, .int (nI nk), .ref m2, .ref m3, .ref m4, .ref m5, .ref m6, .int (nI np), .ref m7, .ref m8, .ref m9, .ref m10, .ref m11, .ref m12, .ref m13, .ref m14, .int (nI nr), .ref m15, .int (nI nl), .ref m16, .int (nI nb), .ref m17, .ref m18, .int (nI zo)])), (m16, .inl (y3.1, 16, .inl vb))] H → va_D A [(m0, .inr (5, [.ref m1, .int (nI nk), .ref m2, .ref m3, .ref m4, .ref m5, .ref m6, .int (nI np), .ref m7, .ref m8, .ref m9, .ref m10, .ref m11, .ref m12, .ref m13, .ref m14, .int (nI nr), .ref m15, .int (nI nl), .ref m16, .int (nI nb), .ref m17, .ref m18, .int (nI zo)])), (m16, .inl (y3.1, 16, .inl vb))] → va_S A s.heap H locs → ∀ ls : Array Slot, lv_has ls 2 [(0, .ref m0), (1, .int k)] → W p l e (rmO 1 0 0 22) s m args below meth c H locs 0 0 Q (F0 m 23 ls [.int (bI j2), .int (bI (rgB k (nI 0) (nI 255))), .ref m0]) := by
    intro j2 hj2 H locs hP hD hS ls hl
    refine wr_V (ci := 5) (q0 := 0) (own := RX5) (As := [.int (bI (rgB k (nI 0) (nI 255))), .int (bI j2)]) (rest := []) (bytes := cX5_asked_) (maxL := 3) (wr := [(m16, .inl (y3.1, 16, .inl vb))]) (w3 := (fun (_ : Unit) => [(m0, .inr (5, [.ref m1, .int (nI nk), .ref m2, .ref m3, .ref m4, .ref m5, .ref m6, .int (nI np), .ref m7, .ref m8, .ref m9, .ref m10, .ref m11, .ref m12, .ref m13, .ref m14, .int (nI nr), .ref m15, .int (nI nl), .ref m16, .int (nI nb), .ref m17, .ref m18, .int (nI (ak2 (rgB k (nI 0) (nI 255)) j2))])), (m16, .inl (y3.1, 16, .inl vb))])) ⟨hx, hb, hml, hown, hts⟩ (kX5_asked_ l D y3 m0 m1 m2 m3 m4 m5 m6 m7 m8 m9 m10 m11 m12 m13 m14 m15 m16 m17 m18 nk np nr nl nb zo (rgB k (nI 0) (nI 255)) j2) gX5_put_X5_asked_ rfl hvX5_asked_ ⟨Nat.le_of_ble_eq_true rfl, Nat.le_of_ble_eq_true rfl⟩ hP hK hD hS hA [0] [1] [1, 0] rfl rfl rfl rfl (by decide) (fun _ => rfl) rfl rfl rfl hl.1 rfl (Nat.le_of_ble_eq_true rfl) dX5_put_23 ⟨Nat.le_of_ble_eq_true rfl, Nat.le_of_ble_eq_true rfl⟩ (fun r2 u3 H locs hr2 hP hD hS => ?_)
    have hP : va_P D vwCl [(m0, .inr (5, [.ref m1, .int (nI nk), .ref m2, .ref m3, .ref m4, .ref m5, .ref m6, .int (nI np), .ref m7, .ref m8, .ref m9, .ref m10, .ref m11, .ref m12, .ref m13, .ref m14, .int (nI nr), .ref m15, .int (nI nl), .ref m16, .int (nI nb), .ref m17, .ref m18, .int (nI (ak2 (rgB k (nI 0) (nI 255)) j2))])), (m16, .inl (y3.1, 16, .inl vb))] H := hP
    have hD : va_D A [(m0, .inr (5, [.ref m1, .int (nI nk), .ref m2, .ref m3, .ref m4, .ref m5, .ref m6, .int (nI np), .ref m7, .ref m8, .ref m9, .ref m10, .ref m11, .ref m12, .ref m13, .ref m14, .int (nI nr), .ref m15, .int (nI nl), .ref m16, .int (nI nb), .ref m17, .ref m18, .int (nI (ak2 (rgB k (nI 0) (nI 255)) j2))])), (m16, .inl (y3.1, 16, .inl vb))] := hD
    subst hr2
    refine lb_if_ne (tgt := 31) hx hb dX5_put_26 (by decide) (fun c26 => ?_) (fun c26 => ?_)
    · rw [hj2] at c26; rw [ak2_f hz] at c26; cases c26
    · refine lv_iconst (v := (nI 0)) hx hb dX5_put_29 rfl ?_
      rw [hj2] at hP hD
      exact hret 30 ls H locs _ _ () _ hP hD hS (Nat.le_of_ble_eq_true rfl) (Nat.le_of_ble_eq_true rfl) rfl dX5_put_30
  refine lv_aload_n hx hb dX5_put_9 rfl (lv_at hl 0 rfl) ?_
  refine va_get (D := D) (ci := 5) (v := .int (nI nb)) (C := RX5) (T := TX5) (N := 24) hx hb hts hiX5 hown hK hP 0 rfl rfl 20 (by decide) hf117 (fun _ h9 => h9) rfl dX5_put_10 ?_
  refine lv_bipush (v := (nI 16)) hx hb dX5_put_13 rfl ?_
  refine ln_icmp_ge (tgt := 22) hx hb (by omega) (by omega) dX5_put_15 (by decide) (fun c15 => ?_) (fun c15 => ?_)
  · refine lv_iconst (v := (nI 0)) hx hb dX5_put_22 rfl ?_
    exact jn23 false (by first | exact (decide_eq_true (by omega)).symm | exact (decide_eq_false (by omega)).symm) _ _ hP hD hS _ (lv_sub hl [0, 1] rfl)
  · refine lv_iconst (v := (nI 1)) hx hb dX5_put_18 rfl ?_
    refine lv_goto (tgt := 23) hx hb dX5_put_19 (by decide) ?_
    exact jn23 true (by first | exact (decide_eq_true (by omega)).symm | exact (decide_eq_false (by omega)).symm) _ _ hP hD hS _ (lv_sub hl [0, 1] rfl)

set_option maxHeartbeats 4000000 in
set_option maxRecDepth 100000 in
theorem kX5_empty (l : Launch) (D : va_G) (y3 : ClassId × ClassId × ClassId) (m0 : Nat) (m1 : Nat) (m2 : Nat) (m3 : Nat) (m4 : Nat) (m5 : Nat) (m6 : Nat) (m7 : Nat) (m8 : Nat) (m9 : Nat) (m10 : Nat) (m11 : Nat) (m12 : Nat) (m13 : Nat) (m14 : Nat) (m15 : Nat) (m16 : Nat) (m17 : Nat) (m18 : Nat) (nk : Nat) (np : Nat) (nr : Nat) (nl : Nat) (nb : Nat) (zo : Nat) : wrM l yX5_empty wsX5_empty 1 21 0 0 D y3 [(m0, .inr (5, [.ref m1, .int (nI nk), .ref m2, .ref m3, .ref m4, .ref m5, .ref m6, .int (nI np), .ref m7, .ref m8, .ref m9, .ref m10, .ref m11, .ref m12, .ref m13, .ref m14, .int (nI nr), .ref m15, .int (nI nl), .ref m16, .int (nI nb), .ref m17, .ref m18, .int (nI zo)]))] [.ref m0] (fun r (_ : Unit) => r = (nI (nl + nb))) (fun (_ : Unit) => [(m0, .inr (5, [.ref m1, .int (nI nk), .ref m2, .ref m3, .ref m4, .ref m5, .ref m6, .int (nI np), .ref m7, .ref m8, .ref m9, .ref m10, .ref m11, .ref m12, .ref m13, .ref m14, .int (nI nr), .ref m15, .int (nI 0), .ref m16, .int (nI 0), .ref m17, .ref m18, .int (nI 0)]))]) := by
  refine wr_of (cc := cX5_empty) (maxL := 2) (by decide) rfl (Nat.le_of_ble_eq_true rfl) ?_
  intro p e s m args below meth c A Q hx hb hml hown hts hP hK hD hA hS hret ls hl
  replace hl : lv_has ls 2 [(0, .ref m0)] := hl
  have hf114 := hts (.fieldLink RX5 114 "KindGuesserModel" "letters" "I") (by decide +kernel)
  have hf117 := hts (.fieldLink RX5 117 "KindGuesserModel" "bytes" "I") (by decide +kernel)
  have hiX5 : ∀ q ∈ wsX50, q ∈ wsX5_empty := by decide +kernel
  refine lv_aload_n hx hb dX5_empty_0 rfl (lv_at hl 0 rfl) ?_
  refine va_get (D := D) (ci := 5) (v := .int (nI nl)) (C := RX5) (T := TX5) (N := 24) hx hb hts hiX5 hown hK hP 0 rfl rfl 18 (by decide) hf114 (fun _ h9 => h9) rfl dX5_empty_1 ?_
  refine lv_aload_n hx hb dX5_empty_4 rfl (lv_at hl 0 rfl) ?_
  refine va_get (D := D) (ci := 5) (v := .int (nI nb)) (C := RX5) (T := TX5) (N := 24) hx hb hts hiX5 hown hK hP 0 rfl rfl 20 (by decide) hf117 (fun _ h9 => h9) rfl dX5_empty_5 ?_
  refine ln_iadd (n := nl + nb) hx hb rfl dX5_empty_8 ?_
  refine lv_istore_n (lv' := [(1, .int (nI (nl + nb))), (0, .ref m0)]) hx hb dX5_empty_9 rfl hl (by decide) rfl (fun ls hl => ?_)
  refine lv_aload_n hx hb dX5_empty_10 rfl (lv_at hl 1 rfl) ?_
  refine lv_iconst (v := (nI 0)) hx hb dX5_empty_11 rfl ?_
  refine va_put (D := D) (ci := 5) (v := .int (nI 0)) (ty := .int) (C := RX5) (T := TX5) (N := 24) hx hb hts hiX5 tyX5 tyX5_ok nmX5 hown hK hP hD hS 0 rfl rfl 18 (by decide) hf114 (fun _ h9 => h9) rfl (by decide +kernel) rfl rfl (Nat.le_of_ble_eq_true rfl) dX5_empty_12 (fun H locs hP hD hS => ?_)
  have hP : va_P D vwCl [(m0, .inr (5, [.ref m1, .int (nI nk), .ref m2, .ref m3, .ref m4, .ref m5, .ref m6, .int (nI np), .ref m7, .ref m8, .ref m9, .ref m10, .ref m11, .ref m12, .ref m13, .ref m14, .int (nI nr), .ref m15, .int (nI 0), .ref m16, .int (nI nb), .ref m17, .ref m18, .int (nI zo)]))] H := hP
  have hD : va_D A [(m0, .inr (5, [.ref m1, .int (nI nk), .ref m2, .ref m3, .ref m4, .ref m5, .ref m6, .int (nI np), .ref m7, .ref m8, .ref m9, .ref m10, .ref m11, .ref m12, .ref m13, .ref m14, .int (nI nr), .ref m15, .int (nI 0), .ref m16, .int (nI nb), .ref m17, .ref m18, .int (nI zo)]))] := hD
  refine lv_aload_n hx hb dX5_empty_15 rfl (lv_at hl 1 rfl) ?_
  refine lv_iconst (v := (nI 0)) hx hb dX5_empty_16 rfl ?_
  refine va_put (D := D) (ci := 5) (v := .int (nI 0)) (ty := .int) (C := RX5) (T := TX5) (N := 24) hx hb hts hiX5 tyX5 tyX5_ok nmX5 hown hK hP hD hS 0 rfl rfl 20 (by decide) hf117 (fun _ h9 => h9) rfl (by decide +kernel) rfl rfl (Nat.le_of_ble_eq_true rfl) dX5_empty_17 (fun H locs hP hD hS => ?_)
  have hP : va_P D vwCl [(m0, .inr (5, [.ref m1, .int (nI nk), .ref m2, .ref m3, .ref m4, .ref m5, .ref m6, .int (nI np), .ref m7, .ref m8, .ref m9, .ref m10, .ref m11, .ref m12, .ref m13, .ref m14, .int (nI nr), .ref m15, .int (nI 0), .ref m16, .int (nI 0), .ref m17, .ref m18, .int (nI zo)]))] H := hP
  have hD : va_D A [(m0, .inr (5, [.ref m1, .int (nI nk), .ref m2, .ref m3, .ref m4, .ref m5, .ref m6, .int (nI np), .ref m7, .ref m8, .ref m9, .ref m10, .ref m11, .ref m12, .ref m13, .ref m14, .int (nI nr), .ref m15, .int (nI 0), .ref m16, .int (nI 0), .ref m17, .ref m18, .int (nI zo)]))] := hD
  refine lv_aload_n hx hb dX5_empty_20 rfl (lv_at hl 1 rfl) ?_
  refine lv_iload_n hx hb dX5_empty_21 rfl (lv_at hl 0 rfl) ?_
  refine wr_V (ci := 5) (q0 := 0) (own := RX5) (As := [.int (nI (nl + nb))]) (rest := []) (bytes := cX5_told) (maxL := 2) (wr := []) (w3 := (fun (_ : Unit) => [(m0, .inr (5, [.ref m1, .int (nI nk), .ref m2, .ref m3, .ref m4, .ref m5, .ref m6, .int (nI np), .ref m7, .ref m8, .ref m9, .ref m10, .ref m11, .ref m12, .ref m13, .ref m14, .int (nI nr), .ref m15, .int (nI 0), .ref m16, .int (nI 0), .ref m17, .ref m18, .int (nI 0)]))])) ⟨hx, hb, hml, hown, hts⟩ (kX5_told l D y3 m0 m1 m2 m3 m4 m5 m6 m7 m8 m9 m10 m11 m12 m13 m14 m15 m16 m17 m18 nk np nr 0 0 zo (nI (nl + nb))) gX5_empty_X5_told rfl hvX5_told ⟨Nat.le_of_ble_eq_true rfl, Nat.le_of_ble_eq_true rfl⟩ hP hK hD hS hA [0] [] [0] rfl rfl rfl rfl (by decide) (fun _ => rfl) rfl rfl rfl hl.1 rfl (Nat.le_of_ble_eq_true rfl) dX5_empty_22 ⟨Nat.le_of_ble_eq_true rfl, Nat.le_of_ble_eq_true rfl⟩ (fun r1 u2 H locs hr1 hP hD hS => ?_)
  have hP : va_P D vwCl [(m0, .inr (5, [.ref m1, .int (nI nk), .ref m2, .ref m3, .ref m4, .ref m5, .ref m6, .int (nI np), .ref m7, .ref m8, .ref m9, .ref m10, .ref m11, .ref m12, .ref m13, .ref m14, .int (nI nr), .ref m15, .int (nI 0), .ref m16, .int (nI 0), .ref m17, .ref m18, .int (nI 0)]))] H := hP
  have hD : va_D A [(m0, .inr (5, [.ref m1, .int (nI nk), .ref m2, .ref m3, .ref m4, .ref m5, .ref m6, .int (nI np), .ref m7, .ref m8, .ref m9, .ref m10, .ref m11, .ref m12, .ref m13, .ref m14, .int (nI nr), .ref m15, .int (nI 0), .ref m16, .int (nI 0), .ref m17, .ref m18, .int (nI 0)]))] := hD
  subst hr1
  exact hret 25 ls H locs _ _ () _ hP hD hS (Nat.le_of_ble_eq_true rfl) (Nat.le_of_ble_eq_true rfl) rfl dX5_empty_25

set_option maxHeartbeats 4000000 in
set_option maxRecDepth 100000 in
theorem kX5_fit (l : Launch) (D : va_G) (y3 : ClassId × ClassId × ClassId) (m0 : Nat) (m1 : Nat) (m2 : Nat) (m3 : Nat) (m4 : Nat) (m5 : Nat) (m6 : Nat) (m7 : Nat) (m8 : Nat) (m9 : Nat) (m10 : Nat) (m11 : Nat) (m12 : Nat) (m13 : Nat) (m14 : Nat) (m15 : Nat) (m16 : Nat) (m17 : Nat) (m18 : Nat) (nk : Nat) (np : Nat) (nr : Nat) (nl : Nat) (nb : Nat) (zo : Nat) (lt : Nat → Int32) (ln : Nat → Nat) (tk : Nat → Int32) (j : Nat) (hj : j < 20) (hnl : nl ≤ 12) (hln : ∀ q : Nat, ln q ≤ 8) : rdM l yX5_fit wsX5_fit 0 0 D y3 [(m0, .inr (5, [.ref m1, .int (nI nk), .ref m2, .ref m3, .ref m4, .ref m5, .ref m6, .int (nI np), .ref m7, .ref m8, .ref m9, .ref m10, .ref m11, .ref m12, .ref m13, .ref m14, .int (nI nr), .ref m15, .int (nI nl), .ref m16, .int (nI nb), .ref m17, .ref m18, .int (nI zo)])), (m4, .inl (y3.1, 20, .inl (fN ln))), (m5, .inl (y3.1, 160, .inl tk)), (m15, .inl (y3.1, 12, .inl lt))] [.ref m0, .int (nI j)] (fun r => r = (bI (fitB lt nl tk ln j))) := by
  refine rz_of (cc := cX5_fit) (maxL := 8) (by decide) rfl (Nat.le_of_ble_eq_true rfl) ?_
  intro p e s m args below meth c Q hx hb hml hown hts hP hK hret ls hl
  replace hl : lv_has ls 8 [(0, .ref m0), (1, .int (nI j))] := hl
  have q1 := hln j
  have hf114 := hts (.fieldLink RX5 114 "KindGuesserModel" "letters" "I") (by decide +kernel)
  have hf19 := hts (.fieldLink RX5 19 "KindGuesserModel" "tokens" "[I") (by decide +kernel)
  have hf22 := hts (.fieldLink RX5 22 "KindGuesserModel" "token" "[I") (by decide +kernel)
  have hf53 := hts (.fieldLink RX5 53 "KindGuesserModel" "name" "[I") (by decide +kernel)
  have hiX5 : ∀ q ∈ wsX50, q ∈ wsX5_fit := by decide +kernel
  refine lv_iconst (v := (nI 1)) hx hb dX5_fit_0 rfl ?_
  refine lv_istore_n (lv' := [(2, .int (nI 1)), (0, .ref m0), (1, .int (nI j))]) hx hb dX5_fit_1 rfl hl (by decide) rfl (fun ls hl => ?_)
  refine lv_iconst (v := (nI 0)) hx hb dX5_fit_2 rfl ?_
  refine lv_istore_n (lv' := [(3, .int (nI 0)), (2, .int (nI 1)), (0, .ref m0), (1, .int (nI j))]) hx hb dX5_fit_3 rfl hl (by decide) rfl (fun ls hl => ?_)
  have lp4 : ∀ (n1 : Nat) (k : Nat) (x : Int32), ln j - k < n1 → (k ≤ ln j) → (∀ i : Nat, i ≤ nl → bt x i = rchB lt tk (j * 8) k i) → ∀ ls : Array Slot, lv_has ls 8 [(3, .int (nI k)), (2, .int x), (0, .ref m0), (1, .int (nI j))] → W p l e (rmO 0 0 0 0) s m args below meth c s.heap [] 0 0 Q (F0 m 4 ls []) := by
    intro n1
    induction n1 with
    | zero => intro k x hm; exact absurd hm (Nat.not_lt_zero _)
    | succ n1 ih4 =>
      intro k x hm4 h1 h2 ls hl
      refine lv_iload_n hx hb dX5_fit_4 rfl (lv_at hl 0 rfl) ?_
      refine lv_aload_n hx hb dX5_fit_5 rfl (lv_at hl 2 rfl) ?_
      refine va_get (D := D) (ci := 5) (v := .ref m4) (C := RX5) (T := TX5) (N := 24) hx hb hts hiX5 hown hK hP 0 rfl rfl 4 (by decide) hf19 (fun _ h9 => h9) rfl dX5_fit_6 ?_
      refine lv_iload_n hx hb dX5_fit_9 rfl (lv_at hl 3 rfl) ?_
      refine ln_ialdN hx hb hK hP 1 0 rfl rfl (by omega) (by decide) dX5_fit_10 ?_
      refine ln_icmp_ge (tgt := 140) hx hb (by omega) (by omega) dX5_fit_11 (by decide) (fun c11 => ?_) (fun c11 => ?_)
      · refine lv_iload_n hx hb dX5_fit_140 rfl (lv_at hl 1 rfl) ?_
        refine lv_aload_n hx hb dX5_fit_141 rfl (lv_at hl 2 rfl) ?_
        refine va_get (D := D) (ci := 5) (v := .int (nI nl)) (C := RX5) (T := TX5) (N := 24) hx hb hts hiX5 hown hK hP 0 rfl rfl 18 (by decide) hf114 (fun _ h9 => h9) rfl dX5_fit_142 ?_
        refine lv_ishr hx hb dX5_fit_145 ?_
        refine lv_iconst (v := (nI 1)) hx hb dX5_fit_146 rfl ?_
        refine lv_iand hx hb dX5_fit_147 ?_
        refine lv_iconst (v := (nI 1)) hx hb dX5_fit_148 rfl ?_
        refine lv_icmp_ne (tgt := 156) hx hb dX5_fit_149 (by decide) (fun c149 => ?_) (fun c149 => ?_)
        · refine lv_iconst (v := (nI 0)) hx hb dX5_fit_156 rfl ?_
          exact hret 157 ls _ (by have hb9 := h2 nl (Nat.le_refl _); rw [show k = ln j from by omega] at hb9; first | exact bI_t (hb9.symm.trans (bt_t (by omega) c149)) | exact bI_f (hb9.symm.trans (bt_f (by omega) c149))) dX5_fit_157
        · refine lv_iconst (v := (nI 1)) hx hb dX5_fit_152 rfl ?_
          refine lv_goto (tgt := 157) hx hb dX5_fit_153 (by decide) ?_
          exact hret 157 ls _ (by have hb9 := h2 nl (Nat.le_refl _); rw [show k = ln j from by omega] at hb9; first | exact bI_t (hb9.symm.trans (bt_t (by omega) c149)) | exact bI_f (hb9.symm.trans (bt_f (by omega) c149))) dX5_fit_157
      · refine lv_aload_n hx hb dX5_fit_14 rfl (lv_at hl 2 rfl) ?_
        refine va_get (D := D) (ci := 5) (v := .ref m5) (C := RX5) (T := TX5) (N := 24) hx hb hts hiX5 hown hK hP 0 rfl rfl 5 (by decide) hf22 (fun _ h9 => h9) rfl dX5_fit_15 ?_
        refine lv_bipush (v := (nI 8)) hx hb dX5_fit_18 rfl ?_
        refine lv_iload_n hx hb dX5_fit_20 rfl (lv_at hl 3 rfl) ?_
        refine ln_imul (n := (j * 8)) hx hb (by omega) dX5_fit_21 ?_
        refine lv_iload_n hx hb dX5_fit_22 rfl (lv_at hl 0 rfl) ?_
        refine ln_iadd (n := (j * 8) + k) hx hb rfl dX5_fit_23 ?_
        refine ln_iald hx hb hK hP 2 0 rfl rfl (by omega) (by decide) dX5_fit_24 ?_
        refine lv_istore (lv' := [(4, .int (tk ((j * 8) + k))), (3, .int (nI k)), (2, .int x), (0, .ref m0), (1, .int (nI j))]) hx hb dX5_fit_25 hl (by decide) rfl (fun ls hl => ?_)
        refine lv_iconst (v := (nI 0)) hx hb dX5_fit_27 rfl ?_
        refine lv_istore (lv' := [(5, .int (nI 0)), (4, .int (tk ((j * 8) + k))), (3, .int (nI k)), (2, .int x), (0, .ref m0), (1, .int (nI j))]) hx hb dX5_fit_28 hl (by decide) rfl (fun ls hl => ?_)
        refine lv_iconst (v := (nI 0)) hx hb dX5_fit_30 rfl ?_
        refine lv_istore (lv' := [(6, .int (nI 0)), (5, .int (nI 0)), (4, .int (tk ((j * 8) + k))), (3, .int (nI k)), (2, .int x), (0, .ref m0), (1, .int (nI j))]) hx hb dX5_fit_31 hl (by decide) rfl (fun ls hl => ?_)
        have lp33 : ∀ (n2 : Nat) (q : Nat) (a : Int32), nl + 1 - q < n2 → (q ≤ nl + 1) → (fiI lt (tk ((j * 8) + k)) x a nl q) → ∀ ls : Array Slot, lv_has ls 8 [(6, .int (nI q)), (5, .int a), (4, .int (tk ((j * 8) + k))), (3, .int (nI k)), (2, .int x), (0, .ref m0), (1, .int (nI j))] → W p l e (rmO 0 0 0 0) s m args below meth c s.heap [] 0 0 Q (F0 m 33 ls []) := by
          intro n2
          induction n2 with
          | zero => intro q a hm; exact absurd hm (Nat.not_lt_zero _)
          | succ n2 ih33 =>
            intro q a hm33 h3 h4 ls hl
            have hq9 : q < 31 := by omega
            refine lv_iload hx hb dX5_fit_33 (lv_at hl 0 rfl) ?_
            refine lv_aload_n hx hb dX5_fit_35 rfl (lv_at hl 5 rfl) ?_
            refine va_get (D := D) (ci := 5) (v := .int (nI nl)) (C := RX5) (T := TX5) (N := 24) hx hb hts hiX5 hown hK hP 0 rfl rfl 18 (by decide) hf114 (fun _ h9 => h9) rfl dX5_fit_36 ?_
            refine ln_icmp_gt (tgt := 131) hx hb (by omega) (by omega) dX5_fit_39 (by decide) (fun c39 => ?_) (fun c39 => ?_)
            · refine lv_iload hx hb dX5_fit_131 (lv_at hl 1 rfl) ?_
              refine lv_istore_n (lv' := [(2, .int a), (6, .int (nI q)), (5, .int a), (4, .int (tk ((j * 8) + k))), (3, .int (nI k)), (0, .ref m0), (1, .int (nI j))]) hx hb dX5_fit_133 rfl hl (by decide) rfl (fun ls hl => ?_)
              refine lv_iinc (v := (nI (k + 1))) (lv' := [(3, .int (nI (k + 1))), (2, .int a), (6, .int (nI q)), (5, .int a), (4, .int (tk ((j * 8) + k))), (0, .ref m0), (1, .int (nI j))]) hx hb dX5_fit_134 hl (k := 4) rfl (nI_add _ _) (by decide) rfl (fun ls hl => ?_)
              refine lv_goto (tgt := 4) hx hb dX5_fit_137 (by decide) ?_
              exact ih4 (k + 1) a (by omega) (by omega) (fun i hi => (fi_end h4 (by omega) i hi).trans (stpB_congr (fun q hq => h2 q (by omega)))) _ (lv_sub hl [0, 1, 5, 6] rfl)
            · have jn125 : ∀ (a2 : Int32), (fiI lt (tk ((j * 8) + k)) x a2 nl (q + 1)) → ∀ ls : Array Slot, lv_has ls 8 [(6, .int (nI q)), (5, .int a2), (4, .int (tk ((j * 8) + k))), (3, .int (nI k)), (2, .int x), (0, .ref m0), (1, .int (nI j))] → W p l e (rmO 0 0 0 0) s m args below meth c s.heap [] 0 0 Q (F0 m 125 ls []) := by
                intro a2 h5 ls hl
                refine lv_iinc (v := (nI (q + 1))) (lv' := [(6, .int (nI (q + 1))), (5, .int a2), (4, .int (tk ((j * 8) + k))), (3, .int (nI k)), (2, .int x), (0, .ref m0), (1, .int (nI j))]) hx hb dX5_fit_125 hl (k := 0) rfl (nI_add _ _) (by decide) rfl (fun ls hl => ?_)
                refine lv_goto (tgt := 33) hx hb dX5_fit_128 (by decide) ?_
                exact ih33 (q + 1) a2 (by omega) (by omega) h5 _ (lv_sub hl [0, 1, 2, 3, 4, 5, 6] rfl)
              have jn57 : ∀ (b : Bool), (b = bt x q) → ∀ ls : Array Slot, lv_has ls 8 [(6, .int (nI q)), (5, .int a), (4, .int (tk ((j * 8) + k))), (3, .int (nI k)), (2, .int x), (0, .ref m0), (1, .int (nI j))] → W p l e (rmO 0 0 0 0) s m args below meth c s.heap [] 0 0 Q (F0 m 57 ls [.int (bI b)]) := by
                intro b hbq ls hl
                refine lv_istore (lv' := [(7, .int (bI b)), (6, .int (nI q)), (5, .int a), (4, .int (tk ((j * 8) + k))), (3, .int (nI k)), (2, .int x), (0, .ref m0), (1, .int (nI j))]) hx hb dX5_fit_57 hl (by decide) rfl (fun ls hl => ?_)
                refine lv_iload hx hb dX5_fit_59 (lv_at hl 0 rfl) ?_
                refine lb_if_eq (tgt := 83) hx hb dX5_fit_61 (by decide) (fun c61 => ?_) (fun c61 => ?_)
                · refine lv_iload hx hb dX5_fit_83 (lv_at hl 0 rfl) ?_
                  refine lb_if_eq (tgt := 125) hx hb dX5_fit_85 (by decide) (fun c85 => ?_) (fun c85 => ?_)
                  · exact jn125 a (fi_no h4 hbq (by first | exact Or.inl c61 | exact Or.inl c85 | exact Or.inr ⟨c68, Or.inl c94⟩ | exact Or.inr ⟨c68, Or.inr (stB_no c101 c113)⟩) hq9) _ (lv_sub hl [1, 2, 3, 4, 5, 6, 7] rfl)
                  · refine lv_iload hx hb dX5_fit_88 (lv_at hl 1 rfl) ?_
                    refine lv_aload_n hx hb dX5_fit_90 rfl (lv_at hl 6 rfl) ?_
                    refine va_get (D := D) (ci := 5) (v := .int (nI nl)) (C := RX5) (T := TX5) (N := 24) hx hb hts hiX5 hown hK hP 0 rfl rfl 18 (by decide) hf114 (fun _ h9 => h9) rfl dX5_fit_91 ?_
                    refine ln_icmp_ge (tgt := 125) hx hb (by omega) (by omega) dX5_fit_94 (by decide) (fun c94 => ?_) (fun c94 => ?_)
                    · exact jn125 a (fi_no h4 hbq (by first | exact Or.inl c61 | exact Or.inl c85 | exact Or.inr ⟨c68, Or.inl c94⟩ | exact Or.inr ⟨c68, Or.inr (stB_no c101 c113)⟩) hq9) _ (lv_sub hl [1, 2, 3, 4, 5, 6, 7] rfl)
                    · refine lv_iload hx hb dX5_fit_97 (lv_at hl 3 rfl) ?_
                      refine lv_bipush (v := (nI 11)) hx hb dX5_fit_99 rfl ?_
                      refine lv_icmp_eq (tgt := 116) hx hb dX5_fit_101 (by decide) (fun c101 => ?_) (fun c101 => ?_)
                      · refine lv_iload hx hb dX5_fit_116 (lv_at hl 2 rfl) ?_
                        refine lv_iconst (v := (nI 2)) hx hb dX5_fit_118 rfl ?_
                        refine lv_iload hx hb dX5_fit_119 (lv_at hl 1 rfl) ?_
                        refine lv_ishl hx hb dX5_fit_121 ?_
                        refine lv_ior hx hb dX5_fit_122 ?_
                        refine lv_istore (lv' := [(5, .int (a ||| ((nI 2) <<< ((nI q) &&& 31)))), (7, .int (bI b)), (6, .int (nI q)), (4, .int (tk ((j * 8) + k))), (3, .int (nI k)), (2, .int x), (0, .ref m0), (1, .int (nI j))]) hx hb dX5_fit_123 hl (by decide) rfl (fun ls hl => ?_)
                        exact jn125 (a ||| ((nI 2) <<< ((nI q) &&& 31))) (by first | exact fi_yes h4 hbq c85 c68 (by first | exact stB_11 c101 | exact stB_lt c113) hq9 | (rw [c61] at c85; cases c85)) _ (lv_sub hl [2, 0, 3, 4, 5, 6, 7] rfl)
                      · refine lv_iload hx hb dX5_fit_104 (lv_at hl 3 rfl) ?_
                        refine lv_aload_n hx hb dX5_fit_106 rfl (lv_at hl 6 rfl) ?_
                        refine va_get (D := D) (ci := 5) (v := .ref m15) (C := RX5) (T := TX5) (N := 24) hx hb hts hiX5 hown hK hP 0 rfl rfl 17 (by decide) hf53 (fun _ h9 => h9) rfl dX5_fit_107 ?_
                        refine lv_iload hx hb dX5_fit_110 (lv_at hl 1 rfl) ?_
                        refine ln_iald hx hb hK hP 3 0 rfl rfl (by omega) (by decide) dX5_fit_112 ?_
                        refine lv_icmp_ne (tgt := 125) hx hb dX5_fit_113 (by decide) (fun c113 => ?_) (fun c113 => ?_)
                        · exact jn125 a (fi_no h4 hbq (by first | exact Or.inl c61 | exact Or.inl c85 | exact Or.inr ⟨c68, Or.inl c94⟩ | exact Or.inr ⟨c68, Or.inr (stB_no c101 c113)⟩) hq9) _ (lv_sub hl [1, 2, 3, 4, 5, 6, 7] rfl)
                        · refine lv_iload hx hb dX5_fit_116 (lv_at hl 2 rfl) ?_
                          refine lv_iconst (v := (nI 2)) hx hb dX5_fit_118 rfl ?_
                          refine lv_iload hx hb dX5_fit_119 (lv_at hl 1 rfl) ?_
                          refine lv_ishl hx hb dX5_fit_121 ?_
                          refine lv_ior hx hb dX5_fit_122 ?_
                          refine lv_istore (lv' := [(5, .int (a ||| ((nI 2) <<< ((nI q) &&& 31)))), (7, .int (bI b)), (6, .int (nI q)), (4, .int (tk ((j * 8) + k))), (3, .int (nI k)), (2, .int x), (0, .ref m0), (1, .int (nI j))]) hx hb dX5_fit_123 hl (by decide) rfl (fun ls hl => ?_)
                          exact jn125 (a ||| ((nI 2) <<< ((nI q) &&& 31))) (by first | exact fi_yes h4 hbq c85 c68 (by first | exact stB_11 c101 | exact stB_lt c113) hq9 | (rw [c61] at c85; cases c85)) _ (lv_sub hl [2, 0, 3, 4, 5, 6, 7] rfl)
                · refine lv_iload hx hb dX5_fit_64 (lv_at hl 3 rfl) ?_
                  refine lv_bipush (v := (nI 10)) hx hb dX5_fit_66 rfl ?_
                  refine lv_icmp_ne (tgt := 83) hx hb dX5_fit_68 (by decide) (fun c68 => ?_) (fun c68 => ?_)
                  · refine lv_iload hx hb dX5_fit_83 (lv_at hl 0 rfl) ?_
                    refine lb_if_eq (tgt := 125) hx hb dX5_fit_85 (by decide) (fun c85 => ?_) (fun c85 => ?_)
                    · exact jn125 a (fi_no h4 hbq (by first | exact Or.inl c61 | exact Or.inl c85 | exact Or.inr ⟨c68, Or.inl c94⟩ | exact Or.inr ⟨c68, Or.inr (stB_no c101 c113)⟩) hq9) _ (lv_sub hl [1, 2, 3, 4, 5, 6, 7] rfl)
                    · refine lv_iload hx hb dX5_fit_88 (lv_at hl 1 rfl) ?_
                      refine lv_aload_n hx hb dX5_fit_90 rfl (lv_at hl 6 rfl) ?_
                      refine va_get (D := D) (ci := 5) (v := .int (nI nl)) (C := RX5) (T := TX5) (N := 24) hx hb hts hiX5 hown hK hP 0 rfl rfl 18 (by decide) hf114 (fun _ h9 => h9) rfl dX5_fit_91 ?_
                      refine ln_icmp_ge (tgt := 125) hx hb (by omega) (by omega) dX5_fit_94 (by decide) (fun c94 => ?_) (fun c94 => ?_)
                      · exact jn125 a (fi_no h4 hbq (by first | exact Or.inl c61 | exact Or.inl c85 | exact Or.inr ⟨c68, Or.inl c94⟩ | exact Or.inr ⟨c68, Or.inr (stB_no c101 c113)⟩) hq9) _ (lv_sub hl [1, 2, 3, 4, 5, 6, 7] rfl)
                      · refine lv_iload hx hb dX5_fit_97 (lv_at hl 3 rfl) ?_
                        refine lv_bipush (v := (nI 11)) hx hb dX5_fit_99 rfl ?_
                        refine lv_icmp_eq (tgt := 116) hx hb dX5_fit_101 (by decide) (fun c101 => ?_) (fun c101 => ?_)
                        · refine lv_iload hx hb dX5_fit_116 (lv_at hl 2 rfl) ?_
                          refine lv_iconst (v := (nI 2)) hx hb dX5_fit_118 rfl ?_
                          refine lv_iload hx hb dX5_fit_119 (lv_at hl 1 rfl) ?_
                          refine lv_ishl hx hb dX5_fit_121 ?_
                          refine lv_ior hx hb dX5_fit_122 ?_
                          refine lv_istore (lv' := [(5, .int (a ||| ((nI 2) <<< ((nI q) &&& 31)))), (7, .int (bI b)), (6, .int (nI q)), (4, .int (tk ((j * 8) + k))), (3, .int (nI k)), (2, .int x), (0, .ref m0), (1, .int (nI j))]) hx hb dX5_fit_123 hl (by decide) rfl (fun ls hl => ?_)
                          exact jn125 (a ||| ((nI 2) <<< ((nI q) &&& 31))) (by first | exact fi_yes h4 hbq c85 c68 (by first | exact stB_11 c101 | exact stB_lt c113) hq9 | (rw [c61] at c85; cases c85)) _ (lv_sub hl [2, 0, 3, 4, 5, 6, 7] rfl)
                        · refine lv_iload hx hb dX5_fit_104 (lv_at hl 3 rfl) ?_
                          refine lv_aload_n hx hb dX5_fit_106 rfl (lv_at hl 6 rfl) ?_
                          refine va_get (D := D) (ci := 5) (v := .ref m15) (C := RX5) (T := TX5) (N := 24) hx hb hts hiX5 hown hK hP 0 rfl rfl 17 (by decide) hf53 (fun _ h9 => h9) rfl dX5_fit_107 ?_
                          refine lv_iload hx hb dX5_fit_110 (lv_at hl 1 rfl) ?_
                          refine ln_iald hx hb hK hP 3 0 rfl rfl (by omega) (by decide) dX5_fit_112 ?_
                          refine lv_icmp_ne (tgt := 125) hx hb dX5_fit_113 (by decide) (fun c113 => ?_) (fun c113 => ?_)
                          · exact jn125 a (fi_no h4 hbq (by first | exact Or.inl c61 | exact Or.inl c85 | exact Or.inr ⟨c68, Or.inl c94⟩ | exact Or.inr ⟨c68, Or.inr (stB_no c101 c113)⟩) hq9) _ (lv_sub hl [1, 2, 3, 4, 5, 6, 7] rfl)
                          · refine lv_iload hx hb dX5_fit_116 (lv_at hl 2 rfl) ?_
                            refine lv_iconst (v := (nI 2)) hx hb dX5_fit_118 rfl ?_
                            refine lv_iload hx hb dX5_fit_119 (lv_at hl 1 rfl) ?_
                            refine lv_ishl hx hb dX5_fit_121 ?_
                            refine lv_ior hx hb dX5_fit_122 ?_
                            refine lv_istore (lv' := [(5, .int (a ||| ((nI 2) <<< ((nI q) &&& 31)))), (7, .int (bI b)), (6, .int (nI q)), (4, .int (tk ((j * 8) + k))), (3, .int (nI k)), (2, .int x), (0, .ref m0), (1, .int (nI j))]) hx hb dX5_fit_123 hl (by decide) rfl (fun ls hl => ?_)
                            exact jn125 (a ||| ((nI 2) <<< ((nI q) &&& 31))) (by first | exact fi_yes h4 hbq c85 c68 (by first | exact stB_11 c101 | exact stB_lt c113) hq9 | (rw [c61] at c85; cases c85)) _ (lv_sub hl [2, 0, 3, 4, 5, 6, 7] rfl)
                  · refine lv_iload hx hb dX5_fit_71 (lv_at hl 2 rfl) ?_
                    refine lv_iconst (v := (-1)) hx hb dX5_fit_73 rfl ?_
                    refine lv_iload hx hb dX5_fit_74 (lv_at hl 1 rfl) ?_
                    refine lv_ishl hx hb dX5_fit_76 ?_
                    refine lv_ior hx hb dX5_fit_77 ?_
                    refine lv_istore (lv' := [(5, .int (a ||| ((-1) <<< ((nI q) &&& 31)))), (7, .int (bI b)), (6, .int (nI q)), (4, .int (tk ((j * 8) + k))), (3, .int (nI k)), (2, .int x), (0, .ref m0), (1, .int (nI j))]) hx hb dX5_fit_78 hl (by decide) rfl (fun ls hl => ?_)
                    refine lv_goto (tgt := 125) hx hb dX5_fit_80 (by decide) ?_
                    exact jn125 (a ||| ((-1) <<< ((nI q) &&& 31))) (fi_all h4 hbq c61 c68 hq9) _ (lv_sub hl [2, 0, 3, 4, 5, 6, 7] rfl)
              refine lv_iload_n hx hb dX5_fit_42 rfl (lv_at hl 4 rfl) ?_
              refine lv_iload hx hb dX5_fit_43 (lv_at hl 0 rfl) ?_
              refine lv_ishr hx hb dX5_fit_45 ?_
              refine lv_iconst (v := (nI 1)) hx hb dX5_fit_46 rfl ?_
              refine lv_iand hx hb dX5_fit_47 ?_
              refine lv_iconst (v := (nI 1)) hx hb dX5_fit_48 rfl ?_
              refine lv_icmp_ne (tgt := 56) hx hb dX5_fit_49 (by decide) (fun c49 => ?_) (fun c49 => ?_)
              · refine lv_iconst (v := (nI 0)) hx hb dX5_fit_56 rfl ?_
                exact jn57 false (by first | exact (bt_t (by omega) c49).symm | exact (bt_f (by omega) c49).symm) _ (lv_sub hl [0, 1, 2, 3, 4, 5, 6] rfl)
              · refine lv_iconst (v := (nI 1)) hx hb dX5_fit_52 rfl ?_
                refine lv_goto (tgt := 57) hx hb dX5_fit_53 (by decide) ?_
                exact jn57 true (by first | exact (bt_t (by omega) c49).symm | exact (bt_f (by omega) c49).symm) _ (lv_sub hl [0, 1, 2, 3, 4, 5, 6] rfl)
        exact lp33 _ 0 (nI 0) (Nat.lt_succ_self _) (Nat.zero_le _) (fi_0 hnl) _ (lv_sub hl [0, 1, 2, 3, 4, 5, 6] rfl)
  exact lp4 _ 0 (nI 1) (Nat.lt_succ_self _) (Nat.zero_le _) (fun i hi => b_one i (by omega)) _ (lv_sub hl [0, 1, 2, 3] rfl)

set_option maxHeartbeats 4000000 in
set_option maxRecDepth 100000 in
theorem kX5_fits_ok (l : Launch) (D : va_G) (y3 : ClassId × ClassId × ClassId) (m0 : Nat) (m1 : Nat) (m2 : Nat) (m3 : Nat) (m4 : Nat) (m5 : Nat) (m6 : Nat) (m7 : Nat) (m8 : Nat) (m9 : Nat) (m10 : Nat) (m11 : Nat) (m12 : Nat) (m13 : Nat) (m14 : Nat) (m15 : Nat) (m16 : Nat) (m17 : Nat) (m18 : Nat) (nk : Nat) (np : Nat) (nr : Nat) (nl : Nat) (nb : Nat) (zo : Nat) (ln : Nat → Nat) (tk : Nat → Int32) (dr : Nat → Bool) (lt : Nat → Int32) (th : Nat → Bool) (k : Int32) (hnp : np ≤ 20) (hnl : nl ≤ 12) (hln : ∀ q : Nat, ln q ≤ 8) (hdr : ∀ q : Nat, q < np → dr q = !th q) (hz : (ak1 (hasP th np k)) = 0) : wrM l yX5_fits wsX5_fits 2 43 0 0 D y3 [(m0, .inr (5, [.ref m1, .int (nI nk), .ref m2, .ref m3, .ref m4, .ref m5, .ref m6, .int (nI np), .ref m7, .ref m8, .ref m9, .ref m10, .ref m11, .ref m12, .ref m13, .ref m14, .int (nI nr), .ref m15, .int (nI nl), .ref m16, .int (nI nb), .ref m17, .ref m18, .int (nI zo)])), (m4, .inl (y3.1, 20, .inl (fN ln))), (m5, .inl (y3.1, 160, .inl tk)), (m6, .inl (y3.2.1, 20, .inl (fB dr))), (m15, .inl (y3.1, 12, .inl lt))] [.ref m0, .int k] (fun r (_ : Unit) => r = (bI (fitB lt nl tk ln k.toNatClampNeg))) (fun (_ : Unit) => [(m0, .inr (5, [.ref m1, .int (nI nk), .ref m2, .ref m3, .ref m4, .ref m5, .ref m6, .int (nI np), .ref m7, .ref m8, .ref m9, .ref m10, .ref m11, .ref m12, .ref m13, .ref m14, .int (nI nr), .ref m15, .int (nI nl), .ref m16, .int (nI nb), .ref m17, .ref m18, .int (nI 0)])), (m4, .inl (y3.1, 20, .inl (fN ln))), (m5, .inl (y3.1, 160, .inl tk)), (m6, .inl (y3.2.1, 20, .inl (fB dr))), (m15, .inl (y3.1, 12, .inl lt))]) := by
  refine wz_of (cc := cX5_fits) (maxL := 2) (by decide) rfl (Nat.le_of_ble_eq_true rfl) ?_
  intro p e s m args below meth c A Q hx hb hml hown hts hP hK hD hA hS hret ls hl
  replace hl : lv_has ls 2 [(0, .ref m0), (1, .int k)] := hl
  refine lv_aload_n hx hb dX5_fits_0 rfl (lv_at hl 0 rfl) ?_
  refine lv_aload_n hx hb dX5_fits_1 rfl (lv_at hl 0 rfl) ?_
  refine lv_iload_n hx hb dX5_fits_2 rfl (lv_at hl 1 rfl) ?_
  refine rd_V (ci := 5) (q0 := 0) (own := RX5) (As := [.int k]) (rest := [.ref m0]) (bytes := cX5_isThere) (maxL := 2) ⟨hx, hb, hml, hown, hts⟩ (kX5_isThere l D y3 m0 m1 m2 m3 m4 m5 m6 m7 m8 m9 m10 m11 m12 m13 m14 m15 m16 m17 m18 nk np nr nl nb zo dr th k (by omega) (by assumption)) gX5_fits_X5_isThere rfl hvX5_isThere ⟨Nat.le_of_ble_eq_true rfl, Nat.le_of_ble_eq_true rfl⟩ hP hK [0, 3] rfl rfl rfl hl.1 rfl (Nat.le_of_ble_eq_true rfl) dX5_fits_3 ⟨Nat.le_of_ble_eq_true rfl, Nat.le_of_ble_eq_true rfl⟩ (fun r1 hr1 => ?_)
  subst hr1
  refine wr_V (ci := 5) (q0 := 0) (own := RX5) (As := [.int (bI (hasP th np k))]) (rest := []) (bytes := cX5_asked) (maxL := 2) (wr := [(m4, .inl (y3.1, 20, .inl (fN ln))), (m5, .inl (y3.1, 160, .inl tk)), (m6, .inl (y3.2.1, 20, .inl (fB dr))), (m15, .inl (y3.1, 12, .inl lt))]) (w3 := (fun (_ : Unit) => [(m0, .inr (5, [.ref m1, .int (nI nk), .ref m2, .ref m3, .ref m4, .ref m5, .ref m6, .int (nI np), .ref m7, .ref m8, .ref m9, .ref m10, .ref m11, .ref m12, .ref m13, .ref m14, .int (nI nr), .ref m15, .int (nI nl), .ref m16, .int (nI nb), .ref m17, .ref m18, .int (nI (ak1 (hasP th np k)))])), (m4, .inl (y3.1, 20, .inl (fN ln))), (m5, .inl (y3.1, 160, .inl tk)), (m6, .inl (y3.2.1, 20, .inl (fB dr))), (m15, .inl (y3.1, 12, .inl lt))])) ⟨hx, hb, hml, hown, hts⟩ (kX5_asked l D y3 m0 m1 m2 m3 m4 m5 m6 m7 m8 m9 m10 m11 m12 m13 m14 m15 m16 m17 m18 nk np nr nl nb zo (hasP th np k)) gX5_fits_X5_asked rfl hvX5_asked ⟨Nat.le_of_ble_eq_true rfl, Nat.le_of_ble_eq_true rfl⟩ hP hK hD hS hA [0] [1, 2, 3, 4] [4, 0, 1, 2, 3] rfl rfl rfl rfl (by decide) (fun _ => rfl) rfl rfl rfl hl.1 rfl (Nat.le_of_ble_eq_true rfl) dX5_fits_6 ⟨Nat.le_of_ble_eq_true rfl, Nat.le_of_ble_eq_true rfl⟩ (fun r2 u3 H locs hr2 hP hD hS => ?_)
  have hP : va_P D vwCl [(m0, .inr (5, [.ref m1, .int (nI nk), .ref m2, .ref m3, .ref m4, .ref m5, .ref m6, .int (nI np), .ref m7, .ref m8, .ref m9, .ref m10, .ref m11, .ref m12, .ref m13, .ref m14, .int (nI nr), .ref m15, .int (nI nl), .ref m16, .int (nI nb), .ref m17, .ref m18, .int (nI (ak1 (hasP th np k)))])), (m4, .inl (y3.1, 20, .inl (fN ln))), (m5, .inl (y3.1, 160, .inl tk)), (m6, .inl (y3.2.1, 20, .inl (fB dr))), (m15, .inl (y3.1, 12, .inl lt))] H := hP
  have hD : va_D A [(m0, .inr (5, [.ref m1, .int (nI nk), .ref m2, .ref m3, .ref m4, .ref m5, .ref m6, .int (nI np), .ref m7, .ref m8, .ref m9, .ref m10, .ref m11, .ref m12, .ref m13, .ref m14, .int (nI nr), .ref m15, .int (nI nl), .ref m16, .int (nI nb), .ref m17, .ref m18, .int (nI (ak1 (hasP th np k)))])), (m4, .inl (y3.1, 20, .inl (fN ln))), (m5, .inl (y3.1, 160, .inl tk)), (m6, .inl (y3.2.1, 20, .inl (fB dr))), (m15, .inl (y3.1, 12, .inl lt))] := hD
  subst hr2
  refine lb_if_eq (tgt := 24) hx hb dX5_fits_9 (by decide) (fun c9 => ?_) (fun c9 => ?_)
  · rw [ak1_t hz] at c9; cases c9
  · obtain ⟨ek, hkn, hth⟩ := hasP_c (ak1_t hz) (by omega)
    refine lv_aload_n hx hb dX5_fits_12 rfl (lv_at hl 0 rfl) ?_
    refine lv_iload_n hx hb dX5_fits_13 rfl (lv_at hl 1 rfl) ?_
    refine ln_eqi (y := (nI k.toNatClampNeg)) ek ?_
    refine rd_V (ci := 5) (q0 := 0) (own := RX5) (As := [.int (nI k.toNatClampNeg)]) (rest := []) (bytes := cX5_fit) (maxL := 8) ⟨hx, hb, hml, hown, hts⟩ (kX5_fit l D y3 m0 m1 m2 m3 m4 m5 m6 m7 m8 m9 m10 m11 m12 m13 m14 m15 m16 m17 m18 nk np nr nl nb (ak1 (hasP th np k)) lt ln tk k.toNatClampNeg (by omega) (by omega) (by assumption)) gX5_fits_X5_fit rfl hvX5_fit ⟨Nat.le_of_ble_eq_true rfl, Nat.le_of_ble_eq_true rfl⟩ hP hK [0, 1, 2, 4] rfl rfl rfl hl.1 rfl (Nat.le_of_ble_eq_true rfl) dX5_fits_14 ⟨Nat.le_of_ble_eq_true rfl, Nat.le_of_ble_eq_true rfl⟩ (fun r4 hr4 => ?_)
    subst hr4
    refine lb_if_eq (tgt := 24) hx hb dX5_fits_17 (by decide) (fun c17 => ?_) (fun c17 => ?_)
    · refine lv_iconst (v := (nI 0)) hx hb dX5_fits_24 rfl ?_
      rw [show ak1 (hasP th np k) = 0 from hz] at hP hD
      exact hret 25 ls H locs _ _ () _ (fitB lt nl tk ln k.toNatClampNeg) hP hD hS (Nat.le_of_ble_eq_true rfl) (Nat.le_of_ble_eq_true rfl) (by first | exact bI_t c17 | exact bI_f c17) rfl dX5_fits_25
    · refine lv_iconst (v := (nI 1)) hx hb dX5_fits_20 rfl ?_
      refine lv_goto (tgt := 25) hx hb dX5_fits_21 (by decide) ?_
      rw [show ak1 (hasP th np k) = 0 from hz] at hP hD
      exact hret 25 ls H locs _ _ () _ (fitB lt nl tk ln k.toNatClampNeg) hP hD hS (Nat.le_of_ble_eq_true rfl) (Nat.le_of_ble_eq_true rfl) (by first | exact bI_t c17 | exact bI_f c17) rfl dX5_fits_25

set_option maxHeartbeats 4000000 in
set_option maxRecDepth 100000 in
theorem kX5_fits_ex (l : Launch) (D : va_G) (y3 : ClassId × ClassId × ClassId) (m0 : Nat) (m1 : Nat) (m2 : Nat) (m3 : Nat) (m4 : Nat) (m5 : Nat) (m6 : Nat) (m7 : Nat) (m8 : Nat) (m9 : Nat) (m10 : Nat) (m11 : Nat) (m12 : Nat) (m13 : Nat) (m14 : Nat) (m15 : Nat) (m16 : Nat) (m17 : Nat) (m18 : Nat) (nk : Nat) (np : Nat) (nr : Nat) (nl : Nat) (nb : Nat) (zo : Nat) (ln : Nat → Nat) (tk : Nat → Int32) (dr : Nat → Bool) (lt : Nat → Int32) (th : Nat → Bool) (k : Int32) (hnp : np ≤ 20) (hnl : nl ≤ 12) (hln : ∀ q : Nat, ln q ≤ 8) (hdr : ∀ q : Nat, q < np → dr q = !th q) (hz : ¬ (ak1 (hasP th np k)) = 0) : wrM l yX5_fits wsX5_fits 2 43 0 0 D y3 [(m0, .inr (5, [.ref m1, .int (nI nk), .ref m2, .ref m3, .ref m4, .ref m5, .ref m6, .int (nI np), .ref m7, .ref m8, .ref m9, .ref m10, .ref m11, .ref m12, .ref m13, .ref m14, .int (nI nr), .ref m15, .int (nI nl), .ref m16, .int (nI nb), .ref m17, .ref m18, .int (nI zo)])), (m4, .inl (y3.1, 20, .inl (fN ln))), (m5, .inl (y3.1, 160, .inl tk)), (m6, .inl (y3.2.1, 20, .inl (fB dr))), (m15, .inl (y3.1, 12, .inl lt))] [.ref m0, .int k] (fun r (_ : Unit) => r = (bI false)) (fun (_ : Unit) => [(m0, .inr (5, [.ref m1, .int (nI nk), .ref m2, .ref m3, .ref m4, .ref m5, .ref m6, .int (nI np), .ref m7, .ref m8, .ref m9, .ref m10, .ref m11, .ref m12, .ref m13, .ref m14, .int (nI nr), .ref m15, .int (nI nl), .ref m16, .int (nI nb), .ref m17, .ref m18, .int (nI (ak1 (hasP th np k)))])), (m4, .inl (y3.1, 20, .inl (fN ln))), (m5, .inl (y3.1, 160, .inl tk)), (m6, .inl (y3.2.1, 20, .inl (fB dr))), (m15, .inl (y3.1, 12, .inl lt))]) := by
  refine wz_of (cc := cX5_fits) (maxL := 2) (by decide) rfl (Nat.le_of_ble_eq_true rfl) ?_
  intro p e s m args below meth c A Q hx hb hml hown hts hP hK hD hA hS hret ls hl
  replace hl : lv_has ls 2 [(0, .ref m0), (1, .int k)] := hl
  refine lv_aload_n hx hb dX5_fits_0 rfl (lv_at hl 0 rfl) ?_
  refine lv_aload_n hx hb dX5_fits_1 rfl (lv_at hl 0 rfl) ?_
  refine lv_iload_n hx hb dX5_fits_2 rfl (lv_at hl 1 rfl) ?_
  refine rd_V (ci := 5) (q0 := 0) (own := RX5) (As := [.int k]) (rest := [.ref m0]) (bytes := cX5_isThere) (maxL := 2) ⟨hx, hb, hml, hown, hts⟩ (kX5_isThere l D y3 m0 m1 m2 m3 m4 m5 m6 m7 m8 m9 m10 m11 m12 m13 m14 m15 m16 m17 m18 nk np nr nl nb zo dr th k (by omega) (by assumption)) gX5_fits_X5_isThere rfl hvX5_isThere ⟨Nat.le_of_ble_eq_true rfl, Nat.le_of_ble_eq_true rfl⟩ hP hK [0, 3] rfl rfl rfl hl.1 rfl (Nat.le_of_ble_eq_true rfl) dX5_fits_3 ⟨Nat.le_of_ble_eq_true rfl, Nat.le_of_ble_eq_true rfl⟩ (fun r1 hr1 => ?_)
  subst hr1
  refine wr_V (ci := 5) (q0 := 0) (own := RX5) (As := [.int (bI (hasP th np k))]) (rest := []) (bytes := cX5_asked) (maxL := 2) (wr := [(m4, .inl (y3.1, 20, .inl (fN ln))), (m5, .inl (y3.1, 160, .inl tk)), (m6, .inl (y3.2.1, 20, .inl (fB dr))), (m15, .inl (y3.1, 12, .inl lt))]) (w3 := (fun (_ : Unit) => [(m0, .inr (5, [.ref m1, .int (nI nk), .ref m2, .ref m3, .ref m4, .ref m5, .ref m6, .int (nI np), .ref m7, .ref m8, .ref m9, .ref m10, .ref m11, .ref m12, .ref m13, .ref m14, .int (nI nr), .ref m15, .int (nI nl), .ref m16, .int (nI nb), .ref m17, .ref m18, .int (nI (ak1 (hasP th np k)))])), (m4, .inl (y3.1, 20, .inl (fN ln))), (m5, .inl (y3.1, 160, .inl tk)), (m6, .inl (y3.2.1, 20, .inl (fB dr))), (m15, .inl (y3.1, 12, .inl lt))])) ⟨hx, hb, hml, hown, hts⟩ (kX5_asked l D y3 m0 m1 m2 m3 m4 m5 m6 m7 m8 m9 m10 m11 m12 m13 m14 m15 m16 m17 m18 nk np nr nl nb zo (hasP th np k)) gX5_fits_X5_asked rfl hvX5_asked ⟨Nat.le_of_ble_eq_true rfl, Nat.le_of_ble_eq_true rfl⟩ hP hK hD hS hA [0] [1, 2, 3, 4] [4, 0, 1, 2, 3] rfl rfl rfl rfl (by decide) (fun _ => rfl) rfl rfl rfl hl.1 rfl (Nat.le_of_ble_eq_true rfl) dX5_fits_6 ⟨Nat.le_of_ble_eq_true rfl, Nat.le_of_ble_eq_true rfl⟩ (fun r2 u3 H locs hr2 hP hD hS => ?_)
  have hP : va_P D vwCl [(m0, .inr (5, [.ref m1, .int (nI nk), .ref m2, .ref m3, .ref m4, .ref m5, .ref m6, .int (nI np), .ref m7, .ref m8, .ref m9, .ref m10, .ref m11, .ref m12, .ref m13, .ref m14, .int (nI nr), .ref m15, .int (nI nl), .ref m16, .int (nI nb), .ref m17, .ref m18, .int (nI (ak1 (hasP th np k)))])), (m4, .inl (y3.1, 20, .inl (fN ln))), (m5, .inl (y3.1, 160, .inl tk)), (m6, .inl (y3.2.1, 20, .inl (fB dr))), (m15, .inl (y3.1, 12, .inl lt))] H := hP
  have hD : va_D A [(m0, .inr (5, [.ref m1, .int (nI nk), .ref m2, .ref m3, .ref m4, .ref m5, .ref m6, .int (nI np), .ref m7, .ref m8, .ref m9, .ref m10, .ref m11, .ref m12, .ref m13, .ref m14, .int (nI nr), .ref m15, .int (nI nl), .ref m16, .int (nI nb), .ref m17, .ref m18, .int (nI (ak1 (hasP th np k)))])), (m4, .inl (y3.1, 20, .inl (fN ln))), (m5, .inl (y3.1, 160, .inl tk)), (m6, .inl (y3.2.1, 20, .inl (fB dr))), (m15, .inl (y3.1, 12, .inl lt))] := hD
  subst hr2
  refine lb_if_eq (tgt := 24) hx hb dX5_fits_9 (by decide) (fun c9 => ?_) (fun c9 => ?_)
  · refine lv_iconst (v := (nI 0)) hx hb dX5_fits_24 rfl ?_
    exact hret 25 ls H locs _ _ () _ false hP hD hS (Nat.le_of_ble_eq_true rfl) (Nat.le_of_ble_eq_true rfl) rfl rfl dX5_fits_25
  · rw [ak1_f hz] at c9; cases c9

set_option maxHeartbeats 4000000 in
set_option maxRecDepth 100000 in
theorem kX5_fitsByTable_ok (l : Launch) (D : va_G) (y3 : ClassId × ClassId × ClassId) (m0 : Nat) (m1 : Nat) (m2 : Nat) (m3 : Nat) (m4 : Nat) (m5 : Nat) (m6 : Nat) (m7 : Nat) (m8 : Nat) (m9 : Nat) (m10 : Nat) (m11 : Nat) (m12 : Nat) (m13 : Nat) (m14 : Nat) (m15 : Nat) (m16 : Nat) (m17 : Nat) (m18 : Nat) (nk : Nat) (np : Nat) (nr : Nat) (nl : Nat) (nb : Nat) (zo : Nat) (ln : Nat → Nat) (tk : Nat → Int32) (dr : Nat → Bool) (lt : Nat → Int32) (th : Nat → Bool) (k : Int32) (hnp : np ≤ 20) (hnl : nl ≤ 12) (hln : ∀ q : Nat, ln q ≤ 8) (hdr : ∀ q : Nat, q < np → dr q = !th q) (hz : (ak1 (hasP th np k)) = 0) : wrM l yX5_fitsByTable wsX5_fitsByTable 3 64 0 0 D y3 [(m0, .inr (5, [.ref m1, .int (nI nk), .ref m2, .ref m3, .ref m4, .ref m5, .ref m6, .int (nI np), .ref m7, .ref m8, .ref m9, .ref m10, .ref m11, .ref m12, .ref m13, .ref m14, .int (nI nr), .ref m15, .int (nI nl), .ref m16, .int (nI nb), .ref m17, .ref m18, .int (nI zo)])), (m4, .inl (y3.1, 20, .inl (fN ln))), (m5, .inl (y3.1, 160, .inl tk)), (m6, .inl (y3.2.1, 20, .inl (fB dr))), (m15, .inl (y3.1, 12, .inl lt))] [.ref m0, .int k] (fun r (_ : Unit) => r = (bI (fitB lt nl tk ln k.toNatClampNeg))) (fun (_ : Unit) => [(m0, .inr (5, [.ref m1, .int (nI nk), .ref m2, .ref m3, .ref m4, .ref m5, .ref m6, .int (nI np), .ref m7, .ref m8, .ref m9, .ref m10, .ref m11, .ref m12, .ref m13, .ref m14, .int (nI nr), .ref m15, .int (nI nl), .ref m16, .int (nI nb), .ref m17, .ref m18, .int (nI 0)])), (m4, .inl (y3.1, 20, .inl (fN ln))), (m5, .inl (y3.1, 160, .inl tk)), (m6, .inl (y3.2.1, 20, .inl (fB dr))), (m15, .inl (y3.1, 12, .inl lt))]) := by
  refine wz_of (cc := cX5_fitsByTable) (maxL := 2) (by decide) rfl (Nat.le_of_ble_eq_true rfl) ?_
  intro p e s m args below meth c A Q hx hb hml hown hts hP hK hD hA hS hret ls hl
  replace hl : lv_has ls 2 [(0, .ref m0), (1, .int k)] := hl
  refine lv_aload_n hx hb dX5_fitsByTable_0 rfl (lv_at hl 0 rfl) ?_
  refine lv_iload_n hx hb dX5_fitsByTable_1 rfl (lv_at hl 1 rfl) ?_
  refine wr_V (ci := 5) (q0 := 0) (own := RX5) (As := [.int k]) (rest := []) (bytes := cX5_fits) (maxL := 2) (wr := []) (w3 := (fun (_ : Unit) => [(m0, .inr (5, [.ref m1, .int (nI nk), .ref m2, .ref m3, .ref m4, .ref m5, .ref m6, .int (nI np), .ref m7, .ref m8, .ref m9, .ref m10, .ref m11, .ref m12, .ref m13, .ref m14, .int (nI nr), .ref m15, .int (nI nl), .ref m16, .int (nI nb), .ref m17, .ref m18, .int (nI 0)])), (m4, .inl (y3.1, 20, .inl (fN ln))), (m5, .inl (y3.1, 160, .inl tk)), (m6, .inl (y3.2.1, 20, .inl (fB dr))), (m15, .inl (y3.1, 12, .inl lt))])) ⟨hx, hb, hml, hown, hts⟩ (kX5_fits_ok l D y3 m0 m1 m2 m3 m4 m5 m6 m7 m8 m9 m10 m11 m12 m13 m14 m15 m16 m17 m18 nk np nr nl nb zo ln tk dr lt th k (by omega) (by omega) (by assumption) (by assumption) (by assumption)) gX5_fitsByTable_X5_fits rfl hvX5_fits ⟨Nat.le_of_ble_eq_true rfl, Nat.le_of_ble_eq_true rfl⟩ hP hK hD hS hA [0, 1, 2, 3, 4] [] [0, 1, 2, 3, 4] rfl rfl rfl rfl (by decide) (fun _ => rfl) rfl rfl rfl hl.1 rfl (Nat.le_of_ble_eq_true rfl) dX5_fitsByTable_2 ⟨Nat.le_of_ble_eq_true rfl, Nat.le_of_ble_eq_true rfl⟩ (fun r1 u2 H locs hr1 hP hD hS => ?_)
  have hP : va_P D vwCl [(m0, .inr (5, [.ref m1, .int (nI nk), .ref m2, .ref m3, .ref m4, .ref m5, .ref m6, .int (nI np), .ref m7, .ref m8, .ref m9, .ref m10, .ref m11, .ref m12, .ref m13, .ref m14, .int (nI nr), .ref m15, .int (nI nl), .ref m16, .int (nI nb), .ref m17, .ref m18, .int (nI 0)])), (m4, .inl (y3.1, 20, .inl (fN ln))), (m5, .inl (y3.1, 160, .inl tk)), (m6, .inl (y3.2.1, 20, .inl (fB dr))), (m15, .inl (y3.1, 12, .inl lt))] H := hP
  have hD : va_D A [(m0, .inr (5, [.ref m1, .int (nI nk), .ref m2, .ref m3, .ref m4, .ref m5, .ref m6, .int (nI np), .ref m7, .ref m8, .ref m9, .ref m10, .ref m11, .ref m12, .ref m13, .ref m14, .int (nI nr), .ref m15, .int (nI nl), .ref m16, .int (nI nb), .ref m17, .ref m18, .int (nI 0)])), (m4, .inl (y3.1, 20, .inl (fN ln))), (m5, .inl (y3.1, 160, .inl tk)), (m6, .inl (y3.2.1, 20, .inl (fB dr))), (m15, .inl (y3.1, 12, .inl lt))] := hD
  subst hr1
  exact hret 5 ls H locs _ _ () _ (fitB lt nl tk ln k.toNatClampNeg) hP hD hS (Nat.le_of_ble_eq_true rfl) (Nat.le_of_ble_eq_true rfl) rfl rfl dX5_fitsByTable_5

set_option maxHeartbeats 4000000 in
set_option maxRecDepth 100000 in
theorem kX5_fitsByTable_ex (l : Launch) (D : va_G) (y3 : ClassId × ClassId × ClassId) (m0 : Nat) (m1 : Nat) (m2 : Nat) (m3 : Nat) (m4 : Nat) (m5 : Nat) (m6 : Nat) (m7 : Nat) (m8 : Nat) (m9 : Nat) (m10 : Nat) (m11 : Nat) (m12 : Nat) (m13 : Nat) (m14 : Nat) (m15 : Nat) (m16 : Nat) (m17 : Nat) (m18 : Nat) (nk : Nat) (np : Nat) (nr : Nat) (nl : Nat) (nb : Nat) (zo : Nat) (ln : Nat → Nat) (tk : Nat → Int32) (dr : Nat → Bool) (lt : Nat → Int32) (th : Nat → Bool) (k : Int32) (hnp : np ≤ 20) (hnl : nl ≤ 12) (hln : ∀ q : Nat, ln q ≤ 8) (hdr : ∀ q : Nat, q < np → dr q = !th q) (hz : ¬ (ak1 (hasP th np k)) = 0) : wrM l yX5_fitsByTable wsX5_fitsByTable 3 64 0 0 D y3 [(m0, .inr (5, [.ref m1, .int (nI nk), .ref m2, .ref m3, .ref m4, .ref m5, .ref m6, .int (nI np), .ref m7, .ref m8, .ref m9, .ref m10, .ref m11, .ref m12, .ref m13, .ref m14, .int (nI nr), .ref m15, .int (nI nl), .ref m16, .int (nI nb), .ref m17, .ref m18, .int (nI zo)])), (m4, .inl (y3.1, 20, .inl (fN ln))), (m5, .inl (y3.1, 160, .inl tk)), (m6, .inl (y3.2.1, 20, .inl (fB dr))), (m15, .inl (y3.1, 12, .inl lt))] [.ref m0, .int k] (fun r (_ : Unit) => r = (bI false)) (fun (_ : Unit) => [(m0, .inr (5, [.ref m1, .int (nI nk), .ref m2, .ref m3, .ref m4, .ref m5, .ref m6, .int (nI np), .ref m7, .ref m8, .ref m9, .ref m10, .ref m11, .ref m12, .ref m13, .ref m14, .int (nI nr), .ref m15, .int (nI nl), .ref m16, .int (nI nb), .ref m17, .ref m18, .int (nI (ak1 (hasP th np k)))])), (m4, .inl (y3.1, 20, .inl (fN ln))), (m5, .inl (y3.1, 160, .inl tk)), (m6, .inl (y3.2.1, 20, .inl (fB dr))), (m15, .inl (y3.1, 12, .inl lt))]) := by
  refine wz_of (cc := cX5_fitsByTable) (maxL := 2) (by decide) rfl (Nat.le_of_ble_eq_true rfl) ?_
  intro p e s m args below meth c A Q hx hb hml hown hts hP hK hD hA hS hret ls hl
  replace hl : lv_has ls 2 [(0, .ref m0), (1, .int k)] := hl
  refine lv_aload_n hx hb dX5_fitsByTable_0 rfl (lv_at hl 0 rfl) ?_
  refine lv_iload_n hx hb dX5_fitsByTable_1 rfl (lv_at hl 1 rfl) ?_
  refine wr_V (ci := 5) (q0 := 0) (own := RX5) (As := [.int k]) (rest := []) (bytes := cX5_fits) (maxL := 2) (wr := []) (w3 := (fun (_ : Unit) => [(m0, .inr (5, [.ref m1, .int (nI nk), .ref m2, .ref m3, .ref m4, .ref m5, .ref m6, .int (nI np), .ref m7, .ref m8, .ref m9, .ref m10, .ref m11, .ref m12, .ref m13, .ref m14, .int (nI nr), .ref m15, .int (nI nl), .ref m16, .int (nI nb), .ref m17, .ref m18, .int (nI (ak1 (hasP th np k)))])), (m4, .inl (y3.1, 20, .inl (fN ln))), (m5, .inl (y3.1, 160, .inl tk)), (m6, .inl (y3.2.1, 20, .inl (fB dr))), (m15, .inl (y3.1, 12, .inl lt))])) ⟨hx, hb, hml, hown, hts⟩ (kX5_fits_ex l D y3 m0 m1 m2 m3 m4 m5 m6 m7 m8 m9 m10 m11 m12 m13 m14 m15 m16 m17 m18 nk np nr nl nb zo ln tk dr lt th k (by omega) (by omega) (by assumption) (by assumption) (by assumption)) gX5_fitsByTable_X5_fits rfl hvX5_fits ⟨Nat.le_of_ble_eq_true rfl, Nat.le_of_ble_eq_true rfl⟩ hP hK hD hS hA [0, 1, 2, 3, 4] [] [0, 1, 2, 3, 4] rfl rfl rfl rfl (by decide) (fun _ => rfl) rfl rfl rfl hl.1 rfl (Nat.le_of_ble_eq_true rfl) dX5_fitsByTable_2 ⟨Nat.le_of_ble_eq_true rfl, Nat.le_of_ble_eq_true rfl⟩ (fun r1 u2 H locs hr1 hP hD hS => ?_)
  have hP : va_P D vwCl [(m0, .inr (5, [.ref m1, .int (nI nk), .ref m2, .ref m3, .ref m4, .ref m5, .ref m6, .int (nI np), .ref m7, .ref m8, .ref m9, .ref m10, .ref m11, .ref m12, .ref m13, .ref m14, .int (nI nr), .ref m15, .int (nI nl), .ref m16, .int (nI nb), .ref m17, .ref m18, .int (nI (ak1 (hasP th np k)))])), (m4, .inl (y3.1, 20, .inl (fN ln))), (m5, .inl (y3.1, 160, .inl tk)), (m6, .inl (y3.2.1, 20, .inl (fB dr))), (m15, .inl (y3.1, 12, .inl lt))] H := hP
  have hD : va_D A [(m0, .inr (5, [.ref m1, .int (nI nk), .ref m2, .ref m3, .ref m4, .ref m5, .ref m6, .int (nI np), .ref m7, .ref m8, .ref m9, .ref m10, .ref m11, .ref m12, .ref m13, .ref m14, .int (nI nr), .ref m15, .int (nI nl), .ref m16, .int (nI nb), .ref m17, .ref m18, .int (nI (ak1 (hasP th np k)))])), (m4, .inl (y3.1, 20, .inl (fN ln))), (m5, .inl (y3.1, 160, .inl tk)), (m6, .inl (y3.2.1, 20, .inl (fB dr))), (m15, .inl (y3.1, 12, .inl lt))] := hD
  subst hr1
  exact hret 5 ls H locs _ _ () _ false hP hD hS (Nat.le_of_ble_eq_true rfl) (Nat.le_of_ble_eq_true rfl) rfl rfl dX5_fitsByTable_5

set_option maxHeartbeats 4000000 in
set_option maxRecDepth 100000 in
theorem kX5_holds (l : Launch) (D : va_G) (y3 : ClassId × ClassId × ClassId) (m0 : Nat) (m1 : Nat) (m2 : Nat) (m3 : Nat) (m4 : Nat) (m5 : Nat) (m6 : Nat) (m7 : Nat) (m8 : Nat) (m9 : Nat) (m10 : Nat) (m11 : Nat) (m12 : Nat) (m13 : Nat) (m14 : Nat) (m15 : Nat) (m16 : Nat) (m17 : Nat) (m18 : Nat) (nk : Nat) (np : Nat) (nr : Nat) (nl : Nat) (nb : Nat) (zo : Nat) (fo : Nat → Nat) (tu : Nat → Nat) (wn : Nat → Int32) (mk : Nat → Int32) (vb : Nat → Int32) (t : Nat) (ht : t < 72) (hnb : nb ≤ 16) (hfo : ∀ q : Nat, fo q ≤ 15) (htu : ∀ q : Nat, tu q ≤ 15) : rdM l yX5_holds wsX5_holds 0 0 D y3 [(m0, .inr (5, [.ref m1, .int (nI nk), .ref m2, .ref m3, .ref m4, .ref m5, .ref m6, .int (nI np), .ref m7, .ref m8, .ref m9, .ref m10, .ref m11, .ref m12, .ref m13, .ref m14, .int (nI nr), .ref m15, .int (nI nl), .ref m16, .int (nI nb), .ref m17, .ref m18, .int (nI zo)])), (m11, .inl (y3.1, 72, .inl (fN fo))), (m12, .inl (y3.1, 72, .inl (fN tu))), (m13, .inl (y3.1, 72, .inl wn)), (m14, .inl (y3.1, 72, .inl mk)), (m16, .inl (y3.1, 16, .inl vb))] [.ref m0, .int (nI t)] (fun r => r = (bI (hldB vb nb fo tu wn mk t))) := by
  refine rz_of (cc := cX5_holds) (maxL := 4) (by decide) rfl (Nat.le_of_ble_eq_true rfl) ?_
  intro p e s m args below meth c Q hx hb hml hown hts hP hK hret ls hl
  replace hl : lv_has ls 4 [(0, .ref m0), (1, .int (nI t))] := hl
  have q1 := hfo t
  have q2 := htu t
  have hf117 := hts (.fieldLink RX5 117 "KindGuesserModel" "bytes" "I") (by decide +kernel)
  have hf41 := hts (.fieldLink RX5 41 "KindGuesserModel" "from" "[I") (by decide +kernel)
  have hf44 := hts (.fieldLink RX5 44 "KindGuesserModel" "to" "[I") (by decide +kernel)
  have hf47 := hts (.fieldLink RX5 47 "KindGuesserModel" "value" "[I") (by decide +kernel)
  have hf50 := hts (.fieldLink RX5 50 "KindGuesserModel" "mask" "[I") (by decide +kernel)
  have hf56 := hts (.fieldLink RX5 56 "KindGuesserModel" "data" "[I") (by decide +kernel)
  have hiX5 : ∀ q ∈ wsX50, q ∈ wsX5_holds := by decide +kernel
  refine lv_iconst (v := (nI 0)) hx hb dX5_holds_0 rfl ?_
  refine lv_istore_n (lv' := [(2, .int (nI 0)), (0, .ref m0), (1, .int (nI t))]) hx hb dX5_holds_1 rfl hl (by decide) rfl (fun ls hl => ?_)
  refine lv_aload_n hx hb dX5_holds_2 rfl (lv_at hl 1 rfl) ?_
  refine va_get (D := D) (ci := 5) (v := .ref m11) (C := RX5) (T := TX5) (N := 24) hx hb hts hiX5 hown hK hP 0 rfl rfl 12 (by decide) hf41 (fun _ h9 => h9) rfl dX5_holds_3 ?_
  refine lv_iload_n hx hb dX5_holds_6 rfl (lv_at hl 2 rfl) ?_
  refine ln_ialdN hx hb hK hP 1 0 rfl rfl (by omega) (by decide) dX5_holds_7 ?_
  refine lv_istore_n (lv' := [(3, .int (nI (fo t))), (2, .int (nI 0)), (0, .ref m0), (1, .int (nI t))]) hx hb dX5_holds_8 rfl hl (by decide) rfl (fun ls hl => ?_)
  have lp9 : ∀ (n1 : Nat) (q : Nat) (g : Bool), 16 - q < n1 → (fo t ≤ q) → (g = true ↔ ∃ i : Nat, i < q ∧ (fo t ≤ i ∧ i ≤ tu t ∧ i < nb ∧ (vb i &&& mk t) = wn t)) → (q ≤ 16) → ∀ ls : Array Slot, lv_has ls 4 [(3, .int (nI q)), (2, .int (bI g)), (0, .ref m0), (1, .int (nI t))] → W p l e (rmO 0 0 0 0) s m args below meth c s.heap [] 0 0 Q (F0 m 9 ls []) := by
    intro n1
    induction n1 with
    | zero => intro q g hm; exact absurd hm (Nat.not_lt_zero _)
    | succ n1 ih9 =>
      intro q g hm9 h1 h2 h3 ls hl
      refine lv_iload_n hx hb dX5_holds_9 rfl (lv_at hl 0 rfl) ?_
      refine lv_aload_n hx hb dX5_holds_10 rfl (lv_at hl 2 rfl) ?_
      refine va_get (D := D) (ci := 5) (v := .ref m12) (C := RX5) (T := TX5) (N := 24) hx hb hts hiX5 hown hK hP 0 rfl rfl 13 (by decide) hf44 (fun _ h9 => h9) rfl dX5_holds_11 ?_
      refine lv_iload_n hx hb dX5_holds_14 rfl (lv_at hl 3 rfl) ?_
      refine ln_ialdN hx hb hK hP 2 0 rfl rfl (by omega) (by decide) dX5_holds_15 ?_
      refine ln_icmp_gt (tgt := 65) hx hb (by omega) (by omega) dX5_holds_16 (by decide) (fun c16 => ?_) (fun c16 => ?_)
      · refine lv_iload_n hx hb dX5_holds_65 rfl (lv_at hl 1 rfl) ?_
        exact hret 66 ls _ (congrArg bI (hl_end h2 (by first | exact Or.inl c16 | exact Or.inr c24))) dX5_holds_66
      · refine lv_iload_n hx hb dX5_holds_19 rfl (lv_at hl 0 rfl) ?_
        refine lv_aload_n hx hb dX5_holds_20 rfl (lv_at hl 2 rfl) ?_
        refine va_get (D := D) (ci := 5) (v := .int (nI nb)) (C := RX5) (T := TX5) (N := 24) hx hb hts hiX5 hown hK hP 0 rfl rfl 20 (by decide) hf117 (fun _ h9 => h9) rfl dX5_holds_21 ?_
        refine ln_icmp_ge (tgt := 65) hx hb (by omega) (by omega) dX5_holds_24 (by decide) (fun c24 => ?_) (fun c24 => ?_)
        · refine lv_iload_n hx hb dX5_holds_65 rfl (lv_at hl 1 rfl) ?_
          exact hret 66 ls _ (congrArg bI (hl_end h2 (by first | exact Or.inl c16 | exact Or.inr c24))) dX5_holds_66
        · have jn58 : ∀ (g2 : Bool), (g2 = (g || decide ((vb q &&& mk t) = wn t))) → ∀ ls : Array Slot, lv_has ls 4 [(3, .int (nI q)), (2, .int (bI g)), (0, .ref m0), (1, .int (nI t))] → W p l e (rmO 0 0 0 0) s m args below meth c s.heap [] 0 0 Q (F0 m 58 ls [.int (bI g2)]) := by
            intro g2 hg2 ls hl
            refine lv_istore_n (lv' := [(2, .int (bI g2)), (3, .int (nI q)), (0, .ref m0), (1, .int (nI t))]) hx hb dX5_holds_58 rfl hl (by decide) rfl (fun ls hl => ?_)
            refine lv_iinc (v := (nI (q + 1))) (lv' := [(3, .int (nI (q + 1))), (2, .int (bI g2)), (0, .ref m0), (1, .int (nI t))]) hx hb dX5_holds_59 hl (k := 1) rfl (nI_add _ _) (by decide) rfl (fun ls hl => ?_)
            refine lv_goto (tgt := 9) hx hb dX5_holds_62 (by decide) ?_
            exact ih9 (q + 1) g2 (by omega) (by omega) (hl_s h2 (by omega) (by omega) (by omega) hg2) (by omega) _ (lv_sub hl [0, 1, 2, 3] rfl)
          refine lv_iload_n hx hb dX5_holds_27 rfl (lv_at hl 1 rfl) ?_
          refine lb_if_ne (tgt := 53) hx hb dX5_holds_28 (by decide) (fun c28 => ?_) (fun c28 => ?_)
          · refine lv_iconst (v := (nI 1)) hx hb dX5_holds_53 rfl ?_
            refine lv_goto (tgt := 58) hx hb dX5_holds_54 (by decide) ?_
            exact jn58 true (by first | (rw [c28]; rfl) | (rw [c28, decide_eq_true c50]; rfl) | (rw [c28, decide_eq_false c50]; rfl)) _ (lv_sub hl [0, 1, 2, 3] rfl)
          · refine lv_aload_n hx hb dX5_holds_31 rfl (lv_at hl 2 rfl) ?_
            refine va_get (D := D) (ci := 5) (v := .ref m16) (C := RX5) (T := TX5) (N := 24) hx hb hts hiX5 hown hK hP 0 rfl rfl 19 (by decide) hf56 (fun _ h9 => h9) rfl dX5_holds_32 ?_
            refine lv_iload_n hx hb dX5_holds_35 rfl (lv_at hl 0 rfl) ?_
            refine ln_iald hx hb hK hP 5 0 rfl rfl (by omega) (by decide) dX5_holds_36 ?_
            refine lv_aload_n hx hb dX5_holds_37 rfl (lv_at hl 2 rfl) ?_
            refine va_get (D := D) (ci := 5) (v := .ref m14) (C := RX5) (T := TX5) (N := 24) hx hb hts hiX5 hown hK hP 0 rfl rfl 15 (by decide) hf50 (fun _ h9 => h9) rfl dX5_holds_38 ?_
            refine lv_iload_n hx hb dX5_holds_41 rfl (lv_at hl 3 rfl) ?_
            refine ln_iald hx hb hK hP 4 0 rfl rfl (by omega) (by decide) dX5_holds_42 ?_
            refine lv_iand hx hb dX5_holds_43 ?_
            refine lv_aload_n hx hb dX5_holds_44 rfl (lv_at hl 2 rfl) ?_
            refine va_get (D := D) (ci := 5) (v := .ref m13) (C := RX5) (T := TX5) (N := 24) hx hb hts hiX5 hown hK hP 0 rfl rfl 14 (by decide) hf47 (fun _ h9 => h9) rfl dX5_holds_45 ?_
            refine lv_iload_n hx hb dX5_holds_48 rfl (lv_at hl 3 rfl) ?_
            refine ln_iald hx hb hK hP 3 0 rfl rfl (by omega) (by decide) dX5_holds_49 ?_
            refine lv_icmp_ne (tgt := 57) hx hb dX5_holds_50 (by decide) (fun c50 => ?_) (fun c50 => ?_)
            · refine lv_iconst (v := (nI 0)) hx hb dX5_holds_57 rfl ?_
              exact jn58 false (by first | (rw [c28]; rfl) | (rw [c28, decide_eq_true c50]; rfl) | (rw [c28, decide_eq_false c50]; rfl)) _ (lv_sub hl [0, 1, 2, 3] rfl)
            · refine lv_iconst (v := (nI 1)) hx hb dX5_holds_53 rfl ?_
              refine lv_goto (tgt := 58) hx hb dX5_holds_54 (by decide) ?_
              exact jn58 true (by first | (rw [c28]; rfl) | (rw [c28, decide_eq_true c50]; rfl) | (rw [c28, decide_eq_false c50]; rfl)) _ (lv_sub hl [0, 1, 2, 3] rfl)
  exact lp9 _ (fo t) false (Nat.lt_succ_self _) (Nat.le_refl _) (⟨fun h => absurd h (by decide), fun ⟨i, a1, a2, _⟩ => absurd a1 (by omega)⟩) (by omega) _ (lv_sub hl [0, 1, 2, 3] rfl)

set_option maxHeartbeats 4000000 in
set_option maxRecDepth 100000 in
theorem kX5_proof (l : Launch) (D : va_G) (y3 : ClassId × ClassId × ClassId) (m0 : Nat) (m1 : Nat) (m2 : Nat) (m3 : Nat) (m4 : Nat) (m5 : Nat) (m6 : Nat) (m7 : Nat) (m8 : Nat) (m9 : Nat) (m10 : Nat) (m11 : Nat) (m12 : Nat) (m13 : Nat) (m14 : Nat) (m15 : Nat) (m16 : Nat) (m17 : Nat) (m18 : Nat) (nk : Nat) (np : Nat) (nr : Nat) (nl : Nat) (nb : Nat) (zo : Nat) (tc : Nat → Nat) (lev : Nat → Nat) (fo : Nat → Nat) (tu : Nat → Nat) (wn : Nat → Int32) (mk : Nat → Int32) (vb : Nat → Int32) (j : Nat) (hj : j < 12) (hnb : nb ≤ 16) (htc : ∀ q : Nat, tc q ≤ 6) (hlv : ∀ q : Nat, lev q ≤ 5) (hfo : ∀ q : Nat, fo q ≤ 15) (htu : ∀ q : Nat, tu q ≤ 15) (hls : lvS lev (j * 6) ((j * 6) + (tc j))) : rdM l yX5_proof wsX5_proof 1 23 D y3 [(m0, .inr (5, [.ref m1, .int (nI nk), .ref m2, .ref m3, .ref m4, .ref m5, .ref m6, .int (nI np), .ref m7, .ref m8, .ref m9, .ref m10, .ref m11, .ref m12, .ref m13, .ref m14, .int (nI nr), .ref m15, .int (nI nl), .ref m16, .int (nI nb), .ref m17, .ref m18, .int (nI zo)])), (m9, .inl (y3.1, 12, .inl (fN tc))), (m10, .inl (y3.1, 72, .inl (fN lev))), (m11, .inl (y3.1, 72, .inl (fN fo))), (m12, .inl (y3.1, 72, .inl (fN tu))), (m13, .inl (y3.1, 72, .inl wn)), (m14, .inl (y3.1, 72, .inl mk)), (m16, .inl (y3.1, 16, .inl vb))] [.ref m0, .int (nI j)] (fun r => r = (bI (prvB lev (hldB vb nb fo tu wn mk) (j * 6) ((j * 6) + (tc j))))) := by
  refine rz_of (cc := cX5_proof) (maxL := 10) (by decide) rfl (Nat.le_of_ble_eq_true rfl) ?_
  intro p e s m args below meth c Q hx hb hml hown hts hP hK hret ls hl
  replace hl : lv_has ls 10 [(0, .ref m0), (1, .int (nI j))] := hl
  have q1 := htc j
  have hf35 := hts (.fieldLink RX5 35 "KindGuesserModel" "tests" "[I") (by decide +kernel)
  have hf38 := hts (.fieldLink RX5 38 "KindGuesserModel" "level" "[I") (by decide +kernel)
  have hiX5 : ∀ q ∈ wsX50, q ∈ wsX5_proof := by decide +kernel
  refine lv_iconst (v := (nI 0)) hx hb dX5_proof_0 rfl ?_
  refine lv_istore_n (lv' := [(2, .int (nI 0)), (0, .ref m0), (1, .int (nI j))]) hx hb dX5_proof_1 rfl hl (by decide) rfl (fun ls hl => ?_)
  refine lv_iconst (v := (nI 0)) hx hb dX5_proof_2 rfl ?_
  refine lv_istore_n (lv' := [(3, .int (nI 0)), (2, .int (nI 0)), (0, .ref m0), (1, .int (nI j))]) hx hb dX5_proof_3 rfl hl (by decide) rfl (fun ls hl => ?_)
  refine lv_iconst (v := (nI 0)) hx hb dX5_proof_4 rfl ?_
  refine lv_istore (lv' := [(4, .int (nI 0)), (3, .int (nI 0)), (2, .int (nI 0)), (0, .ref m0), (1, .int (nI j))]) hx hb dX5_proof_5 hl (by decide) rfl (fun ls hl => ?_)
  refine lv_aload_n hx hb dX5_proof_7 rfl (lv_at hl 3 rfl) ?_
  refine va_get (D := D) (ci := 5) (v := .ref m9) (C := RX5) (T := TX5) (N := 24) hx hb hts hiX5 hown hK hP 0 rfl rfl 10 (by decide) hf35 (fun _ h9 => h9) rfl dX5_proof_8 ?_
  refine lv_iload_n hx hb dX5_proof_11 rfl (lv_at hl 4 rfl) ?_
  refine ln_ialdN hx hb hK hP 1 0 rfl rfl (by omega) (by decide) dX5_proof_12 ?_
  refine lv_iconst (v := (nI 1)) hx hb dX5_proof_13 rfl ?_
  refine lv_isub hx hb dX5_proof_14 ?_
  refine lv_istore (lv' := [(5, .int ((nI (tc j)) - (nI 1))), (4, .int (nI 0)), (3, .int (nI 0)), (2, .int (nI 0)), (0, .ref m0), (1, .int (nI j))]) hx hb dX5_proof_15 hl (by decide) rfl (fun ls hl => ?_)
  have lp17 : ∀ (n1 : Nat) (kk : Nat) (x : Int32) (ab le : Int32) (pv : Bool) (v : Nat → Bool), kk < n1 → (kk ≤ tc j) → (x = nI kk - nI 1) → (∀ t : Nat, (j * 6) + kk ≤ t → t < ((j * 6) + (tc j)) → v t = ((hldB vb nb fo tu wn mk) t && pdec (lbP lev v t ((j * 6) + (tc j))))) → (pv = true ↔ (∃ t : Nat, (j * 6) + kk ≤ t ∧ t < ((j * 6) + (tc j)) ∧ v t = true ∧ lev t = 0)) → (∀ i : Nat, i < kk → (bt ab i = true ↔ (∃ t : Nat, (j * 6) + kk ≤ t ∧ t < ((j * 6) + (tc j)) ∧ isCh lev ((j * 6) + i) t))) → (∀ i : Nat, i < kk → (bt le i = true ↔ (∃ t : Nat, (j * 6) + kk ≤ t ∧ t < ((j * 6) + (tc j)) ∧ isCh lev ((j * 6) + i) t ∧ v t = true))) → ∀ ls : Array Slot, lv_has ls 10 [(5, .int x), (4, .int (bI pv)), (3, .int ab), (2, .int le), (0, .ref m0), (1, .int (nI j))] → W p l e (rmO 1 0 0 23) s m args below meth c s.heap [] 0 0 Q (F0 m 17 ls []) := by
    intro n1
    induction n1 with
    | zero => intro kk x ab le pv v hm; exact absurd hm (Nat.not_lt_zero _)
    | succ n1 ih17 =>
      intro kk x ab le pv v hm17 h1 h2 h3 h4 h5 h6 ls hl
      refine lv_iload hx hb dX5_proof_17 (lv_at hl 0 rfl) ?_
      refine lv_if_lt (tgt := 172) hx hb dX5_proof_19 (by decide) (fun c19 => ?_) (fun c19 => ?_)
      · have ek : kk = 0 := pk_z h2 c19 (by omega)
        subst ek
        refine lv_iload hx hb dX5_proof_172 (lv_at hl 1 rfl) ?_
        exact hret 174 ls _ (congrArg bI (pk_end h3 h4)) dX5_proof_174
      · obtain ⟨kk, rfl⟩ := pk_zs h2 c19 (by omega)
        have ex : x = nI kk := by rw [h2, pk_sub (by omega)]; rfl
        subst ex
        refine lv_bipush (v := (nI 6)) hx hb dX5_proof_22 rfl ?_
        refine lv_iload_n hx hb dX5_proof_24 rfl (lv_at hl 5 rfl) ?_
        refine ln_imul (n := (j * 6)) hx hb (by omega) dX5_proof_25 ?_
        refine lv_iload hx hb dX5_proof_26 (lv_at hl 0 rfl) ?_
        refine ln_iadd (n := (j * 6) + kk) hx hb rfl dX5_proof_28 ?_
        refine lv_istore (lv' := [(6, .int (nI ((j * 6) + kk))), (5, .int (nI kk)), (4, .int (bI pv)), (3, .int ab), (2, .int le), (0, .ref m0), (1, .int (nI j))]) hx hb dX5_proof_29 hl (by decide) rfl (fun ls hl => ?_)
        have jn46 : ∀ (sm : Bool), (sm = bt ab kk) → ∀ ls : Array Slot, lv_has ls 10 [(6, .int (nI ((j * 6) + kk))), (5, .int (nI kk)), (4, .int (bI pv)), (3, .int ab), (2, .int le), (0, .ref m0), (1, .int (nI j))] → W p l e (rmO 1 0 0 23) s m args below meth c s.heap [] 0 0 Q (F0 m 46 ls [.int (bI sm)]) := by
          intro sm hs ls hl
          refine lv_istore (lv' := [(7, .int (bI sm)), (6, .int (nI ((j * 6) + kk))), (5, .int (nI kk)), (4, .int (bI pv)), (3, .int ab), (2, .int le), (0, .ref m0), (1, .int (nI j))]) hx hb dX5_proof_46 hl (by decide) rfl (fun ls hl => ?_)
          have jn77 : ∀ (is9 : Bool), (is9 = ((hldB vb nb fo tu wn mk) ((j * 6) + kk) && pdec (lbP lev v ((j * 6) + kk) ((j * 6) + (tc j))))) → ∀ ls : Array Slot, lv_has ls 10 [(7, .int (bI sm)), (6, .int (nI ((j * 6) + kk))), (5, .int (nI kk)), (4, .int (bI pv)), (3, .int ab), (2, .int le), (0, .ref m0), (1, .int (nI j))] → W p l e (rmO 1 0 0 23) s m args below meth c s.heap [] 0 0 Q (F0 m 77 ls [.int (bI is9)]) := by
            intro is9 hi9 ls hl
            refine lv_istore (lv' := [(8, .int (bI is9)), (7, .int (bI sm)), (6, .int (nI ((j * 6) + kk))), (5, .int (nI kk)), (4, .int (bI pv)), (3, .int ab), (2, .int le), (0, .ref m0), (1, .int (nI j))]) hx hb dX5_proof_77 hl (by decide) rfl (fun ls hl => ?_)
            refine lv_iload hx hb dX5_proof_79 (lv_at hl 3 rfl) ?_
            refine lv_iconst (v := (nI 1)) hx hb dX5_proof_81 rfl ?_
            refine lv_isub hx hb dX5_proof_82 ?_
            refine lv_istore (lv' := [(9, .int ((nI kk) - (nI 1))), (8, .int (bI is9)), (7, .int (bI sm)), (6, .int (nI ((j * 6) + kk))), (5, .int (nI kk)), (4, .int (bI pv)), (3, .int ab), (2, .int le), (0, .ref m0), (1, .int (nI j))]) hx hb dX5_proof_83 hl (by decide) rfl (fun ls hl => ?_)
            have lp85 : ∀ (n2 : Nat) (u : Nat) (x2 : Int32), u < n2 → (u ≤ kk) → (x2 = nI u - nI 1) → (∀ i : Nat, u ≤ i → i < kk → lev ((j * 6) + kk) ≤ lev ((j * 6) + i)) → ∀ ls : Array Slot, lv_has ls 10 [(9, .int x2), (8, .int (bI is9)), (7, .int (bI sm)), (6, .int (nI ((j * 6) + kk))), (5, .int (nI kk)), (4, .int (bI pv)), (3, .int ab), (2, .int le), (0, .ref m0), (1, .int (nI j))] → W p l e (rmO 1 0 0 23) s m args below meth c s.heap [] 0 0 Q (F0 m 85 ls []) := by
              intro n2
              induction n2 with
              | zero => intro u x2 hm; exact absurd hm (Nat.not_lt_zero _)
              | succ n2 ih85 =>
                intro u x2 hm85 g1 g2 g3 ls hl
                have q2 := hlv ((j * 6) + kk)
                refine lv_iload hx hb dX5_proof_85 (lv_at hl 0 rfl) ?_
                refine lv_if_lt (tgt := 118) hx hb dX5_proof_87 (by decide) (fun c87 => ?_) (fun c87 => ?_)
                · have eu : u = 0 := pk_z g2 c87 (by omega)
                  have hl0 : lev ((j * 6) + kk) = 0 := pf_no hls (by omega) (fun i hi => g3 i (by omega) hi)
                  refine lv_iload hx hb dX5_proof_118 (lv_at hl 0 rfl) ?_
                  refine lv_if_lt (tgt := 149) hx hb dX5_proof_120 (by decide) (fun c120 => ?_) (fun c120 => ?_)
                  · have jn164 : ∀ (pv2 : Bool), (pv2 = (pv || is9)) → ∀ ls : Array Slot, lv_has ls 10 [(9, .int x2), (8, .int (bI is9)), (7, .int (bI sm)), (6, .int (nI ((j * 6) + kk))), (5, .int (nI kk)), (4, .int (bI pv)), (3, .int ab), (2, .int le), (0, .ref m0), (1, .int (nI j))] → W p l e (rmO 1 0 0 23) s m args below meth c s.heap [] 0 0 Q (F0 m 164 ls [.int (bI pv2)]) := by
                      intro pv2 hp2 ls hl
                      refine lv_istore (lv' := [(4, .int (bI pv2)), (9, .int x2), (8, .int (bI is9)), (7, .int (bI sm)), (6, .int (nI ((j * 6) + kk))), (5, .int (nI kk)), (3, .int ab), (2, .int le), (0, .ref m0), (1, .int (nI j))]) hx hb dX5_proof_164 hl (by decide) rfl (fun ls hl => ?_)
                      refine lv_iinc (v := (nI kk - nI 1)) (lv' := [(5, .int (nI kk - nI 1)), (4, .int (bI pv2)), (9, .int x2), (8, .int (bI is9)), (7, .int (bI sm)), (6, .int (nI ((j * 6) + kk))), (3, .int ab), (2, .int le), (0, .ref m0), (1, .int (nI j))]) hx hb dX5_proof_166 hl (k := 5) rfl (by rw [Int32.sub_eq_add_neg]; rfl) (by decide) rfl (fun ls hl => ?_)
                      refine lv_goto (tgt := 17) hx hb dX5_proof_169 (by decide) ?_
                      exact ih17 kk (nI kk - nI 1) ab le pv2 (va_up v ((j * 6) + kk) is9) (by omega) (by omega) rfl (pk_h3 h3 (by omega) hi9) (pk_h4 h4 (by omega) (by rw [hp2, decide_eq_true hl0, Bool.and_true])) (pf_5A h5 hl0) (pf_6A h6 hl0) _ (lv_sub hl [0, 1, 6, 7, 8, 9] rfl)
                    refine lv_iload hx hb dX5_proof_149 (lv_at hl 5 rfl) ?_
                    refine lb_if_ne (tgt := 159) hx hb dX5_proof_151 (by decide) (fun c151 => ?_) (fun c151 => ?_)
                    · refine lv_iconst (v := (nI 1)) hx hb dX5_proof_159 rfl ?_
                      refine lv_goto (tgt := 164) hx hb dX5_proof_160 (by decide) ?_
                      exact jn164 true (by first | (rw [c151]; rfl) | (rw [c151, c156]; rfl)) _ (lv_sub hl [0, 1, 2, 3, 4, 5, 6, 7, 8, 9] rfl)
                    · refine lv_iload hx hb dX5_proof_154 (lv_at hl 1 rfl) ?_
                      refine lb_if_eq (tgt := 163) hx hb dX5_proof_156 (by decide) (fun c156 => ?_) (fun c156 => ?_)
                      · refine lv_iconst (v := (nI 0)) hx hb dX5_proof_163 rfl ?_
                        exact jn164 false (by first | (rw [c151]; rfl) | (rw [c151, c156]; rfl)) _ (lv_sub hl [0, 1, 2, 3, 4, 5, 6, 7, 8, 9] rfl)
                      · refine lv_iconst (v := (nI 1)) hx hb dX5_proof_159 rfl ?_
                        refine lv_goto (tgt := 164) hx hb dX5_proof_160 (by decide) ?_
                        exact jn164 true (by first | (rw [c151]; rfl) | (rw [c151, c156]; rfl)) _ (lv_sub hl [0, 1, 2, 3, 4, 5, 6, 7, 8, 9] rfl)
                  · exact absurd c87 c120
                · obtain ⟨u, rfl⟩ := pk_zs g2 c87 (by omega)
                  have ex2 : x2 = nI u := by rw [g2, pk_sub (by omega)]; rfl
                  subst ex2
                  have q3 := hlv ((j * 6) + u)
                  refine lv_aload_n hx hb dX5_proof_90 rfl (lv_at hl 8 rfl) ?_
                  refine va_get (D := D) (ci := 5) (v := .ref m10) (C := RX5) (T := TX5) (N := 24) hx hb hts hiX5 hown hK hP 0 rfl rfl 11 (by decide) hf38 (fun _ h9 => h9) rfl dX5_proof_91 ?_
                  refine lv_bipush (v := (nI 6)) hx hb dX5_proof_94 rfl ?_
                  refine lv_iload_n hx hb dX5_proof_96 rfl (lv_at hl 9 rfl) ?_
                  refine ln_imul (n := (j * 6)) hx hb (by omega) dX5_proof_97 ?_
                  refine lv_iload hx hb dX5_proof_98 (lv_at hl 0 rfl) ?_
                  refine ln_iadd (n := (j * 6) + u) hx hb rfl dX5_proof_100 ?_
                  refine ln_ialdN hx hb hK hP 2 0 rfl rfl (by omega) (by decide) dX5_proof_101 ?_
                  refine lv_aload_n hx hb dX5_proof_102 rfl (lv_at hl 8 rfl) ?_
                  refine va_get (D := D) (ci := 5) (v := .ref m10) (C := RX5) (T := TX5) (N := 24) hx hb hts hiX5 hown hK hP 0 rfl rfl 11 (by decide) hf38 (fun _ h9 => h9) rfl dX5_proof_103 ?_
                  refine lv_iload hx hb dX5_proof_106 (lv_at hl 3 rfl) ?_
                  refine ln_ialdN hx hb hK hP 2 0 rfl rfl (by omega) (by decide) dX5_proof_108 ?_
                  refine ln_icmp_lt (tgt := 118) hx hb (by omega) (by omega) dX5_proof_109 (by decide) (fun c109 => ?_) (fun c109 => ?_)
                  · have hch := pf_up hls g3 c109 (by omega) (by omega)
                    refine lv_iload hx hb dX5_proof_118 (lv_at hl 0 rfl) ?_
                    refine ln_if_lt (tgt := 149) hx hb (by omega) dX5_proof_120 (by decide) ?_
                    refine lv_iload_n hx hb dX5_proof_123 rfl (lv_at hl 6 rfl) ?_
                    refine lv_iconst (v := (nI 1)) hx hb dX5_proof_124 rfl ?_
                    refine lv_iload hx hb dX5_proof_125 (lv_at hl 0 rfl) ?_
                    refine lv_ishl hx hb dX5_proof_127 ?_
                    refine lv_ior hx hb dX5_proof_128 ?_
                    refine lv_istore_n (lv' := [(3, .int (ab ||| ((nI 1) <<< ((nI u) &&& 31)))), (9, .int (nI u)), (8, .int (bI is9)), (7, .int (bI sm)), (6, .int (nI ((j * 6) + kk))), (5, .int (nI kk)), (4, .int (bI pv)), (2, .int le), (0, .ref m0), (1, .int (nI j))]) hx hb dX5_proof_129 rfl hl (by decide) rfl (fun ls hl => ?_)
                    refine lv_iload_n hx hb dX5_proof_130 rfl (lv_at hl 7 rfl) ?_
                    refine lv_iload hx hb dX5_proof_131 (lv_at hl 2 rfl) ?_
                    refine lb_if_eq (tgt := 143) hx hb dX5_proof_133 (by decide) (fun c133 => ?_) (fun c133 => ?_)
                    · refine lv_iconst (v := (nI 0)) hx hb dX5_proof_143 rfl ?_
                      refine lv_ior hx hb dX5_proof_144 ?_
                      refine lv_istore_n (lv' := [(2, .int (le ||| (nI 0))), (3, .int (ab ||| ((nI 1) <<< ((nI u) &&& 31)))), (9, .int (nI u)), (8, .int (bI is9)), (7, .int (bI sm)), (6, .int (nI ((j * 6) + kk))), (5, .int (nI kk)), (4, .int (bI pv)), (0, .ref m0), (1, .int (nI j))]) hx hb dX5_proof_145 rfl hl (by decide) rfl (fun ls hl => ?_)
                      refine lv_goto (tgt := 166) hx hb dX5_proof_146 (by decide) ?_
                      refine lv_iinc (v := (nI kk - nI 1)) (lv' := [(5, .int (nI kk - nI 1)), (2, .int (le ||| (nI 0))), (3, .int (ab ||| ((nI 1) <<< ((nI u) &&& 31)))), (9, .int (nI u)), (8, .int (bI is9)), (7, .int (bI sm)), (6, .int (nI ((j * 6) + kk))), (4, .int (bI pv)), (0, .ref m0), (1, .int (nI j))]) hx hb dX5_proof_166 hl (k := 6) rfl (by rw [Int32.sub_eq_add_neg]; rfl) (by decide) rfl (fun ls hl => ?_)
                      refine lv_goto (tgt := 17) hx hb dX5_proof_169 (by decide) ?_
                      exact ih17 kk (nI kk - nI 1) (ab ||| ((nI 1) <<< ((nI u) &&& 31))) (le ||| (nI 0)) pv (va_up v ((j * 6) + kk) is9) (by omega) (by omega) rfl (pk_h3 h3 (by omega) hi9) (pk_h4 h4 (by omega) (by rw [decide_eq_false (ch_pos hch), Bool.and_false, Bool.or_false])) (pf_5B h5 hch (by omega) (by omega)) (pf_6f h6 (by rw [up_s]; exact c133)) _ (lv_sub hl [0, 7, 2, 1, 8, 9] rfl)
                    · refine lv_iconst (v := (nI 1)) hx hb dX5_proof_136 rfl ?_
                      refine lv_iload hx hb dX5_proof_137 (lv_at hl 1 rfl) ?_
                      refine lv_ishl hx hb dX5_proof_139 ?_
                      refine lv_goto (tgt := 144) hx hb dX5_proof_140 (by decide) ?_
                      refine lv_ior hx hb dX5_proof_144 ?_
                      refine lv_istore_n (lv' := [(2, .int (le ||| ((nI 1) <<< ((nI u) &&& 31)))), (3, .int (ab ||| ((nI 1) <<< ((nI u) &&& 31)))), (9, .int (nI u)), (8, .int (bI is9)), (7, .int (bI sm)), (6, .int (nI ((j * 6) + kk))), (5, .int (nI kk)), (4, .int (bI pv)), (0, .ref m0), (1, .int (nI j))]) hx hb dX5_proof_145 rfl hl (by decide) rfl (fun ls hl => ?_)
                      refine lv_goto (tgt := 166) hx hb dX5_proof_146 (by decide) ?_
                      refine lv_iinc (v := (nI kk - nI 1)) (lv' := [(5, .int (nI kk - nI 1)), (2, .int (le ||| ((nI 1) <<< ((nI u) &&& 31)))), (3, .int (ab ||| ((nI 1) <<< ((nI u) &&& 31)))), (9, .int (nI u)), (8, .int (bI is9)), (7, .int (bI sm)), (6, .int (nI ((j * 6) + kk))), (4, .int (bI pv)), (0, .ref m0), (1, .int (nI j))]) hx hb dX5_proof_166 hl (k := 6) rfl (by rw [Int32.sub_eq_add_neg]; rfl) (by decide) rfl (fun ls hl => ?_)
                      refine lv_goto (tgt := 17) hx hb dX5_proof_169 (by decide) ?_
                      exact ih17 kk (nI kk - nI 1) (ab ||| ((nI 1) <<< ((nI u) &&& 31))) (le ||| ((nI 1) <<< ((nI u) &&& 31))) pv (va_up v ((j * 6) + kk) is9) (by omega) (by omega) rfl (pk_h3 h3 (by omega) hi9) (pk_h4 h4 (by omega) (by rw [decide_eq_false (ch_pos hch), Bool.and_false, Bool.or_false])) (pf_5B h5 hch (by omega) (by omega)) (pf_6t h6 hch (by omega) (by omega) (by rw [up_s]; exact c133)) _ (lv_sub hl [0, 7, 2, 1, 8, 9] rfl)
                  · refine lv_iinc (v := (nI u - nI 1)) (lv' := [(9, .int (nI u - nI 1)), (8, .int (bI is9)), (7, .int (bI sm)), (6, .int (nI ((j * 6) + kk))), (5, .int (nI kk)), (4, .int (bI pv)), (3, .int ab), (2, .int le), (0, .ref m0), (1, .int (nI j))]) hx hb dX5_proof_112 hl (k := 0) rfl (by rw [Int32.sub_eq_add_neg]; rfl) (by decide) rfl (fun ls hl => ?_)
                    refine lv_goto (tgt := 85) hx hb dX5_proof_115 (by decide) ?_
                    exact ih85 u (nI u - nI 1) (by omega) (by omega) rfl (fun i a1 a2 => by
              by_cases hiu : i = u
              · subst hiu; omega
              · exact g3 i (by omega) a2) _ (lv_sub hl [0, 1, 2, 3, 4, 5, 6, 7, 8, 9] rfl)
            exact lp85 _ kk (nI kk - nI 1) (Nat.lt_succ_self _) (Nat.le_refl _) rfl (fun i a1 a2 => absurd a2 (by omega)) _ (lv_sub hl [0, 1, 2, 3, 4, 5, 6, 7, 8, 9] rfl)
          have hlb := pf_lb h5 h6
          refine lv_aload_n hx hb dX5_proof_48 rfl (lv_at hl 6 rfl) ?_
          refine lv_iload hx hb dX5_proof_49 (lv_at hl 1 rfl) ?_
          refine rd_V (ci := 5) (q0 := 0) (own := RX5) (As := [.int (nI ((j * 6) + kk))]) (rest := []) (bytes := cX5_holds) (maxL := 4) ⟨hx, hb, hml, hown, hts⟩ (kX5_holds l D y3 m0 m1 m2 m3 m4 m5 m6 m7 m8 m9 m10 m11 m12 m13 m14 m15 m16 m17 m18 nk np nr nl nb zo fo tu wn mk vb ((j * 6) + kk) (by omega) (by omega) (by assumption) (by assumption)) gX5_proof_X5_holds rfl hvX5_holds ⟨Nat.le_of_ble_eq_true rfl, Nat.le_of_ble_eq_true rfl⟩ hP hK [0, 3, 4, 5, 6, 7] rfl rfl rfl hl.1 rfl (Nat.le_of_ble_eq_true rfl) dX5_proof_51 ⟨Nat.zero_le _, Nat.zero_le _⟩ (fun r3 hr3 => ?_)
          subst hr3
          refine lb_if_eq (tgt := 76) hx hb dX5_proof_54 (by decide) (fun c54 => ?_) (fun c54 => ?_)
          · refine lv_iconst (v := (nI 0)) hx hb dX5_proof_76 rfl ?_
            exact jn77 false (by rw [pf_lb h5 h6, ← hs]; first | (rw [c54]; rfl) | (rw [c54, c59]; rfl) | (rw [c54, c59, bt_t (by omega) c69]; rfl) | (rw [c54, c59, bt_f (by omega) c69]; rfl)) _ (lv_sub hl [0, 1, 2, 3, 4, 5, 6, 7] rfl)
          · refine lv_iload hx hb dX5_proof_57 (lv_at hl 0 rfl) ?_
            refine lb_if_eq (tgt := 72) hx hb dX5_proof_59 (by decide) (fun c59 => ?_) (fun c59 => ?_)
            · refine lv_iconst (v := (nI 1)) hx hb dX5_proof_72 rfl ?_
              refine lv_goto (tgt := 77) hx hb dX5_proof_73 (by decide) ?_
              exact jn77 true (by rw [pf_lb h5 h6, ← hs]; first | (rw [c54]; rfl) | (rw [c54, c59]; rfl) | (rw [c54, c59, bt_t (by omega) c69]; rfl) | (rw [c54, c59, bt_f (by omega) c69]; rfl)) _ (lv_sub hl [0, 1, 2, 3, 4, 5, 6, 7] rfl)
            · refine lv_iload_n hx hb dX5_proof_62 rfl (lv_at hl 5 rfl) ?_
              refine lv_iload hx hb dX5_proof_63 (lv_at hl 2 rfl) ?_
              refine lv_ishr hx hb dX5_proof_65 ?_
              refine lv_iconst (v := (nI 1)) hx hb dX5_proof_66 rfl ?_
              refine lv_iand hx hb dX5_proof_67 ?_
              refine lv_iconst (v := (nI 1)) hx hb dX5_proof_68 rfl ?_
              refine lv_icmp_ne (tgt := 76) hx hb dX5_proof_69 (by decide) (fun c69 => ?_) (fun c69 => ?_)
              · refine lv_iconst (v := (nI 0)) hx hb dX5_proof_76 rfl ?_
                exact jn77 false (by rw [pf_lb h5 h6, ← hs]; first | (rw [c54]; rfl) | (rw [c54, c59]; rfl) | (rw [c54, c59, bt_t (by omega) c69]; rfl) | (rw [c54, c59, bt_f (by omega) c69]; rfl)) _ (lv_sub hl [0, 1, 2, 3, 4, 5, 6, 7] rfl)
              · refine lv_iconst (v := (nI 1)) hx hb dX5_proof_72 rfl ?_
                refine lv_goto (tgt := 77) hx hb dX5_proof_73 (by decide) ?_
                exact jn77 true (by rw [pf_lb h5 h6, ← hs]; first | (rw [c54]; rfl) | (rw [c54, c59]; rfl) | (rw [c54, c59, bt_t (by omega) c69]; rfl) | (rw [c54, c59, bt_f (by omega) c69]; rfl)) _ (lv_sub hl [0, 1, 2, 3, 4, 5, 6, 7] rfl)
        refine lv_iload_n hx hb dX5_proof_31 rfl (lv_at hl 3 rfl) ?_
        refine lv_iload hx hb dX5_proof_32 (lv_at hl 1 rfl) ?_
        refine lv_ishr hx hb dX5_proof_34 ?_
        refine lv_iconst (v := (nI 1)) hx hb dX5_proof_35 rfl ?_
        refine lv_iand hx hb dX5_proof_36 ?_
        refine lv_iconst (v := (nI 1)) hx hb dX5_proof_37 rfl ?_
        refine lv_icmp_ne (tgt := 45) hx hb dX5_proof_38 (by decide) (fun c38 => ?_) (fun c38 => ?_)
        · refine lv_iconst (v := (nI 0)) hx hb dX5_proof_45 rfl ?_
          exact jn46 false (by first | exact (bt_t (by omega) c38).symm | exact (bt_f (by omega) c38).symm) _ (lv_sub hl [0, 1, 2, 3, 4, 5, 6] rfl)
        · refine lv_iconst (v := (nI 1)) hx hb dX5_proof_41 rfl ?_
          refine lv_goto (tgt := 46) hx hb dX5_proof_42 (by decide) ?_
          exact jn46 true (by first | exact (bt_t (by omega) c38).symm | exact (bt_f (by omega) c38).symm) _ (lv_sub hl [0, 1, 2, 3, 4, 5, 6] rfl)
  exact lp17 _ (tc j) (nI (tc j) - nI 1) (nI 0) (nI 0) false (fun _ => false) (Nat.lt_succ_self _) (Nat.le_refl _) rfl (fun t a1 a2 => absurd a2 (by omega)) (⟨fun h => absurd h (by decide), fun ⟨t, a1, a2, _⟩ => absurd a2 (by omega)⟩) (fun i hi => ⟨fun h => (by rw [bt_0] at h; cases h), fun ⟨t, a1, a2, _⟩ => absurd a2 (by omega)⟩) (fun i hi => ⟨fun h => (by rw [bt_0] at h; cases h), fun ⟨t, a1, a2, _⟩ => absurd a2 (by omega)⟩) _ (lv_sub hl [0, 1, 2, 3, 4, 5] rfl)

set_option maxHeartbeats 4000000 in
set_option maxRecDepth 100000 in
theorem kX5_proves_ok (l : Launch) (D : va_G) (y3 : ClassId × ClassId × ClassId) (m0 : Nat) (m1 : Nat) (m2 : Nat) (m3 : Nat) (m4 : Nat) (m5 : Nat) (m6 : Nat) (m7 : Nat) (m8 : Nat) (m9 : Nat) (m10 : Nat) (m11 : Nat) (m12 : Nat) (m13 : Nat) (m14 : Nat) (m15 : Nat) (m16 : Nat) (m17 : Nat) (m18 : Nat) (nk : Nat) (np : Nat) (nr : Nat) (nl : Nat) (nb : Nat) (zo : Nat) (tc : Nat → Nat) (lev : Nat → Nat) (fo : Nat → Nat) (tu : Nat → Nat) (wn : Nat → Int32) (mk : Nat → Int32) (vb : Nat → Int32) (k : Int32) (hnr : nr ≤ 12) (hnb : nb ≤ 16) (htc : ∀ q : Nat, tc q ≤ 6) (hlv : ∀ q : Nat, lev q ≤ 5) (hfo : ∀ q : Nat, fo q ≤ 15) (htu : ∀ q : Nat, tu q ≤ 15) (hls : ∀ j : Nat, j < nr → lvS lev (j * 6) ((j * 6) + (tc j))) (hz : (ak1 (inB k nr)) = 0) : wrM l yX5_proves wsX5_proves 2 52 0 0 D y3 [(m0, .inr (5, [.ref m1, .int (nI nk), .ref m2, .ref m3, .ref m4, .ref m5, .ref m6, .int (nI np), .ref m7, .ref m8, .ref m9, .ref m10, .ref m11, .ref m12, .ref m13, .ref m14, .int (nI nr), .ref m15, .int (nI nl), .ref m16, .int (nI nb), .ref m17, .ref m18, .int (nI zo)])), (m9, .inl (y3.1, 12, .inl (fN tc))), (m10, .inl (y3.1, 72, .inl (fN lev))), (m11, .inl (y3.1, 72, .inl (fN fo))), (m12, .inl (y3.1, 72, .inl (fN tu))), (m13, .inl (y3.1, 72, .inl wn)), (m14, .inl (y3.1, 72, .inl mk)), (m16, .inl (y3.1, 16, .inl vb))] [.ref m0, .int k] (fun r (_ : Unit) => r = (bI (prvB lev (hldB vb nb fo tu wn mk) (k.toNatClampNeg * 6) ((k.toNatClampNeg * 6) + (tc k.toNatClampNeg))))) (fun (_ : Unit) => [(m0, .inr (5, [.ref m1, .int (nI nk), .ref m2, .ref m3, .ref m4, .ref m5, .ref m6, .int (nI np), .ref m7, .ref m8, .ref m9, .ref m10, .ref m11, .ref m12, .ref m13, .ref m14, .int (nI nr), .ref m15, .int (nI nl), .ref m16, .int (nI nb), .ref m17, .ref m18, .int (nI 0)])), (m9, .inl (y3.1, 12, .inl (fN tc))), (m10, .inl (y3.1, 72, .inl (fN lev))), (m11, .inl (y3.1, 72, .inl (fN fo))), (m12, .inl (y3.1, 72, .inl (fN tu))), (m13, .inl (y3.1, 72, .inl wn)), (m14, .inl (y3.1, 72, .inl mk)), (m16, .inl (y3.1, 16, .inl vb))]) := by
  refine wz_of (cc := cX5_proves) (maxL := 2) (by decide) rfl (Nat.le_of_ble_eq_true rfl) ?_
  intro p e s m args below meth c A Q hx hb hml hown hts hP hK hD hA hS hret ls hl
  replace hl : lv_has ls 2 [(0, .ref m0), (1, .int k)] := hl
  refine lv_aload_n hx hb dX5_proves_0 rfl (lv_at hl 0 rfl) ?_
  refine lv_aload_n hx hb dX5_proves_1 rfl (lv_at hl 0 rfl) ?_
  refine lv_iload_n hx hb dX5_proves_2 rfl (lv_at hl 1 rfl) ?_
  refine rd_V (ci := 5) (q0 := 0) (own := RX5) (As := [.int k]) (rest := [.ref m0]) (bytes := cX5_isRule) (maxL := 2) ⟨hx, hb, hml, hown, hts⟩ (kX5_isRule l D y3 m0 m1 m2 m3 m4 m5 m6 m7 m8 m9 m10 m11 m12 m13 m14 m15 m16 m17 m18 nk np nr nl nb zo k (by omega)) gX5_proves_X5_isRule rfl hvX5_isRule ⟨Nat.le_of_ble_eq_true rfl, Nat.le_of_ble_eq_true rfl⟩ hP hK [0] rfl rfl rfl hl.1 rfl (Nat.le_of_ble_eq_true rfl) dX5_proves_3 ⟨Nat.le_of_ble_eq_true rfl, Nat.le_of_ble_eq_true rfl⟩ (fun r1 hr1 => ?_)
  subst hr1
  refine wr_V (ci := 5) (q0 := 0) (own := RX5) (As := [.int (bI (inB k nr))]) (rest := []) (bytes := cX5_asked) (maxL := 2) (wr := [(m9, .inl (y3.1, 12, .inl (fN tc))), (m10, .inl (y3.1, 72, .inl (fN lev))), (m11, .inl (y3.1, 72, .inl (fN fo))), (m12, .inl (y3.1, 72, .inl (fN tu))), (m13, .inl (y3.1, 72, .inl wn)), (m14, .inl (y3.1, 72, .inl mk)), (m16, .inl (y3.1, 16, .inl vb))]) (w3 := (fun (_ : Unit) => [(m0, .inr (5, [.ref m1, .int (nI nk), .ref m2, .ref m3, .ref m4, .ref m5, .ref m6, .int (nI np), .ref m7, .ref m8, .ref m9, .ref m10, .ref m11, .ref m12, .ref m13, .ref m14, .int (nI nr), .ref m15, .int (nI nl), .ref m16, .int (nI nb), .ref m17, .ref m18, .int (nI (ak1 (inB k nr)))])), (m9, .inl (y3.1, 12, .inl (fN tc))), (m10, .inl (y3.1, 72, .inl (fN lev))), (m11, .inl (y3.1, 72, .inl (fN fo))), (m12, .inl (y3.1, 72, .inl (fN tu))), (m13, .inl (y3.1, 72, .inl wn)), (m14, .inl (y3.1, 72, .inl mk)), (m16, .inl (y3.1, 16, .inl vb))])) ⟨hx, hb, hml, hown, hts⟩ (kX5_asked l D y3 m0 m1 m2 m3 m4 m5 m6 m7 m8 m9 m10 m11 m12 m13 m14 m15 m16 m17 m18 nk np nr nl nb zo (inB k nr)) gX5_proves_X5_asked rfl hvX5_asked ⟨Nat.le_of_ble_eq_true rfl, Nat.le_of_ble_eq_true rfl⟩ hP hK hD hS hA [0] [1, 2, 3, 4, 5, 6, 7] [7, 0, 1, 2, 3, 4, 5, 6] rfl rfl rfl rfl (by decide) (fun _ => rfl) rfl rfl rfl hl.1 rfl (Nat.le_of_ble_eq_true rfl) dX5_proves_6 ⟨Nat.le_of_ble_eq_true rfl, Nat.le_of_ble_eq_true rfl⟩ (fun r2 u3 H locs hr2 hP hD hS => ?_)
  have hP : va_P D vwCl [(m0, .inr (5, [.ref m1, .int (nI nk), .ref m2, .ref m3, .ref m4, .ref m5, .ref m6, .int (nI np), .ref m7, .ref m8, .ref m9, .ref m10, .ref m11, .ref m12, .ref m13, .ref m14, .int (nI nr), .ref m15, .int (nI nl), .ref m16, .int (nI nb), .ref m17, .ref m18, .int (nI (ak1 (inB k nr)))])), (m9, .inl (y3.1, 12, .inl (fN tc))), (m10, .inl (y3.1, 72, .inl (fN lev))), (m11, .inl (y3.1, 72, .inl (fN fo))), (m12, .inl (y3.1, 72, .inl (fN tu))), (m13, .inl (y3.1, 72, .inl wn)), (m14, .inl (y3.1, 72, .inl mk)), (m16, .inl (y3.1, 16, .inl vb))] H := hP
  have hD : va_D A [(m0, .inr (5, [.ref m1, .int (nI nk), .ref m2, .ref m3, .ref m4, .ref m5, .ref m6, .int (nI np), .ref m7, .ref m8, .ref m9, .ref m10, .ref m11, .ref m12, .ref m13, .ref m14, .int (nI nr), .ref m15, .int (nI nl), .ref m16, .int (nI nb), .ref m17, .ref m18, .int (nI (ak1 (inB k nr)))])), (m9, .inl (y3.1, 12, .inl (fN tc))), (m10, .inl (y3.1, 72, .inl (fN lev))), (m11, .inl (y3.1, 72, .inl (fN fo))), (m12, .inl (y3.1, 72, .inl (fN tu))), (m13, .inl (y3.1, 72, .inl wn)), (m14, .inl (y3.1, 72, .inl mk)), (m16, .inl (y3.1, 16, .inl vb))] := hD
  subst hr2
  refine lb_if_eq (tgt := 24) hx hb dX5_proves_9 (by decide) (fun c9 => ?_) (fun c9 => ?_)
  · rw [ak1_t hz] at c9; cases c9
  · obtain ⟨ek, hkn⟩ := inB_c (ak1_t hz) (by omega)
    refine lv_aload_n hx hb dX5_proves_12 rfl (lv_at hl 0 rfl) ?_
    refine lv_iload_n hx hb dX5_proves_13 rfl (lv_at hl 1 rfl) ?_
    refine ln_eqi (y := (nI k.toNatClampNeg)) ek ?_
    refine rd_V (ci := 5) (q0 := 0) (own := RX5) (As := [.int (nI k.toNatClampNeg)]) (rest := []) (bytes := cX5_proof) (maxL := 10) ⟨hx, hb, hml, hown, hts⟩ (kX5_proof l D y3 m0 m1 m2 m3 m4 m5 m6 m7 m8 m9 m10 m11 m12 m13 m14 m15 m16 m17 m18 nk np nr nl nb (ak1 (inB k nr)) tc lev fo tu wn mk vb k.toNatClampNeg (by omega) (by omega) (by assumption) (by assumption) (by assumption) (by assumption) (hls _ hkn)) gX5_proves_X5_proof rfl hvX5_proof ⟨Nat.le_of_ble_eq_true rfl, Nat.le_of_ble_eq_true rfl⟩ hP hK [0, 1, 2, 3, 4, 5, 6, 7] rfl rfl rfl hl.1 rfl (Nat.le_of_ble_eq_true rfl) dX5_proves_14 ⟨Nat.le_of_ble_eq_true rfl, Nat.le_of_ble_eq_true rfl⟩ (fun r4 hr4 => ?_)
    subst hr4
    refine lb_if_eq (tgt := 24) hx hb dX5_proves_17 (by decide) (fun c17 => ?_) (fun c17 => ?_)
    · refine lv_iconst (v := (nI 0)) hx hb dX5_proves_24 rfl ?_
      rw [show ak1 (inB k nr) = 0 from hz] at hP hD
      exact hret 25 ls H locs _ _ () _ (prvB lev (hldB vb nb fo tu wn mk) (k.toNatClampNeg * 6) ((k.toNatClampNeg * 6) + (tc k.toNatClampNeg))) hP hD hS (Nat.le_of_ble_eq_true rfl) (Nat.le_of_ble_eq_true rfl) (by first | exact bI_t c17 | exact bI_f c17) rfl dX5_proves_25
    · refine lv_iconst (v := (nI 1)) hx hb dX5_proves_20 rfl ?_
      refine lv_goto (tgt := 25) hx hb dX5_proves_21 (by decide) ?_
      rw [show ak1 (inB k nr) = 0 from hz] at hP hD
      exact hret 25 ls H locs _ _ () _ (prvB lev (hldB vb nb fo tu wn mk) (k.toNatClampNeg * 6) ((k.toNatClampNeg * 6) + (tc k.toNatClampNeg))) hP hD hS (Nat.le_of_ble_eq_true rfl) (Nat.le_of_ble_eq_true rfl) (by first | exact bI_t c17 | exact bI_f c17) rfl dX5_proves_25

set_option maxHeartbeats 4000000 in
set_option maxRecDepth 100000 in
theorem kX5_proves_ex (l : Launch) (D : va_G) (y3 : ClassId × ClassId × ClassId) (m0 : Nat) (m1 : Nat) (m2 : Nat) (m3 : Nat) (m4 : Nat) (m5 : Nat) (m6 : Nat) (m7 : Nat) (m8 : Nat) (m9 : Nat) (m10 : Nat) (m11 : Nat) (m12 : Nat) (m13 : Nat) (m14 : Nat) (m15 : Nat) (m16 : Nat) (m17 : Nat) (m18 : Nat) (nk : Nat) (np : Nat) (nr : Nat) (nl : Nat) (nb : Nat) (zo : Nat) (tc : Nat → Nat) (lev : Nat → Nat) (fo : Nat → Nat) (tu : Nat → Nat) (wn : Nat → Int32) (mk : Nat → Int32) (vb : Nat → Int32) (k : Int32) (hnr : nr ≤ 12) (hnb : nb ≤ 16) (htc : ∀ q : Nat, tc q ≤ 6) (hlv : ∀ q : Nat, lev q ≤ 5) (hfo : ∀ q : Nat, fo q ≤ 15) (htu : ∀ q : Nat, tu q ≤ 15) (hls : ∀ j : Nat, j < nr → lvS lev (j * 6) ((j * 6) + (tc j))) (hz : ¬ (ak1 (inB k nr)) = 0) : wrM l yX5_proves wsX5_proves 2 52 0 0 D y3 [(m0, .inr (5, [.ref m1, .int (nI nk), .ref m2, .ref m3, .ref m4, .ref m5, .ref m6, .int (nI np), .ref m7, .ref m8, .ref m9, .ref m10, .ref m11, .ref m12, .ref m13, .ref m14, .int (nI nr), .ref m15, .int (nI nl), .ref m16, .int (nI nb), .ref m17, .ref m18, .int (nI zo)])), (m9, .inl (y3.1, 12, .inl (fN tc))), (m10, .inl (y3.1, 72, .inl (fN lev))), (m11, .inl (y3.1, 72, .inl (fN fo))), (m12, .inl (y3.1, 72, .inl (fN tu))), (m13, .inl (y3.1, 72, .inl wn)), (m14, .inl (y3.1, 72, .inl mk)), (m16, .inl (y3.1, 16, .inl vb))] [.ref m0, .int k] (fun r (_ : Unit) => r = (bI false)) (fun (_ : Unit) => [(m0, .inr (5, [.ref m1, .int (nI nk), .ref m2, .ref m3, .ref m4, .ref m5, .ref m6, .int (nI np), .ref m7, .ref m8, .ref m9, .ref m10, .ref m11, .ref m12, .ref m13, .ref m14, .int (nI nr), .ref m15, .int (nI nl), .ref m16, .int (nI nb), .ref m17, .ref m18, .int (nI (ak1 (inB k nr)))])), (m9, .inl (y3.1, 12, .inl (fN tc))), (m10, .inl (y3.1, 72, .inl (fN lev))), (m11, .inl (y3.1, 72, .inl (fN fo))), (m12, .inl (y3.1, 72, .inl (fN tu))), (m13, .inl (y3.1, 72, .inl wn)), (m14, .inl (y3.1, 72, .inl mk)), (m16, .inl (y3.1, 16, .inl vb))]) := by
  refine wz_of (cc := cX5_proves) (maxL := 2) (by decide) rfl (Nat.le_of_ble_eq_true rfl) ?_
  intro p e s m args below meth c A Q hx hb hml hown hts hP hK hD hA hS hret ls hl
  replace hl : lv_has ls 2 [(0, .ref m0), (1, .int k)] := hl
  refine lv_aload_n hx hb dX5_proves_0 rfl (lv_at hl 0 rfl) ?_
  refine lv_aload_n hx hb dX5_proves_1 rfl (lv_at hl 0 rfl) ?_
  refine lv_iload_n hx hb dX5_proves_2 rfl (lv_at hl 1 rfl) ?_
  refine rd_V (ci := 5) (q0 := 0) (own := RX5) (As := [.int k]) (rest := [.ref m0]) (bytes := cX5_isRule) (maxL := 2) ⟨hx, hb, hml, hown, hts⟩ (kX5_isRule l D y3 m0 m1 m2 m3 m4 m5 m6 m7 m8 m9 m10 m11 m12 m13 m14 m15 m16 m17 m18 nk np nr nl nb zo k (by omega)) gX5_proves_X5_isRule rfl hvX5_isRule ⟨Nat.le_of_ble_eq_true rfl, Nat.le_of_ble_eq_true rfl⟩ hP hK [0] rfl rfl rfl hl.1 rfl (Nat.le_of_ble_eq_true rfl) dX5_proves_3 ⟨Nat.le_of_ble_eq_true rfl, Nat.le_of_ble_eq_true rfl⟩ (fun r1 hr1 => ?_)
  subst hr1
  refine wr_V (ci := 5) (q0 := 0) (own := RX5) (As := [.int (bI (inB k nr))]) (rest := []) (bytes := cX5_asked) (maxL := 2) (wr := [(m9, .inl (y3.1, 12, .inl (fN tc))), (m10, .inl (y3.1, 72, .inl (fN lev))), (m11, .inl (y3.1, 72, .inl (fN fo))), (m12, .inl (y3.1, 72, .inl (fN tu))), (m13, .inl (y3.1, 72, .inl wn)), (m14, .inl (y3.1, 72, .inl mk)), (m16, .inl (y3.1, 16, .inl vb))]) (w3 := (fun (_ : Unit) => [(m0, .inr (5, [.ref m1, .int (nI nk), .ref m2, .ref m3, .ref m4, .ref m5, .ref m6, .int (nI np), .ref m7, .ref m8, .ref m9, .ref m10, .ref m11, .ref m12, .ref m13, .ref m14, .int (nI nr), .ref m15, .int (nI nl), .ref m16, .int (nI nb), .ref m17, .ref m18, .int (nI (ak1 (inB k nr)))])), (m9, .inl (y3.1, 12, .inl (fN tc))), (m10, .inl (y3.1, 72, .inl (fN lev))), (m11, .inl (y3.1, 72, .inl (fN fo))), (m12, .inl (y3.1, 72, .inl (fN tu))), (m13, .inl (y3.1, 72, .inl wn)), (m14, .inl (y3.1, 72, .inl mk)), (m16, .inl (y3.1, 16, .inl vb))])) ⟨hx, hb, hml, hown, hts⟩ (kX5_asked l D y3 m0 m1 m2 m3 m4 m5 m6 m7 m8 m9 m10 m11 m12 m13 m14 m15 m16 m17 m18 nk np nr nl nb zo (inB k nr)) gX5_proves_X5_asked rfl hvX5_asked ⟨Nat.le_of_ble_eq_true rfl, Nat.le_of_ble_eq_true rfl⟩ hP hK hD hS hA [0] [1, 2, 3, 4, 5, 6, 7] [7, 0, 1, 2, 3, 4, 5, 6] rfl rfl rfl rfl (by decide) (fun _ => rfl) rfl rfl rfl hl.1 rfl (Nat.le_of_ble_eq_true rfl) dX5_proves_6 ⟨Nat.le_of_ble_eq_true rfl, Nat.le_of_ble_eq_true rfl⟩ (fun r2 u3 H locs hr2 hP hD hS => ?_)
  have hP : va_P D vwCl [(m0, .inr (5, [.ref m1, .int (nI nk), .ref m2, .ref m3, .ref m4, .ref m5, .ref m6, .int (nI np), .ref m7, .ref m8, .ref m9, .ref m10, .ref m11, .ref m12, .ref m13, .ref m14, .int (nI nr), .ref m15, .int (nI nl), .ref m16, .int (nI nb), .ref m17, .ref m18, .int (nI (ak1 (inB k nr)))])), (m9, .inl (y3.1, 12, .inl (fN tc))), (m10, .inl (y3.1, 72, .inl (fN lev))), (m11, .inl (y3.1, 72, .inl (fN fo))), (m12, .inl (y3.1, 72, .inl (fN tu))), (m13, .inl (y3.1, 72, .inl wn)), (m14, .inl (y3.1, 72, .inl mk)), (m16, .inl (y3.1, 16, .inl vb))] H := hP
  have hD : va_D A [(m0, .inr (5, [.ref m1, .int (nI nk), .ref m2, .ref m3, .ref m4, .ref m5, .ref m6, .int (nI np), .ref m7, .ref m8, .ref m9, .ref m10, .ref m11, .ref m12, .ref m13, .ref m14, .int (nI nr), .ref m15, .int (nI nl), .ref m16, .int (nI nb), .ref m17, .ref m18, .int (nI (ak1 (inB k nr)))])), (m9, .inl (y3.1, 12, .inl (fN tc))), (m10, .inl (y3.1, 72, .inl (fN lev))), (m11, .inl (y3.1, 72, .inl (fN fo))), (m12, .inl (y3.1, 72, .inl (fN tu))), (m13, .inl (y3.1, 72, .inl wn)), (m14, .inl (y3.1, 72, .inl mk)), (m16, .inl (y3.1, 16, .inl vb))] := hD
  subst hr2
  refine lb_if_eq (tgt := 24) hx hb dX5_proves_9 (by decide) (fun c9 => ?_) (fun c9 => ?_)
  · refine lv_iconst (v := (nI 0)) hx hb dX5_proves_24 rfl ?_
    exact hret 25 ls H locs _ _ () _ false hP hD hS (Nat.le_of_ble_eq_true rfl) (Nat.le_of_ble_eq_true rfl) rfl rfl dX5_proves_25
  · rw [ak1_f hz] at c9; cases c9

set_option maxHeartbeats 4000000 in
set_option maxRecDepth 100000 in
theorem kX5_first (l : Launch) (D : va_G) (y3 : ClassId × ClassId × ClassId) (m0 : Nat) (m1 : Nat) (m2 : Nat) (m3 : Nat) (m4 : Nat) (m5 : Nat) (m6 : Nat) (m7 : Nat) (m8 : Nat) (m9 : Nat) (m10 : Nat) (m11 : Nat) (m12 : Nat) (m13 : Nat) (m14 : Nat) (m15 : Nat) (m16 : Nat) (m17 : Nat) (m18 : Nat) (nk : Nat) (np : Nat) (nr : Nat) (nl : Nat) (nb : Nat) (zo : Nat) (par : Nat → Int32) (kp : Nat → Nat) (wt : Nat → Int32) (ln : Nat → Nat) (tk : Nat → Int32) (dr : Nat → Bool) (lt : Nat → Int32) (th : Nat → Bool) (g : Int32) (hnp : np ≤ 20) (hnl : nl ≤ 12) (hk : nk ≤ 14) (hp : parOK par nk) (hkp : ∀ q : Nat, q < np → kp q < nk) (hln : ∀ q : Nat, ln q ≤ 8) (hdr : ∀ q : Nat, q < np → dr q = !th q) : rdM l yX5_first wsX5_first 1 27 D y3 [(m0, .inr (5, [.ref m1, .int (nI nk), .ref m2, .ref m3, .ref m4, .ref m5, .ref m6, .int (nI np), .ref m7, .ref m8, .ref m9, .ref m10, .ref m11, .ref m12, .ref m13, .ref m14, .int (nI nr), .ref m15, .int (nI nl), .ref m16, .int (nI nb), .ref m17, .ref m18, .int (nI zo)])), (m1, .inl (y3.1, 14, .inl par)), (m2, .inl (y3.1, 20, .inl (fN kp))), (m3, .inl (y3.1, 20, .inl wt)), (m4, .inl (y3.1, 20, .inl (fN ln))), (m5, .inl (y3.1, 160, .inl tk)), (m6, .inl (y3.2.1, 20, .inl (fB dr))), (m15, .inl (y3.1, 12, .inl lt))] [.ref m0, .int g] (fun r => r = (oI (bstB (cnP par kp th lt nl tk ln g) (ahP wt ln) np))) := by
  refine rd_of (cc := cX5_first) (maxL := 5) (by decide) rfl (Nat.le_of_ble_eq_true rfl) ?_
  intro p e s m args below meth c Q hx hb hml hown hts hP hK hret ls hl
  replace hl : lv_has ls 5 [(0, .ref m0), (1, .int g)] := hl
  have hf13 := hts (.fieldLink RX5 13 "KindGuesserModel" "patternOf" "[I") (by decide +kernel)
  have hf16 := hts (.fieldLink RX5 16 "KindGuesserModel" "weight" "[I") (by decide +kernel)
  have hf19 := hts (.fieldLink RX5 19 "KindGuesserModel" "tokens" "[I") (by decide +kernel)
  have hf25 := hts (.fieldLink RX5 25 "KindGuesserModel" "dropped" "[Z") (by decide +kernel)
  have hf88 := hts (.fieldLink RX5 88 "KindGuesserModel" "patterns" "I") (by decide +kernel)
  have hiX5 : ∀ q ∈ wsX50, q ∈ wsX5_first := by decide +kernel
  refine lv_iconst (v := (-1)) hx hb dX5_first_0 rfl ?_
  refine lv_istore_n (lv' := [(2, .int (-1)), (0, .ref m0), (1, .int g)]) hx hb dX5_first_1 rfl hl (by decide) rfl (fun ls hl => ?_)
  refine lv_iconst (v := (nI 0)) hx hb dX5_first_2 rfl ?_
  refine lv_istore_n (lv' := [(3, .int (nI 0)), (2, .int (-1)), (0, .ref m0), (1, .int g)]) hx hb dX5_first_3 rfl hl (by decide) rfl (fun ls hl => ?_)
  have lp4 : ∀ (n1 : Nat) (k : Nat) (o : Option Nat), np - k < n1 → (k ≤ np) → (o = bstB (cnP par kp th lt nl tk ln g) (ahP wt ln) k) → ∀ ls : Array Slot, lv_has ls 5 [(3, .int (nI k)), (2, .int (oI o)), (0, .ref m0), (1, .int g)] → W p l e (rmO 1 0 0 27) s m args below meth c s.heap [] 0 0 Q (F0 m 4 ls []) := by
    intro n1
    induction n1 with
    | zero => intro k o hm; exact absurd hm (Nat.not_lt_zero _)
    | succ n1 ih4 =>
      intro k o hm4 h1 h2 ls hl
      have hob : ∀ b, o = some b → b < 2 ^ 31 := fun b hb => by have := (bstB_lt (h2.symm.trans hb)).1; omega
      refine lv_iload_n hx hb dX5_first_4 rfl (lv_at hl 0 rfl) ?_
      refine lv_aload_n hx hb dX5_first_5 rfl (lv_at hl 2 rfl) ?_
      refine va_get (D := D) (ci := 5) (v := .int (nI np)) (C := RX5) (T := TX5) (N := 24) hx hb hts hiX5 hown hK hP 0 rfl rfl 7 (by decide) hf88 (fun _ h9 => h9) rfl dX5_first_6 ?_
      refine ln_icmp_ge (tgt := 122) hx hb (by omega) (by omega) dX5_first_9 (by decide) (fun c9 => ?_) (fun c9 => ?_)
      · refine lv_iload_n hx hb dX5_first_122 rfl (lv_at hl 1 rfl) ?_
        exact hret 123 ls _ (by rw [h2, show k = np from by omega]) dX5_first_123
      · refine lv_aload_n hx hb dX5_first_12 rfl (lv_at hl 2 rfl) ?_
        refine va_get (D := D) (ci := 5) (v := .ref m6) (C := RX5) (T := TX5) (N := 24) hx hb hts hiX5 hown hK hP 0 rfl rfl 6 (by decide) hf25 (fun _ h9 => h9) rfl dX5_first_13 ?_
        refine lv_iload_n hx hb dX5_first_16 rfl (lv_at hl 0 rfl) ?_
        refine ln_zaldB hx hb hK hP 6 1 rfl rfl (by omega) (by decide) dX5_first_17 ?_
        refine lb_if_ne (tgt := 116) hx hb dX5_first_18 (by decide) (fun c18 => ?_) (fun c18 => ?_)
        · refine lv_iinc (v := (nI (k + 1))) (lv' := [(3, .int (nI (k + 1))), (2, .int (oI o)), (0, .ref m0), (1, .int g)]) hx hb dX5_first_116 hl (k := 0) rfl (nI_add _ _) (by decide) rfl (fun ls hl => ?_)
          refine lv_goto (tgt := 4) hx hb dX5_first_119 (by decide) ?_
          exact ih4 (k + 1) o (by omega) (by omega) (bstB_no h2 (by first | exact Or.inl (hb1.symm.trans c107) | exact Or.inr (cnP_n0 (by rw [hdr k (by omega)] at c18; simpa using c18)) | exact Or.inr (cnP_n2 c26) | exact Or.inr (cnP_n1 (isO_n c31 c45)))) _ (lv_sub hl [0, 1, 2, 3] rfl)
        · have hthk : th k = true := by rw [hdr k (by omega)] at c18; simpa using c18
          refine lv_aload_n hx hb dX5_first_21 rfl (lv_at hl 2 rfl) ?_
          refine lv_iload_n hx hb dX5_first_22 rfl (lv_at hl 0 rfl) ?_
          refine rd_V (ci := 5) (q0 := 0) (own := RX5) (As := [.int (nI k)]) (rest := []) (bytes := cX5_fit) (maxL := 8) ⟨hx, hb, hml, hown, hts⟩ (kX5_fit l D y3 m0 m1 m2 m3 m4 m5 m6 m7 m8 m9 m10 m11 m12 m13 m14 m15 m16 m17 m18 nk np nr nl nb zo lt ln tk k (by omega) (by omega) (by assumption)) gX5_first_X5_fit rfl hvX5_fit ⟨Nat.le_of_ble_eq_true rfl, Nat.le_of_ble_eq_true rfl⟩ hP hK [0, 4, 5, 7] rfl rfl rfl hl.1 rfl (Nat.le_of_ble_eq_true rfl) dX5_first_23 ⟨Nat.zero_le _, Nat.zero_le _⟩ (fun r2 hr2 => ?_)
          subst hr2
          refine lb_if_eq (tgt := 116) hx hb dX5_first_26 (by decide) (fun c26 => ?_) (fun c26 => ?_)
          · refine lv_iinc (v := (nI (k + 1))) (lv' := [(3, .int (nI (k + 1))), (2, .int (oI o)), (0, .ref m0), (1, .int g)]) hx hb dX5_first_116 hl (k := 0) rfl (nI_add _ _) (by decide) rfl (fun ls hl => ?_)
            refine lv_goto (tgt := 4) hx hb dX5_first_119 (by decide) ?_
            exact ih4 (k + 1) o (by omega) (by omega) (bstB_no h2 (by first | exact Or.inl (hb1.symm.trans c107) | exact Or.inr (cnP_n0 (by rw [hdr k (by omega)] at c18; simpa using c18)) | exact Or.inr (cnP_n2 c26) | exact Or.inr (cnP_n1 (isO_n c31 c45)))) _ (lv_sub hl [0, 1, 2, 3] rfl)
          · have jn48 : (isO par kp g k = true) → ∀ ls : Array Slot, lv_has ls 5 [(3, .int (nI k)), (2, .int (oI o)), (0, .ref m0), (1, .int g)] → W p l e (rmO 1 0 0 27) s m args below meth c s.heap [] 0 0 Q (F0 m 48 ls []) := by
              intro his ls hl
              refine lv_iload_n hx hb dX5_first_48 rfl (lv_at hl 1 rfl) ?_
              have jn103 : ∀ (b1 : Bool), (b1 = ahO (ahP wt ln) k o) → ∀ ls : Array Slot, lv_has ls 5 [(3, .int (nI k)), (2, .int (oI o)), (0, .ref m0), (1, .int g)] → W p l e (rmO 1 0 0 27) s m args below meth c s.heap [] 0 0 Q (F0 m 103 ls [.int (bI b1)]) := by
                intro b1 hb1 ls hl
                refine lv_istore (lv' := [(4, .int (bI b1)), (3, .int (nI k)), (2, .int (oI o)), (0, .ref m0), (1, .int g)]) hx hb dX5_first_103 hl (by decide) rfl (fun ls hl => ?_)
                refine lv_iload hx hb dX5_first_105 (lv_at hl 0 rfl) ?_
                refine lb_if_eq (tgt := 114) hx hb dX5_first_107 (by decide) (fun c107 => ?_) (fun c107 => ?_)
                · refine lv_iload_n hx hb dX5_first_114 rfl (lv_at hl 2 rfl) ?_
                  refine lv_istore_n (lv' := [(2, .int (oI o)), (4, .int (bI b1)), (3, .int (nI k)), (0, .ref m0), (1, .int g)]) hx hb dX5_first_115 rfl hl (by decide) rfl (fun ls hl => ?_)
                  refine lv_iinc (v := (nI (k + 1))) (lv' := [(3, .int (nI (k + 1))), (2, .int (oI o)), (4, .int (bI b1)), (0, .ref m0), (1, .int g)]) hx hb dX5_first_116 hl (k := 2) rfl (nI_add _ _) (by decide) rfl (fun ls hl => ?_)
                  refine lv_goto (tgt := 4) hx hb dX5_first_119 (by decide) ?_
                  exact ih4 (k + 1) o (by omega) (by omega) (bstB_no h2 (by first | exact Or.inl (hb1.symm.trans c107) | exact Or.inr (cnP_n0 (by rw [hdr k (by omega)] at c18; simpa using c18)) | exact Or.inr (cnP_n2 c26) | exact Or.inr (cnP_n1 (isO_n c31 c45)))) _ (lv_sub hl [0, 1, 3, 4] rfl)
                · refine lv_iload_n hx hb dX5_first_110 rfl (lv_at hl 1 rfl) ?_
                  refine lv_goto (tgt := 115) hx hb dX5_first_111 (by decide) ?_
                  refine lv_istore_n (lv' := [(2, .int (nI k)), (4, .int (bI b1)), (3, .int (nI k)), (0, .ref m0), (1, .int g)]) hx hb dX5_first_115 rfl hl (by decide) rfl (fun ls hl => ?_)
                  refine lv_iinc (v := (nI (k + 1))) (lv' := [(3, .int (nI (k + 1))), (2, .int (nI k)), (4, .int (bI b1)), (0, .ref m0), (1, .int g)]) hx hb dX5_first_116 hl (k := 2) rfl (nI_add _ _) (by decide) rfl (fun ls hl => ?_)
                  refine lv_goto (tgt := 4) hx hb dX5_first_119 (by decide) ?_
                  exact ih4 (k + 1) (some k) (by omega) (by omega) (bstB_yes h2 (hb1.symm.trans c107) (by unfold cnP; rw [hthk, his, c26]; rfl)) _ (lv_sub hl [0, 1, 3, 4] rfl)
              refine lv_iconst (v := (-1)) hx hb dX5_first_49 rfl ?_
              refine lv_icmp_eq (tgt := 98) hx hb dX5_first_50 (by decide) (fun c50 => ?_) (fun c50 => ?_)
              · refine lv_iconst (v := (nI 1)) hx hb dX5_first_98 rfl ?_
                refine lv_goto (tgt := 103) hx hb dX5_first_99 (by decide) ?_
                exact jn103 true (by first | (rw [oI_none hob c50]; rfl) | (rw [eb]; show true = ahP wt ln k b; unfold ahP; rw [if_neg (show ¬ wt k = wt b from fun q => absurd c65 (by rw [q]; exact Int32.not_lt.mpr (Int32.le_refl _))), decide_eq_true c65]) | (rw [eb]; show true = ahP wt ln k b; unfold ahP; rw [if_pos c80, decide_eq_true (by omega)])) _ (lv_sub hl [0, 1, 2, 3] rfl)
              · obtain ⟨b, eb⟩ := oI_some c50
                have hbl := (bstB_lt (h2.symm.trans eb)).1
                have q1 := hln k
                have q2 := hln b
                refine lv_aload_n hx hb dX5_first_53 rfl (lv_at hl 2 rfl) ?_
                refine va_get (D := D) (ci := 5) (v := .ref m3) (C := RX5) (T := TX5) (N := 24) hx hb hts hiX5 hown hK hP 0 rfl rfl 3 (by decide) hf16 (fun _ h9 => h9) rfl dX5_first_54 ?_
                refine lv_iload_n hx hb dX5_first_57 rfl (lv_at hl 0 rfl) ?_
                refine ln_iald hx hb hK hP 3 0 rfl rfl (by omega) (by decide) dX5_first_58 ?_
                refine lv_aload_n hx hb dX5_first_59 rfl (lv_at hl 2 rfl) ?_
                refine va_get (D := D) (ci := 5) (v := .ref m3) (C := RX5) (T := TX5) (N := 24) hx hb hts hiX5 hown hK hP 0 rfl rfl 3 (by decide) hf16 (fun _ h9 => h9) rfl dX5_first_60 ?_
                refine lv_iload_n hx hb dX5_first_63 rfl (lv_at hl 1 rfl) ?_
                refine ln_eqi (y := (nI b)) (by rw [eb]; rfl) ?_
                refine ln_iald hx hb hK hP 3 0 rfl rfl (by omega) (by decide) dX5_first_64 ?_
                refine lv_icmp_gt (tgt := 98) hx hb dX5_first_65 (by decide) (fun c65 => ?_) (fun c65 => ?_)
                · refine lv_iconst (v := (nI 1)) hx hb dX5_first_98 rfl ?_
                  refine lv_goto (tgt := 103) hx hb dX5_first_99 (by decide) ?_
                  exact jn103 true (by first | (rw [oI_none hob c50]; rfl) | (rw [eb]; show true = ahP wt ln k b; unfold ahP; rw [if_neg (show ¬ wt k = wt b from fun q => absurd c65 (by rw [q]; exact Int32.not_lt.mpr (Int32.le_refl _))), decide_eq_true c65]) | (rw [eb]; show true = ahP wt ln k b; unfold ahP; rw [if_pos c80, decide_eq_true (by omega)])) _ (lv_sub hl [0, 1, 2, 3] rfl)
                · refine lv_aload_n hx hb dX5_first_68 rfl (lv_at hl 2 rfl) ?_
                  refine va_get (D := D) (ci := 5) (v := .ref m3) (C := RX5) (T := TX5) (N := 24) hx hb hts hiX5 hown hK hP 0 rfl rfl 3 (by decide) hf16 (fun _ h9 => h9) rfl dX5_first_69 ?_
                  refine lv_iload_n hx hb dX5_first_72 rfl (lv_at hl 0 rfl) ?_
                  refine ln_iald hx hb hK hP 3 0 rfl rfl (by omega) (by decide) dX5_first_73 ?_
                  refine lv_aload_n hx hb dX5_first_74 rfl (lv_at hl 2 rfl) ?_
                  refine va_get (D := D) (ci := 5) (v := .ref m3) (C := RX5) (T := TX5) (N := 24) hx hb hts hiX5 hown hK hP 0 rfl rfl 3 (by decide) hf16 (fun _ h9 => h9) rfl dX5_first_75 ?_
                  refine lv_iload_n hx hb dX5_first_78 rfl (lv_at hl 1 rfl) ?_
                  refine ln_eqi (y := (nI b)) (by rw [eb]; rfl) ?_
                  refine ln_iald hx hb hK hP 3 0 rfl rfl (by omega) (by decide) dX5_first_79 ?_
                  refine lv_icmp_ne (tgt := 102) hx hb dX5_first_80 (by decide) (fun c80 => ?_) (fun c80 => ?_)
                  · refine lv_iconst (v := (nI 0)) hx hb dX5_first_102 rfl ?_
                    exact jn103 false (by rw [eb]; show false = ahP wt ln k b; unfold ahP; first | rw [if_neg c80, decide_eq_false c65] | rw [if_pos c80, decide_eq_false (by omega)]) _ (lv_sub hl [0, 1, 2, 3] rfl)
                  · refine lv_aload_n hx hb dX5_first_83 rfl (lv_at hl 2 rfl) ?_
                    refine va_get (D := D) (ci := 5) (v := .ref m4) (C := RX5) (T := TX5) (N := 24) hx hb hts hiX5 hown hK hP 0 rfl rfl 4 (by decide) hf19 (fun _ h9 => h9) rfl dX5_first_84 ?_
                    refine lv_iload_n hx hb dX5_first_87 rfl (lv_at hl 0 rfl) ?_
                    refine ln_ialdN hx hb hK hP 4 0 rfl rfl (by omega) (by decide) dX5_first_88 ?_
                    refine lv_aload_n hx hb dX5_first_89 rfl (lv_at hl 2 rfl) ?_
                    refine va_get (D := D) (ci := 5) (v := .ref m4) (C := RX5) (T := TX5) (N := 24) hx hb hts hiX5 hown hK hP 0 rfl rfl 4 (by decide) hf19 (fun _ h9 => h9) rfl dX5_first_90 ?_
                    refine lv_iload_n hx hb dX5_first_93 rfl (lv_at hl 1 rfl) ?_
                    refine ln_eqi (y := (nI b)) (by rw [eb]; rfl) ?_
                    refine ln_ialdN hx hb hK hP 4 0 rfl rfl (by omega) (by decide) dX5_first_94 ?_
                    refine ln_icmp_le (tgt := 102) hx hb (by omega) (by omega) dX5_first_95 (by decide) (fun c95 => ?_) (fun c95 => ?_)
                    · refine lv_iconst (v := (nI 0)) hx hb dX5_first_102 rfl ?_
                      exact jn103 false (by rw [eb]; show false = ahP wt ln k b; unfold ahP; first | rw [if_neg c80, decide_eq_false c65] | rw [if_pos c80, decide_eq_false (by omega)]) _ (lv_sub hl [0, 1, 2, 3] rfl)
                    · refine lv_iconst (v := (nI 1)) hx hb dX5_first_98 rfl ?_
                      refine lv_goto (tgt := 103) hx hb dX5_first_99 (by decide) ?_
                      exact jn103 true (by first | (rw [oI_none hob c50]; rfl) | (rw [eb]; show true = ahP wt ln k b; unfold ahP; rw [if_neg (show ¬ wt k = wt b from fun q => absurd c65 (by rw [q]; exact Int32.not_lt.mpr (Int32.le_refl _))), decide_eq_true c65]) | (rw [eb]; show true = ahP wt ln k b; unfold ahP; rw [if_pos c80, decide_eq_true (by omega)])) _ (lv_sub hl [0, 1, 2, 3] rfl)
            refine lv_iload_n hx hb dX5_first_29 rfl (lv_at hl 3 rfl) ?_
            refine lv_iconst (v := (-1)) hx hb dX5_first_30 rfl ?_
            refine lv_icmp_eq (tgt := 48) hx hb dX5_first_31 (by decide) (fun c31 => ?_) (fun c31 => ?_)
            · exact jn48 (by first | exact isO_a c31 | exact isO_b c45) _ (lv_sub hl [0, 1, 2, 3] rfl)
            · refine lv_aload_n hx hb dX5_first_34 rfl (lv_at hl 2 rfl) ?_
              refine lv_aload_n hx hb dX5_first_35 rfl (lv_at hl 2 rfl) ?_
              refine va_get (D := D) (ci := 5) (v := .ref m2) (C := RX5) (T := TX5) (N := 24) hx hb hts hiX5 hown hK hP 0 rfl rfl 2 (by decide) hf13 (fun _ h9 => h9) rfl dX5_first_36 ?_
              refine lv_iload_n hx hb dX5_first_39 rfl (lv_at hl 0 rfl) ?_
              refine ln_ialdN hx hb hK hP 2 0 rfl rfl (by omega) (by decide) dX5_first_40 ?_
              refine lv_iload_n hx hb dX5_first_41 rfl (lv_at hl 3 rfl) ?_
              refine rd_V (ci := 5) (q0 := 0) (own := RX5) (As := [.int (nI (kp k)), .int g]) (rest := []) (bytes := cX5_special) (maxL := 4) ⟨hx, hb, hml, hown, hts⟩ (kX5_special l D y3 m0 m1 m2 m3 m4 m5 m6 m7 m8 m9 m10 m11 m12 m13 m14 m15 m16 m17 m18 nk np nr nl nb zo par (kp k) g (hkp k (by omega)) (by omega) (by assumption) c31) gX5_first_X5_special rfl hvX5_special ⟨Nat.le_of_ble_eq_true rfl, Nat.le_of_ble_eq_true rfl⟩ hP hK [0, 1] rfl rfl rfl hl.1 rfl (Nat.le_of_ble_eq_true rfl) dX5_first_42 ⟨Nat.zero_le _, Nat.zero_le _⟩ (fun r3 hr3 => ?_)
              subst hr3
              refine lb_if_eq (tgt := 116) hx hb dX5_first_45 (by decide) (fun c45 => ?_) (fun c45 => ?_)
              · refine lv_iinc (v := (nI (k + 1))) (lv' := [(3, .int (nI (k + 1))), (2, .int (oI o)), (0, .ref m0), (1, .int g)]) hx hb dX5_first_116 hl (k := 0) rfl (nI_add _ _) (by decide) rfl (fun ls hl => ?_)
                refine lv_goto (tgt := 4) hx hb dX5_first_119 (by decide) ?_
                exact ih4 (k + 1) o (by omega) (by omega) (bstB_no h2 (by first | exact Or.inl (hb1.symm.trans c107) | exact Or.inr (cnP_n0 (by rw [hdr k (by omega)] at c18; simpa using c18)) | exact Or.inr (cnP_n2 c26) | exact Or.inr (cnP_n1 (isO_n c31 c45)))) _ (lv_sub hl [0, 1, 2, 3] rfl)
              · exact jn48 (by first | exact isO_a c31 | exact isO_b c45) _ (lv_sub hl [0, 1, 2, 3] rfl)
  exact lp4 _ 0 none (Nat.lt_succ_self _) (Nat.zero_le _) rfl _ (lv_sub hl [0, 1, 2, 3] rfl)

set_option maxHeartbeats 4000000 in
set_option maxRecDepth 100000 in
theorem kX5_named (l : Launch) (D : va_G) (y3 : ClassId × ClassId × ClassId) (m0 : Nat) (m1 : Nat) (m2 : Nat) (m3 : Nat) (m4 : Nat) (m5 : Nat) (m6 : Nat) (m7 : Nat) (m8 : Nat) (m9 : Nat) (m10 : Nat) (m11 : Nat) (m12 : Nat) (m13 : Nat) (m14 : Nat) (m15 : Nat) (m16 : Nat) (m17 : Nat) (m18 : Nat) (nk : Nat) (np : Nat) (nr : Nat) (nl : Nat) (nb : Nat) (zo : Nat) (par : Nat → Int32) (kp : Nat → Nat) (wt : Nat → Int32) (ln : Nat → Nat) (tk : Nat → Int32) (dr : Nat → Bool) (lt : Nat → Int32) (th : Nat → Bool) (hnp : np ≤ 20) (hnl : nl ≤ 12) (hk : nk ≤ 14) (hp : parOK par nk) (hkp : ∀ q : Nat, q < np → kp q < nk) (hln : ∀ q : Nat, ln q ≤ 8) (hdr : ∀ q : Nat, q < np → dr q = !th q) : rdM l yX5_named wsX5_named 2 51 D y3 [(m0, .inr (5, [.ref m1, .int (nI nk), .ref m2, .ref m3, .ref m4, .ref m5, .ref m6, .int (nI np), .ref m7, .ref m8, .ref m9, .ref m10, .ref m11, .ref m12, .ref m13, .ref m14, .int (nI nr), .ref m15, .int (nI nl), .ref m16, .int (nI nb), .ref m17, .ref m18, .int (nI zo)])), (m1, .inl (y3.1, 14, .inl par)), (m2, .inl (y3.1, 20, .inl (fN kp))), (m3, .inl (y3.1, 20, .inl wt)), (m4, .inl (y3.1, 20, .inl (fN ln))), (m5, .inl (y3.1, 160, .inl tk)), (m6, .inl (y3.2.1, 20, .inl (fB dr))), (m15, .inl (y3.1, 12, .inl lt))] [.ref m0] (fun r => r = (kndO th np kp (oI (bstB (cnP par kp th lt nl tk ln (-1)) (ahP wt ln) np)))) := by
  refine rd_of (cc := cX5_named) (maxL := 2) (by decide) rfl (Nat.le_of_ble_eq_true rfl) ?_
  intro p e s m args below meth c Q hx hb hml hown hts hP hK hret ls hl
  replace hl : lv_has ls 2 [(0, .ref m0)] := hl
  have hf13 := hts (.fieldLink RX5 13 "KindGuesserModel" "patternOf" "[I") (by decide +kernel)
  have hiX5 : ∀ q ∈ wsX50, q ∈ wsX5_named := by decide +kernel
  refine lv_aload_n hx hb dX5_named_0 rfl (lv_at hl 0 rfl) ?_
  refine lv_iconst (v := (-1)) hx hb dX5_named_1 rfl ?_
  refine rd_V (ci := 5) (q0 := 0) (own := RX5) (As := [.int (-1)]) (rest := []) (bytes := cX5_first) (maxL := 5) ⟨hx, hb, hml, hown, hts⟩ (kX5_first l D y3 m0 m1 m2 m3 m4 m5 m6 m7 m8 m9 m10 m11 m12 m13 m14 m15 m16 m17 m18 nk np nr nl nb zo par kp wt ln tk dr lt th (-1) (by omega) (by omega) (by omega) (by assumption) (by assumption) (by assumption) (by assumption)) gX5_named_X5_first rfl hvX5_first ⟨Nat.le_of_ble_eq_true rfl, Nat.le_of_ble_eq_true rfl⟩ hP hK [0, 1, 2, 3, 4, 5, 6, 7] rfl rfl rfl hl.1 rfl (Nat.le_of_ble_eq_true rfl) dX5_named_2 ⟨Nat.zero_le _, Nat.zero_le _⟩ (fun r1 hr1 => ?_)
  subst hr1
  refine lv_istore_n (lv' := [(1, .int (oI (bstB (cnP par kp th lt nl tk ln (-1)) (ahP wt ln) np))), (0, .ref m0)]) hx hb dX5_named_5 rfl hl (by decide) rfl (fun ls hl => ?_)
  refine lv_iload_n hx hb dX5_named_6 rfl (lv_at hl 0 rfl) ?_
  refine lv_iconst (v := (-1)) hx hb dX5_named_7 rfl ?_
  refine lv_icmp_ne (tgt := 15) hx hb dX5_named_8 (by decide) (fun c8 => ?_) (fun c8 => ?_)
  · obtain ⟨b, eb⟩ := oI_some c8
    have hbl := bstB_lt eb
    refine lv_aload_n hx hb dX5_named_15 rfl (lv_at hl 1 rfl) ?_
    refine va_get (D := D) (ci := 5) (v := .ref m2) (C := RX5) (T := TX5) (N := 24) hx hb hts hiX5 hown hK hP 0 rfl rfl 2 (by decide) hf13 (fun _ h9 => h9) rfl dX5_named_16 ?_
    refine lv_iload_n hx hb dX5_named_19 rfl (lv_at hl 0 rfl) ?_
    refine ln_eqi (y := (nI b)) (by rw [eb]; rfl) ?_
    refine ln_ialdN hx hb hK hP 2 0 rfl rfl (by omega) (by decide) dX5_named_20 ?_
    exact hret 21 ls _ (by first | (rw [c8, kndO_m1]; done) | (rw [eb]; exact (kndO_N hbl.1 (by omega)).trans (if_pos (cn_th hbl.2)) |>.symm)) dX5_named_21
  · refine lv_iconst (v := (-1)) hx hb dX5_named_11 rfl ?_
    refine lv_goto (tgt := 21) hx hb dX5_named_12 (by decide) ?_
    exact hret 21 ls _ (by first | (rw [c8, kndO_m1]; done) | (rw [eb]; exact (kndO_N hbl.1 (by omega)).trans (if_pos (cn_th hbl.2)) |>.symm)) dX5_named_21

set_option maxHeartbeats 4000000 in
set_option maxRecDepth 100000 in
theorem kX5_proven (l : Launch) (D : va_G) (y3 : ClassId × ClassId × ClassId) (m0 : Nat) (m1 : Nat) (m2 : Nat) (m3 : Nat) (m4 : Nat) (m5 : Nat) (m6 : Nat) (m7 : Nat) (m8 : Nat) (m9 : Nat) (m10 : Nat) (m11 : Nat) (m12 : Nat) (m13 : Nat) (m14 : Nat) (m15 : Nat) (m16 : Nat) (m17 : Nat) (m18 : Nat) (nk : Nat) (np : Nat) (nr : Nat) (nl : Nat) (nb : Nat) (zo : Nat) (pr : Nat → Int32) (tc : Nat → Nat) (lev : Nat → Nat) (fo : Nat → Nat) (tu : Nat → Nat) (wn : Nat → Int32) (mk : Nat → Int32) (vb : Nat → Int32) (hnr : nr ≤ 12) (hnb : nb ≤ 16) (htc : ∀ q : Nat, tc q ≤ 6) (hlv : ∀ q : Nat, lev q ≤ 5) (hfo : ∀ q : Nat, fo q ≤ 15) (htu : ∀ q : Nat, tu q ≤ 15) (hls : ∀ j : Nat, j < nr → lvS lev (j * 6) ((j * 6) + (tc j))) : rdM l yX5_proven wsX5_proven 2 52 D y3 [(m0, .inr (5, [.ref m1, .int (nI nk), .ref m2, .ref m3, .ref m4, .ref m5, .ref m6, .int (nI np), .ref m7, .ref m8, .ref m9, .ref m10, .ref m11, .ref m12, .ref m13, .ref m14, .int (nI nr), .ref m15, .int (nI nl), .ref m16, .int (nI nb), .ref m17, .ref m18, .int (nI zo)])), (m8, .inl (y3.1, 12, .inl pr)), (m9, .inl (y3.1, 12, .inl (fN tc))), (m10, .inl (y3.1, 72, .inl (fN lev))), (m11, .inl (y3.1, 72, .inl (fN fo))), (m12, .inl (y3.1, 72, .inl (fN tu))), (m13, .inl (y3.1, 72, .inl wn)), (m14, .inl (y3.1, 72, .inl mk)), (m16, .inl (y3.1, 16, .inl vb))] [.ref m0] (fun r => r = (oI (bstB (fun k => prvB lev (hldB vb nb fo tu wn mk) (k * 6) ((k * 6) + (tc k))) (fun k b => decide (pr b < pr k)) nr))) := by
  refine rd_of (cc := cX5_proven) (maxL := 3) (by decide) rfl (Nat.le_of_ble_eq_true rfl) ?_
  intro p e s m args below meth c Q hx hb hml hown hts hP hK hret ls hl
  replace hl : lv_has ls 3 [(0, .ref m0)] := hl
  have hf100 := hts (.fieldLink RX5 100 "KindGuesserModel" "rules" "I") (by decide +kernel)
  have hf32 := hts (.fieldLink RX5 32 "KindGuesserModel" "priority" "[I") (by decide +kernel)
  have hiX5 : ∀ q ∈ wsX50, q ∈ wsX5_proven := by decide +kernel
  refine lv_iconst (v := (-1)) hx hb dX5_proven_0 rfl ?_
  refine lv_istore_n (lv' := [(1, .int (-1)), (0, .ref m0)]) hx hb dX5_proven_1 rfl hl (by decide) rfl (fun ls hl => ?_)
  refine lv_iconst (v := (nI 0)) hx hb dX5_proven_2 rfl ?_
  refine lv_istore_n (lv' := [(2, .int (nI 0)), (1, .int (-1)), (0, .ref m0)]) hx hb dX5_proven_3 rfl hl (by decide) rfl (fun ls hl => ?_)
  have lp4 : ∀ (n1 : Nat) (k : Nat) (o : Option Nat), nr - k < n1 → (k ≤ nr) → (o = bstB (fun k => prvB lev (hldB vb nb fo tu wn mk) (k * 6) ((k * 6) + (tc k))) (fun k b => decide (pr b < pr k)) k) → ∀ ls : Array Slot, lv_has ls 3 [(2, .int (nI k)), (1, .int (oI o)), (0, .ref m0)] → W p l e (rmO 2 0 0 52) s m args below meth c s.heap [] 0 0 Q (F0 m 4 ls []) := by
    intro n1
    induction n1 with
    | zero => intro k o hm; exact absurd hm (Nat.not_lt_zero _)
    | succ n1 ih4 =>
      intro k o hm4 h1 h2 ls hl
      have hob : ∀ b, o = some b → b < 2 ^ 31 := fun b hb => by have := (bstB_lt (h2.symm.trans hb)).1; omega
      refine lv_iload_n hx hb dX5_proven_4 rfl (lv_at hl 0 rfl) ?_
      refine lv_aload_n hx hb dX5_proven_5 rfl (lv_at hl 2 rfl) ?_
      refine va_get (D := D) (ci := 5) (v := .int (nI nr)) (C := RX5) (T := TX5) (N := 24) hx hb hts hiX5 hown hK hP 0 rfl rfl 16 (by decide) hf100 (fun _ h9 => h9) rfl dX5_proven_6 ?_
      refine ln_icmp_ge (tgt := 52) hx hb (by omega) (by omega) dX5_proven_9 (by decide) (fun c9 => ?_) (fun c9 => ?_)
      · refine lv_iload_n hx hb dX5_proven_52 rfl (lv_at hl 1 rfl) ?_
        exact hret 53 ls _ (by rw [h2, show k = nr from by omega]) dX5_proven_53
      · refine lv_aload_n hx hb dX5_proven_12 rfl (lv_at hl 2 rfl) ?_
        refine lv_iload_n hx hb dX5_proven_13 rfl (lv_at hl 0 rfl) ?_
        refine rd_V (ci := 5) (q0 := 0) (own := RX5) (As := [.int (nI k)]) (rest := []) (bytes := cX5_proof) (maxL := 10) ⟨hx, hb, hml, hown, hts⟩ (kX5_proof l D y3 m0 m1 m2 m3 m4 m5 m6 m7 m8 m9 m10 m11 m12 m13 m14 m15 m16 m17 m18 nk np nr nl nb zo tc lev fo tu wn mk vb k (by omega) (by omega) (by assumption) (by assumption) (by assumption) (by assumption) (hls k (by omega))) gX5_proven_X5_proof rfl hvX5_proof ⟨Nat.le_of_ble_eq_true rfl, Nat.le_of_ble_eq_true rfl⟩ hP hK [0, 2, 3, 4, 5, 6, 7, 8] rfl rfl rfl hl.1 rfl (Nat.le_of_ble_eq_true rfl) dX5_proven_14 ⟨Nat.zero_le _, Nat.zero_le _⟩ (fun r2 hr2 => ?_)
        subst hr2
        refine lb_if_eq (tgt := 44) hx hb dX5_proven_17 (by decide) (fun c17 => ?_) (fun c17 => ?_)
        · refine lv_iload_n hx hb dX5_proven_44 rfl (lv_at hl 1 rfl) ?_
          refine lv_istore_n (lv' := [(1, .int (oI o)), (2, .int (nI k)), (0, .ref m0)]) hx hb dX5_proven_45 rfl hl (by decide) rfl (fun ls hl => ?_)
          refine lv_iinc (v := (nI (k + 1))) (lv' := [(2, .int (nI (k + 1))), (1, .int (oI o)), (0, .ref m0)]) hx hb dX5_proven_46 hl (k := 1) rfl (nI_add _ _) (by decide) rfl (fun ls hl => ?_)
          refine lv_goto (tgt := 4) hx hb dX5_proven_49 (by decide) ?_
          exact ih4 (k + 1) o (by omega) (by omega) (bstB_no h2 (by first | exact Or.inr c17 | exact Or.inl (by rw [eb]; exact decide_eq_false (fun h => absurd c37 (Int32.not_le.mpr h))))) _ (lv_sub hl [0, 1, 2] rfl)
        · refine lv_iload_n hx hb dX5_proven_20 rfl (lv_at hl 1 rfl) ?_
          refine lv_iconst (v := (-1)) hx hb dX5_proven_21 rfl ?_
          refine lv_icmp_eq (tgt := 40) hx hb dX5_proven_22 (by decide) (fun c22 => ?_) (fun c22 => ?_)
          · refine lv_iload_n hx hb dX5_proven_40 rfl (lv_at hl 0 rfl) ?_
            refine lv_goto (tgt := 45) hx hb dX5_proven_41 (by decide) ?_
            refine lv_istore_n (lv' := [(1, .int (nI k)), (2, .int (nI k)), (0, .ref m0)]) hx hb dX5_proven_45 rfl hl (by decide) rfl (fun ls hl => ?_)
            refine lv_iinc (v := (nI (k + 1))) (lv' := [(2, .int (nI (k + 1))), (1, .int (nI k)), (0, .ref m0)]) hx hb dX5_proven_46 hl (k := 1) rfl (nI_add _ _) (by decide) rfl (fun ls hl => ?_)
            refine lv_goto (tgt := 4) hx hb dX5_proven_49 (by decide) ?_
            exact ih4 (k + 1) (some k) (by omega) (by omega) (bstB_yes h2 (by first | (rw [oI_none hob c22]; rfl) | (rw [eb]; exact decide_eq_true (Int32.not_le.mp c37))) c17) _ (lv_sub hl [0, 1, 2] rfl)
          · obtain ⟨b, eb⟩ := oI_some c22
            have hbl := (bstB_lt (h2.symm.trans eb)).1
            refine lv_aload_n hx hb dX5_proven_25 rfl (lv_at hl 2 rfl) ?_
            refine va_get (D := D) (ci := 5) (v := .ref m8) (C := RX5) (T := TX5) (N := 24) hx hb hts hiX5 hown hK hP 0 rfl rfl 9 (by decide) hf32 (fun _ h9 => h9) rfl dX5_proven_26 ?_
            refine lv_iload_n hx hb dX5_proven_29 rfl (lv_at hl 0 rfl) ?_
            refine ln_iald hx hb hK hP 1 0 rfl rfl (by omega) (by decide) dX5_proven_30 ?_
            refine lv_aload_n hx hb dX5_proven_31 rfl (lv_at hl 2 rfl) ?_
            refine va_get (D := D) (ci := 5) (v := .ref m8) (C := RX5) (T := TX5) (N := 24) hx hb hts hiX5 hown hK hP 0 rfl rfl 9 (by decide) hf32 (fun _ h9 => h9) rfl dX5_proven_32 ?_
            refine lv_iload_n hx hb dX5_proven_35 rfl (lv_at hl 1 rfl) ?_
            refine ln_eqi (y := (nI b)) (by rw [eb]; rfl) ?_
            refine ln_iald hx hb hK hP 1 0 rfl rfl (by omega) (by decide) dX5_proven_36 ?_
            refine lv_icmp_le (tgt := 44) hx hb dX5_proven_37 (by decide) (fun c37 => ?_) (fun c37 => ?_)
            · refine lv_iload_n hx hb dX5_proven_44 rfl (lv_at hl 1 rfl) ?_
              refine lv_istore_n (lv' := [(1, .int (oI o)), (2, .int (nI k)), (0, .ref m0)]) hx hb dX5_proven_45 rfl hl (by decide) rfl (fun ls hl => ?_)
              refine lv_iinc (v := (nI (k + 1))) (lv' := [(2, .int (nI (k + 1))), (1, .int (oI o)), (0, .ref m0)]) hx hb dX5_proven_46 hl (k := 1) rfl (nI_add _ _) (by decide) rfl (fun ls hl => ?_)
              refine lv_goto (tgt := 4) hx hb dX5_proven_49 (by decide) ?_
              exact ih4 (k + 1) o (by omega) (by omega) (bstB_no h2 (by first | exact Or.inr c17 | exact Or.inl (by rw [eb]; exact decide_eq_false (fun h => absurd c37 (Int32.not_le.mpr h))))) _ (lv_sub hl [0, 1, 2] rfl)
            · refine lv_iload_n hx hb dX5_proven_40 rfl (lv_at hl 0 rfl) ?_
              refine lv_goto (tgt := 45) hx hb dX5_proven_41 (by decide) ?_
              refine lv_istore_n (lv' := [(1, .int (nI k)), (2, .int (nI k)), (0, .ref m0)]) hx hb dX5_proven_45 rfl hl (by decide) rfl (fun ls hl => ?_)
              refine lv_iinc (v := (nI (k + 1))) (lv' := [(2, .int (nI (k + 1))), (1, .int (nI k)), (0, .ref m0)]) hx hb dX5_proven_46 hl (k := 1) rfl (nI_add _ _) (by decide) rfl (fun ls hl => ?_)
              refine lv_goto (tgt := 4) hx hb dX5_proven_49 (by decide) ?_
              exact ih4 (k + 1) (some k) (by omega) (by omega) (bstB_yes h2 (by first | (rw [oI_none hob c22]; rfl) | (rw [eb]; exact decide_eq_true (Int32.not_le.mp c37))) c17) _ (lv_sub hl [0, 1, 2] rfl)
  exact lp4 _ 0 none (Nat.lt_succ_self _) (Nat.zero_le _) rfl _ (lv_sub hl [0, 1, 2] rfl)

set_option maxHeartbeats 4000000 in
set_option maxRecDepth 100000 in
theorem kX5_byName (l : Launch) (D : va_G) (y3 : ClassId × ClassId × ClassId) (m0 : Nat) (m1 : Nat) (m2 : Nat) (m3 : Nat) (m4 : Nat) (m5 : Nat) (m6 : Nat) (m7 : Nat) (m8 : Nat) (m9 : Nat) (m10 : Nat) (m11 : Nat) (m12 : Nat) (m13 : Nat) (m14 : Nat) (m15 : Nat) (m16 : Nat) (m17 : Nat) (m18 : Nat) (nk : Nat) (np : Nat) (nr : Nat) (nl : Nat) (nb : Nat) (zo : Nat) (par : Nat → Int32) (kp : Nat → Nat) (wt : Nat → Int32) (ln : Nat → Nat) (tk : Nat → Int32) (dr : Nat → Bool) (lt : Nat → Int32) (th : Nat → Bool) (hnp : np ≤ 20) (hnl : nl ≤ 12) (hk : nk ≤ 14) (hp : parOK par nk) (hkp : ∀ q : Nat, q < np → kp q < nk) (hln : ∀ q : Nat, ln q ≤ 8) (hdr : ∀ q : Nat, q < np → dr q = !th q) : wrM l yX5_byName wsX5_byName 3 72 0 0 D y3 [(m0, .inr (5, [.ref m1, .int (nI nk), .ref m2, .ref m3, .ref m4, .ref m5, .ref m6, .int (nI np), .ref m7, .ref m8, .ref m9, .ref m10, .ref m11, .ref m12, .ref m13, .ref m14, .int (nI nr), .ref m15, .int (nI nl), .ref m16, .int (nI nb), .ref m17, .ref m18, .int (nI zo)])), (m1, .inl (y3.1, 14, .inl par)), (m2, .inl (y3.1, 20, .inl (fN kp))), (m3, .inl (y3.1, 20, .inl wt)), (m4, .inl (y3.1, 20, .inl (fN ln))), (m5, .inl (y3.1, 160, .inl tk)), (m6, .inl (y3.2.1, 20, .inl (fB dr))), (m15, .inl (y3.1, 12, .inl lt))] [.ref m0] (fun r (_ : Unit) => r = (kndO th np kp (oI (bstB (cnP par kp th lt nl tk ln (-1)) (ahP wt ln) np)))) (fun (_ : Unit) => [(m0, .inr (5, [.ref m1, .int (nI nk), .ref m2, .ref m3, .ref m4, .ref m5, .ref m6, .int (nI np), .ref m7, .ref m8, .ref m9, .ref m10, .ref m11, .ref m12, .ref m13, .ref m14, .int (nI nr), .ref m15, .int (nI nl), .ref m16, .int (nI nb), .ref m17, .ref m18, .int (nI 0)])), (m1, .inl (y3.1, 14, .inl par)), (m2, .inl (y3.1, 20, .inl (fN kp))), (m3, .inl (y3.1, 20, .inl wt)), (m4, .inl (y3.1, 20, .inl (fN ln))), (m5, .inl (y3.1, 160, .inl tk)), (m6, .inl (y3.2.1, 20, .inl (fB dr))), (m15, .inl (y3.1, 12, .inl lt))]) := by
  refine wr_of (cc := cX5_byName) (maxL := 1) (by decide) rfl (Nat.le_of_ble_eq_true rfl) ?_
  intro p e s m args below meth c A Q hx hb hml hown hts hP hK hD hA hS hret ls hl
  replace hl : lv_has ls 1 [(0, .ref m0)] := hl
  refine lv_aload_n hx hb dX5_byName_0 rfl (lv_at hl 0 rfl) ?_
  refine lv_aload_n hx hb dX5_byName_1 rfl (lv_at hl 0 rfl) ?_
  refine rd_V (ci := 5) (q0 := 0) (own := RX5) (As := []) (rest := [.ref m0]) (bytes := cX5_named) (maxL := 2) ⟨hx, hb, hml, hown, hts⟩ (kX5_named l D y3 m0 m1 m2 m3 m4 m5 m6 m7 m8 m9 m10 m11 m12 m13 m14 m15 m16 m17 m18 nk np nr nl nb zo par kp wt ln tk dr lt th (by omega) (by omega) (by omega) (by assumption) (by assumption) (by assumption) (by assumption)) gX5_byName_X5_named rfl hvX5_named ⟨Nat.le_of_ble_eq_true rfl, Nat.le_of_ble_eq_true rfl⟩ hP hK [0, 1, 2, 3, 4, 5, 6, 7] rfl rfl rfl hl.1 rfl (Nat.le_of_ble_eq_true rfl) dX5_byName_2 ⟨Nat.le_of_ble_eq_true rfl, Nat.le_of_ble_eq_true rfl⟩ (fun r1 hr1 => ?_)
  subst hr1
  refine wr_V (ci := 5) (q0 := 0) (own := RX5) (As := [.int (kndO th np kp (oI (bstB (cnP par kp th lt nl tk ln (-1)) (ahP wt ln) np)))]) (rest := []) (bytes := cX5_told) (maxL := 2) (wr := [(m1, .inl (y3.1, 14, .inl par)), (m2, .inl (y3.1, 20, .inl (fN kp))), (m3, .inl (y3.1, 20, .inl wt)), (m4, .inl (y3.1, 20, .inl (fN ln))), (m5, .inl (y3.1, 160, .inl tk)), (m6, .inl (y3.2.1, 20, .inl (fB dr))), (m15, .inl (y3.1, 12, .inl lt))]) (w3 := (fun (_ : Unit) => [(m0, .inr (5, [.ref m1, .int (nI nk), .ref m2, .ref m3, .ref m4, .ref m5, .ref m6, .int (nI np), .ref m7, .ref m8, .ref m9, .ref m10, .ref m11, .ref m12, .ref m13, .ref m14, .int (nI nr), .ref m15, .int (nI nl), .ref m16, .int (nI nb), .ref m17, .ref m18, .int (nI 0)])), (m1, .inl (y3.1, 14, .inl par)), (m2, .inl (y3.1, 20, .inl (fN kp))), (m3, .inl (y3.1, 20, .inl wt)), (m4, .inl (y3.1, 20, .inl (fN ln))), (m5, .inl (y3.1, 160, .inl tk)), (m6, .inl (y3.2.1, 20, .inl (fB dr))), (m15, .inl (y3.1, 12, .inl lt))])) ⟨hx, hb, hml, hown, hts⟩ (kX5_told l D y3 m0 m1 m2 m3 m4 m5 m6 m7 m8 m9 m10 m11 m12 m13 m14 m15 m16 m17 m18 nk np nr nl nb zo (kndO th np kp (oI (bstB (cnP par kp th lt nl tk ln (-1)) (ahP wt ln) np)))) gX5_byName_X5_told rfl hvX5_told ⟨Nat.le_of_ble_eq_true rfl, Nat.le_of_ble_eq_true rfl⟩ hP hK hD hS hA [0] [1, 2, 3, 4, 5, 6, 7] [7, 0, 1, 2, 3, 4, 5, 6] rfl rfl rfl rfl (by decide) (fun _ => rfl) rfl rfl rfl hl.1 rfl (Nat.le_of_ble_eq_true rfl) dX5_byName_5 ⟨Nat.le_of_ble_eq_true rfl, Nat.le_of_ble_eq_true rfl⟩ (fun r2 u3 H locs hr2 hP hD hS => ?_)
  have hP : va_P D vwCl [(m0, .inr (5, [.ref m1, .int (nI nk), .ref m2, .ref m3, .ref m4, .ref m5, .ref m6, .int (nI np), .ref m7, .ref m8, .ref m9, .ref m10, .ref m11, .ref m12, .ref m13, .ref m14, .int (nI nr), .ref m15, .int (nI nl), .ref m16, .int (nI nb), .ref m17, .ref m18, .int (nI 0)])), (m1, .inl (y3.1, 14, .inl par)), (m2, .inl (y3.1, 20, .inl (fN kp))), (m3, .inl (y3.1, 20, .inl wt)), (m4, .inl (y3.1, 20, .inl (fN ln))), (m5, .inl (y3.1, 160, .inl tk)), (m6, .inl (y3.2.1, 20, .inl (fB dr))), (m15, .inl (y3.1, 12, .inl lt))] H := hP
  have hD : va_D A [(m0, .inr (5, [.ref m1, .int (nI nk), .ref m2, .ref m3, .ref m4, .ref m5, .ref m6, .int (nI np), .ref m7, .ref m8, .ref m9, .ref m10, .ref m11, .ref m12, .ref m13, .ref m14, .int (nI nr), .ref m15, .int (nI nl), .ref m16, .int (nI nb), .ref m17, .ref m18, .int (nI 0)])), (m1, .inl (y3.1, 14, .inl par)), (m2, .inl (y3.1, 20, .inl (fN kp))), (m3, .inl (y3.1, 20, .inl wt)), (m4, .inl (y3.1, 20, .inl (fN ln))), (m5, .inl (y3.1, 160, .inl tk)), (m6, .inl (y3.2.1, 20, .inl (fB dr))), (m15, .inl (y3.1, 12, .inl lt))] := hD
  subst hr2
  exact hret 8 ls H locs _ _ () _ hP hD hS (Nat.le_of_ble_eq_true rfl) (Nat.le_of_ble_eq_true rfl) rfl dX5_byName_8

set_option maxHeartbeats 4000000 in
set_option maxRecDepth 100000 in
theorem kX5_byBytes (l : Launch) (D : va_G) (y3 : ClassId × ClassId × ClassId) (m0 : Nat) (m1 : Nat) (m2 : Nat) (m3 : Nat) (m4 : Nat) (m5 : Nat) (m6 : Nat) (m7 : Nat) (m8 : Nat) (m9 : Nat) (m10 : Nat) (m11 : Nat) (m12 : Nat) (m13 : Nat) (m14 : Nat) (m15 : Nat) (m16 : Nat) (m17 : Nat) (m18 : Nat) (nk : Nat) (np : Nat) (nr : Nat) (nl : Nat) (nb : Nat) (zo : Nat) (pr : Nat → Int32) (tc : Nat → Nat) (lev : Nat → Nat) (fo : Nat → Nat) (tu : Nat → Nat) (wn : Nat → Int32) (mk : Nat → Int32) (vb : Nat → Int32) (kr : Nat → Nat) (hnr : nr ≤ 12) (hnb : nb ≤ 16) (htc : ∀ q : Nat, tc q ≤ 6) (hlv : ∀ q : Nat, lev q ≤ 5) (hfo : ∀ q : Nat, fo q ≤ 15) (htu : ∀ q : Nat, tu q ≤ 15) (hls : ∀ j : Nat, j < nr → lvS lev (j * 6) ((j * 6) + (tc j))) : wrM l yX5_byBytes wsX5_byBytes 3 74 0 0 D y3 [(m0, .inr (5, [.ref m1, .int (nI nk), .ref m2, .ref m3, .ref m4, .ref m5, .ref m6, .int (nI np), .ref m7, .ref m8, .ref m9, .ref m10, .ref m11, .ref m12, .ref m13, .ref m14, .int (nI nr), .ref m15, .int (nI nl), .ref m16, .int (nI nb), .ref m17, .ref m18, .int (nI zo)])), (m8, .inl (y3.1, 12, .inl pr)), (m9, .inl (y3.1, 12, .inl (fN tc))), (m10, .inl (y3.1, 72, .inl (fN lev))), (m11, .inl (y3.1, 72, .inl (fN fo))), (m12, .inl (y3.1, 72, .inl (fN tu))), (m13, .inl (y3.1, 72, .inl wn)), (m14, .inl (y3.1, 72, .inl mk)), (m16, .inl (y3.1, 16, .inl vb)), (m7, .inl (y3.1, 12, .inl (fN kr)))] [.ref m0] (fun r (_ : Unit) => r = (kndR nr kr (oI (bstB (fun k => prvB lev (hldB vb nb fo tu wn mk) (k * 6) ((k * 6) + (tc k))) (fun k b => decide (pr b < pr k)) nr)))) (fun (_ : Unit) => [(m0, .inr (5, [.ref m1, .int (nI nk), .ref m2, .ref m3, .ref m4, .ref m5, .ref m6, .int (nI np), .ref m7, .ref m8, .ref m9, .ref m10, .ref m11, .ref m12, .ref m13, .ref m14, .int (nI nr), .ref m15, .int (nI nl), .ref m16, .int (nI nb), .ref m17, .ref m18, .int (nI 0)])), (m8, .inl (y3.1, 12, .inl pr)), (m9, .inl (y3.1, 12, .inl (fN tc))), (m10, .inl (y3.1, 72, .inl (fN lev))), (m11, .inl (y3.1, 72, .inl (fN fo))), (m12, .inl (y3.1, 72, .inl (fN tu))), (m13, .inl (y3.1, 72, .inl wn)), (m14, .inl (y3.1, 72, .inl mk)), (m16, .inl (y3.1, 16, .inl vb)), (m7, .inl (y3.1, 12, .inl (fN kr)))]) := by
  refine wr_of (cc := cX5_byBytes) (maxL := 2) (by decide) rfl (Nat.le_of_ble_eq_true rfl) ?_
  intro p e s m args below meth c A Q hx hb hml hown hts hP hK hD hA hS hret ls hl
  replace hl : lv_has ls 2 [(0, .ref m0)] := hl
  have hf29 := hts (.fieldLink RX5 29 "KindGuesserModel" "ruleOf" "[I") (by decide +kernel)
  have hiX5 : ∀ q ∈ wsX50, q ∈ wsX5_byBytes := by decide +kernel
  refine lv_aload_n hx hb dX5_byBytes_0 rfl (lv_at hl 0 rfl) ?_
  refine rd_V (ci := 5) (q0 := 0) (own := RX5) (As := []) (rest := []) (bytes := cX5_proven) (maxL := 3) ⟨hx, hb, hml, hown, hts⟩ (kX5_proven l D y3 m0 m1 m2 m3 m4 m5 m6 m7 m8 m9 m10 m11 m12 m13 m14 m15 m16 m17 m18 nk np nr nl nb zo pr tc lev fo tu wn mk vb (by omega) (by omega) (by assumption) (by assumption) (by assumption) (by assumption) (by assumption)) gX5_byBytes_X5_proven rfl hvX5_proven ⟨Nat.le_of_ble_eq_true rfl, Nat.le_of_ble_eq_true rfl⟩ hP hK [0, 1, 2, 3, 4, 5, 6, 7, 8] rfl rfl rfl hl.1 rfl (Nat.le_of_ble_eq_true rfl) dX5_byBytes_1 ⟨Nat.le_of_ble_eq_true rfl, Nat.le_of_ble_eq_true rfl⟩ (fun r1 hr1 => ?_)
  subst hr1
  refine lv_istore_n (lv' := [(1, .int (oI (bstB (fun k => prvB lev (hldB vb nb fo tu wn mk) (k * 6) ((k * 6) + (tc k))) (fun k b => decide (pr b < pr k)) nr))), (0, .ref m0)]) hx hb dX5_byBytes_4 rfl hl (by decide) rfl (fun ls hl => ?_)
  refine lv_aload_n hx hb dX5_byBytes_5 rfl (lv_at hl 1 rfl) ?_
  refine lv_iload_n hx hb dX5_byBytes_6 rfl (lv_at hl 0 rfl) ?_
  refine lv_iconst (v := (-1)) hx hb dX5_byBytes_7 rfl ?_
  refine lv_icmp_ne (tgt := 15) hx hb dX5_byBytes_8 (by decide) (fun c8 => ?_) (fun c8 => ?_)
  · obtain ⟨b, eb⟩ := oI_some c8
    have hbl := bstB_lt eb
    refine lv_aload_n hx hb dX5_byBytes_15 rfl (lv_at hl 1 rfl) ?_
    refine va_get (D := D) (ci := 5) (v := .ref m7) (C := RX5) (T := TX5) (N := 24) hx hb hts hiX5 hown hK hP 0 rfl rfl 8 (by decide) hf29 (fun _ h9 => h9) rfl dX5_byBytes_16 ?_
    refine lv_iload_n hx hb dX5_byBytes_19 rfl (lv_at hl 0 rfl) ?_
    refine ln_eqi (y := (nI b)) (by rw [eb]; rfl) ?_
    refine ln_ialdN hx hb hK hP 9 0 rfl rfl (by omega) (by decide) dX5_byBytes_20 ?_
    refine wr_V (ci := 5) (q0 := 0) (own := RX5) (As := [.int (nI (kr b))]) (rest := []) (bytes := cX5_told) (maxL := 2) (wr := [(m8, .inl (y3.1, 12, .inl pr)), (m9, .inl (y3.1, 12, .inl (fN tc))), (m10, .inl (y3.1, 72, .inl (fN lev))), (m11, .inl (y3.1, 72, .inl (fN fo))), (m12, .inl (y3.1, 72, .inl (fN tu))), (m13, .inl (y3.1, 72, .inl wn)), (m14, .inl (y3.1, 72, .inl mk)), (m16, .inl (y3.1, 16, .inl vb)), (m7, .inl (y3.1, 12, .inl (fN kr)))]) (w3 := (fun (_ : Unit) => [(m0, .inr (5, [.ref m1, .int (nI nk), .ref m2, .ref m3, .ref m4, .ref m5, .ref m6, .int (nI np), .ref m7, .ref m8, .ref m9, .ref m10, .ref m11, .ref m12, .ref m13, .ref m14, .int (nI nr), .ref m15, .int (nI nl), .ref m16, .int (nI nb), .ref m17, .ref m18, .int (nI 0)])), (m8, .inl (y3.1, 12, .inl pr)), (m9, .inl (y3.1, 12, .inl (fN tc))), (m10, .inl (y3.1, 72, .inl (fN lev))), (m11, .inl (y3.1, 72, .inl (fN fo))), (m12, .inl (y3.1, 72, .inl (fN tu))), (m13, .inl (y3.1, 72, .inl wn)), (m14, .inl (y3.1, 72, .inl mk)), (m16, .inl (y3.1, 16, .inl vb)), (m7, .inl (y3.1, 12, .inl (fN kr)))])) ⟨hx, hb, hml, hown, hts⟩ (kX5_told l D y3 m0 m1 m2 m3 m4 m5 m6 m7 m8 m9 m10 m11 m12 m13 m14 m15 m16 m17 m18 nk np nr nl nb zo (nI (kr b))) gX5_byBytes_X5_told rfl hvX5_told ⟨Nat.le_of_ble_eq_true rfl, Nat.le_of_ble_eq_true rfl⟩ hP hK hD hS hA [0] [1, 2, 3, 4, 5, 6, 7, 8, 9] [9, 0, 1, 2, 3, 4, 5, 6, 7, 8] rfl rfl rfl rfl (by decide) (fun _ => rfl) rfl rfl rfl hl.1 rfl (Nat.le_of_ble_eq_true rfl) dX5_byBytes_21 ⟨Nat.le_of_ble_eq_true rfl, Nat.le_of_ble_eq_true rfl⟩ (fun r2 u3 H locs hr2 hP hD hS => ?_)
    have hP : va_P D vwCl [(m0, .inr (5, [.ref m1, .int (nI nk), .ref m2, .ref m3, .ref m4, .ref m5, .ref m6, .int (nI np), .ref m7, .ref m8, .ref m9, .ref m10, .ref m11, .ref m12, .ref m13, .ref m14, .int (nI nr), .ref m15, .int (nI nl), .ref m16, .int (nI nb), .ref m17, .ref m18, .int (nI 0)])), (m8, .inl (y3.1, 12, .inl pr)), (m9, .inl (y3.1, 12, .inl (fN tc))), (m10, .inl (y3.1, 72, .inl (fN lev))), (m11, .inl (y3.1, 72, .inl (fN fo))), (m12, .inl (y3.1, 72, .inl (fN tu))), (m13, .inl (y3.1, 72, .inl wn)), (m14, .inl (y3.1, 72, .inl mk)), (m16, .inl (y3.1, 16, .inl vb)), (m7, .inl (y3.1, 12, .inl (fN kr)))] H := hP
    have hD : va_D A [(m0, .inr (5, [.ref m1, .int (nI nk), .ref m2, .ref m3, .ref m4, .ref m5, .ref m6, .int (nI np), .ref m7, .ref m8, .ref m9, .ref m10, .ref m11, .ref m12, .ref m13, .ref m14, .int (nI nr), .ref m15, .int (nI nl), .ref m16, .int (nI nb), .ref m17, .ref m18, .int (nI 0)])), (m8, .inl (y3.1, 12, .inl pr)), (m9, .inl (y3.1, 12, .inl (fN tc))), (m10, .inl (y3.1, 72, .inl (fN lev))), (m11, .inl (y3.1, 72, .inl (fN fo))), (m12, .inl (y3.1, 72, .inl (fN tu))), (m13, .inl (y3.1, 72, .inl wn)), (m14, .inl (y3.1, 72, .inl mk)), (m16, .inl (y3.1, 16, .inl vb)), (m7, .inl (y3.1, 12, .inl (fN kr)))] := hD
    subst hr2
    exact hret 24 ls H locs _ _ () _ hP hD hS (Nat.le_of_ble_eq_true rfl) (Nat.le_of_ble_eq_true rfl) (by first | (rw [c8, kndR_m1]; done) | (rw [eb]; exact (kndR_N hbl.1 (by omega)).symm)) dX5_byBytes_24
  · refine lv_iconst (v := (-1)) hx hb dX5_byBytes_11 rfl ?_
    refine lv_goto (tgt := 21) hx hb dX5_byBytes_12 (by decide) ?_
    refine wr_V (ci := 5) (q0 := 0) (own := RX5) (As := [.int (-1)]) (rest := []) (bytes := cX5_told) (maxL := 2) (wr := [(m8, .inl (y3.1, 12, .inl pr)), (m9, .inl (y3.1, 12, .inl (fN tc))), (m10, .inl (y3.1, 72, .inl (fN lev))), (m11, .inl (y3.1, 72, .inl (fN fo))), (m12, .inl (y3.1, 72, .inl (fN tu))), (m13, .inl (y3.1, 72, .inl wn)), (m14, .inl (y3.1, 72, .inl mk)), (m16, .inl (y3.1, 16, .inl vb)), (m7, .inl (y3.1, 12, .inl (fN kr)))]) (w3 := (fun (_ : Unit) => [(m0, .inr (5, [.ref m1, .int (nI nk), .ref m2, .ref m3, .ref m4, .ref m5, .ref m6, .int (nI np), .ref m7, .ref m8, .ref m9, .ref m10, .ref m11, .ref m12, .ref m13, .ref m14, .int (nI nr), .ref m15, .int (nI nl), .ref m16, .int (nI nb), .ref m17, .ref m18, .int (nI 0)])), (m8, .inl (y3.1, 12, .inl pr)), (m9, .inl (y3.1, 12, .inl (fN tc))), (m10, .inl (y3.1, 72, .inl (fN lev))), (m11, .inl (y3.1, 72, .inl (fN fo))), (m12, .inl (y3.1, 72, .inl (fN tu))), (m13, .inl (y3.1, 72, .inl wn)), (m14, .inl (y3.1, 72, .inl mk)), (m16, .inl (y3.1, 16, .inl vb)), (m7, .inl (y3.1, 12, .inl (fN kr)))])) ⟨hx, hb, hml, hown, hts⟩ (kX5_told l D y3 m0 m1 m2 m3 m4 m5 m6 m7 m8 m9 m10 m11 m12 m13 m14 m15 m16 m17 m18 nk np nr nl nb zo (-1)) gX5_byBytes_X5_told rfl hvX5_told ⟨Nat.le_of_ble_eq_true rfl, Nat.le_of_ble_eq_true rfl⟩ hP hK hD hS hA [0] [1, 2, 3, 4, 5, 6, 7, 8, 9] [9, 0, 1, 2, 3, 4, 5, 6, 7, 8] rfl rfl rfl rfl (by decide) (fun _ => rfl) rfl rfl rfl hl.1 rfl (Nat.le_of_ble_eq_true rfl) dX5_byBytes_21 ⟨Nat.le_of_ble_eq_true rfl, Nat.le_of_ble_eq_true rfl⟩ (fun r4 u5 H locs hr4 hP hD hS => ?_)
    have hP : va_P D vwCl [(m0, .inr (5, [.ref m1, .int (nI nk), .ref m2, .ref m3, .ref m4, .ref m5, .ref m6, .int (nI np), .ref m7, .ref m8, .ref m9, .ref m10, .ref m11, .ref m12, .ref m13, .ref m14, .int (nI nr), .ref m15, .int (nI nl), .ref m16, .int (nI nb), .ref m17, .ref m18, .int (nI 0)])), (m8, .inl (y3.1, 12, .inl pr)), (m9, .inl (y3.1, 12, .inl (fN tc))), (m10, .inl (y3.1, 72, .inl (fN lev))), (m11, .inl (y3.1, 72, .inl (fN fo))), (m12, .inl (y3.1, 72, .inl (fN tu))), (m13, .inl (y3.1, 72, .inl wn)), (m14, .inl (y3.1, 72, .inl mk)), (m16, .inl (y3.1, 16, .inl vb)), (m7, .inl (y3.1, 12, .inl (fN kr)))] H := hP
    have hD : va_D A [(m0, .inr (5, [.ref m1, .int (nI nk), .ref m2, .ref m3, .ref m4, .ref m5, .ref m6, .int (nI np), .ref m7, .ref m8, .ref m9, .ref m10, .ref m11, .ref m12, .ref m13, .ref m14, .int (nI nr), .ref m15, .int (nI nl), .ref m16, .int (nI nb), .ref m17, .ref m18, .int (nI 0)])), (m8, .inl (y3.1, 12, .inl pr)), (m9, .inl (y3.1, 12, .inl (fN tc))), (m10, .inl (y3.1, 72, .inl (fN lev))), (m11, .inl (y3.1, 72, .inl (fN fo))), (m12, .inl (y3.1, 72, .inl (fN tu))), (m13, .inl (y3.1, 72, .inl wn)), (m14, .inl (y3.1, 72, .inl mk)), (m16, .inl (y3.1, 16, .inl vb)), (m7, .inl (y3.1, 12, .inl (fN kr)))] := hD
    subst hr4
    exact hret 24 ls H locs _ _ () _ hP hD hS (Nat.le_of_ble_eq_true rfl) (Nat.le_of_ble_eq_true rfl) (by first | (rw [c8, kndR_m1]; done) | (rw [eb]; exact (kndR_N hbl.1 (by omega)).symm)) dX5_byBytes_24

set_option maxHeartbeats 4000000 in
set_option maxRecDepth 100000 in
theorem kX5_guess (l : Launch) (D : va_G) (y3 : ClassId × ClassId × ClassId) (m0 : Nat) (m1 : Nat) (m2 : Nat) (m3 : Nat) (m4 : Nat) (m5 : Nat) (m6 : Nat) (m7 : Nat) (m8 : Nat) (m9 : Nat) (m10 : Nat) (m11 : Nat) (m12 : Nat) (m13 : Nat) (m14 : Nat) (m15 : Nat) (m16 : Nat) (m17 : Nat) (m18 : Nat) (nk : Nat) (np : Nat) (nr : Nat) (nl : Nat) (nb : Nat) (zo : Nat) (par : Nat → Int32) (kp : Nat → Nat) (wt : Nat → Int32) (ln : Nat → Nat) (tk : Nat → Int32) (dr : Nat → Bool) (lt : Nat → Int32) (th : Nat → Bool) (pr : Nat → Int32) (tc : Nat → Nat) (lev : Nat → Nat) (fo : Nat → Nat) (tu : Nat → Nat) (wn : Nat → Int32) (mk : Nat → Int32) (vb : Nat → Int32) (kr : Nat → Nat) (hnp : np ≤ 20) (hnl : nl ≤ 12) (hk : nk ≤ 14) (hp : parOK par nk) (hkp : ∀ q : Nat, q < np → kp q < nk) (hln : ∀ q : Nat, ln q ≤ 8) (hdr : ∀ q : Nat, q < np → dr q = !th q) (hnr : nr ≤ 12) (hnb : nb ≤ 16) (htc : ∀ q : Nat, tc q ≤ 6) (hlv : ∀ q : Nat, lev q ≤ 5) (hfo : ∀ q : Nat, fo q ≤ 15) (htu : ∀ q : Nat, tu q ≤ 15) (hls : ∀ j : Nat, j < nr → lvS lev (j * 6) ((j * 6) + (tc j))) : wrM l yX5_guess wsX5_guess 3 74 0 0 D y3 [(m0, .inr (5, [.ref m1, .int (nI nk), .ref m2, .ref m3, .ref m4, .ref m5, .ref m6, .int (nI np), .ref m7, .ref m8, .ref m9, .ref m10, .ref m11, .ref m12, .ref m13, .ref m14, .int (nI nr), .ref m15, .int (nI nl), .ref m16, .int (nI nb), .ref m17, .ref m18, .int (nI zo)])), (m1, .inl (y3.1, 14, .inl par)), (m2, .inl (y3.1, 20, .inl (fN kp))), (m3, .inl (y3.1, 20, .inl wt)), (m4, .inl (y3.1, 20, .inl (fN ln))), (m5, .inl (y3.1, 160, .inl tk)), (m6, .inl (y3.2.1, 20, .inl (fB dr))), (m15, .inl (y3.1, 12, .inl lt)), (m8, .inl (y3.1, 12, .inl pr)), (m9, .inl (y3.1, 12, .inl (fN tc))), (m10, .inl (y3.1, 72, .inl (fN lev))), (m11, .inl (y3.1, 72, .inl (fN fo))), (m12, .inl (y3.1, 72, .inl (fN tu))), (m13, .inl (y3.1, 72, .inl wn)), (m14, .inl (y3.1, 72, .inl mk)), (m16, .inl (y3.1, 16, .inl vb)), (m7, .inl (y3.1, 12, .inl (fN kr)))] [.ref m0] (fun r (_ : Unit) => r = (gsO (oI (bstB (fun k => prvB lev (hldB vb nb fo tu wn mk) (k * 6) ((k * 6) + (tc k))) (fun k b => decide (pr b < pr k)) nr)) (oI (bstB (cnP par kp th lt nl tk ln (-1)) (ahP wt ln) np)) (oI (bstB (cnP par kp th lt nl tk ln (kndR nr kr (oI (bstB (fun k => prvB lev (hldB vb nb fo tu wn mk) (k * 6) ((k * 6) + (tc k))) (fun k b => decide (pr b < pr k)) nr)))) (ahP wt ln) np)) (alB (fun i => tbB (vb i)) nb) (stgB nr pr (oI (bstB (fun k => prvB lev (hldB vb nb fo tu wn mk) (k * 6) ((k * 6) + (tc k))) (fun k b => decide (pr b < pr k)) nr))) (kndR nr kr (oI (bstB (fun k => prvB lev (hldB vb nb fo tu wn mk) (k * 6) ((k * 6) + (tc k))) (fun k b => decide (pr b < pr k)) nr))) (kndO th np kp))) (fun (_ : Unit) => [(m0, .inr (5, [.ref m1, .int (nI nk), .ref m2, .ref m3, .ref m4, .ref m5, .ref m6, .int (nI np), .ref m7, .ref m8, .ref m9, .ref m10, .ref m11, .ref m12, .ref m13, .ref m14, .int (nI nr), .ref m15, .int (nI nl), .ref m16, .int (nI nb), .ref m17, .ref m18, .int (nI 0)])), (m1, .inl (y3.1, 14, .inl par)), (m2, .inl (y3.1, 20, .inl (fN kp))), (m3, .inl (y3.1, 20, .inl wt)), (m4, .inl (y3.1, 20, .inl (fN ln))), (m5, .inl (y3.1, 160, .inl tk)), (m6, .inl (y3.2.1, 20, .inl (fB dr))), (m15, .inl (y3.1, 12, .inl lt)), (m8, .inl (y3.1, 12, .inl pr)), (m9, .inl (y3.1, 12, .inl (fN tc))), (m10, .inl (y3.1, 72, .inl (fN lev))), (m11, .inl (y3.1, 72, .inl (fN fo))), (m12, .inl (y3.1, 72, .inl (fN tu))), (m13, .inl (y3.1, 72, .inl wn)), (m14, .inl (y3.1, 72, .inl mk)), (m16, .inl (y3.1, 16, .inl vb)), (m7, .inl (y3.1, 12, .inl (fN kr)))]) := by
  refine wr_of (cc := cX5_guess) (maxL := 5) (by decide) rfl (Nat.le_of_ble_eq_true rfl) ?_
  intro p e s m args below meth c A Q hx hb hml hown hts hP hK hD hA hS hret ls hl
  replace hl : lv_has ls 5 [(0, .ref m0)] := hl
  have hf117 := hts (.fieldLink RX5 117 "KindGuesserModel" "bytes" "I") (by decide +kernel)
  have hf13 := hts (.fieldLink RX5 13 "KindGuesserModel" "patternOf" "[I") (by decide +kernel)
  have hf29 := hts (.fieldLink RX5 29 "KindGuesserModel" "ruleOf" "[I") (by decide +kernel)
  have hf32 := hts (.fieldLink RX5 32 "KindGuesserModel" "priority" "[I") (by decide +kernel)
  have hf56 := hts (.fieldLink RX5 56 "KindGuesserModel" "data" "[I") (by decide +kernel)
  have hf65 := hts (.fieldLink RX5 65 "KindGuesserModel" "thrown" "I") (by decide +kernel)
  have hiX5 : ∀ q ∈ wsX50, q ∈ wsX5_guess := by decide +kernel
  refine lv_aload_n hx hb dX5_guess_0 rfl (lv_at hl 0 rfl) ?_
  refine lv_iconst (v := (nI 0)) hx hb dX5_guess_1 rfl ?_
  refine va_put (D := D) (ci := 5) (v := .int (nI 0)) (ty := .int) (C := RX5) (T := TX5) (N := 24) hx hb hts hiX5 tyX5 tyX5_ok nmX5 hown hK hP hD hS 0 rfl rfl 23 (by decide) hf65 (fun _ h9 => h9) rfl (by decide +kernel) rfl rfl (Nat.le_of_ble_eq_true rfl) dX5_guess_2 (fun H locs hP hD hS => ?_)
  have hP : va_P D vwCl [(m0, .inr (5, [.ref m1, .int (nI nk), .ref m2, .ref m3, .ref m4, .ref m5, .ref m6, .int (nI np), .ref m7, .ref m8, .ref m9, .ref m10, .ref m11, .ref m12, .ref m13, .ref m14, .int (nI nr), .ref m15, .int (nI nl), .ref m16, .int (nI nb), .ref m17, .ref m18, .int (nI 0)])), (m1, .inl (y3.1, 14, .inl par)), (m2, .inl (y3.1, 20, .inl (fN kp))), (m3, .inl (y3.1, 20, .inl wt)), (m4, .inl (y3.1, 20, .inl (fN ln))), (m5, .inl (y3.1, 160, .inl tk)), (m6, .inl (y3.2.1, 20, .inl (fB dr))), (m15, .inl (y3.1, 12, .inl lt)), (m8, .inl (y3.1, 12, .inl pr)), (m9, .inl (y3.1, 12, .inl (fN tc))), (m10, .inl (y3.1, 72, .inl (fN lev))), (m11, .inl (y3.1, 72, .inl (fN fo))), (m12, .inl (y3.1, 72, .inl (fN tu))), (m13, .inl (y3.1, 72, .inl wn)), (m14, .inl (y3.1, 72, .inl mk)), (m16, .inl (y3.1, 16, .inl vb)), (m7, .inl (y3.1, 12, .inl (fN kr)))] H := hP
  have hD : va_D A [(m0, .inr (5, [.ref m1, .int (nI nk), .ref m2, .ref m3, .ref m4, .ref m5, .ref m6, .int (nI np), .ref m7, .ref m8, .ref m9, .ref m10, .ref m11, .ref m12, .ref m13, .ref m14, .int (nI nr), .ref m15, .int (nI nl), .ref m16, .int (nI nb), .ref m17, .ref m18, .int (nI 0)])), (m1, .inl (y3.1, 14, .inl par)), (m2, .inl (y3.1, 20, .inl (fN kp))), (m3, .inl (y3.1, 20, .inl wt)), (m4, .inl (y3.1, 20, .inl (fN ln))), (m5, .inl (y3.1, 160, .inl tk)), (m6, .inl (y3.2.1, 20, .inl (fB dr))), (m15, .inl (y3.1, 12, .inl lt)), (m8, .inl (y3.1, 12, .inl pr)), (m9, .inl (y3.1, 12, .inl (fN tc))), (m10, .inl (y3.1, 72, .inl (fN lev))), (m11, .inl (y3.1, 72, .inl (fN fo))), (m12, .inl (y3.1, 72, .inl (fN tu))), (m13, .inl (y3.1, 72, .inl wn)), (m14, .inl (y3.1, 72, .inl mk)), (m16, .inl (y3.1, 16, .inl vb)), (m7, .inl (y3.1, 12, .inl (fN kr)))] := hD
  refine lv_aload_n hx hb dX5_guess_5 rfl (lv_at hl 0 rfl) ?_
  refine rd_V (ci := 5) (q0 := 0) (own := RX5) (As := []) (rest := []) (bytes := cX5_proven) (maxL := 3) ⟨hx, hb, hml, hown, hts⟩ (kX5_proven l D y3 m0 m1 m2 m3 m4 m5 m6 m7 m8 m9 m10 m11 m12 m13 m14 m15 m16 m17 m18 nk np nr nl nb 0 pr tc lev fo tu wn mk vb (by omega) (by omega) (by assumption) (by assumption) (by assumption) (by assumption) (by assumption)) gX5_guess_X5_proven rfl hvX5_proven ⟨Nat.le_of_ble_eq_true rfl, Nat.le_of_ble_eq_true rfl⟩ hP hK [0, 8, 9, 10, 11, 12, 13, 14, 15] rfl rfl rfl hl.1 rfl (Nat.le_of_ble_eq_true rfl) dX5_guess_6 ⟨Nat.le_of_ble_eq_true rfl, Nat.le_of_ble_eq_true rfl⟩ (fun r1 hr1 => ?_)
  subst hr1
  refine lv_istore_n (lv' := [(1, .int (oI (bstB (fun k => prvB lev (hldB vb nb fo tu wn mk) (k * 6) ((k * 6) + (tc k))) (fun k b => decide (pr b < pr k)) nr))), (0, .ref m0)]) hx hb dX5_guess_9 rfl hl (by decide) rfl (fun ls hl => ?_)
  refine lv_aload_n hx hb dX5_guess_10 rfl (lv_at hl 1 rfl) ?_
  refine rd_V (ci := 5) (q0 := 0) (own := RX5) (As := []) (rest := []) (bytes := cX5_named) (maxL := 2) ⟨hx, hb, hml, hown, hts⟩ (kX5_named l D y3 m0 m1 m2 m3 m4 m5 m6 m7 m8 m9 m10 m11 m12 m13 m14 m15 m16 m17 m18 nk np nr nl nb 0 par kp wt ln tk dr lt th (by omega) (by omega) (by omega) (by assumption) (by assumption) (by assumption) (by assumption)) gX5_guess_X5_named rfl hvX5_named ⟨Nat.le_of_ble_eq_true rfl, Nat.le_of_ble_eq_true rfl⟩ hP hK [0, 1, 2, 3, 4, 5, 6, 7] rfl rfl rfl hl.1 rfl (Nat.le_of_ble_eq_true rfl) dX5_guess_11 ⟨Nat.le_of_ble_eq_true rfl, Nat.le_of_ble_eq_true rfl⟩ (fun r2 hr2 => ?_)
  subst hr2
  refine lv_istore_n (lv' := [(2, .int (kndO th np kp (oI (bstB (cnP par kp th lt nl tk ln (-1)) (ahP wt ln) np)))), (1, .int (oI (bstB (fun k => prvB lev (hldB vb nb fo tu wn mk) (k * 6) ((k * 6) + (tc k))) (fun k b => decide (pr b < pr k)) nr))), (0, .ref m0)]) hx hb dX5_guess_14 rfl hl (by decide) rfl (fun ls hl => ?_)
  refine lv_iload_n hx hb dX5_guess_15 rfl (lv_at hl 1 rfl) ?_
  refine lv_iconst (v := (-1)) hx hb dX5_guess_16 rfl ?_
  refine lv_icmp_eq (tgt := 70) hx hb dX5_guess_17 (by decide) (fun c17 => ?_) (fun c17 => ?_)
  · refine lv_iload_n hx hb dX5_guess_70 rfl (lv_at hl 0 rfl) ?_
    refine lv_iconst (v := (-1)) hx hb dX5_guess_71 rfl ?_
    refine lv_icmp_eq (tgt := 77) hx hb dX5_guess_72 (by decide) (fun c72 => ?_) (fun c72 => ?_)
    · refine lv_iconst (v := (nI 1)) hx hb dX5_guess_77 rfl ?_
      refine lv_istore_n (lv' := [(3, .int (nI 1)), (2, .int (kndO th np kp (oI (bstB (cnP par kp th lt nl tk ln (-1)) (ahP wt ln) np)))), (1, .int (oI (bstB (fun k => prvB lev (hldB vb nb fo tu wn mk) (k * 6) ((k * 6) + (tc k))) (fun k b => decide (pr b < pr k)) nr))), (0, .ref m0)]) hx hb dX5_guess_78 rfl hl (by decide) rfl (fun ls hl => ?_)
      have jn160 : ∀ (tx : Bool), (tx = alB (fun i => tbB (vb i)) nb) → ∀ (H : Heap) (locs : List Loc), va_P D vwCl [(m0, .inr (5, [.ref m1, .int (nI nk), .ref m2, .ref m3, .ref m4, .ref m5, .ref m6, .int (nI np), .ref m7, .ref m8, .ref m9, .ref m10, .ref m11, .ref m12, .ref m13, .ref m14, .int (nI nr), .ref m15, .int (nI nl), .ref m16, .int (nI nb), .ref m17, .ref m18, .int (nI 0)])), (m1, .inl (y3.1, 14, .inl par)), (m2, .inl (y3.1, 20, .inl (fN kp))), (m3, .inl (y3.1, 20, .inl wt)), (m4, .inl (y3.1, 20, .inl (fN ln))), (m5, .inl (y3.1, 160, .inl tk)), (m6, .inl (y3.2.1, 20, .inl (fB dr))), (m15, .inl (y3.1, 12, .inl lt)), (m8, .inl (y3.1, 12, .inl pr)), (m9, .inl (y3.1, 12, .inl (fN tc))), (m10, .inl (y3.1, 72, .inl (fN lev))), (m11, .inl (y3.1, 72, .inl (fN fo))), (m12, .inl (y3.1, 72, .inl (fN tu))), (m13, .inl (y3.1, 72, .inl wn)), (m14, .inl (y3.1, 72, .inl mk)), (m16, .inl (y3.1, 16, .inl vb)), (m7, .inl (y3.1, 12, .inl (fN kr)))] H → va_D A [(m0, .inr (5, [.ref m1, .int (nI nk), .ref m2, .ref m3, .ref m4, .ref m5, .ref m6, .int (nI np), .ref m7, .ref m8, .ref m9, .ref m10, .ref m11, .ref m12, .ref m13, .ref m14, .int (nI nr), .ref m15, .int (nI nl), .ref m16, .int (nI nb), .ref m17, .ref m18, .int (nI 0)])), (m1, .inl (y3.1, 14, .inl par)), (m2, .inl (y3.1, 20, .inl (fN kp))), (m3, .inl (y3.1, 20, .inl wt)), (m4, .inl (y3.1, 20, .inl (fN ln))), (m5, .inl (y3.1, 160, .inl tk)), (m6, .inl (y3.2.1, 20, .inl (fB dr))), (m15, .inl (y3.1, 12, .inl lt)), (m8, .inl (y3.1, 12, .inl pr)), (m9, .inl (y3.1, 12, .inl (fN tc))), (m10, .inl (y3.1, 72, .inl (fN lev))), (m11, .inl (y3.1, 72, .inl (fN fo))), (m12, .inl (y3.1, 72, .inl (fN tu))), (m13, .inl (y3.1, 72, .inl wn)), (m14, .inl (y3.1, 72, .inl mk)), (m16, .inl (y3.1, 16, .inl vb)), (m7, .inl (y3.1, 12, .inl (fN kr)))] → va_S A s.heap H locs → ∀ ls : Array Slot, lv_has ls 5 [(3, .int (bI tx)), (2, .int (kndO th np kp (oI (bstB (cnP par kp th lt nl tk ln (-1)) (ahP wt ln) np)))), (1, .int (oI (bstB (fun k => prvB lev (hldB vb nb fo tu wn mk) (k * 6) ((k * 6) + (tc k))) (fun k b => decide (pr b < pr k)) nr))), (0, .ref m0)] → W p l e (rmO 3 0 0 74) s m args below meth c H locs 0 0 Q (F0 m 160 ls []) := by
        intro tx htx H locs hP hD hS ls hl
        refine lv_iload_n hx hb dX5_guess_160 rfl (lv_at hl 0 rfl) ?_
        refine lb_if_eq (tgt := 168) hx hb dX5_guess_161 (by decide) (fun c161 => ?_) (fun c161 => ?_)
        · refine lv_bipush (v := (-2)) hx hb dX5_guess_168 rfl ?_
          exact hret 170 ls H locs _ _ () _ hP hD hS (Nat.le_of_ble_eq_true rfl) (Nat.le_of_ble_eq_true rfl) (by unfold gsO; rw [if_pos c17, if_pos (gs_f hnp hk hkp c72)]; first | rw [← htx, if_pos c161] | rw [← htx, if_neg (by rw [c161]; decide)]) dX5_guess_170
        · refine lv_iconst (v := (-1)) hx hb dX5_guess_164 rfl ?_
          refine lv_goto (tgt := 170) hx hb dX5_guess_165 (by decide) ?_
          exact hret 170 ls H locs _ _ () _ hP hD hS (Nat.le_of_ble_eq_true rfl) (Nat.le_of_ble_eq_true rfl) (by unfold gsO; rw [if_pos c17, if_pos (gs_f hnp hk hkp c72)]; first | rw [← htx, if_pos c161] | rw [← htx, if_neg (by rw [c161]; decide)]) dX5_guess_170
      refine lv_iconst (v := (nI 0)) hx hb dX5_guess_79 rfl ?_
      refine lv_istore (lv' := [(4, .int (nI 0)), (3, .int (nI 1)), (2, .int (kndO th np kp (oI (bstB (cnP par kp th lt nl tk ln (-1)) (ahP wt ln) np)))), (1, .int (oI (bstB (fun k => prvB lev (hldB vb nb fo tu wn mk) (k * 6) ((k * 6) + (tc k))) (fun k b => decide (pr b < pr k)) nr))), (0, .ref m0)]) hx hb dX5_guess_80 hl (by decide) rfl (fun ls hl => ?_)
      have lp82 : ∀ (n3 : Nat) (i9 : Nat) (tx9 : Bool), nb - i9 < n3 → (i9 ≤ nb) → (tx9 = alB (fun i => tbB (vb i)) i9) → ∀ (H : Heap) (locs : List Loc), va_P D vwCl [(m0, .inr (5, [.ref m1, .int (nI nk), .ref m2, .ref m3, .ref m4, .ref m5, .ref m6, .int (nI np), .ref m7, .ref m8, .ref m9, .ref m10, .ref m11, .ref m12, .ref m13, .ref m14, .int (nI nr), .ref m15, .int (nI nl), .ref m16, .int (nI nb), .ref m17, .ref m18, .int (nI 0)])), (m1, .inl (y3.1, 14, .inl par)), (m2, .inl (y3.1, 20, .inl (fN kp))), (m3, .inl (y3.1, 20, .inl wt)), (m4, .inl (y3.1, 20, .inl (fN ln))), (m5, .inl (y3.1, 160, .inl tk)), (m6, .inl (y3.2.1, 20, .inl (fB dr))), (m15, .inl (y3.1, 12, .inl lt)), (m8, .inl (y3.1, 12, .inl pr)), (m9, .inl (y3.1, 12, .inl (fN tc))), (m10, .inl (y3.1, 72, .inl (fN lev))), (m11, .inl (y3.1, 72, .inl (fN fo))), (m12, .inl (y3.1, 72, .inl (fN tu))), (m13, .inl (y3.1, 72, .inl wn)), (m14, .inl (y3.1, 72, .inl mk)), (m16, .inl (y3.1, 16, .inl vb)), (m7, .inl (y3.1, 12, .inl (fN kr)))] H → va_D A [(m0, .inr (5, [.ref m1, .int (nI nk), .ref m2, .ref m3, .ref m4, .ref m5, .ref m6, .int (nI np), .ref m7, .ref m8, .ref m9, .ref m10, .ref m11, .ref m12, .ref m13, .ref m14, .int (nI nr), .ref m15, .int (nI nl), .ref m16, .int (nI nb), .ref m17, .ref m18, .int (nI 0)])), (m1, .inl (y3.1, 14, .inl par)), (m2, .inl (y3.1, 20, .inl (fN kp))), (m3, .inl (y3.1, 20, .inl wt)), (m4, .inl (y3.1, 20, .inl (fN ln))), (m5, .inl (y3.1, 160, .inl tk)), (m6, .inl (y3.2.1, 20, .inl (fB dr))), (m15, .inl (y3.1, 12, .inl lt)), (m8, .inl (y3.1, 12, .inl pr)), (m9, .inl (y3.1, 12, .inl (fN tc))), (m10, .inl (y3.1, 72, .inl (fN lev))), (m11, .inl (y3.1, 72, .inl (fN fo))), (m12, .inl (y3.1, 72, .inl (fN tu))), (m13, .inl (y3.1, 72, .inl wn)), (m14, .inl (y3.1, 72, .inl mk)), (m16, .inl (y3.1, 16, .inl vb)), (m7, .inl (y3.1, 12, .inl (fN kr)))] → va_S A s.heap H locs → ∀ ls : Array Slot, lv_has ls 5 [(4, .int (nI i9)), (3, .int (bI tx9)), (2, .int (kndO th np kp (oI (bstB (cnP par kp th lt nl tk ln (-1)) (ahP wt ln) np)))), (1, .int (oI (bstB (fun k => prvB lev (hldB vb nb fo tu wn mk) (k * 6) ((k * 6) + (tc k))) (fun k b => decide (pr b < pr k)) nr))), (0, .ref m0)] → W p l e (rmO 3 0 0 74) s m args below meth c H locs 0 0 Q (F0 m 82 ls []) := by
        intro n3
        induction n3 with
        | zero => intro i9 tx9 hm; exact absurd hm (Nat.not_lt_zero _)
        | succ n3 ih82 =>
          intro i9 tx9 hm82 h7 h8 H locs hP hD hS ls hl
          refine lv_iload hx hb dX5_guess_82 (lv_at hl 0 rfl) ?_
          refine lv_aload_n hx hb dX5_guess_84 rfl (lv_at hl 4 rfl) ?_
          refine va_get (D := D) (ci := 5) (v := .int (nI nb)) (C := RX5) (T := TX5) (N := 24) hx hb hts hiX5 hown hK hP 0 rfl rfl 20 (by decide) hf117 (fun _ h9 => h9) rfl dX5_guess_85 ?_
          refine ln_icmp_ge (tgt := 160) hx hb (by omega) (by omega) dX5_guess_88 (by decide) (fun c88 => ?_) (fun c88 => ?_)
          · exact jn160 tx9 (by rw [show nb = i9 from by omega]; exact h8) _ _ hP hD hS _ (lv_sub hl [1, 2, 3, 4] rfl)
          · have jn153 : ∀ (t2 : Bool), (t2 = (alB (fun i => tbB (vb i)) i9 && tbB (vb i9))) → ∀ (H : Heap) (locs : List Loc), va_P D vwCl [(m0, .inr (5, [.ref m1, .int (nI nk), .ref m2, .ref m3, .ref m4, .ref m5, .ref m6, .int (nI np), .ref m7, .ref m8, .ref m9, .ref m10, .ref m11, .ref m12, .ref m13, .ref m14, .int (nI nr), .ref m15, .int (nI nl), .ref m16, .int (nI nb), .ref m17, .ref m18, .int (nI 0)])), (m1, .inl (y3.1, 14, .inl par)), (m2, .inl (y3.1, 20, .inl (fN kp))), (m3, .inl (y3.1, 20, .inl wt)), (m4, .inl (y3.1, 20, .inl (fN ln))), (m5, .inl (y3.1, 160, .inl tk)), (m6, .inl (y3.2.1, 20, .inl (fB dr))), (m15, .inl (y3.1, 12, .inl lt)), (m8, .inl (y3.1, 12, .inl pr)), (m9, .inl (y3.1, 12, .inl (fN tc))), (m10, .inl (y3.1, 72, .inl (fN lev))), (m11, .inl (y3.1, 72, .inl (fN fo))), (m12, .inl (y3.1, 72, .inl (fN tu))), (m13, .inl (y3.1, 72, .inl wn)), (m14, .inl (y3.1, 72, .inl mk)), (m16, .inl (y3.1, 16, .inl vb)), (m7, .inl (y3.1, 12, .inl (fN kr)))] H → va_D A [(m0, .inr (5, [.ref m1, .int (nI nk), .ref m2, .ref m3, .ref m4, .ref m5, .ref m6, .int (nI np), .ref m7, .ref m8, .ref m9, .ref m10, .ref m11, .ref m12, .ref m13, .ref m14, .int (nI nr), .ref m15, .int (nI nl), .ref m16, .int (nI nb), .ref m17, .ref m18, .int (nI 0)])), (m1, .inl (y3.1, 14, .inl par)), (m2, .inl (y3.1, 20, .inl (fN kp))), (m3, .inl (y3.1, 20, .inl wt)), (m4, .inl (y3.1, 20, .inl (fN ln))), (m5, .inl (y3.1, 160, .inl tk)), (m6, .inl (y3.2.1, 20, .inl (fB dr))), (m15, .inl (y3.1, 12, .inl lt)), (m8, .inl (y3.1, 12, .inl pr)), (m9, .inl (y3.1, 12, .inl (fN tc))), (m10, .inl (y3.1, 72, .inl (fN lev))), (m11, .inl (y3.1, 72, .inl (fN fo))), (m12, .inl (y3.1, 72, .inl (fN tu))), (m13, .inl (y3.1, 72, .inl wn)), (m14, .inl (y3.1, 72, .inl mk)), (m16, .inl (y3.1, 16, .inl vb)), (m7, .inl (y3.1, 12, .inl (fN kr)))] → va_S A s.heap H locs → ∀ ls : Array Slot, lv_has ls 5 [(4, .int (nI i9)), (3, .int (bI tx9)), (2, .int (kndO th np kp (oI (bstB (cnP par kp th lt nl tk ln (-1)) (ahP wt ln) np)))), (1, .int (oI (bstB (fun k => prvB lev (hldB vb nb fo tu wn mk) (k * 6) ((k * 6) + (tc k))) (fun k b => decide (pr b < pr k)) nr))), (0, .ref m0)] → W p l e (rmO 3 0 0 74) s m args below meth c H locs 0 0 Q (F0 m 153 ls [.int (bI t2)]) := by
              intro t2 ht2 H locs hP hD hS ls hl
              refine lv_istore_n (lv' := [(3, .int (bI t2)), (4, .int (nI i9)), (2, .int (kndO th np kp (oI (bstB (cnP par kp th lt nl tk ln (-1)) (ahP wt ln) np)))), (1, .int (oI (bstB (fun k => prvB lev (hldB vb nb fo tu wn mk) (k * 6) ((k * 6) + (tc k))) (fun k b => decide (pr b < pr k)) nr))), (0, .ref m0)]) hx hb dX5_guess_153 rfl hl (by decide) rfl (fun ls hl => ?_)
              refine lv_iinc (v := (nI (i9 + 1))) (lv' := [(4, .int (nI (i9 + 1))), (3, .int (bI t2)), (2, .int (kndO th np kp (oI (bstB (cnP par kp th lt nl tk ln (-1)) (ahP wt ln) np)))), (1, .int (oI (bstB (fun k => prvB lev (hldB vb nb fo tu wn mk) (k * 6) ((k * 6) + (tc k))) (fun k b => decide (pr b < pr k)) nr))), (0, .ref m0)]) hx hb dX5_guess_154 hl (k := 1) rfl (nI_add _ _) (by decide) rfl (fun ls hl => ?_)
              refine lv_goto (tgt := 82) hx hb dX5_guess_157 (by decide) ?_
              exact ih82 (i9 + 1) t2 (by omega) (by omega) ht2 _ _ hP hD hS _ (lv_sub hl [0, 1, 2, 3, 4] rfl)
            refine lv_iload_n hx hb dX5_guess_91 rfl (lv_at hl 1 rfl) ?_
            refine lb_if_eq (tgt := 152) hx hb dX5_guess_92 (by decide) (fun c92 => ?_) (fun c92 => ?_)
            · refine lv_iconst (v := (nI 0)) hx hb dX5_guess_152 rfl ?_
              exact jn153 false (by rw [← h8]; first | (rw [c92]; rfl) | (rw [c92, tbB_i c109]; rfl) | (rw [c92, tbB_e (Or.inl c121)]; rfl) | (rw [c92, tbB_e (Or.inr (Or.inl c133))]; rfl) | (rw [c92, tbB_e (Or.inr (Or.inr c145))]; rfl) | (rw [c92, tbB_n c109 c121 c133 c145]; rfl)) _ _ hP hD hS _ (lv_sub hl [0, 1, 2, 3, 4] rfl)
            · refine lv_aload_n hx hb dX5_guess_95 rfl (lv_at hl 4 rfl) ?_
              refine va_get (D := D) (ci := 5) (v := .ref m16) (C := RX5) (T := TX5) (N := 24) hx hb hts hiX5 hown hK hP 0 rfl rfl 19 (by decide) hf56 (fun _ h9 => h9) rfl dX5_guess_96 ?_
              refine lv_iload hx hb dX5_guess_99 (lv_at hl 0 rfl) ?_
              refine ln_iald hx hb hK hP 15 0 rfl rfl (by omega) (by decide) dX5_guess_101 ?_
              refine lv_bipush (v := (nI 32)) hx hb dX5_guess_102 rfl ?_
              refine lv_bipush (v := (nI 126)) hx hb dX5_guess_104 rfl ?_
              refine rd_S (own := RX5) (As := [.int (vb i9), .int (nI 32), .int (nI 126)]) (rest := []) (bytes := cX5_in) (maxL := 3) ⟨hx, hb, hml, hown, hts⟩ (kX5_in l D y3 (vb i9) (nI 32) (nI 126)) gX5_guess_X5_in rfl hvX5_in ⟨Nat.le_of_ble_eq_true rfl, Nat.le_of_ble_eq_true rfl⟩ hP hK [] rfl  hl.1 rfl (Nat.le_of_ble_eq_true rfl) dX5_guess_106 ⟨Nat.le_of_ble_eq_true rfl, Nat.le_of_ble_eq_true rfl⟩ (fun r4 hr4 => ?_)
              subst hr4
              refine lb_if_ne (tgt := 148) hx hb dX5_guess_109 (by decide) (fun c109 => ?_) (fun c109 => ?_)
              · refine lv_iconst (v := (nI 1)) hx hb dX5_guess_148 rfl ?_
                refine lv_goto (tgt := 153) hx hb dX5_guess_149 (by decide) ?_
                exact jn153 true (by rw [← h8]; first | (rw [c92]; rfl) | (rw [c92, tbB_i c109]; rfl) | (rw [c92, tbB_e (Or.inl c121)]; rfl) | (rw [c92, tbB_e (Or.inr (Or.inl c133))]; rfl) | (rw [c92, tbB_e (Or.inr (Or.inr c145))]; rfl) | (rw [c92, tbB_n c109 c121 c133 c145]; rfl)) _ _ hP hD hS _ (lv_sub hl [0, 1, 2, 3, 4] rfl)
              · refine lv_aload_n hx hb dX5_guess_112 rfl (lv_at hl 4 rfl) ?_
                refine va_get (D := D) (ci := 5) (v := .ref m16) (C := RX5) (T := TX5) (N := 24) hx hb hts hiX5 hown hK hP 0 rfl rfl 19 (by decide) hf56 (fun _ h9 => h9) rfl dX5_guess_113 ?_
                refine lv_iload hx hb dX5_guess_116 (lv_at hl 0 rfl) ?_
                refine ln_iald hx hb hK hP 15 0 rfl rfl (by omega) (by decide) dX5_guess_118 ?_
                refine lv_bipush (v := (nI 9)) hx hb dX5_guess_119 rfl ?_
                refine lv_icmp_eq (tgt := 148) hx hb dX5_guess_121 (by decide) (fun c121 => ?_) (fun c121 => ?_)
                · refine lv_iconst (v := (nI 1)) hx hb dX5_guess_148 rfl ?_
                  refine lv_goto (tgt := 153) hx hb dX5_guess_149 (by decide) ?_
                  exact jn153 true (by rw [← h8]; first | (rw [c92]; rfl) | (rw [c92, tbB_i c109]; rfl) | (rw [c92, tbB_e (Or.inl c121)]; rfl) | (rw [c92, tbB_e (Or.inr (Or.inl c133))]; rfl) | (rw [c92, tbB_e (Or.inr (Or.inr c145))]; rfl) | (rw [c92, tbB_n c109 c121 c133 c145]; rfl)) _ _ hP hD hS _ (lv_sub hl [0, 1, 2, 3, 4] rfl)
                · refine lv_aload_n hx hb dX5_guess_124 rfl (lv_at hl 4 rfl) ?_
                  refine va_get (D := D) (ci := 5) (v := .ref m16) (C := RX5) (T := TX5) (N := 24) hx hb hts hiX5 hown hK hP 0 rfl rfl 19 (by decide) hf56 (fun _ h9 => h9) rfl dX5_guess_125 ?_
                  refine lv_iload hx hb dX5_guess_128 (lv_at hl 0 rfl) ?_
                  refine ln_iald hx hb hK hP 15 0 rfl rfl (by omega) (by decide) dX5_guess_130 ?_
                  refine lv_bipush (v := (nI 10)) hx hb dX5_guess_131 rfl ?_
                  refine lv_icmp_eq (tgt := 148) hx hb dX5_guess_133 (by decide) (fun c133 => ?_) (fun c133 => ?_)
                  · refine lv_iconst (v := (nI 1)) hx hb dX5_guess_148 rfl ?_
                    refine lv_goto (tgt := 153) hx hb dX5_guess_149 (by decide) ?_
                    exact jn153 true (by rw [← h8]; first | (rw [c92]; rfl) | (rw [c92, tbB_i c109]; rfl) | (rw [c92, tbB_e (Or.inl c121)]; rfl) | (rw [c92, tbB_e (Or.inr (Or.inl c133))]; rfl) | (rw [c92, tbB_e (Or.inr (Or.inr c145))]; rfl) | (rw [c92, tbB_n c109 c121 c133 c145]; rfl)) _ _ hP hD hS _ (lv_sub hl [0, 1, 2, 3, 4] rfl)
                  · refine lv_aload_n hx hb dX5_guess_136 rfl (lv_at hl 4 rfl) ?_
                    refine va_get (D := D) (ci := 5) (v := .ref m16) (C := RX5) (T := TX5) (N := 24) hx hb hts hiX5 hown hK hP 0 rfl rfl 19 (by decide) hf56 (fun _ h9 => h9) rfl dX5_guess_137 ?_
                    refine lv_iload hx hb dX5_guess_140 (lv_at hl 0 rfl) ?_
                    refine ln_iald hx hb hK hP 15 0 rfl rfl (by omega) (by decide) dX5_guess_142 ?_
                    refine lv_bipush (v := (nI 13)) hx hb dX5_guess_143 rfl ?_
                    refine lv_icmp_ne (tgt := 152) hx hb dX5_guess_145 (by decide) (fun c145 => ?_) (fun c145 => ?_)
                    · refine lv_iconst (v := (nI 0)) hx hb dX5_guess_152 rfl ?_
                      exact jn153 false (by rw [← h8]; first | (rw [c92]; rfl) | (rw [c92, tbB_i c109]; rfl) | (rw [c92, tbB_e (Or.inl c121)]; rfl) | (rw [c92, tbB_e (Or.inr (Or.inl c133))]; rfl) | (rw [c92, tbB_e (Or.inr (Or.inr c145))]; rfl) | (rw [c92, tbB_n c109 c121 c133 c145]; rfl)) _ _ hP hD hS _ (lv_sub hl [0, 1, 2, 3, 4] rfl)
                    · refine lv_iconst (v := (nI 1)) hx hb dX5_guess_148 rfl ?_
                      refine lv_goto (tgt := 153) hx hb dX5_guess_149 (by decide) ?_
                      exact jn153 true (by rw [← h8]; first | (rw [c92]; rfl) | (rw [c92, tbB_i c109]; rfl) | (rw [c92, tbB_e (Or.inl c121)]; rfl) | (rw [c92, tbB_e (Or.inr (Or.inl c133))]; rfl) | (rw [c92, tbB_e (Or.inr (Or.inr c145))]; rfl) | (rw [c92, tbB_n c109 c121 c133 c145]; rfl)) _ _ hP hD hS _ (lv_sub hl [0, 1, 2, 3, 4] rfl)
      exact lp82 _ 0 true (Nat.lt_succ_self _) (Nat.zero_le _) rfl _ _ hP hD hS _ (lv_sub hl [0, 1, 2, 3, 4] rfl)
    · refine lv_iload_n hx hb dX5_guess_75 rfl (lv_at hl 0 rfl) ?_
      exact hret 76 ls H locs _ _ () _ hP hD hS (Nat.le_of_ble_eq_true rfl) (Nat.le_of_ble_eq_true rfl) (by unfold gsO; rw [if_pos c17]; exact (if_neg (gs_m c72)).symm) dX5_guess_76
  · obtain ⟨b, eb⟩ := oI_some c17
    have hbl := bstB_lt eb
    refine lv_aload_n hx hb dX5_guess_20 rfl (lv_at hl 2 rfl) ?_
    refine lv_aload_n hx hb dX5_guess_21 rfl (lv_at hl 2 rfl) ?_
    refine va_get (D := D) (ci := 5) (v := .ref m7) (C := RX5) (T := TX5) (N := 24) hx hb hts hiX5 hown hK hP 0 rfl rfl 8 (by decide) hf29 (fun _ h9 => h9) rfl dX5_guess_22 ?_
    refine lv_iload_n hx hb dX5_guess_25 rfl (lv_at hl 1 rfl) ?_
    refine ln_eqi (y := (nI b)) (by rw [eb]; rfl) ?_
    refine ln_ialdN hx hb hK hP 16 0 rfl rfl (by omega) (by decide) dX5_guess_26 ?_
    refine rd_V (ci := 5) (q0 := 0) (own := RX5) (As := [.int (nI (kr b))]) (rest := []) (bytes := cX5_first) (maxL := 5) ⟨hx, hb, hml, hown, hts⟩ (kX5_first l D y3 m0 m1 m2 m3 m4 m5 m6 m7 m8 m9 m10 m11 m12 m13 m14 m15 m16 m17 m18 nk np nr nl nb 0 par kp wt ln tk dr lt th (nI (kr b)) (by omega) (by omega) (by omega) (by assumption) (by assumption) (by assumption) (by assumption)) gX5_guess_X5_first rfl hvX5_first ⟨Nat.le_of_ble_eq_true rfl, Nat.le_of_ble_eq_true rfl⟩ hP hK [0, 1, 2, 3, 4, 5, 6, 7] rfl rfl rfl hl.1 rfl (Nat.le_of_ble_eq_true rfl) dX5_guess_27 ⟨Nat.le_of_ble_eq_true rfl, Nat.le_of_ble_eq_true rfl⟩ (fun r5 hr5 => ?_)
    subst hr5
    refine lv_istore_n (lv' := [(3, .int (oI (bstB (cnP par kp th lt nl tk ln (nI (kr b))) (ahP wt ln) np))), (2, .int (kndO th np kp (oI (bstB (cnP par kp th lt nl tk ln (-1)) (ahP wt ln) np)))), (1, .int (oI (bstB (fun k => prvB lev (hldB vb nb fo tu wn mk) (k * 6) ((k * 6) + (tc k))) (fun k b => decide (pr b < pr k)) nr))), (0, .ref m0)]) hx hb dX5_guess_30 rfl hl (by decide) rfl (fun ls hl => ?_)
    refine lv_iload_n hx hb dX5_guess_31 rfl (lv_at hl 0 rfl) ?_
    refine lv_iconst (v := (-1)) hx hb dX5_guess_32 rfl ?_
    refine lv_icmp_eq (tgt := 43) hx hb dX5_guess_33 (by decide) (fun c33 => ?_) (fun c33 => ?_)
    · refine lv_aload_n hx hb dX5_guess_43 rfl (lv_at hl 3 rfl) ?_
      refine va_get (D := D) (ci := 5) (v := .ref m8) (C := RX5) (T := TX5) (N := 24) hx hb hts hiX5 hown hK hP 0 rfl rfl 9 (by decide) hf32 (fun _ h9 => h9) rfl dX5_guess_44 ?_
      refine lv_iload_n hx hb dX5_guess_47 rfl (lv_at hl 2 rfl) ?_
      refine ln_eqi (y := (nI b)) (by rw [eb]; rfl) ?_
      refine ln_iald hx hb hK hP 8 0 rfl rfl (by omega) (by decide) dX5_guess_48 ?_
      refine lv_bipush (v := (nI 50)) hx hb dX5_guess_49 rfl ?_
      refine lv_icmp_ge (tgt := 59) hx hb dX5_guess_51 (by decide) (fun c51 => ?_) (fun c51 => ?_)
      · refine lv_aload_n hx hb dX5_guess_59 rfl (lv_at hl 3 rfl) ?_
        refine va_get (D := D) (ci := 5) (v := .ref m7) (C := RX5) (T := TX5) (N := 24) hx hb hts hiX5 hown hK hP 0 rfl rfl 8 (by decide) hf29 (fun _ h9 => h9) rfl dX5_guess_60 ?_
        refine lv_iload_n hx hb dX5_guess_63 rfl (lv_at hl 2 rfl) ?_
        refine ln_eqi (y := (nI b)) (by rw [eb]; rfl) ?_
        refine ln_ialdN hx hb hK hP 16 0 rfl rfl (by omega) (by decide) dX5_guess_64 ?_
        refine lv_goto (tgt := 69) hx hb dX5_guess_65 (by decide) ?_
        exact hret 69 ls H locs _ _ () _ hP hD hS (Nat.le_of_ble_eq_true rfl) (Nat.le_of_ble_eq_true rfl) (by have e1 := kndR_o (kr := kr) eb hbl.1 (by omega); unfold gsO gwO; rw [e1, if_neg c17, if_pos c33]; first | exact gs_s eb hbl.1 (by omega) c51 | exact gs_n (gs_f hnp hk hkp c56) | exact gs_k eb hbl.1 (by omega) c51 (gs_m c56)) dX5_guess_69
      · refine lv_iload_n hx hb dX5_guess_54 rfl (lv_at hl 1 rfl) ?_
        refine lv_iconst (v := (-1)) hx hb dX5_guess_55 rfl ?_
        refine lv_icmp_ne (tgt := 68) hx hb dX5_guess_56 (by decide) (fun c56 => ?_) (fun c56 => ?_)
        · refine lv_iload_n hx hb dX5_guess_68 rfl (lv_at hl 1 rfl) ?_
          exact hret 69 ls H locs _ _ () _ hP hD hS (Nat.le_of_ble_eq_true rfl) (Nat.le_of_ble_eq_true rfl) (by have e1 := kndR_o (kr := kr) eb hbl.1 (by omega); unfold gsO gwO; rw [e1, if_neg c17, if_pos c33]; first | exact gs_s eb hbl.1 (by omega) c51 | exact gs_n (gs_f hnp hk hkp c56) | exact gs_k eb hbl.1 (by omega) c51 (gs_m c56)) dX5_guess_69
        · refine lv_aload_n hx hb dX5_guess_59 rfl (lv_at hl 3 rfl) ?_
          refine va_get (D := D) (ci := 5) (v := .ref m7) (C := RX5) (T := TX5) (N := 24) hx hb hts hiX5 hown hK hP 0 rfl rfl 8 (by decide) hf29 (fun _ h9 => h9) rfl dX5_guess_60 ?_
          refine lv_iload_n hx hb dX5_guess_63 rfl (lv_at hl 2 rfl) ?_
          refine ln_eqi (y := (nI b)) (by rw [eb]; rfl) ?_
          refine ln_ialdN hx hb hK hP 16 0 rfl rfl (by omega) (by decide) dX5_guess_64 ?_
          refine lv_goto (tgt := 69) hx hb dX5_guess_65 (by decide) ?_
          exact hret 69 ls H locs _ _ () _ hP hD hS (Nat.le_of_ble_eq_true rfl) (Nat.le_of_ble_eq_true rfl) (by have e1 := kndR_o (kr := kr) eb hbl.1 (by omega); unfold gsO gwO; rw [e1, if_neg c17, if_pos c33]; first | exact gs_s eb hbl.1 (by omega) c51 | exact gs_n (gs_f hnp hk hkp c56) | exact gs_k eb hbl.1 (by omega) c51 (gs_m c56)) dX5_guess_69
    · obtain ⟨b3, eb3⟩ := oI_some c33
      have hbl3 := bstB_lt eb3
      refine lv_aload_n hx hb dX5_guess_36 rfl (lv_at hl 3 rfl) ?_
      refine va_get (D := D) (ci := 5) (v := .ref m2) (C := RX5) (T := TX5) (N := 24) hx hb hts hiX5 hown hK hP 0 rfl rfl 2 (by decide) hf13 (fun _ h9 => h9) rfl dX5_guess_37 ?_
      refine lv_iload_n hx hb dX5_guess_40 rfl (lv_at hl 0 rfl) ?_
      refine ln_eqi (y := (nI b3)) (by rw [eb3]; rfl) ?_
      refine ln_ialdN hx hb hK hP 2 0 rfl rfl (by omega) (by decide) dX5_guess_41 ?_
      exact hret 42 ls H locs _ _ () _ hP hD hS (Nat.le_of_ble_eq_true rfl) (Nat.le_of_ble_eq_true rfl) (by have e1 := kndR_o (kr := kr) eb hbl.1 (by omega); unfold gsO gwO; rw [e1, if_neg c17, if_neg c33, eb3]; exact (kndO_o hbl3 (by omega)).symm) dX5_guess_42

set_option maxHeartbeats 4000000 in
set_option maxRecDepth 100000 in
theorem kX5_program_ok (l : Launch) (D : va_G) (y3 : ClassId × ClassId × ClassId) (m0 : Nat) (m1 : Nat) (m2 : Nat) (m3 : Nat) (m4 : Nat) (m5 : Nat) (m6 : Nat) (m7 : Nat) (m8 : Nat) (m9 : Nat) (m10 : Nat) (m11 : Nat) (m12 : Nat) (m13 : Nat) (m14 : Nat) (m15 : Nat) (m16 : Nat) (m17 : Nat) (m18 : Nat) (nk : Nat) (np : Nat) (nr : Nat) (nl : Nat) (nb : Nat) (zo : Nat) (st : Nat → Int32) (i : Int32) (k : Int32) (pg : Int32) (sv : Int32) (hk : nk ≤ 14) (hz : (ak2 (inB k nk) (rgB i (nI 0) (nI 2) && (rgB pg (nI 0) (nI 9) && rgB sv (nI 0) (nI 2)))) = 0) : wrM l yX5_program wsX5_program 2 43 0 0 D y3 [(m0, .inr (5, [.ref m1, .int (nI nk), .ref m2, .ref m3, .ref m4, .ref m5, .ref m6, .int (nI np), .ref m7, .ref m8, .ref m9, .ref m10, .ref m11, .ref m12, .ref m13, .ref m14, .int (nI nr), .ref m15, .int (nI nl), .ref m16, .int (nI nb), .ref m17, .ref m18, .int (nI zo)])), (m17, .inl (y3.1, 420, .inl st))] [.ref m0, .int i, .int k, .int pg, .int sv] (fun r (_ : Unit) => r = (st ((((i.toNatClampNeg * 14) + k.toNatClampNeg) * 10) + pg.toNatClampNeg))) (fun (_ : Unit) => [(m0, .inr (5, [.ref m1, .int (nI nk), .ref m2, .ref m3, .ref m4, .ref m5, .ref m6, .int (nI np), .ref m7, .ref m8, .ref m9, .ref m10, .ref m11, .ref m12, .ref m13, .ref m14, .int (nI nr), .ref m15, .int (nI nl), .ref m16, .int (nI nb), .ref m17, .ref m18, .int (nI 0)])), (m17, .inl (y3.1, 420, .inl (upd st ((((i.toNatClampNeg * 14) + k.toNatClampNeg) * 10) + pg.toNatClampNeg) sv)))]) := by
  refine wr_of (cc := cX5_program) (maxL := 7) (by decide) rfl (Nat.le_of_ble_eq_true rfl) ?_
  intro p e s m args below meth c A Q hx hb hml hown hts hP hK hD hA hS hret ls hl
  replace hl : lv_has ls 7 [(0, .ref m0), (1, .int i), (2, .int k), (3, .int pg), (4, .int sv)] := hl
  have hf59 := hts (.fieldLink RX5 59 "KindGuesserModel" "stand" "[I") (by decide +kernel)
  have hiX5 : ∀ q ∈ wsX50, q ∈ wsX5_program := by decide +kernel
  refine lv_aload_n hx hb dX5_program_0 rfl (lv_at hl 0 rfl) ?_
  refine lv_aload_n hx hb dX5_program_1 rfl (lv_at hl 0 rfl) ?_
  refine lv_iload_n hx hb dX5_program_2 rfl (lv_at hl 2 rfl) ?_
  refine rd_V (ci := 5) (q0 := 0) (own := RX5) (As := [.int k]) (rest := [.ref m0]) (bytes := cX5_isKind) (maxL := 2) ⟨hx, hb, hml, hown, hts⟩ (kX5_isKind l D y3 m0 m1 m2 m3 m4 m5 m6 m7 m8 m9 m10 m11 m12 m13 m14 m15 m16 m17 m18 nk np nr nl nb zo k (by omega)) gX5_program_X5_isKind rfl hvX5_isKind ⟨Nat.le_of_ble_eq_true rfl, Nat.le_of_ble_eq_true rfl⟩ hP hK [0] rfl rfl rfl hl.1 rfl (Nat.le_of_ble_eq_true rfl) dX5_program_3 ⟨Nat.le_of_ble_eq_true rfl, Nat.le_of_ble_eq_true rfl⟩ (fun r1 hr1 => ?_)
  subst hr1
  have jn38 : ∀ (j1 : Bool), (j1 = (rgB i (nI 0) (nI 2) && (rgB pg (nI 0) (nI 9) && rgB sv (nI 0) (nI 2)))) → ∀ (H : Heap) (locs : List Loc), va_P D vwCl [(m0, .inr (5, [.ref m1, .int (nI nk), .ref m2, .ref m3, .ref m4, .ref m5, .ref m6, .int (nI np), .ref m7, .ref m8, .ref m9, .ref m10, .ref m11, .ref m12, .ref m13, .ref m14, .int (nI nr), .ref m15, .int (nI nl), .ref m16, .int (nI nb), .ref m17, .ref m18, .int (nI zo)])), (m17, .inl (y3.1, 420, .inl st))] H → va_D A [(m0, .inr (5, [.ref m1, .int (nI nk), .ref m2, .ref m3, .ref m4, .ref m5, .ref m6, .int (nI np), .ref m7, .ref m8, .ref m9, .ref m10, .ref m11, .ref m12, .ref m13, .ref m14, .int (nI nr), .ref m15, .int (nI nl), .ref m16, .int (nI nb), .ref m17, .ref m18, .int (nI zo)])), (m17, .inl (y3.1, 420, .inl st))] → va_S A s.heap H locs → ∀ ls : Array Slot, lv_has ls 7 [(0, .ref m0), (1, .int i), (2, .int k), (3, .int pg), (4, .int sv)] → W p l e (rmO 2 0 0 43) s m args below meth c H locs 0 0 Q (F0 m 38 ls [.int (bI j1), .int (bI (inB k nk)), .ref m0]) := by
    intro j1 hj1 H locs hP hD hS ls hl
    refine wr_V (ci := 5) (q0 := 0) (own := RX5) (As := [.int (bI (inB k nk)), .int (bI j1)]) (rest := []) (bytes := cX5_asked_) (maxL := 3) (wr := [(m17, .inl (y3.1, 420, .inl st))]) (w3 := (fun (_ : Unit) => [(m0, .inr (5, [.ref m1, .int (nI nk), .ref m2, .ref m3, .ref m4, .ref m5, .ref m6, .int (nI np), .ref m7, .ref m8, .ref m9, .ref m10, .ref m11, .ref m12, .ref m13, .ref m14, .int (nI nr), .ref m15, .int (nI nl), .ref m16, .int (nI nb), .ref m17, .ref m18, .int (nI (ak2 (inB k nk) j1))])), (m17, .inl (y3.1, 420, .inl st))])) ⟨hx, hb, hml, hown, hts⟩ (kX5_asked_ l D y3 m0 m1 m2 m3 m4 m5 m6 m7 m8 m9 m10 m11 m12 m13 m14 m15 m16 m17 m18 nk np nr nl nb zo (inB k nk) j1) gX5_program_X5_asked_ rfl hvX5_asked_ ⟨Nat.le_of_ble_eq_true rfl, Nat.le_of_ble_eq_true rfl⟩ hP hK hD hS hA [0] [1] [1, 0] rfl rfl rfl rfl (by decide) (fun _ => rfl) rfl rfl rfl hl.1 rfl (Nat.le_of_ble_eq_true rfl) dX5_program_38 ⟨Nat.le_of_ble_eq_true rfl, Nat.le_of_ble_eq_true rfl⟩ (fun r2 u3 H locs hr2 hP hD hS => ?_)
    have hP : va_P D vwCl [(m0, .inr (5, [.ref m1, .int (nI nk), .ref m2, .ref m3, .ref m4, .ref m5, .ref m6, .int (nI np), .ref m7, .ref m8, .ref m9, .ref m10, .ref m11, .ref m12, .ref m13, .ref m14, .int (nI nr), .ref m15, .int (nI nl), .ref m16, .int (nI nb), .ref m17, .ref m18, .int (nI (ak2 (inB k nk) j1))])), (m17, .inl (y3.1, 420, .inl st))] H := hP
    have hD : va_D A [(m0, .inr (5, [.ref m1, .int (nI nk), .ref m2, .ref m3, .ref m4, .ref m5, .ref m6, .int (nI np), .ref m7, .ref m8, .ref m9, .ref m10, .ref m11, .ref m12, .ref m13, .ref m14, .int (nI nr), .ref m15, .int (nI nl), .ref m16, .int (nI nb), .ref m17, .ref m18, .int (nI (ak2 (inB k nk) j1))])), (m17, .inl (y3.1, 420, .inl st))] := hD
    subst hr2
    refine lb_if_ne (tgt := 46) hx hb dX5_program_41 (by decide) (fun c41 => ?_) (fun c41 => ?_)
    · obtain ⟨hA1, hA2⟩ := ak2_a hz
      obtain ⟨hA3, hA4⟩ := Bool.and_eq_true_iff.mp hA2
      obtain ⟨hA5, hA6⟩ := Bool.and_eq_true_iff.mp hA4
      obtain ⟨ek, hkn⟩ := inB_c hA1 (by omega)
      obtain ⟨ei, hin⟩ := rgB_c (n := 2) hA3 (by omega)
      obtain ⟨ep, hpn⟩ := rgB_c (n := 9) hA5 (by omega)
      refine lv_sipush (v := (nI 140)) hx hb dX5_program_46 rfl ?_
      refine lv_iload_n hx hb dX5_program_49 rfl (lv_at hl 1 rfl) ?_
      refine ln_eqi (y := (nI i.toNatClampNeg)) ei ?_
      refine ln_imul (n := 140 * i.toNatClampNeg) hx hb (by omega) dX5_program_50 ?_
      refine lv_bipush (v := (nI 10)) hx hb dX5_program_51 rfl ?_
      refine lv_iload_n hx hb dX5_program_53 rfl (lv_at hl 2 rfl) ?_
      refine ln_eqi (y := (nI k.toNatClampNeg)) ek ?_
      refine ln_imul (n := 10 * k.toNatClampNeg) hx hb (by omega) dX5_program_54 ?_
      refine ln_iadd (n := (140 * i.toNatClampNeg) + (10 * k.toNatClampNeg)) hx hb (by omega) dX5_program_55 ?_
      refine lv_iload_n hx hb dX5_program_56 rfl (lv_at hl 3 rfl) ?_
      refine ln_eqi (y := (nI pg.toNatClampNeg)) ep ?_
      refine ln_iadd (n := ((((i.toNatClampNeg * 14) + k.toNatClampNeg) * 10) + pg.toNatClampNeg)) hx hb (by omega) dX5_program_57 ?_
      refine lv_istore (lv' := [(5, .int (nI ((((i.toNatClampNeg * 14) + k.toNatClampNeg) * 10) + pg.toNatClampNeg))), (0, .ref m0), (1, .int i), (2, .int k), (3, .int pg), (4, .int sv)]) hx hb dX5_program_58 hl (by decide) rfl (fun ls hl => ?_)
      refine lv_aload_n hx hb dX5_program_60 rfl (lv_at hl 1 rfl) ?_
      refine va_get (D := D) (ci := 5) (v := .ref m17) (C := RX5) (T := TX5) (N := 24) hx hb hts hiX5 hown hK hP 0 rfl rfl 21 (by decide) hf59 (fun _ h9 => h9) rfl dX5_program_61 ?_
      refine lv_iload hx hb dX5_program_64 (lv_at hl 0 rfl) ?_
      refine ln_iald hx hb hK hP 1 0 rfl rfl (by omega) (by decide) dX5_program_66 ?_
      refine lv_istore (lv' := [(6, .int (st ((((i.toNatClampNeg * 14) + k.toNatClampNeg) * 10) + pg.toNatClampNeg))), (5, .int (nI ((((i.toNatClampNeg * 14) + k.toNatClampNeg) * 10) + pg.toNatClampNeg))), (0, .ref m0), (1, .int i), (2, .int k), (3, .int pg), (4, .int sv)]) hx hb dX5_program_67 hl (by decide) rfl (fun ls hl => ?_)
      refine lv_aload_n hx hb dX5_program_69 rfl (lv_at hl 2 rfl) ?_
      refine va_get (D := D) (ci := 5) (v := .ref m17) (C := RX5) (T := TX5) (N := 24) hx hb hts hiX5 hown hK hP 0 rfl rfl 21 (by decide) hf59 (fun _ h9 => h9) rfl dX5_program_70 ?_
      refine lv_iload hx hb dX5_program_73 (lv_at hl 1 rfl) ?_
      refine lv_iload hx hb dX5_program_75 (lv_at hl 6 rfl) ?_
      refine ln_iast hx hb hK hP hD hS 1 0 rfl rfl (by omega) (by decide) dX5_program_77 _ rfl (fun H locs hP hD hS => ?_)
      have hP : va_P D vwCl [(m0, .inr (5, [.ref m1, .int (nI nk), .ref m2, .ref m3, .ref m4, .ref m5, .ref m6, .int (nI np), .ref m7, .ref m8, .ref m9, .ref m10, .ref m11, .ref m12, .ref m13, .ref m14, .int (nI nr), .ref m15, .int (nI nl), .ref m16, .int (nI nb), .ref m17, .ref m18, .int (nI (ak2 (inB k nk) j1))])), (m17, .inl (y3.1, 420, .inl (upd st ((((i.toNatClampNeg * 14) + k.toNatClampNeg) * 10) + pg.toNatClampNeg) sv)))] H := hP
      have hD : va_D A [(m0, .inr (5, [.ref m1, .int (nI nk), .ref m2, .ref m3, .ref m4, .ref m5, .ref m6, .int (nI np), .ref m7, .ref m8, .ref m9, .ref m10, .ref m11, .ref m12, .ref m13, .ref m14, .int (nI nr), .ref m15, .int (nI nl), .ref m16, .int (nI nb), .ref m17, .ref m18, .int (nI (ak2 (inB k nk) j1))])), (m17, .inl (y3.1, 420, .inl (upd st ((((i.toNatClampNeg * 14) + k.toNatClampNeg) * 10) + pg.toNatClampNeg) sv)))] := hD
      refine lv_iload hx hb dX5_program_78 (lv_at hl 0 rfl) ?_
      rw [show ak2 (inB k nk) j1 = 0 from by rw [hj1]; exact hz] at hP hD
      exact hret 80 ls H locs _ _ () _ hP hD hS (Nat.le_of_ble_eq_true rfl) (Nat.le_of_ble_eq_true rfl) rfl dX5_program_80
    · rw [hj1] at c41; rw [ak2_t hz] at c41; cases c41
  refine lv_iload_n hx hb dX5_program_6 rfl (lv_at hl 1 rfl) ?_
  refine rd_S (own := RX5) (As := [.int i]) (rest := [.int (bI (inB k nk)), .ref m0]) (bytes := cX5_isList) (maxL := 1) ⟨hx, hb, hml, hown, hts⟩ (kX5_isList l D y3 i) gX5_program_X5_isList rfl hvX5_isList ⟨Nat.le_of_ble_eq_true rfl, Nat.le_of_ble_eq_true rfl⟩ hP hK [] rfl  hl.1 rfl (Nat.le_of_ble_eq_true rfl) dX5_program_7 ⟨Nat.le_of_ble_eq_true rfl, Nat.le_of_ble_eq_true rfl⟩ (fun r4 hr4 => ?_)
  subst hr4
  refine lb_if_eq (tgt := 37) hx hb dX5_program_10 (by decide) (fun c10 => ?_) (fun c10 => ?_)
  · refine lv_iconst (v := (nI 0)) hx hb dX5_program_37 rfl ?_
    exact jn38 false (by first | (rw [c10]; rfl) | (rw [c10, c20]; rfl) | (rw [c10, c20, c30]; rfl)) _ _ hP hD hS _ (lv_sub hl [0, 1, 2, 3, 4] rfl)
  · refine lv_iload_n hx hb dX5_program_13 rfl (lv_at hl 3 rfl) ?_
    refine lv_iconst (v := (nI 0)) hx hb dX5_program_14 rfl ?_
    refine lv_bipush (v := (nI 9)) hx hb dX5_program_15 rfl ?_
    refine rd_S (own := RX5) (As := [.int pg, .int (nI 0), .int (nI 9)]) (rest := [.int (bI (inB k nk)), .ref m0]) (bytes := cX5_in) (maxL := 3) ⟨hx, hb, hml, hown, hts⟩ (kX5_in l D y3 pg (nI 0) (nI 9)) gX5_program_X5_in rfl hvX5_in ⟨Nat.le_of_ble_eq_true rfl, Nat.le_of_ble_eq_true rfl⟩ hP hK [] rfl  hl.1 rfl (Nat.le_of_ble_eq_true rfl) dX5_program_17 ⟨Nat.le_of_ble_eq_true rfl, Nat.le_of_ble_eq_true rfl⟩ (fun r5 hr5 => ?_)
    subst hr5
    refine lb_if_eq (tgt := 37) hx hb dX5_program_20 (by decide) (fun c20 => ?_) (fun c20 => ?_)
    · refine lv_iconst (v := (nI 0)) hx hb dX5_program_37 rfl ?_
      exact jn38 false (by first | (rw [c10]; rfl) | (rw [c10, c20]; rfl) | (rw [c10, c20, c30]; rfl)) _ _ hP hD hS _ (lv_sub hl [0, 1, 2, 3, 4] rfl)
    · refine lv_iload hx hb dX5_program_23 (lv_at hl 4 rfl) ?_
      refine lv_iconst (v := (nI 0)) hx hb dX5_program_25 rfl ?_
      refine lv_iconst (v := (nI 2)) hx hb dX5_program_26 rfl ?_
      refine rd_S (own := RX5) (As := [.int sv, .int (nI 0), .int (nI 2)]) (rest := [.int (bI (inB k nk)), .ref m0]) (bytes := cX5_in) (maxL := 3) ⟨hx, hb, hml, hown, hts⟩ (kX5_in l D y3 sv (nI 0) (nI 2)) gX5_program_X5_in rfl hvX5_in ⟨Nat.le_of_ble_eq_true rfl, Nat.le_of_ble_eq_true rfl⟩ hP hK [] rfl  hl.1 rfl (Nat.le_of_ble_eq_true rfl) dX5_program_27 ⟨Nat.le_of_ble_eq_true rfl, Nat.le_of_ble_eq_true rfl⟩ (fun r6 hr6 => ?_)
      subst hr6
      refine lb_if_eq (tgt := 37) hx hb dX5_program_30 (by decide) (fun c30 => ?_) (fun c30 => ?_)
      · refine lv_iconst (v := (nI 0)) hx hb dX5_program_37 rfl ?_
        exact jn38 false (by first | (rw [c10]; rfl) | (rw [c10, c20]; rfl) | (rw [c10, c20, c30]; rfl)) _ _ hP hD hS _ (lv_sub hl [0, 1, 2, 3, 4] rfl)
      · refine lv_iconst (v := (nI 1)) hx hb dX5_program_33 rfl ?_
        refine lv_goto (tgt := 38) hx hb dX5_program_34 (by decide) ?_
        exact jn38 true (by first | (rw [c10]; rfl) | (rw [c10, c20]; rfl) | (rw [c10, c20, c30]; rfl)) _ _ hP hD hS _ (lv_sub hl [0, 1, 2, 3, 4] rfl)

set_option maxHeartbeats 4000000 in
set_option maxRecDepth 100000 in
theorem kX5_program_ex (l : Launch) (D : va_G) (y3 : ClassId × ClassId × ClassId) (m0 : Nat) (m1 : Nat) (m2 : Nat) (m3 : Nat) (m4 : Nat) (m5 : Nat) (m6 : Nat) (m7 : Nat) (m8 : Nat) (m9 : Nat) (m10 : Nat) (m11 : Nat) (m12 : Nat) (m13 : Nat) (m14 : Nat) (m15 : Nat) (m16 : Nat) (m17 : Nat) (m18 : Nat) (nk : Nat) (np : Nat) (nr : Nat) (nl : Nat) (nb : Nat) (zo : Nat) (st : Nat → Int32) (i : Int32) (k : Int32) (pg : Int32) (sv : Int32) (hk : nk ≤ 14) (hz : ¬ (ak2 (inB k nk) (rgB i (nI 0) (nI 2) && (rgB pg (nI 0) (nI 9) && rgB sv (nI 0) (nI 2)))) = 0) : wrM l yX5_program wsX5_program 2 43 0 0 D y3 [(m0, .inr (5, [.ref m1, .int (nI nk), .ref m2, .ref m3, .ref m4, .ref m5, .ref m6, .int (nI np), .ref m7, .ref m8, .ref m9, .ref m10, .ref m11, .ref m12, .ref m13, .ref m14, .int (nI nr), .ref m15, .int (nI nl), .ref m16, .int (nI nb), .ref m17, .ref m18, .int (nI zo)])), (m17, .inl (y3.1, 420, .inl st))] [.ref m0, .int i, .int k, .int pg, .int sv] (fun r (_ : Unit) => r = (nI 0)) (fun (_ : Unit) => [(m0, .inr (5, [.ref m1, .int (nI nk), .ref m2, .ref m3, .ref m4, .ref m5, .ref m6, .int (nI np), .ref m7, .ref m8, .ref m9, .ref m10, .ref m11, .ref m12, .ref m13, .ref m14, .int (nI nr), .ref m15, .int (nI nl), .ref m16, .int (nI nb), .ref m17, .ref m18, .int (nI (ak2 (inB k nk) (rgB i (nI 0) (nI 2) && (rgB pg (nI 0) (nI 9) && rgB sv (nI 0) (nI 2)))))])), (m17, .inl (y3.1, 420, .inl st))]) := by
  refine wr_of (cc := cX5_program) (maxL := 7) (by decide) rfl (Nat.le_of_ble_eq_true rfl) ?_
  intro p e s m args below meth c A Q hx hb hml hown hts hP hK hD hA hS hret ls hl
  replace hl : lv_has ls 7 [(0, .ref m0), (1, .int i), (2, .int k), (3, .int pg), (4, .int sv)] := hl
  refine lv_aload_n hx hb dX5_program_0 rfl (lv_at hl 0 rfl) ?_
  refine lv_aload_n hx hb dX5_program_1 rfl (lv_at hl 0 rfl) ?_
  refine lv_iload_n hx hb dX5_program_2 rfl (lv_at hl 2 rfl) ?_
  refine rd_V (ci := 5) (q0 := 0) (own := RX5) (As := [.int k]) (rest := [.ref m0]) (bytes := cX5_isKind) (maxL := 2) ⟨hx, hb, hml, hown, hts⟩ (kX5_isKind l D y3 m0 m1 m2 m3 m4 m5 m6 m7 m8 m9 m10 m11 m12 m13 m14 m15 m16 m17 m18 nk np nr nl nb zo k (by omega)) gX5_program_X5_isKind rfl hvX5_isKind ⟨Nat.le_of_ble_eq_true rfl, Nat.le_of_ble_eq_true rfl⟩ hP hK [0] rfl rfl rfl hl.1 rfl (Nat.le_of_ble_eq_true rfl) dX5_program_3 ⟨Nat.le_of_ble_eq_true rfl, Nat.le_of_ble_eq_true rfl⟩ (fun r1 hr1 => ?_)
  subst hr1
  have jn38 : ∀ (j1 : Bool), (j1 = (rgB i (nI 0) (nI 2) && (rgB pg (nI 0) (nI 9) && rgB sv (nI 0) (nI 2)))) → ∀ (H : Heap) (locs : List Loc), va_P D vwCl [(m0, .inr (5, [.ref m1, .int (nI nk), .ref m2, .ref m3, .ref m4, .ref m5, .ref m6, .int (nI np), .ref m7, .ref m8, .ref m9, .ref m10, .ref m11, .ref m12, .ref m13, .ref m14, .int (nI nr), .ref m15, .int (nI nl), .ref m16, .int (nI nb), .ref m17, .ref m18, .int (nI zo)])), (m17, .inl (y3.1, 420, .inl st))] H → va_D A [(m0, .inr (5, [.ref m1, .int (nI nk), .ref m2, .ref m3, .ref m4, .ref m5, .ref m6, .int (nI np), .ref m7, .ref m8, .ref m9, .ref m10, .ref m11, .ref m12, .ref m13, .ref m14, .int (nI nr), .ref m15, .int (nI nl), .ref m16, .int (nI nb), .ref m17, .ref m18, .int (nI zo)])), (m17, .inl (y3.1, 420, .inl st))] → va_S A s.heap H locs → ∀ ls : Array Slot, lv_has ls 7 [(0, .ref m0), (1, .int i), (2, .int k), (3, .int pg), (4, .int sv)] → W p l e (rmO 2 0 0 43) s m args below meth c H locs 0 0 Q (F0 m 38 ls [.int (bI j1), .int (bI (inB k nk)), .ref m0]) := by
    intro j1 hj1 H locs hP hD hS ls hl
    refine wr_V (ci := 5) (q0 := 0) (own := RX5) (As := [.int (bI (inB k nk)), .int (bI j1)]) (rest := []) (bytes := cX5_asked_) (maxL := 3) (wr := [(m17, .inl (y3.1, 420, .inl st))]) (w3 := (fun (_ : Unit) => [(m0, .inr (5, [.ref m1, .int (nI nk), .ref m2, .ref m3, .ref m4, .ref m5, .ref m6, .int (nI np), .ref m7, .ref m8, .ref m9, .ref m10, .ref m11, .ref m12, .ref m13, .ref m14, .int (nI nr), .ref m15, .int (nI nl), .ref m16, .int (nI nb), .ref m17, .ref m18, .int (nI (ak2 (inB k nk) j1))])), (m17, .inl (y3.1, 420, .inl st))])) ⟨hx, hb, hml, hown, hts⟩ (kX5_asked_ l D y3 m0 m1 m2 m3 m4 m5 m6 m7 m8 m9 m10 m11 m12 m13 m14 m15 m16 m17 m18 nk np nr nl nb zo (inB k nk) j1) gX5_program_X5_asked_ rfl hvX5_asked_ ⟨Nat.le_of_ble_eq_true rfl, Nat.le_of_ble_eq_true rfl⟩ hP hK hD hS hA [0] [1] [1, 0] rfl rfl rfl rfl (by decide) (fun _ => rfl) rfl rfl rfl hl.1 rfl (Nat.le_of_ble_eq_true rfl) dX5_program_38 ⟨Nat.le_of_ble_eq_true rfl, Nat.le_of_ble_eq_true rfl⟩ (fun r2 u3 H locs hr2 hP hD hS => ?_)
    have hP : va_P D vwCl [(m0, .inr (5, [.ref m1, .int (nI nk), .ref m2, .ref m3, .ref m4, .ref m5, .ref m6, .int (nI np), .ref m7, .ref m8, .ref m9, .ref m10, .ref m11, .ref m12, .ref m13, .ref m14, .int (nI nr), .ref m15, .int (nI nl), .ref m16, .int (nI nb), .ref m17, .ref m18, .int (nI (ak2 (inB k nk) j1))])), (m17, .inl (y3.1, 420, .inl st))] H := hP
    have hD : va_D A [(m0, .inr (5, [.ref m1, .int (nI nk), .ref m2, .ref m3, .ref m4, .ref m5, .ref m6, .int (nI np), .ref m7, .ref m8, .ref m9, .ref m10, .ref m11, .ref m12, .ref m13, .ref m14, .int (nI nr), .ref m15, .int (nI nl), .ref m16, .int (nI nb), .ref m17, .ref m18, .int (nI (ak2 (inB k nk) j1))])), (m17, .inl (y3.1, 420, .inl st))] := hD
    subst hr2
    refine lb_if_ne (tgt := 46) hx hb dX5_program_41 (by decide) (fun c41 => ?_) (fun c41 => ?_)
    · rw [hj1] at c41; rw [ak2_f hz] at c41; cases c41
    · refine lv_iconst (v := (nI 0)) hx hb dX5_program_44 rfl ?_
      rw [hj1] at hP hD
      exact hret 45 ls H locs _ _ () _ hP hD hS (Nat.le_of_ble_eq_true rfl) (Nat.le_of_ble_eq_true rfl) rfl dX5_program_45
  refine lv_iload_n hx hb dX5_program_6 rfl (lv_at hl 1 rfl) ?_
  refine rd_S (own := RX5) (As := [.int i]) (rest := [.int (bI (inB k nk)), .ref m0]) (bytes := cX5_isList) (maxL := 1) ⟨hx, hb, hml, hown, hts⟩ (kX5_isList l D y3 i) gX5_program_X5_isList rfl hvX5_isList ⟨Nat.le_of_ble_eq_true rfl, Nat.le_of_ble_eq_true rfl⟩ hP hK [] rfl  hl.1 rfl (Nat.le_of_ble_eq_true rfl) dX5_program_7 ⟨Nat.le_of_ble_eq_true rfl, Nat.le_of_ble_eq_true rfl⟩ (fun r4 hr4 => ?_)
  subst hr4
  refine lb_if_eq (tgt := 37) hx hb dX5_program_10 (by decide) (fun c10 => ?_) (fun c10 => ?_)
  · refine lv_iconst (v := (nI 0)) hx hb dX5_program_37 rfl ?_
    exact jn38 false (by first | (rw [c10]; rfl) | (rw [c10, c20]; rfl) | (rw [c10, c20, c30]; rfl)) _ _ hP hD hS _ (lv_sub hl [0, 1, 2, 3, 4] rfl)
  · refine lv_iload_n hx hb dX5_program_13 rfl (lv_at hl 3 rfl) ?_
    refine lv_iconst (v := (nI 0)) hx hb dX5_program_14 rfl ?_
    refine lv_bipush (v := (nI 9)) hx hb dX5_program_15 rfl ?_
    refine rd_S (own := RX5) (As := [.int pg, .int (nI 0), .int (nI 9)]) (rest := [.int (bI (inB k nk)), .ref m0]) (bytes := cX5_in) (maxL := 3) ⟨hx, hb, hml, hown, hts⟩ (kX5_in l D y3 pg (nI 0) (nI 9)) gX5_program_X5_in rfl hvX5_in ⟨Nat.le_of_ble_eq_true rfl, Nat.le_of_ble_eq_true rfl⟩ hP hK [] rfl  hl.1 rfl (Nat.le_of_ble_eq_true rfl) dX5_program_17 ⟨Nat.le_of_ble_eq_true rfl, Nat.le_of_ble_eq_true rfl⟩ (fun r5 hr5 => ?_)
    subst hr5
    refine lb_if_eq (tgt := 37) hx hb dX5_program_20 (by decide) (fun c20 => ?_) (fun c20 => ?_)
    · refine lv_iconst (v := (nI 0)) hx hb dX5_program_37 rfl ?_
      exact jn38 false (by first | (rw [c10]; rfl) | (rw [c10, c20]; rfl) | (rw [c10, c20, c30]; rfl)) _ _ hP hD hS _ (lv_sub hl [0, 1, 2, 3, 4] rfl)
    · refine lv_iload hx hb dX5_program_23 (lv_at hl 4 rfl) ?_
      refine lv_iconst (v := (nI 0)) hx hb dX5_program_25 rfl ?_
      refine lv_iconst (v := (nI 2)) hx hb dX5_program_26 rfl ?_
      refine rd_S (own := RX5) (As := [.int sv, .int (nI 0), .int (nI 2)]) (rest := [.int (bI (inB k nk)), .ref m0]) (bytes := cX5_in) (maxL := 3) ⟨hx, hb, hml, hown, hts⟩ (kX5_in l D y3 sv (nI 0) (nI 2)) gX5_program_X5_in rfl hvX5_in ⟨Nat.le_of_ble_eq_true rfl, Nat.le_of_ble_eq_true rfl⟩ hP hK [] rfl  hl.1 rfl (Nat.le_of_ble_eq_true rfl) dX5_program_27 ⟨Nat.le_of_ble_eq_true rfl, Nat.le_of_ble_eq_true rfl⟩ (fun r6 hr6 => ?_)
      subst hr6
      refine lb_if_eq (tgt := 37) hx hb dX5_program_30 (by decide) (fun c30 => ?_) (fun c30 => ?_)
      · refine lv_iconst (v := (nI 0)) hx hb dX5_program_37 rfl ?_
        exact jn38 false (by first | (rw [c10]; rfl) | (rw [c10, c20]; rfl) | (rw [c10, c20, c30]; rfl)) _ _ hP hD hS _ (lv_sub hl [0, 1, 2, 3, 4] rfl)
      · refine lv_iconst (v := (nI 1)) hx hb dX5_program_33 rfl ?_
        refine lv_goto (tgt := 38) hx hb dX5_program_34 (by decide) ?_
        exact jn38 true (by first | (rw [c10]; rfl) | (rw [c10, c20]; rfl) | (rw [c10, c20, c30]; rfl)) _ _ hP hD hS _ (lv_sub hl [0, 1, 2, 3, 4] rfl)

set_option maxHeartbeats 4000000 in
set_option maxRecDepth 100000 in
theorem kX5_setDefault_ok (l : Launch) (D : va_G) (y3 : ClassId × ClassId × ClassId) (m0 : Nat) (m1 : Nat) (m2 : Nat) (m3 : Nat) (m4 : Nat) (m5 : Nat) (m6 : Nat) (m7 : Nat) (m8 : Nat) (m9 : Nat) (m10 : Nat) (m11 : Nat) (m12 : Nat) (m13 : Nat) (m14 : Nat) (m15 : Nat) (m16 : Nat) (m17 : Nat) (m18 : Nat) (nk : Nat) (np : Nat) (nr : Nat) (nl : Nat) (nb : Nat) (zo : Nat) (df : Nat → Int32) (i : Int32) (k : Int32) (sv : Int32) (hk : nk ≤ 14) (hz : (ak2 (inB k nk) (rgB i (nI 0) (nI 2) && rgB sv (-1) (nI 9))) = 0) : wrM l yX5_setDefault wsX5_setDefault 2 43 0 0 D y3 [(m0, .inr (5, [.ref m1, .int (nI nk), .ref m2, .ref m3, .ref m4, .ref m5, .ref m6, .int (nI np), .ref m7, .ref m8, .ref m9, .ref m10, .ref m11, .ref m12, .ref m13, .ref m14, .int (nI nr), .ref m15, .int (nI nl), .ref m16, .int (nI nb), .ref m17, .ref m18, .int (nI zo)])), (m18, .inl (y3.1, 42, .inl (fP df)))] [.ref m0, .int i, .int k, .int sv] (fun r (_ : Unit) => r = (df ((i.toNatClampNeg * 14) + k.toNatClampNeg))) (fun (_ : Unit) => [(m0, .inr (5, [.ref m1, .int (nI nk), .ref m2, .ref m3, .ref m4, .ref m5, .ref m6, .int (nI np), .ref m7, .ref m8, .ref m9, .ref m10, .ref m11, .ref m12, .ref m13, .ref m14, .int (nI nr), .ref m15, .int (nI nl), .ref m16, .int (nI nb), .ref m17, .ref m18, .int (nI 0)])), (m18, .inl (y3.1, 42, .inl (fP (upd df ((i.toNatClampNeg * 14) + k.toNatClampNeg) sv))))]) := by
  refine wr_of (cc := cX5_setDefault) (maxL := 5) (by decide) rfl (Nat.le_of_ble_eq_true rfl) ?_
  intro p e s m args below meth c A Q hx hb hml hown hts hP hK hD hA hS hret ls hl
  replace hl : lv_has ls 5 [(0, .ref m0), (1, .int i), (2, .int k), (3, .int sv)] := hl
  have hf62 := hts (.fieldLink RX5 62 "KindGuesserModel" "usual" "[I") (by decide +kernel)
  have hiX5 : ∀ q ∈ wsX50, q ∈ wsX5_setDefault := by decide +kernel
  refine lv_aload_n hx hb dX5_setDefault_0 rfl (lv_at hl 0 rfl) ?_
  refine lv_aload_n hx hb dX5_setDefault_1 rfl (lv_at hl 0 rfl) ?_
  refine lv_iload_n hx hb dX5_setDefault_2 rfl (lv_at hl 2 rfl) ?_
  refine rd_V (ci := 5) (q0 := 0) (own := RX5) (As := [.int k]) (rest := [.ref m0]) (bytes := cX5_isKind) (maxL := 2) ⟨hx, hb, hml, hown, hts⟩ (kX5_isKind l D y3 m0 m1 m2 m3 m4 m5 m6 m7 m8 m9 m10 m11 m12 m13 m14 m15 m16 m17 m18 nk np nr nl nb zo k (by omega)) gX5_setDefault_X5_isKind rfl hvX5_isKind ⟨Nat.le_of_ble_eq_true rfl, Nat.le_of_ble_eq_true rfl⟩ hP hK [0] rfl rfl rfl hl.1 rfl (Nat.le_of_ble_eq_true rfl) dX5_setDefault_3 ⟨Nat.le_of_ble_eq_true rfl, Nat.le_of_ble_eq_true rfl⟩ (fun r1 hr1 => ?_)
  subst hr1
  have jn28 : ∀ (j1 : Bool), (j1 = (rgB i (nI 0) (nI 2) && rgB sv (-1) (nI 9))) → ∀ (H : Heap) (locs : List Loc), va_P D vwCl [(m0, .inr (5, [.ref m1, .int (nI nk), .ref m2, .ref m3, .ref m4, .ref m5, .ref m6, .int (nI np), .ref m7, .ref m8, .ref m9, .ref m10, .ref m11, .ref m12, .ref m13, .ref m14, .int (nI nr), .ref m15, .int (nI nl), .ref m16, .int (nI nb), .ref m17, .ref m18, .int (nI zo)])), (m18, .inl (y3.1, 42, .inl (fP df)))] H → va_D A [(m0, .inr (5, [.ref m1, .int (nI nk), .ref m2, .ref m3, .ref m4, .ref m5, .ref m6, .int (nI np), .ref m7, .ref m8, .ref m9, .ref m10, .ref m11, .ref m12, .ref m13, .ref m14, .int (nI nr), .ref m15, .int (nI nl), .ref m16, .int (nI nb), .ref m17, .ref m18, .int (nI zo)])), (m18, .inl (y3.1, 42, .inl (fP df)))] → va_S A s.heap H locs → ∀ ls : Array Slot, lv_has ls 5 [(0, .ref m0), (1, .int i), (2, .int k), (3, .int sv)] → W p l e (rmO 2 0 0 43) s m args below meth c H locs 0 0 Q (F0 m 28 ls [.int (bI j1), .int (bI (inB k nk)), .ref m0]) := by
    intro j1 hj1 H locs hP hD hS ls hl
    refine wr_V (ci := 5) (q0 := 0) (own := RX5) (As := [.int (bI (inB k nk)), .int (bI j1)]) (rest := []) (bytes := cX5_asked_) (maxL := 3) (wr := [(m18, .inl (y3.1, 42, .inl (fP df)))]) (w3 := (fun (_ : Unit) => [(m0, .inr (5, [.ref m1, .int (nI nk), .ref m2, .ref m3, .ref m4, .ref m5, .ref m6, .int (nI np), .ref m7, .ref m8, .ref m9, .ref m10, .ref m11, .ref m12, .ref m13, .ref m14, .int (nI nr), .ref m15, .int (nI nl), .ref m16, .int (nI nb), .ref m17, .ref m18, .int (nI (ak2 (inB k nk) j1))])), (m18, .inl (y3.1, 42, .inl (fP df)))])) ⟨hx, hb, hml, hown, hts⟩ (kX5_asked_ l D y3 m0 m1 m2 m3 m4 m5 m6 m7 m8 m9 m10 m11 m12 m13 m14 m15 m16 m17 m18 nk np nr nl nb zo (inB k nk) j1) gX5_setDefault_X5_asked_ rfl hvX5_asked_ ⟨Nat.le_of_ble_eq_true rfl, Nat.le_of_ble_eq_true rfl⟩ hP hK hD hS hA [0] [1] [1, 0] rfl rfl rfl rfl (by decide) (fun _ => rfl) rfl rfl rfl hl.1 rfl (Nat.le_of_ble_eq_true rfl) dX5_setDefault_28 ⟨Nat.le_of_ble_eq_true rfl, Nat.le_of_ble_eq_true rfl⟩ (fun r2 u3 H locs hr2 hP hD hS => ?_)
    have hP : va_P D vwCl [(m0, .inr (5, [.ref m1, .int (nI nk), .ref m2, .ref m3, .ref m4, .ref m5, .ref m6, .int (nI np), .ref m7, .ref m8, .ref m9, .ref m10, .ref m11, .ref m12, .ref m13, .ref m14, .int (nI nr), .ref m15, .int (nI nl), .ref m16, .int (nI nb), .ref m17, .ref m18, .int (nI (ak2 (inB k nk) j1))])), (m18, .inl (y3.1, 42, .inl (fP df)))] H := hP
    have hD : va_D A [(m0, .inr (5, [.ref m1, .int (nI nk), .ref m2, .ref m3, .ref m4, .ref m5, .ref m6, .int (nI np), .ref m7, .ref m8, .ref m9, .ref m10, .ref m11, .ref m12, .ref m13, .ref m14, .int (nI nr), .ref m15, .int (nI nl), .ref m16, .int (nI nb), .ref m17, .ref m18, .int (nI (ak2 (inB k nk) j1))])), (m18, .inl (y3.1, 42, .inl (fP df)))] := hD
    subst hr2
    refine lb_if_ne (tgt := 36) hx hb dX5_setDefault_31 (by decide) (fun c31 => ?_) (fun c31 => ?_)
    · obtain ⟨hA1, hA2⟩ := ak2_a hz
      obtain ⟨hA3, hA4⟩ := Bool.and_eq_true_iff.mp hA2
      obtain ⟨ek, hkn⟩ := inB_c hA1 (by omega)
      obtain ⟨ei, hin⟩ := rgB_c (n := 2) hA3 (by omega)
      refine lv_aload_n hx hb dX5_setDefault_36 rfl (lv_at hl 0 rfl) ?_
      refine va_get (D := D) (ci := 5) (v := .ref m18) (C := RX5) (T := TX5) (N := 24) hx hb hts hiX5 hown hK hP 0 rfl rfl 22 (by decide) hf62 (fun _ h9 => h9) rfl dX5_setDefault_37 ?_
      refine lv_bipush (v := (nI 14)) hx hb dX5_setDefault_40 rfl ?_
      refine lv_iload_n hx hb dX5_setDefault_42 rfl (lv_at hl 1 rfl) ?_
      refine ln_eqi (y := (nI i.toNatClampNeg)) ei ?_
      refine ln_imul (n := (i.toNatClampNeg * 14)) hx hb (by omega) dX5_setDefault_43 ?_
      refine lv_iload_n hx hb dX5_setDefault_44 rfl (lv_at hl 2 rfl) ?_
      refine ln_eqi (y := (nI k.toNatClampNeg)) ek ?_
      refine ln_iadd (n := (i.toNatClampNeg * 14) + k.toNatClampNeg) hx hb rfl dX5_setDefault_45 ?_
      refine ln_iald hx hb hK hP 1 0 rfl rfl (by omega) (by decide) dX5_setDefault_46 ?_
      refine lv_iconst (v := (nI 1)) hx hb dX5_setDefault_47 rfl ?_
      refine lv_isub hx hb dX5_setDefault_48 ?_
      refine ln_eqi (y := (df ((i.toNatClampNeg * 14) + k.toNatClampNeg))) fP_1 ?_
      refine lv_istore (lv' := [(4, .int (df ((i.toNatClampNeg * 14) + k.toNatClampNeg))), (0, .ref m0), (1, .int i), (2, .int k), (3, .int sv)]) hx hb dX5_setDefault_49 hl (by decide) rfl (fun ls hl => ?_)
      refine lv_aload_n hx hb dX5_setDefault_51 rfl (lv_at hl 1 rfl) ?_
      refine va_get (D := D) (ci := 5) (v := .ref m18) (C := RX5) (T := TX5) (N := 24) hx hb hts hiX5 hown hK hP 0 rfl rfl 22 (by decide) hf62 (fun _ h9 => h9) rfl dX5_setDefault_52 ?_
      refine lv_bipush (v := (nI 14)) hx hb dX5_setDefault_55 rfl ?_
      refine lv_iload_n hx hb dX5_setDefault_57 rfl (lv_at hl 2 rfl) ?_
      refine ln_eqi (y := (nI i.toNatClampNeg)) ei ?_
      refine ln_imul (n := (i.toNatClampNeg * 14)) hx hb (by omega) dX5_setDefault_58 ?_
      refine lv_iload_n hx hb dX5_setDefault_59 rfl (lv_at hl 3 rfl) ?_
      refine ln_eqi (y := (nI k.toNatClampNeg)) ek ?_
      refine ln_iadd (n := (i.toNatClampNeg * 14) + k.toNatClampNeg) hx hb rfl dX5_setDefault_60 ?_
      refine lv_iload_n hx hb dX5_setDefault_61 rfl (lv_at hl 4 rfl) ?_
      refine lv_iconst (v := (nI 1)) hx hb dX5_setDefault_62 rfl ?_
      refine lv_iadd hx hb dX5_setDefault_63 ?_
      refine ln_iast hx hb hK hP hD hS 1 0 rfl rfl (by omega) (by decide) dX5_setDefault_64 [(m0, .inr (5, [.ref m1, .int (nI nk), .ref m2, .ref m3, .ref m4, .ref m5, .ref m6, .int (nI np), .ref m7, .ref m8, .ref m9, .ref m10, .ref m11, .ref m12, .ref m13, .ref m14, .int (nI nr), .ref m15, .int (nI nl), .ref m16, .int (nI nb), .ref m17, .ref m18, .int (nI (ak2 (inB k nk) j1))])), (m18, .inl (y3.1, 42, .inl (fP (upd df ((i.toNatClampNeg * 14) + k.toNatClampNeg) sv))))] (by rw [fP_up]; rfl) (fun H locs hP hD hS => ?_)
      have hP : va_P D vwCl [(m0, .inr (5, [.ref m1, .int (nI nk), .ref m2, .ref m3, .ref m4, .ref m5, .ref m6, .int (nI np), .ref m7, .ref m8, .ref m9, .ref m10, .ref m11, .ref m12, .ref m13, .ref m14, .int (nI nr), .ref m15, .int (nI nl), .ref m16, .int (nI nb), .ref m17, .ref m18, .int (nI (ak2 (inB k nk) j1))])), (m18, .inl (y3.1, 42, .inl (fP (upd df ((i.toNatClampNeg * 14) + k.toNatClampNeg) sv))))] H := hP
      have hD : va_D A [(m0, .inr (5, [.ref m1, .int (nI nk), .ref m2, .ref m3, .ref m4, .ref m5, .ref m6, .int (nI np), .ref m7, .ref m8, .ref m9, .ref m10, .ref m11, .ref m12, .ref m13, .ref m14, .int (nI nr), .ref m15, .int (nI nl), .ref m16, .int (nI nb), .ref m17, .ref m18, .int (nI (ak2 (inB k nk) j1))])), (m18, .inl (y3.1, 42, .inl (fP (upd df ((i.toNatClampNeg * 14) + k.toNatClampNeg) sv))))] := hD
      refine lv_iload hx hb dX5_setDefault_65 (lv_at hl 0 rfl) ?_
      rw [show ak2 (inB k nk) j1 = 0 from by rw [hj1]; exact hz] at hP hD
      exact hret 67 ls H locs _ _ () _ hP hD hS (Nat.le_of_ble_eq_true rfl) (Nat.le_of_ble_eq_true rfl) rfl dX5_setDefault_67
    · rw [hj1] at c31; rw [ak2_t hz] at c31; cases c31
  refine lv_iload_n hx hb dX5_setDefault_6 rfl (lv_at hl 1 rfl) ?_
  refine rd_S (own := RX5) (As := [.int i]) (rest := [.int (bI (inB k nk)), .ref m0]) (bytes := cX5_isList) (maxL := 1) ⟨hx, hb, hml, hown, hts⟩ (kX5_isList l D y3 i) gX5_setDefault_X5_isList rfl hvX5_isList ⟨Nat.le_of_ble_eq_true rfl, Nat.le_of_ble_eq_true rfl⟩ hP hK [] rfl  hl.1 rfl (Nat.le_of_ble_eq_true rfl) dX5_setDefault_7 ⟨Nat.le_of_ble_eq_true rfl, Nat.le_of_ble_eq_true rfl⟩ (fun r4 hr4 => ?_)
  subst hr4
  refine lb_if_eq (tgt := 27) hx hb dX5_setDefault_10 (by decide) (fun c10 => ?_) (fun c10 => ?_)
  · refine lv_iconst (v := (nI 0)) hx hb dX5_setDefault_27 rfl ?_
    exact jn28 false (by first | (rw [c10]; rfl) | (rw [c10, c20]; rfl)) _ _ hP hD hS _ (lv_sub hl [0, 1, 2, 3] rfl)
  · refine lv_iload_n hx hb dX5_setDefault_13 rfl (lv_at hl 3 rfl) ?_
    refine lv_iconst (v := (-1)) hx hb dX5_setDefault_14 rfl ?_
    refine lv_bipush (v := (nI 9)) hx hb dX5_setDefault_15 rfl ?_
    refine rd_S (own := RX5) (As := [.int sv, .int (-1), .int (nI 9)]) (rest := [.int (bI (inB k nk)), .ref m0]) (bytes := cX5_in) (maxL := 3) ⟨hx, hb, hml, hown, hts⟩ (kX5_in l D y3 sv (-1) (nI 9)) gX5_setDefault_X5_in rfl hvX5_in ⟨Nat.le_of_ble_eq_true rfl, Nat.le_of_ble_eq_true rfl⟩ hP hK [] rfl  hl.1 rfl (Nat.le_of_ble_eq_true rfl) dX5_setDefault_17 ⟨Nat.le_of_ble_eq_true rfl, Nat.le_of_ble_eq_true rfl⟩ (fun r5 hr5 => ?_)
    subst hr5
    refine lb_if_eq (tgt := 27) hx hb dX5_setDefault_20 (by decide) (fun c20 => ?_) (fun c20 => ?_)
    · refine lv_iconst (v := (nI 0)) hx hb dX5_setDefault_27 rfl ?_
      exact jn28 false (by first | (rw [c10]; rfl) | (rw [c10, c20]; rfl)) _ _ hP hD hS _ (lv_sub hl [0, 1, 2, 3] rfl)
    · refine lv_iconst (v := (nI 1)) hx hb dX5_setDefault_23 rfl ?_
      refine lv_goto (tgt := 28) hx hb dX5_setDefault_24 (by decide) ?_
      exact jn28 true (by first | (rw [c10]; rfl) | (rw [c10, c20]; rfl)) _ _ hP hD hS _ (lv_sub hl [0, 1, 2, 3] rfl)

set_option maxHeartbeats 4000000 in
set_option maxRecDepth 100000 in
theorem kX5_setDefault_ex (l : Launch) (D : va_G) (y3 : ClassId × ClassId × ClassId) (m0 : Nat) (m1 : Nat) (m2 : Nat) (m3 : Nat) (m4 : Nat) (m5 : Nat) (m6 : Nat) (m7 : Nat) (m8 : Nat) (m9 : Nat) (m10 : Nat) (m11 : Nat) (m12 : Nat) (m13 : Nat) (m14 : Nat) (m15 : Nat) (m16 : Nat) (m17 : Nat) (m18 : Nat) (nk : Nat) (np : Nat) (nr : Nat) (nl : Nat) (nb : Nat) (zo : Nat) (df : Nat → Int32) (i : Int32) (k : Int32) (sv : Int32) (hk : nk ≤ 14) (hz : ¬ (ak2 (inB k nk) (rgB i (nI 0) (nI 2) && rgB sv (-1) (nI 9))) = 0) : wrM l yX5_setDefault wsX5_setDefault 2 43 0 0 D y3 [(m0, .inr (5, [.ref m1, .int (nI nk), .ref m2, .ref m3, .ref m4, .ref m5, .ref m6, .int (nI np), .ref m7, .ref m8, .ref m9, .ref m10, .ref m11, .ref m12, .ref m13, .ref m14, .int (nI nr), .ref m15, .int (nI nl), .ref m16, .int (nI nb), .ref m17, .ref m18, .int (nI zo)])), (m18, .inl (y3.1, 42, .inl (fP df)))] [.ref m0, .int i, .int k, .int sv] (fun r (_ : Unit) => r = (nI 0)) (fun (_ : Unit) => [(m0, .inr (5, [.ref m1, .int (nI nk), .ref m2, .ref m3, .ref m4, .ref m5, .ref m6, .int (nI np), .ref m7, .ref m8, .ref m9, .ref m10, .ref m11, .ref m12, .ref m13, .ref m14, .int (nI nr), .ref m15, .int (nI nl), .ref m16, .int (nI nb), .ref m17, .ref m18, .int (nI (ak2 (inB k nk) (rgB i (nI 0) (nI 2) && rgB sv (-1) (nI 9))))])), (m18, .inl (y3.1, 42, .inl (fP df)))]) := by
  refine wr_of (cc := cX5_setDefault) (maxL := 5) (by decide) rfl (Nat.le_of_ble_eq_true rfl) ?_
  intro p e s m args below meth c A Q hx hb hml hown hts hP hK hD hA hS hret ls hl
  replace hl : lv_has ls 5 [(0, .ref m0), (1, .int i), (2, .int k), (3, .int sv)] := hl
  refine lv_aload_n hx hb dX5_setDefault_0 rfl (lv_at hl 0 rfl) ?_
  refine lv_aload_n hx hb dX5_setDefault_1 rfl (lv_at hl 0 rfl) ?_
  refine lv_iload_n hx hb dX5_setDefault_2 rfl (lv_at hl 2 rfl) ?_
  refine rd_V (ci := 5) (q0 := 0) (own := RX5) (As := [.int k]) (rest := [.ref m0]) (bytes := cX5_isKind) (maxL := 2) ⟨hx, hb, hml, hown, hts⟩ (kX5_isKind l D y3 m0 m1 m2 m3 m4 m5 m6 m7 m8 m9 m10 m11 m12 m13 m14 m15 m16 m17 m18 nk np nr nl nb zo k (by omega)) gX5_setDefault_X5_isKind rfl hvX5_isKind ⟨Nat.le_of_ble_eq_true rfl, Nat.le_of_ble_eq_true rfl⟩ hP hK [0] rfl rfl rfl hl.1 rfl (Nat.le_of_ble_eq_true rfl) dX5_setDefault_3 ⟨Nat.le_of_ble_eq_true rfl, Nat.le_of_ble_eq_true rfl⟩ (fun r1 hr1 => ?_)
  subst hr1
  have jn28 : ∀ (j1 : Bool), (j1 = (rgB i (nI 0) (nI 2) && rgB sv (-1) (nI 9))) → ∀ (H : Heap) (locs : List Loc), va_P D vwCl [(m0, .inr (5, [.ref m1, .int (nI nk), .ref m2, .ref m3, .ref m4, .ref m5, .ref m6, .int (nI np), .ref m7, .ref m8, .ref m9, .ref m10, .ref m11, .ref m12, .ref m13, .ref m14, .int (nI nr), .ref m15, .int (nI nl), .ref m16, .int (nI nb), .ref m17, .ref m18, .int (nI zo)])), (m18, .inl (y3.1, 42, .inl (fP df)))] H → va_D A [(m0, .inr (5, [.ref m1, .int (nI nk), .ref m2, .ref m3, .ref m4, .ref m5, .ref m6, .int (nI np), .ref m7, .ref m8, .ref m9, .ref m10, .ref m11, .ref m12, .ref m13, .ref m14, .int (nI nr), .ref m15, .int (nI nl), .ref m16, .int (nI nb), .ref m17, .ref m18, .int (nI zo)])), (m18, .inl (y3.1, 42, .inl (fP df)))] → va_S A s.heap H locs → ∀ ls : Array Slot, lv_has ls 5 [(0, .ref m0), (1, .int i), (2, .int k), (3, .int sv)] → W p l e (rmO 2 0 0 43) s m args below meth c H locs 0 0 Q (F0 m 28 ls [.int (bI j1), .int (bI (inB k nk)), .ref m0]) := by
    intro j1 hj1 H locs hP hD hS ls hl
    refine wr_V (ci := 5) (q0 := 0) (own := RX5) (As := [.int (bI (inB k nk)), .int (bI j1)]) (rest := []) (bytes := cX5_asked_) (maxL := 3) (wr := [(m18, .inl (y3.1, 42, .inl (fP df)))]) (w3 := (fun (_ : Unit) => [(m0, .inr (5, [.ref m1, .int (nI nk), .ref m2, .ref m3, .ref m4, .ref m5, .ref m6, .int (nI np), .ref m7, .ref m8, .ref m9, .ref m10, .ref m11, .ref m12, .ref m13, .ref m14, .int (nI nr), .ref m15, .int (nI nl), .ref m16, .int (nI nb), .ref m17, .ref m18, .int (nI (ak2 (inB k nk) j1))])), (m18, .inl (y3.1, 42, .inl (fP df)))])) ⟨hx, hb, hml, hown, hts⟩ (kX5_asked_ l D y3 m0 m1 m2 m3 m4 m5 m6 m7 m8 m9 m10 m11 m12 m13 m14 m15 m16 m17 m18 nk np nr nl nb zo (inB k nk) j1) gX5_setDefault_X5_asked_ rfl hvX5_asked_ ⟨Nat.le_of_ble_eq_true rfl, Nat.le_of_ble_eq_true rfl⟩ hP hK hD hS hA [0] [1] [1, 0] rfl rfl rfl rfl (by decide) (fun _ => rfl) rfl rfl rfl hl.1 rfl (Nat.le_of_ble_eq_true rfl) dX5_setDefault_28 ⟨Nat.le_of_ble_eq_true rfl, Nat.le_of_ble_eq_true rfl⟩ (fun r2 u3 H locs hr2 hP hD hS => ?_)
    have hP : va_P D vwCl [(m0, .inr (5, [.ref m1, .int (nI nk), .ref m2, .ref m3, .ref m4, .ref m5, .ref m6, .int (nI np), .ref m7, .ref m8, .ref m9, .ref m10, .ref m11, .ref m12, .ref m13, .ref m14, .int (nI nr), .ref m15, .int (nI nl), .ref m16, .int (nI nb), .ref m17, .ref m18, .int (nI (ak2 (inB k nk) j1))])), (m18, .inl (y3.1, 42, .inl (fP df)))] H := hP
    have hD : va_D A [(m0, .inr (5, [.ref m1, .int (nI nk), .ref m2, .ref m3, .ref m4, .ref m5, .ref m6, .int (nI np), .ref m7, .ref m8, .ref m9, .ref m10, .ref m11, .ref m12, .ref m13, .ref m14, .int (nI nr), .ref m15, .int (nI nl), .ref m16, .int (nI nb), .ref m17, .ref m18, .int (nI (ak2 (inB k nk) j1))])), (m18, .inl (y3.1, 42, .inl (fP df)))] := hD
    subst hr2
    refine lb_if_ne (tgt := 36) hx hb dX5_setDefault_31 (by decide) (fun c31 => ?_) (fun c31 => ?_)
    · rw [hj1] at c31; rw [ak2_f hz] at c31; cases c31
    · refine lv_iconst (v := (nI 0)) hx hb dX5_setDefault_34 rfl ?_
      rw [hj1] at hP hD
      exact hret 35 ls H locs _ _ () _ hP hD hS (Nat.le_of_ble_eq_true rfl) (Nat.le_of_ble_eq_true rfl) rfl dX5_setDefault_35
  refine lv_iload_n hx hb dX5_setDefault_6 rfl (lv_at hl 1 rfl) ?_
  refine rd_S (own := RX5) (As := [.int i]) (rest := [.int (bI (inB k nk)), .ref m0]) (bytes := cX5_isList) (maxL := 1) ⟨hx, hb, hml, hown, hts⟩ (kX5_isList l D y3 i) gX5_setDefault_X5_isList rfl hvX5_isList ⟨Nat.le_of_ble_eq_true rfl, Nat.le_of_ble_eq_true rfl⟩ hP hK [] rfl  hl.1 rfl (Nat.le_of_ble_eq_true rfl) dX5_setDefault_7 ⟨Nat.le_of_ble_eq_true rfl, Nat.le_of_ble_eq_true rfl⟩ (fun r4 hr4 => ?_)
  subst hr4
  refine lb_if_eq (tgt := 27) hx hb dX5_setDefault_10 (by decide) (fun c10 => ?_) (fun c10 => ?_)
  · refine lv_iconst (v := (nI 0)) hx hb dX5_setDefault_27 rfl ?_
    exact jn28 false (by first | (rw [c10]; rfl) | (rw [c10, c20]; rfl)) _ _ hP hD hS _ (lv_sub hl [0, 1, 2, 3] rfl)
  · refine lv_iload_n hx hb dX5_setDefault_13 rfl (lv_at hl 3 rfl) ?_
    refine lv_iconst (v := (-1)) hx hb dX5_setDefault_14 rfl ?_
    refine lv_bipush (v := (nI 9)) hx hb dX5_setDefault_15 rfl ?_
    refine rd_S (own := RX5) (As := [.int sv, .int (-1), .int (nI 9)]) (rest := [.int (bI (inB k nk)), .ref m0]) (bytes := cX5_in) (maxL := 3) ⟨hx, hb, hml, hown, hts⟩ (kX5_in l D y3 sv (-1) (nI 9)) gX5_setDefault_X5_in rfl hvX5_in ⟨Nat.le_of_ble_eq_true rfl, Nat.le_of_ble_eq_true rfl⟩ hP hK [] rfl  hl.1 rfl (Nat.le_of_ble_eq_true rfl) dX5_setDefault_17 ⟨Nat.le_of_ble_eq_true rfl, Nat.le_of_ble_eq_true rfl⟩ (fun r5 hr5 => ?_)
    subst hr5
    refine lb_if_eq (tgt := 27) hx hb dX5_setDefault_20 (by decide) (fun c20 => ?_) (fun c20 => ?_)
    · refine lv_iconst (v := (nI 0)) hx hb dX5_setDefault_27 rfl ?_
      exact jn28 false (by first | (rw [c10]; rfl) | (rw [c10, c20]; rfl)) _ _ hP hD hS _ (lv_sub hl [0, 1, 2, 3] rfl)
    · refine lv_iconst (v := (nI 1)) hx hb dX5_setDefault_23 rfl ?_
      refine lv_goto (tgt := 28) hx hb dX5_setDefault_24 (by decide) ?_
      exact jn28 true (by first | (rw [c10]; rfl) | (rw [c10, c20]; rfl)) _ _ hP hD hS _ (lv_sub hl [0, 1, 2, 3] rfl)

set_option maxHeartbeats 4000000 in
set_option maxRecDepth 100000 in
theorem kX5_opens (l : Launch) (D : va_G) (y3 : ClassId × ClassId × ClassId) (m0 : Nat) (m1 : Nat) (m2 : Nat) (m3 : Nat) (m4 : Nat) (m5 : Nat) (m6 : Nat) (m7 : Nat) (m8 : Nat) (m9 : Nat) (m10 : Nat) (m11 : Nat) (m12 : Nat) (m13 : Nat) (m14 : Nat) (m15 : Nat) (m16 : Nat) (m17 : Nat) (m18 : Nat) (nk : Nat) (np : Nat) (nr : Nat) (nl : Nat) (nb : Nat) (zo : Nat) (st : Nat → Int32) (kd : Nat) (pg : Nat) (hkd : kd < 14) (hpg : pg < 10) (hst : ∀ q : Nat, st q = nI 0 ∨ st q = nI 1 ∨ st q = nI 2) : rdM l yX5_opens wsX5_opens 0 0 D y3 [(m0, .inr (5, [.ref m1, .int (nI nk), .ref m2, .ref m3, .ref m4, .ref m5, .ref m6, .int (nI np), .ref m7, .ref m8, .ref m9, .ref m10, .ref m11, .ref m12, .ref m13, .ref m14, .int (nI nr), .ref m15, .int (nI nl), .ref m16, .int (nI nb), .ref m17, .ref m18, .int (nI zo)])), (m17, .inl (y3.1, 420, .inl st))] [.ref m0, .int (nI kd), .int (nI pg)] (fun r => r = (bI (opB st kd pg))) := by
  refine rz_of (cc := cX5_opens) (maxL := 7) (by decide) rfl (Nat.le_of_ble_eq_true rfl) ?_
  intro p e s m args below meth c Q hx hb hml hown hts hP hK hret ls hl
  replace hl : lv_has ls 7 [(0, .ref m0), (1, .int (nI kd)), (2, .int (nI pg))] := hl
  have hf59 := hts (.fieldLink RX5 59 "KindGuesserModel" "stand" "[I") (by decide +kernel)
  have hiX5 : ∀ q ∈ wsX50, q ∈ wsX5_opens := by decide +kernel
  refine lv_iconst (v := (nI 0)) hx hb dX5_opens_0 rfl ?_
  refine lv_istore_n (lv' := [(3, .int (nI 0)), (0, .ref m0), (1, .int (nI kd)), (2, .int (nI pg))]) hx hb dX5_opens_1 rfl hl (by decide) rfl (fun ls hl => ?_)
  refine lv_iconst (v := (nI 0)) hx hb dX5_opens_2 rfl ?_
  refine lv_istore (lv' := [(4, .int (nI 0)), (3, .int (nI 0)), (0, .ref m0), (1, .int (nI kd)), (2, .int (nI pg))]) hx hb dX5_opens_3 hl (by decide) rfl (fun ls hl => ?_)
  refine lv_iconst (v := (nI 0)) hx hb dX5_opens_5 rfl ?_
  refine lv_istore (lv' := [(5, .int (nI 0)), (4, .int (nI 0)), (3, .int (nI 0)), (0, .ref m0), (1, .int (nI kd)), (2, .int (nI pg))]) hx hb dX5_opens_6 hl (by decide) rfl (fun ls hl => ?_)
  have lp8 : ∀ (n1 : Nat) (i : Nat) (g h : Bool), 3 - i < n1 → (i ≤ 3) → (opI st kd pg i g h) → ∀ ls : Array Slot, lv_has ls 7 [(5, .int (nI i)), (4, .int (bI h)), (3, .int (bI g)), (0, .ref m0), (1, .int (nI kd)), (2, .int (nI pg))] → W p l e (rmO 0 0 0 0) s m args below meth c s.heap [] 0 0 Q (F0 m 8 ls []) := by
    intro n1
    induction n1 with
    | zero => intro i g h hm; exact absurd hm (Nat.not_lt_zero _)
    | succ n1 ih8 =>
      intro i g h hm8 h1 h2 ls hl
      refine lv_iload hx hb dX5_opens_8 (lv_at hl 0 rfl) ?_
      refine lv_iconst (v := (nI 3)) hx hb dX5_opens_10 rfl ?_
      refine ln_icmp_ge (tgt := 79) hx hb (by omega) (by omega) dX5_opens_11 (by decide) (fun c11 => ?_) (fun c11 => ?_)
      · refine lv_iload_n hx hb dX5_opens_79 rfl (lv_at hl 2 rfl) ?_
        exact hret 80 ls _ (congrArg bI (opI_e (by rw [show i = 3 from by omega] at h2; exact h2))) dX5_opens_80
      · refine lv_aload_n hx hb dX5_opens_14 rfl (lv_at hl 3 rfl) ?_
        refine va_get (D := D) (ci := 5) (v := .ref m17) (C := RX5) (T := TX5) (N := 24) hx hb hts hiX5 hown hK hP 0 rfl rfl 21 (by decide) hf59 (fun _ h9 => h9) rfl dX5_opens_15 ?_
        refine lv_sipush (v := (nI 140)) hx hb dX5_opens_18 rfl ?_
        refine lv_iload hx hb dX5_opens_21 (lv_at hl 0 rfl) ?_
        refine ln_imul (n := 140 * i) hx hb (by omega) dX5_opens_23 ?_
        refine lv_bipush (v := (nI 10)) hx hb dX5_opens_24 rfl ?_
        refine lv_iload_n hx hb dX5_opens_26 rfl (lv_at hl 4 rfl) ?_
        refine ln_imul (n := 10 * kd) hx hb (by omega) dX5_opens_27 ?_
        refine ln_iadd (n := (140 * i) + (10 * kd)) hx hb (by omega) dX5_opens_28 ?_
        refine lv_iload_n hx hb dX5_opens_29 rfl (lv_at hl 5 rfl) ?_
        refine ln_iadd (n := ((((i * 14) + kd) * 10) + pg)) hx hb (by omega) dX5_opens_30 ?_
        refine ln_iald hx hb hK hP 1 0 rfl rfl (by omega) (by decide) dX5_opens_31 ?_
        refine lv_istore (lv' := [(6, .int (st ((((i * 14) + kd) * 10) + pg))), (5, .int (nI i)), (4, .int (bI h)), (3, .int (bI g)), (0, .ref m0), (1, .int (nI kd)), (2, .int (nI pg))]) hx hb dX5_opens_32 hl (by decide) rfl (fun ls hl => ?_)
        have jn54 : ∀ (g2 : Bool), (g2 = (g || (decide (st ((((i * 14) + kd) * 10) + pg) = nI 1) && !h))) → ∀ ls : Array Slot, lv_has ls 7 [(6, .int (st ((((i * 14) + kd) * 10) + pg))), (5, .int (nI i)), (4, .int (bI h)), (3, .int (bI g)), (0, .ref m0), (1, .int (nI kd)), (2, .int (nI pg))] → W p l e (rmO 0 0 0 0) s m args below meth c s.heap [] 0 0 Q (F0 m 54 ls [.int (bI g2)]) := by
          intro g2 hg2 ls hl
          refine lv_istore_n (lv' := [(3, .int (bI g2)), (6, .int (st ((((i * 14) + kd) * 10) + pg))), (5, .int (nI i)), (4, .int (bI h)), (0, .ref m0), (1, .int (nI kd)), (2, .int (nI pg))]) hx hb dX5_opens_54 rfl hl (by decide) rfl (fun ls hl => ?_)
          have jn71 : ∀ (h9 : Bool), (h9 = (h || decide (st ((((i * 14) + kd) * 10) + pg) = nI 2))) → ∀ ls : Array Slot, lv_has ls 7 [(3, .int (bI g2)), (6, .int (st ((((i * 14) + kd) * 10) + pg))), (5, .int (nI i)), (4, .int (bI h)), (0, .ref m0), (1, .int (nI kd)), (2, .int (nI pg))] → W p l e (rmO 0 0 0 0) s m args below meth c s.heap [] 0 0 Q (F0 m 71 ls [.int (bI h9)]) := by
            intro h9 hh9 ls hl
            refine lv_istore (lv' := [(4, .int (bI h9)), (3, .int (bI g2)), (6, .int (st ((((i * 14) + kd) * 10) + pg))), (5, .int (nI i)), (0, .ref m0), (1, .int (nI kd)), (2, .int (nI pg))]) hx hb dX5_opens_71 hl (by decide) rfl (fun ls hl => ?_)
            refine lv_iinc (v := (nI (i + 1))) (lv' := [(5, .int (nI (i + 1))), (4, .int (bI h9)), (3, .int (bI g2)), (6, .int (st ((((i * 14) + kd) * 10) + pg))), (0, .ref m0), (1, .int (nI kd)), (2, .int (nI pg))]) hx hb dX5_opens_73 hl (k := 3) rfl (nI_add _ _) (by decide) rfl (fun ls hl => ?_)
            refine lv_goto (tgt := 8) hx hb dX5_opens_76 (by decide) ?_
            exact ih8 (i + 1) g2 h9 (by omega) (by omega) (opI_s h2 (by omega) hg2 hh9 (hst _)) _ (lv_sub hl [0, 1, 2, 4, 5, 6] rfl)
          refine lv_iload hx hb dX5_opens_55 (lv_at hl 3 rfl) ?_
          refine lb_if_ne (tgt := 66) hx hb dX5_opens_57 (by decide) (fun c57 => ?_) (fun c57 => ?_)
          · refine lv_iconst (v := (nI 1)) hx hb dX5_opens_66 rfl ?_
            refine lv_goto (tgt := 71) hx hb dX5_opens_67 (by decide) ?_
            exact jn71 true (by first | (rw [c57]; rfl) | (rw [c57, decide_eq_true c63]; rfl) | (rw [c57, decide_eq_false c63]; rfl)) _ (lv_sub hl [0, 1, 2, 3, 4, 5, 6] rfl)
          · refine lv_iload hx hb dX5_opens_60 (lv_at hl 1 rfl) ?_
            refine lv_iconst (v := (nI 2)) hx hb dX5_opens_62 rfl ?_
            refine lv_icmp_ne (tgt := 70) hx hb dX5_opens_63 (by decide) (fun c63 => ?_) (fun c63 => ?_)
            · refine lv_iconst (v := (nI 0)) hx hb dX5_opens_70 rfl ?_
              exact jn71 false (by first | (rw [c57]; rfl) | (rw [c57, decide_eq_true c63]; rfl) | (rw [c57, decide_eq_false c63]; rfl)) _ (lv_sub hl [0, 1, 2, 3, 4, 5, 6] rfl)
            · refine lv_iconst (v := (nI 1)) hx hb dX5_opens_66 rfl ?_
              refine lv_goto (tgt := 71) hx hb dX5_opens_67 (by decide) ?_
              exact jn71 true (by first | (rw [c57]; rfl) | (rw [c57, decide_eq_true c63]; rfl) | (rw [c57, decide_eq_false c63]; rfl)) _ (lv_sub hl [0, 1, 2, 3, 4, 5, 6] rfl)
        refine lv_iload_n hx hb dX5_opens_34 rfl (lv_at hl 3 rfl) ?_
        refine lb_if_ne (tgt := 49) hx hb dX5_opens_35 (by decide) (fun c35 => ?_) (fun c35 => ?_)
        · refine lv_iconst (v := (nI 1)) hx hb dX5_opens_49 rfl ?_
          refine lv_goto (tgt := 54) hx hb dX5_opens_50 (by decide) ?_
          exact jn54 true (by first | (rw [c35]; rfl) | (rw [c35, decide_eq_true c41, c46]; rfl) | (rw [c35, decide_eq_false c41]; rfl)) _ (lv_sub hl [0, 1, 2, 3, 4, 5, 6] rfl)
        · refine lv_iload hx hb dX5_opens_38 (lv_at hl 0 rfl) ?_
          refine lv_iconst (v := (nI 1)) hx hb dX5_opens_40 rfl ?_
          refine lv_icmp_ne (tgt := 53) hx hb dX5_opens_41 (by decide) (fun c41 => ?_) (fun c41 => ?_)
          · refine lv_iconst (v := (nI 0)) hx hb dX5_opens_53 rfl ?_
            exact jn54 false (by first | (rw [c35]; rfl) | (rw [c35, decide_eq_true c41, c46]; rfl) | (rw [c35, decide_eq_false c41]; rfl)) _ (lv_sub hl [0, 1, 2, 3, 4, 5, 6] rfl)
          · refine lv_iload hx hb dX5_opens_44 (lv_at hl 2 rfl) ?_
            refine lb_if_ne (tgt := 53) hx hb dX5_opens_46 (by decide) (fun c46 => ?_) (fun c46 => ?_)
            · refine lv_iconst (v := (nI 0)) hx hb dX5_opens_53 rfl ?_
              exact jn54 false (by first | (rw [c35]; rfl) | (rw [c35, decide_eq_true c41, c46]; rfl) | (rw [c35, decide_eq_false c41]; rfl)) _ (lv_sub hl [0, 1, 2, 3, 4, 5, 6] rfl)
            · refine lv_iconst (v := (nI 1)) hx hb dX5_opens_49 rfl ?_
              refine lv_goto (tgt := 54) hx hb dX5_opens_50 (by decide) ?_
              exact jn54 true (by first | (rw [c35]; rfl) | (rw [c35, decide_eq_true c41, c46]; rfl) | (rw [c35, decide_eq_false c41]; rfl)) _ (lv_sub hl [0, 1, 2, 3, 4, 5, 6] rfl)
  exact lp8 _ 0 false false (Nat.lt_succ_self _) (Nat.zero_le _) opI_0 _ (lv_sub hl [0, 1, 2, 3, 4, 5] rfl)

set_option maxHeartbeats 4000000 in
set_option maxRecDepth 100000 in
theorem kX5_listed_c (l : Launch) (D : va_G) (y3 : ClassId × ClassId × ClassId) (m0 : Nat) (m1 : Nat) (m2 : Nat) (m3 : Nat) (m4 : Nat) (m5 : Nat) (m6 : Nat) (m7 : Nat) (m8 : Nat) (m9 : Nat) (m10 : Nat) (m11 : Nat) (m12 : Nat) (m13 : Nat) (m14 : Nat) (m15 : Nat) (m16 : Nat) (m17 : Nat) (m18 : Nat) (nk : Nat) (np : Nat) (nr : Nat) (nl : Nat) (nb : Nat) (zo : Nat) (par : Nat → Int32) (st : Nat → Int32) (j : Nat) (hj : j < nk) (hk : nk ≤ 14) (hp : parOK par nk) (hst : ∀ q : Nat, st q = nI 0 ∨ st q = nI 1 ∨ st q = nI 2) : rdM l yX5_listed wsX5_listed 1 26 D y3 [(m0, .inr (5, [.ref m1, .int (nI nk), .ref m2, .ref m3, .ref m4, .ref m5, .ref m6, .int (nI np), .ref m7, .ref m8, .ref m9, .ref m10, .ref m11, .ref m12, .ref m13, .ref m14, .int (nI nr), .ref m15, .int (nI nl), .ref m16, .int (nI nb), .ref m17, .ref m18, .int (nI zo)])), (m1, .inl (y3.1, 14, .inl par)), (m17, .inl (y3.1, 420, .inl st))] [.ref m0, .int (nI j), .int (-1)] (fun r => r = (nI (cntB (seenB st par 14 (nI j) (fun _ => false)) 10))) := by
  refine rd_of (cc := cX5_listed) (maxL := 7) (by decide) rfl (Nat.le_of_ble_eq_true rfl) ?_
  intro p e s m args below meth c Q hx hb hml hown hts hP hK hret ls hl
  replace hl : lv_has ls 7 [(0, .ref m0), (1, .int (nI j)), (2, .int (-1))] := hl
  have hf7 := hts (.fieldLink RX5 7 "KindGuesserModel" "parent" "[I") (by decide +kernel)
  have hiX5 : ∀ q ∈ wsX50, q ∈ wsX5_listed := by decide +kernel
  refine lv_iconst (v := (nI 0)) hx hb dX5_listed_0 rfl ?_
  refine lv_istore_n (lv' := [(3, .int (nI 0)), (0, .ref m0), (1, .int (nI j)), (2, .int (-1))]) hx hb dX5_listed_1 rfl hl (by decide) rfl (fun ls hl => ?_)
  refine lv_iconst (v := (nI 0)) hx hb dX5_listed_2 rfl ?_
  refine lv_istore (lv' := [(4, .int (nI 0)), (3, .int (nI 0)), (0, .ref m0), (1, .int (nI j)), (2, .int (-1))]) hx hb dX5_listed_3 hl (by decide) rfl (fun ls hl => ?_)
  refine lv_iload_n hx hb dX5_listed_5 rfl (lv_at hl 3 rfl) ?_
  refine lv_istore (lv' := [(5, .int (nI j)), (4, .int (nI 0)), (3, .int (nI 0)), (0, .ref m0), (1, .int (nI j)), (2, .int (-1))]) hx hb dX5_listed_6 hl (by decide) rfl (fun ls hl => ?_)
  have lp8 : ∀ (n1 : Nat) (v : Option Nat) (f : Nat) (a : Int32) (n9 : Nat), msr v < n1 → (∀ i : Nat, v = some i → i < nk) → (seenB st par f (oI v) (bt a) = seenB st par 14 (nI j) (fun _ => false)) → (msr v ≤ f) → (∀ i : Nat, 10 ≤ i → i < 32 → bt a i = false) → (n9 = cntB (bt a) 10) → ∀ ls : Array Slot, lv_has ls 7 [(5, .int (oI v)), (4, .int (nI n9)), (3, .int a), (0, .ref m0), (1, .int (nI j)), (2, .int (-1))] → W p l e (rmO 1 0 0 26) s m args below meth c s.heap [] 0 0 Q (F0 m 8 ls []) := by
    intro n1
    induction n1 with
    | zero => intro v f a n9 hm; exact absurd hm (Nat.not_lt_zero _)
    | succ n1 ih8 =>
      intro v f a n9 hm8 h1 h3 h4 h5 h6 ls hl
      refine lv_iload hx hb dX5_listed_8 (lv_at hl 0 rfl) ?_
      refine lv_iconst (v := (-1)) hx hb dX5_listed_10 rfl ?_
      refine lv_icmp_eq (tgt := 81) hx hb dX5_listed_11 (by decide) (fun c11 => ?_) (fun c11 => ?_)
      · refine lv_iload_n hx hb dX5_listed_81 rfl (lv_at hl 5 rfl) ?_
        refine lv_iconst (v := (-1)) hx hb dX5_listed_82 rfl ?_
        refine lv_icmp_ne (tgt := 91) hx hb dX5_listed_83 (by decide) (fun c83 => ?_) (fun c83 => ?_)
        · exact absurd rfl c83
        · refine lv_iload hx hb dX5_listed_86 (lv_at hl 1 rfl) ?_
          refine lv_goto (tgt := 92) hx hb dX5_listed_88 (by decide) ?_
          exact hret 92 ls _ (by rw [h6, ← (show bt a = seenB st par 14 (nI j) (fun _ => false) from by rw [← h3, c11, seen_m1])]) dX5_listed_92
      · obtain ⟨i, ev⟩ := oI_some c11
        have hi := h1 i ev
        obtain ⟨v2, ev2, hv2, hmv⟩ := par_n hp hi
        refine lv_iconst (v := (nI 0)) hx hb dX5_listed_14 rfl ?_
        refine lv_istore (lv' := [(6, .int (nI 0)), (5, .int (oI v)), (4, .int (nI n9)), (3, .int a), (0, .ref m0), (1, .int (nI j)), (2, .int (-1))]) hx hb dX5_listed_15 hl (by decide) rfl (fun ls hl => ?_)
        have lp17 : ∀ (n2 : Nat) (kq : Nat) (b : Int32) (w9 : Nat), 10 - kq < n2 → (kq ≤ 10) → (∀ i9 : Nat, i9 < 32 → bt b i9 = (bt a i9 || (decide (i9 < kq) && nwB st i (bt a) i9))) → (w9 = cntB (bt a) 10 + cntB (nwB st i (bt a)) kq) → ∀ ls : Array Slot, lv_has ls 7 [(6, .int (nI kq)), (5, .int (oI v)), (4, .int (nI w9)), (3, .int b), (0, .ref m0), (1, .int (nI j)), (2, .int (-1))] → W p l e (rmO 1 0 0 26) s m args below meth c s.heap [] 0 0 Q (F0 m 17 ls []) := by
          intro n2
          induction n2 with
          | zero => intro kq b w9 hm; exact absurd hm (Nat.not_lt_zero _)
          | succ n2 ih17 =>
            intro kq b w9 hm17 g1 g2 g3 ls hl
            refine lv_iload hx hb dX5_listed_17 (lv_at hl 0 rfl) ?_
            refine lv_bipush (v := (nI 10)) hx hb dX5_listed_19 rfl ?_
            refine ln_icmp_ge (tgt := 69) hx hb (by omega) (by omega) dX5_listed_21 (by decide) (fun c21 => ?_) (fun c21 => ?_)
            · have e10 : kq = 10 := by omega
              rw [e10] at g2 g3
              have hfin := ls_f g2
              refine lv_aload_n hx hb dX5_listed_69 rfl (lv_at hl 4 rfl) ?_
              refine va_get (D := D) (ci := 5) (v := .ref m1) (C := RX5) (T := TX5) (N := 24) hx hb hts hiX5 hown hK hP 0 rfl rfl 0 (by decide) hf7 (fun _ h9 => h9) rfl dX5_listed_70 ?_
              refine lv_iload hx hb dX5_listed_73 (lv_at hl 1 rfl) ?_
              refine ln_eqi (y := (nI i)) (by rw [ev]; rfl) ?_
              refine ln_iald hx hb hK hP 1 0 rfl rfl (by omega) (by decide) dX5_listed_75 ?_
              refine ln_eqi (y := (oI v2)) ev2 ?_
              refine lv_istore (lv' := [(5, .int (oI v2)), (6, .int (nI kq)), (4, .int (nI w9)), (3, .int b), (0, .ref m0), (1, .int (nI j)), (2, .int (-1))]) hx hb dX5_listed_76 hl (by decide) rfl (fun ls hl => ?_)
              refine lv_goto (tgt := 8) hx hb dX5_listed_78 (by decide) ?_
              exact ih8 v2 (f - 1) b w9 (by rw [ev] at hm8; exact Nat.lt_of_lt_of_le hmv (Nat.le_of_lt_succ hm8)) hv2 (by rw [← h3, ev]; exact ls_c (by rw [← ev]; exact c11) (by rw [ev] at h4; exact h4) ev2 (by omega) hfin h5) (by rw [ev] at h4; exact Nat.le_sub_one_of_lt (Nat.lt_of_lt_of_le hmv h4)) (ls_hi hfin h5) (ls_n hfin g3) _ (lv_sub hl [0, 2, 3, 4, 5, 6] rfl)
            · refine lv_iload_n hx hb dX5_listed_24 rfl (lv_at hl 3 rfl) ?_
              refine lv_iload hx hb dX5_listed_25 (lv_at hl 0 rfl) ?_
              refine lv_ishr hx hb dX5_listed_27 ?_
              refine lv_iconst (v := (nI 1)) hx hb dX5_listed_28 rfl ?_
              refine lv_iand hx hb dX5_listed_29 ?_
              refine lv_if_ne (tgt := 63) hx hb dX5_listed_30 (by decide) (fun c30 => ?_) (fun c30 => ?_)
              · refine lv_iinc (v := (nI (kq + 1))) (lv' := [(6, .int (nI (kq + 1))), (5, .int (oI v)), (4, .int (nI w9)), (3, .int b), (0, .ref m0), (1, .int (nI j)), (2, .int (-1))]) hx hb dX5_listed_63 hl (k := 0) rfl (nI_add _ _) (by decide) rfl (fun ls hl => ?_)
                refine lv_goto (tgt := 17) hx hb dX5_listed_66 (by decide) ?_
                exact ih17 (kq + 1) b w9 (by omega) (by omega) (ls_g2n g2 (by first | exact ls_w0 (bt_on c30 (by omega)) g2 (by omega) | exact ls_w1 c41)) (by rw [cntB_f (P := nwB st i (bt a)) (n := kq) (by first | exact ls_w0 (bt_on c30 (by omega)) g2 (by omega) | exact ls_w1 c41)]; exact g3) _ (lv_sub hl [0, 1, 2, 3, 4, 5, 6] rfl)
              · refine lv_aload_n hx hb dX5_listed_33 rfl (lv_at hl 4 rfl) ?_
                refine lv_iload hx hb dX5_listed_34 (lv_at hl 1 rfl) ?_
                refine ln_eqi (y := (nI i)) (by rw [ev]; rfl) ?_
                refine lv_iload hx hb dX5_listed_36 (lv_at hl 0 rfl) ?_
                refine rd_V (ci := 5) (q0 := 0) (own := RX5) (As := [.int (nI i), .int (nI kq)]) (rest := []) (bytes := cX5_opens) (maxL := 7) ⟨hx, hb, hml, hown, hts⟩ (kX5_opens l D y3 m0 m1 m2 m3 m4 m5 m6 m7 m8 m9 m10 m11 m12 m13 m14 m15 m16 m17 m18 nk np nr nl nb zo st i kq (by omega) (by omega) (by assumption)) gX5_listed_X5_opens rfl hvX5_opens ⟨Nat.le_of_ble_eq_true rfl, Nat.le_of_ble_eq_true rfl⟩ hP hK [0, 2] rfl rfl rfl hl.1 rfl (Nat.le_of_ble_eq_true rfl) dX5_listed_38 ⟨Nat.zero_le _, Nat.zero_le _⟩ (fun r3 hr3 => ?_)
                subst hr3
                refine lb_if_eq (tgt := 63) hx hb dX5_listed_41 (by decide) (fun c41 => ?_) (fun c41 => ?_)
                · refine lv_iinc (v := (nI (kq + 1))) (lv' := [(6, .int (nI (kq + 1))), (5, .int (oI v)), (4, .int (nI w9)), (3, .int b), (0, .ref m0), (1, .int (nI j)), (2, .int (-1))]) hx hb dX5_listed_63 hl (k := 0) rfl (nI_add _ _) (by decide) rfl (fun ls hl => ?_)
                  refine lv_goto (tgt := 17) hx hb dX5_listed_66 (by decide) ?_
                  exact ih17 (kq + 1) b w9 (by omega) (by omega) (ls_g2n g2 (by first | exact ls_w0 (bt_on c30 (by omega)) g2 (by omega) | exact ls_w1 c41)) (by rw [cntB_f (P := nwB st i (bt a)) (n := kq) (by first | exact ls_w0 (bt_on c30 (by omega)) g2 (by omega) | exact ls_w1 c41)]; exact g3) _ (lv_sub hl [0, 1, 2, 3, 4, 5, 6] rfl)
                · refine lv_iload hx hb dX5_listed_44 (lv_at hl 2 rfl) ?_
                  refine lv_iload_n hx hb dX5_listed_46 rfl (lv_at hl 6 rfl) ?_
                  refine lv_icmp_ne (tgt := 53) hx hb dX5_listed_47 (by decide) (fun c47 => ?_) (fun c47 => ?_)
                  · refine lv_iload_n hx hb dX5_listed_53 rfl (lv_at hl 3 rfl) ?_
                    refine lv_iconst (v := (nI 1)) hx hb dX5_listed_54 rfl ?_
                    refine lv_iload hx hb dX5_listed_55 (lv_at hl 0 rfl) ?_
                    refine lv_ishl hx hb dX5_listed_57 ?_
                    refine lv_ior hx hb dX5_listed_58 ?_
                    refine lv_istore_n (lv' := [(3, .int (b ||| ((nI 1) <<< ((nI kq) &&& 31)))), (6, .int (nI kq)), (5, .int (oI v)), (4, .int (nI w9)), (0, .ref m0), (1, .int (nI j)), (2, .int (-1))]) hx hb dX5_listed_59 rfl hl (by decide) rfl (fun ls hl => ?_)
                    refine lv_iinc (v := (nI (w9 + 1))) (lv' := [(4, .int (nI (w9 + 1))), (3, .int (b ||| ((nI 1) <<< ((nI kq) &&& 31)))), (6, .int (nI kq)), (5, .int (oI v)), (0, .ref m0), (1, .int (nI j)), (2, .int (-1))]) hx hb dX5_listed_60 hl (k := 3) rfl (nI_add _ _) (by decide) rfl (fun ls hl => ?_)
                    refine lv_iinc (v := (nI (kq + 1))) (lv' := [(6, .int (nI (kq + 1))), (4, .int (nI (w9 + 1))), (3, .int (b ||| ((nI 1) <<< ((nI kq) &&& 31)))), (5, .int (oI v)), (0, .ref m0), (1, .int (nI j)), (2, .int (-1))]) hx hb dX5_listed_63 hl (k := 2) rfl (nI_add _ _) (by decide) rfl (fun ls hl => ?_)
                    refine lv_goto (tgt := 17) hx hb dX5_listed_66 (by decide) ?_
                    exact ih17 (kq + 1) (b ||| ((nI 1) <<< ((nI kq) &&& 31))) (w9 + 1) (by omega) (by omega) (ls_g2y g2 (ls_wt (bt_off c30 (by omega)) g2 (by omega) (by omega) c41) (by omega)) (by rw [cntB_t (P := nwB st i (bt a)) (n := kq) (ls_wt (bt_off c30 (by omega)) g2 (by omega) (by omega) c41)]; omega) _ (lv_sub hl [0, 3, 1, 2, 4, 5, 6] rfl)
                  · exact absurd c47 (nI_ne_m1 (by have hk0 := cntB_le (nwB st i (bt a)) kq; have hk1 := cntB_le (bt a) 10; omega))
        exact lp17 _ 0 a n9 (Nat.lt_succ_self _) (Nat.zero_le _) (fun i9 hi9 => by rw [decide_eq_false (Nat.not_lt_zero i9), Bool.false_and, Bool.or_false]) h6 _ (lv_sub hl [0, 1, 2, 3, 4, 5, 6] rfl)
  exact lp8 _ (some j) 14 (nI 0) 0 (Nat.lt_succ_self _) (fun i hi => by cases hi; exact hj) (by rw [show bt (nI 0) = (fun _ => false) from funext bt_0]; rfl) (by show j + 1 ≤ 14; omega) (fun i _ _ => bt_0 i) (by rw [show bt (nI 0) = (fun _ => false) from funext bt_0]; rfl) _ (lv_sub hl [0, 1, 2, 3, 4, 5] rfl)

set_option maxHeartbeats 4000000 in
set_option maxRecDepth 100000 in
theorem kX5_listed_p (l : Launch) (D : va_G) (y3 : ClassId × ClassId × ClassId) (m0 : Nat) (m1 : Nat) (m2 : Nat) (m3 : Nat) (m4 : Nat) (m5 : Nat) (m6 : Nat) (m7 : Nat) (m8 : Nat) (m9 : Nat) (m10 : Nat) (m11 : Nat) (m12 : Nat) (m13 : Nat) (m14 : Nat) (m15 : Nat) (m16 : Nat) (m17 : Nat) (m18 : Nat) (nk : Nat) (np : Nat) (nr : Nat) (nl : Nat) (nb : Nat) (zo : Nat) (par : Nat → Int32) (st : Nat → Int32) (j : Nat) (p9 : Nat) (hj : j < nk) (hk : nk ≤ 14) (hp : parOK par nk) (hst : ∀ q : Nat, st q = nI 0 ∨ st q = nI 1 ∨ st q = nI 2) (hp9 : p9 < 2 ^ 31) : rdM l yX5_listed wsX5_listed 1 26 D y3 [(m0, .inr (5, [.ref m1, .int (nI nk), .ref m2, .ref m3, .ref m4, .ref m5, .ref m6, .int (nI np), .ref m7, .ref m8, .ref m9, .ref m10, .ref m11, .ref m12, .ref m13, .ref m14, .int (nI nr), .ref m15, .int (nI nl), .ref m16, .int (nI nb), .ref m17, .ref m18, .int (nI zo)])), (m1, .inl (y3.1, 14, .inl par)), (m17, .inl (y3.1, 420, .inl st))] [.ref m0, .int (nI j), .int (nI p9)] (fun r => r = (oI (pioB st par p9 14 (nI j) (fun _ => false)))) := by
  refine rd_of (cc := cX5_listed) (maxL := 7) (by decide) rfl (Nat.le_of_ble_eq_true rfl) ?_
  intro p e s m args below meth c Q hx hb hml hown hts hP hK hret ls hl
  replace hl : lv_has ls 7 [(0, .ref m0), (1, .int (nI j)), (2, .int (nI p9))] := hl
  have hf7 := hts (.fieldLink RX5 7 "KindGuesserModel" "parent" "[I") (by decide +kernel)
  have hiX5 : ∀ q ∈ wsX50, q ∈ wsX5_listed := by decide +kernel
  refine lv_iconst (v := (nI 0)) hx hb dX5_listed_0 rfl ?_
  refine lv_istore_n (lv' := [(3, .int (nI 0)), (0, .ref m0), (1, .int (nI j)), (2, .int (nI p9))]) hx hb dX5_listed_1 rfl hl (by decide) rfl (fun ls hl => ?_)
  refine lv_iconst (v := (nI 0)) hx hb dX5_listed_2 rfl ?_
  refine lv_istore (lv' := [(4, .int (nI 0)), (3, .int (nI 0)), (0, .ref m0), (1, .int (nI j)), (2, .int (nI p9))]) hx hb dX5_listed_3 hl (by decide) rfl (fun ls hl => ?_)
  refine lv_iload_n hx hb dX5_listed_5 rfl (lv_at hl 3 rfl) ?_
  refine lv_istore (lv' := [(5, .int (nI j)), (4, .int (nI 0)), (3, .int (nI 0)), (0, .ref m0), (1, .int (nI j)), (2, .int (nI p9))]) hx hb dX5_listed_6 hl (by decide) rfl (fun ls hl => ?_)
  have lp8 : ∀ (n1 : Nat) (v : Option Nat) (f : Nat) (a : Int32) (n9 : Nat), msr v < n1 → (∀ i : Nat, v = some i → i < nk) → (pioB st par p9 f (oI v) (bt a) = pioB st par p9 14 (nI j) (fun _ => false)) → (msr v ≤ f) → (∀ i : Nat, 10 ≤ i → i < 32 → bt a i = false) → (n9 = cntB (bt a) 10) → (n9 ≤ p9) → ∀ ls : Array Slot, lv_has ls 7 [(5, .int (oI v)), (4, .int (nI n9)), (3, .int a), (0, .ref m0), (1, .int (nI j)), (2, .int (nI p9))] → W p l e (rmO 1 0 0 26) s m args below meth c s.heap [] 0 0 Q (F0 m 8 ls []) := by
    intro n1
    induction n1 with
    | zero => intro v f a n9 hm; exact absurd hm (Nat.not_lt_zero _)
    | succ n1 ih8 =>
      intro v f a n9 hm8 h1 h3 h4 h5 h6 h7 ls hl
      refine lv_iload hx hb dX5_listed_8 (lv_at hl 0 rfl) ?_
      refine lv_iconst (v := (-1)) hx hb dX5_listed_10 rfl ?_
      refine lv_icmp_eq (tgt := 81) hx hb dX5_listed_11 (by decide) (fun c11 => ?_) (fun c11 => ?_)
      · refine lv_iload_n hx hb dX5_listed_81 rfl (lv_at hl 5 rfl) ?_
        refine lv_iconst (v := (-1)) hx hb dX5_listed_82 rfl ?_
        refine lv_icmp_ne (tgt := 91) hx hb dX5_listed_83 (by decide) (fun c83 => ?_) (fun c83 => ?_)
        · refine lv_iconst (v := (-1)) hx hb dX5_listed_91 rfl ?_
          exact hret 92 ls _ (by rw [← h3, c11, pio_m1]; rfl) dX5_listed_92
        · exact absurd c83 (nI_ne_m1 hp9)
      · obtain ⟨i, ev⟩ := oI_some c11
        have hi := h1 i ev
        obtain ⟨v2, ev2, hv2, hmv⟩ := par_n hp hi
        refine lv_iconst (v := (nI 0)) hx hb dX5_listed_14 rfl ?_
        refine lv_istore (lv' := [(6, .int (nI 0)), (5, .int (oI v)), (4, .int (nI n9)), (3, .int a), (0, .ref m0), (1, .int (nI j)), (2, .int (nI p9))]) hx hb dX5_listed_15 hl (by decide) rfl (fun ls hl => ?_)
        have lp17 : ∀ (n2 : Nat) (kq : Nat) (b : Int32) (w9 : Nat), 10 - kq < n2 → (kq ≤ 10) → (∀ i9 : Nat, i9 < 32 → bt b i9 = (bt a i9 || (decide (i9 < kq) && nwB st i (bt a) i9))) → (w9 = cntB (bt a) 10 + cntB (nwB st i (bt a)) kq) → (fnd (nwB st i (bt a)) (p9 - cntB (bt a) 10) kq = none) → (w9 ≤ p9) → ∀ ls : Array Slot, lv_has ls 7 [(6, .int (nI kq)), (5, .int (oI v)), (4, .int (nI w9)), (3, .int b), (0, .ref m0), (1, .int (nI j)), (2, .int (nI p9))] → W p l e (rmO 1 0 0 26) s m args below meth c s.heap [] 0 0 Q (F0 m 17 ls []) := by
          intro n2
          induction n2 with
          | zero => intro kq b w9 hm; exact absurd hm (Nat.not_lt_zero _)
          | succ n2 ih17 =>
            intro kq b w9 hm17 g1 g2 g3 g4 g5 ls hl
            refine lv_iload hx hb dX5_listed_17 (lv_at hl 0 rfl) ?_
            refine lv_bipush (v := (nI 10)) hx hb dX5_listed_19 rfl ?_
            refine ln_icmp_ge (tgt := 69) hx hb (by omega) (by omega) dX5_listed_21 (by decide) (fun c21 => ?_) (fun c21 => ?_)
            · have e10 : kq = 10 := by omega
              rw [e10] at g2 g3 g4
              have hfin := ls_f g2
              have hcc : ¬ p9 - cntB (bt a) 10 < cntB (nwB st i (bt a)) 10 := by omega
              refine lv_aload_n hx hb dX5_listed_69 rfl (lv_at hl 4 rfl) ?_
              refine va_get (D := D) (ci := 5) (v := .ref m1) (C := RX5) (T := TX5) (N := 24) hx hb hts hiX5 hown hK hP 0 rfl rfl 0 (by decide) hf7 (fun _ h9 => h9) rfl dX5_listed_70 ?_
              refine lv_iload hx hb dX5_listed_73 (lv_at hl 1 rfl) ?_
              refine ln_eqi (y := (nI i)) (by rw [ev]; rfl) ?_
              refine ln_iald hx hb hK hP 1 0 rfl rfl (by omega) (by decide) dX5_listed_75 ?_
              refine ln_eqi (y := (oI v2)) ev2 ?_
              refine lv_istore (lv' := [(5, .int (oI v2)), (6, .int (nI kq)), (4, .int (nI w9)), (3, .int b), (0, .ref m0), (1, .int (nI j)), (2, .int (nI p9))]) hx hb dX5_listed_76 hl (by decide) rfl (fun ls hl => ?_)
              refine lv_goto (tgt := 8) hx hb dX5_listed_78 (by decide) ?_
              exact ih8 v2 (f - 1) b w9 (by rw [ev] at hm8; exact Nat.lt_of_lt_of_le hmv (Nat.le_of_lt_succ hm8)) hv2 (by rw [← h3, ev]; exact ls_p (by rw [← ev]; exact c11) (by rw [ev] at h4; exact h4) ev2 (by omega) hfin h5 hcc) (by rw [ev] at h4; exact Nat.le_sub_one_of_lt (Nat.lt_of_lt_of_le hmv h4)) (ls_hi hfin h5) (ls_n hfin g3) g5 _ (lv_sub hl [0, 2, 3, 4, 5, 6] rfl)
            · refine lv_iload_n hx hb dX5_listed_24 rfl (lv_at hl 3 rfl) ?_
              refine lv_iload hx hb dX5_listed_25 (lv_at hl 0 rfl) ?_
              refine lv_ishr hx hb dX5_listed_27 ?_
              refine lv_iconst (v := (nI 1)) hx hb dX5_listed_28 rfl ?_
              refine lv_iand hx hb dX5_listed_29 ?_
              refine lv_if_ne (tgt := 63) hx hb dX5_listed_30 (by decide) (fun c30 => ?_) (fun c30 => ?_)
              · refine lv_iinc (v := (nI (kq + 1))) (lv' := [(6, .int (nI (kq + 1))), (5, .int (oI v)), (4, .int (nI w9)), (3, .int b), (0, .ref m0), (1, .int (nI j)), (2, .int (nI p9))]) hx hb dX5_listed_63 hl (k := 0) rfl (nI_add _ _) (by decide) rfl (fun ls hl => ?_)
                refine lv_goto (tgt := 17) hx hb dX5_listed_66 (by decide) ?_
                exact ih17 (kq + 1) b w9 (by omega) (by omega) (ls_g2n g2 (by first | exact ls_w0 (bt_on c30 (by omega)) g2 (by omega) | exact ls_w1 c41)) (by rw [cntB_f (P := nwB st i (bt a)) (n := kq) (by first | exact ls_w0 (bt_on c30 (by omega)) g2 (by omega) | exact ls_w1 c41)]; exact g3) (fnd_no g4 (Or.inl (by first | exact ls_w0 (bt_on c30 (by omega)) g2 (by omega) | exact ls_w1 c41))) g5 _ (lv_sub hl [0, 1, 2, 3, 4, 5, 6] rfl)
              · refine lv_aload_n hx hb dX5_listed_33 rfl (lv_at hl 4 rfl) ?_
                refine lv_iload hx hb dX5_listed_34 (lv_at hl 1 rfl) ?_
                refine ln_eqi (y := (nI i)) (by rw [ev]; rfl) ?_
                refine lv_iload hx hb dX5_listed_36 (lv_at hl 0 rfl) ?_
                refine rd_V (ci := 5) (q0 := 0) (own := RX5) (As := [.int (nI i), .int (nI kq)]) (rest := []) (bytes := cX5_opens) (maxL := 7) ⟨hx, hb, hml, hown, hts⟩ (kX5_opens l D y3 m0 m1 m2 m3 m4 m5 m6 m7 m8 m9 m10 m11 m12 m13 m14 m15 m16 m17 m18 nk np nr nl nb zo st i kq (by omega) (by omega) (by assumption)) gX5_listed_X5_opens rfl hvX5_opens ⟨Nat.le_of_ble_eq_true rfl, Nat.le_of_ble_eq_true rfl⟩ hP hK [0, 2] rfl rfl rfl hl.1 rfl (Nat.le_of_ble_eq_true rfl) dX5_listed_38 ⟨Nat.zero_le _, Nat.zero_le _⟩ (fun r3 hr3 => ?_)
                subst hr3
                refine lb_if_eq (tgt := 63) hx hb dX5_listed_41 (by decide) (fun c41 => ?_) (fun c41 => ?_)
                · refine lv_iinc (v := (nI (kq + 1))) (lv' := [(6, .int (nI (kq + 1))), (5, .int (oI v)), (4, .int (nI w9)), (3, .int b), (0, .ref m0), (1, .int (nI j)), (2, .int (nI p9))]) hx hb dX5_listed_63 hl (k := 0) rfl (nI_add _ _) (by decide) rfl (fun ls hl => ?_)
                  refine lv_goto (tgt := 17) hx hb dX5_listed_66 (by decide) ?_
                  exact ih17 (kq + 1) b w9 (by omega) (by omega) (ls_g2n g2 (by first | exact ls_w0 (bt_on c30 (by omega)) g2 (by omega) | exact ls_w1 c41)) (by rw [cntB_f (P := nwB st i (bt a)) (n := kq) (by first | exact ls_w0 (bt_on c30 (by omega)) g2 (by omega) | exact ls_w1 c41)]; exact g3) (fnd_no g4 (Or.inl (by first | exact ls_w0 (bt_on c30 (by omega)) g2 (by omega) | exact ls_w1 c41))) g5 _ (lv_sub hl [0, 1, 2, 3, 4, 5, 6] rfl)
                · refine lv_iload hx hb dX5_listed_44 (lv_at hl 2 rfl) ?_
                  refine lv_iload_n hx hb dX5_listed_46 rfl (lv_at hl 6 rfl) ?_
                  refine ln_icmp_ne (tgt := 53) hx hb (by omega) (by omega) dX5_listed_47 (by decide) (fun c47 => ?_) (fun c47 => ?_)
                  · refine lv_iload_n hx hb dX5_listed_53 rfl (lv_at hl 3 rfl) ?_
                    refine lv_iconst (v := (nI 1)) hx hb dX5_listed_54 rfl ?_
                    refine lv_iload hx hb dX5_listed_55 (lv_at hl 0 rfl) ?_
                    refine lv_ishl hx hb dX5_listed_57 ?_
                    refine lv_ior hx hb dX5_listed_58 ?_
                    refine lv_istore_n (lv' := [(3, .int (b ||| ((nI 1) <<< ((nI kq) &&& 31)))), (6, .int (nI kq)), (5, .int (oI v)), (4, .int (nI w9)), (0, .ref m0), (1, .int (nI j)), (2, .int (nI p9))]) hx hb dX5_listed_59 rfl hl (by decide) rfl (fun ls hl => ?_)
                    refine lv_iinc (v := (nI (w9 + 1))) (lv' := [(4, .int (nI (w9 + 1))), (3, .int (b ||| ((nI 1) <<< ((nI kq) &&& 31)))), (6, .int (nI kq)), (5, .int (oI v)), (0, .ref m0), (1, .int (nI j)), (2, .int (nI p9))]) hx hb dX5_listed_60 hl (k := 3) rfl (nI_add _ _) (by decide) rfl (fun ls hl => ?_)
                    refine lv_iinc (v := (nI (kq + 1))) (lv' := [(6, .int (nI (kq + 1))), (4, .int (nI (w9 + 1))), (3, .int (b ||| ((nI 1) <<< ((nI kq) &&& 31)))), (5, .int (oI v)), (0, .ref m0), (1, .int (nI j)), (2, .int (nI p9))]) hx hb dX5_listed_63 hl (k := 2) rfl (nI_add _ _) (by decide) rfl (fun ls hl => ?_)
                    refine lv_goto (tgt := 17) hx hb dX5_listed_66 (by decide) ?_
                    exact ih17 (kq + 1) (b ||| ((nI 1) <<< ((nI kq) &&& 31))) (w9 + 1) (by omega) (by omega) (ls_g2y g2 (ls_wt (bt_off c30 (by omega)) g2 (by omega) (by omega) c41) (by omega)) (by rw [cntB_t (P := nwB st i (bt a)) (n := kq) (ls_wt (bt_off c30 (by omega)) g2 (by omega) (by omega) c41)]; omega) (fnd_no g4 (Or.inr (by omega))) (by omega) _ (lv_sub hl [0, 3, 1, 2, 4, 5, 6] rfl)
                  · refine lv_iload hx hb dX5_listed_50 (lv_at hl 0 rfl) ?_
                    exact hret 52 ls _ (by rw [← h3, ev, show f = (f - 1) + 1 from by rw [ev] at h4; exact (Nat.sub_add_cancel (Nat.le_trans (Nat.succ_le_succ (Nat.zero_le _)) h4)).symm]; exact (ls_e (by rw [← ev]; exact c11) (by omega) (ls_wt (bt_off c30 (by omega)) g2 (by omega) (by omega) c41) (by omega) g3 c47 g4).symm) dX5_listed_52
        exact lp17 _ 0 a n9 (Nat.lt_succ_self _) (Nat.zero_le _) (fun i9 hi9 => by rw [decide_eq_false (Nat.not_lt_zero i9), Bool.false_and, Bool.or_false]) h6 rfl h7 _ (lv_sub hl [0, 1, 2, 3, 4, 5, 6] rfl)
  exact lp8 _ (some j) 14 (nI 0) 0 (Nat.lt_succ_self _) (fun i hi => by cases hi; exact hj) (by rw [show bt (nI 0) = (fun _ => false) from funext bt_0]; rfl) (by show j + 1 ≤ 14; omega) (fun i _ _ => bt_0 i) (by rw [show bt (nI 0) = (fun _ => false) from funext bt_0]; rfl) (Nat.zero_le _) _ (lv_sub hl [0, 1, 2, 3, 4, 5] rfl)

set_option maxHeartbeats 4000000 in
set_option maxRecDepth 100000 in
theorem kX5_programs_ok (l : Launch) (D : va_G) (y3 : ClassId × ClassId × ClassId) (m0 : Nat) (m1 : Nat) (m2 : Nat) (m3 : Nat) (m4 : Nat) (m5 : Nat) (m6 : Nat) (m7 : Nat) (m8 : Nat) (m9 : Nat) (m10 : Nat) (m11 : Nat) (m12 : Nat) (m13 : Nat) (m14 : Nat) (m15 : Nat) (m16 : Nat) (m17 : Nat) (m18 : Nat) (nk : Nat) (np : Nat) (nr : Nat) (nl : Nat) (nb : Nat) (zo : Nat) (par : Nat → Int32) (st : Nat → Int32) (k : Int32) (hk : nk ≤ 14) (hp : parOK par nk) (hst : ∀ q : Nat, st q = nI 0 ∨ st q = nI 1 ∨ st q = nI 2) (hz : (ak1 (inB k nk)) = 0) : wrM l yX5_programs wsX5_programs 2 52 0 0 D y3 [(m0, .inr (5, [.ref m1, .int (nI nk), .ref m2, .ref m3, .ref m4, .ref m5, .ref m6, .int (nI np), .ref m7, .ref m8, .ref m9, .ref m10, .ref m11, .ref m12, .ref m13, .ref m14, .int (nI nr), .ref m15, .int (nI nl), .ref m16, .int (nI nb), .ref m17, .ref m18, .int (nI zo)])), (m1, .inl (y3.1, 14, .inl par)), (m17, .inl (y3.1, 420, .inl st))] [.ref m0, .int k] (fun r (_ : Unit) => r = (nI (cntB (seenB st par 14 (nI k.toNatClampNeg) (fun _ => false)) 10))) (fun (_ : Unit) => [(m0, .inr (5, [.ref m1, .int (nI nk), .ref m2, .ref m3, .ref m4, .ref m5, .ref m6, .int (nI np), .ref m7, .ref m8, .ref m9, .ref m10, .ref m11, .ref m12, .ref m13, .ref m14, .int (nI nr), .ref m15, .int (nI nl), .ref m16, .int (nI nb), .ref m17, .ref m18, .int (nI 0)])), (m1, .inl (y3.1, 14, .inl par)), (m17, .inl (y3.1, 420, .inl st))]) := by
  refine wr_of (cc := cX5_programs) (maxL := 2) (by decide) rfl (Nat.le_of_ble_eq_true rfl) ?_
  intro p e s m args below meth c A Q hx hb hml hown hts hP hK hD hA hS hret ls hl
  replace hl : lv_has ls 2 [(0, .ref m0), (1, .int k)] := hl
  refine lv_aload_n hx hb dX5_programs_0 rfl (lv_at hl 0 rfl) ?_
  refine lv_aload_n hx hb dX5_programs_1 rfl (lv_at hl 0 rfl) ?_
  refine lv_iload_n hx hb dX5_programs_2 rfl (lv_at hl 1 rfl) ?_
  refine rd_V (ci := 5) (q0 := 0) (own := RX5) (As := [.int k]) (rest := [.ref m0]) (bytes := cX5_isKind) (maxL := 2) ⟨hx, hb, hml, hown, hts⟩ (kX5_isKind l D y3 m0 m1 m2 m3 m4 m5 m6 m7 m8 m9 m10 m11 m12 m13 m14 m15 m16 m17 m18 nk np nr nl nb zo k (by omega)) gX5_programs_X5_isKind rfl hvX5_isKind ⟨Nat.le_of_ble_eq_true rfl, Nat.le_of_ble_eq_true rfl⟩ hP hK [0] rfl rfl rfl hl.1 rfl (Nat.le_of_ble_eq_true rfl) dX5_programs_3 ⟨Nat.le_of_ble_eq_true rfl, Nat.le_of_ble_eq_true rfl⟩ (fun r1 hr1 => ?_)
  subst hr1
  refine wr_V (ci := 5) (q0 := 0) (own := RX5) (As := [.int (bI (inB k nk))]) (rest := []) (bytes := cX5_asked) (maxL := 2) (wr := [(m1, .inl (y3.1, 14, .inl par)), (m17, .inl (y3.1, 420, .inl st))]) (w3 := (fun (_ : Unit) => [(m0, .inr (5, [.ref m1, .int (nI nk), .ref m2, .ref m3, .ref m4, .ref m5, .ref m6, .int (nI np), .ref m7, .ref m8, .ref m9, .ref m10, .ref m11, .ref m12, .ref m13, .ref m14, .int (nI nr), .ref m15, .int (nI nl), .ref m16, .int (nI nb), .ref m17, .ref m18, .int (nI (ak1 (inB k nk)))])), (m1, .inl (y3.1, 14, .inl par)), (m17, .inl (y3.1, 420, .inl st))])) ⟨hx, hb, hml, hown, hts⟩ (kX5_asked l D y3 m0 m1 m2 m3 m4 m5 m6 m7 m8 m9 m10 m11 m12 m13 m14 m15 m16 m17 m18 nk np nr nl nb zo (inB k nk)) gX5_programs_X5_asked rfl hvX5_asked ⟨Nat.le_of_ble_eq_true rfl, Nat.le_of_ble_eq_true rfl⟩ hP hK hD hS hA [0] [1, 2] [2, 0, 1] rfl rfl rfl rfl (by decide) (fun _ => rfl) rfl rfl rfl hl.1 rfl (Nat.le_of_ble_eq_true rfl) dX5_programs_6 ⟨Nat.le_of_ble_eq_true rfl, Nat.le_of_ble_eq_true rfl⟩ (fun r2 u3 H locs hr2 hP hD hS => ?_)
  have hP : va_P D vwCl [(m0, .inr (5, [.ref m1, .int (nI nk), .ref m2, .ref m3, .ref m4, .ref m5, .ref m6, .int (nI np), .ref m7, .ref m8, .ref m9, .ref m10, .ref m11, .ref m12, .ref m13, .ref m14, .int (nI nr), .ref m15, .int (nI nl), .ref m16, .int (nI nb), .ref m17, .ref m18, .int (nI (ak1 (inB k nk)))])), (m1, .inl (y3.1, 14, .inl par)), (m17, .inl (y3.1, 420, .inl st))] H := hP
  have hD : va_D A [(m0, .inr (5, [.ref m1, .int (nI nk), .ref m2, .ref m3, .ref m4, .ref m5, .ref m6, .int (nI np), .ref m7, .ref m8, .ref m9, .ref m10, .ref m11, .ref m12, .ref m13, .ref m14, .int (nI nr), .ref m15, .int (nI nl), .ref m16, .int (nI nb), .ref m17, .ref m18, .int (nI (ak1 (inB k nk)))])), (m1, .inl (y3.1, 14, .inl par)), (m17, .inl (y3.1, 420, .inl st))] := hD
  subst hr2
  refine lb_if_eq (tgt := 21) hx hb dX5_programs_9 (by decide) (fun c9 => ?_) (fun c9 => ?_)
  · rw [ak1_t hz] at c9; cases c9
  · obtain ⟨ek, hkn⟩ := inB_c (ak1_t hz) (by omega)
    refine lv_aload_n hx hb dX5_programs_12 rfl (lv_at hl 0 rfl) ?_
    refine lv_iload_n hx hb dX5_programs_13 rfl (lv_at hl 1 rfl) ?_
    refine ln_eqi (y := (nI k.toNatClampNeg)) ek ?_
    refine lv_iconst (v := (-1)) hx hb dX5_programs_14 rfl ?_
    refine rd_V (ci := 5) (q0 := 0) (own := RX5) (As := [.int (nI k.toNatClampNeg), .int (-1)]) (rest := []) (bytes := cX5_listed) (maxL := 7) ⟨hx, hb, hml, hown, hts⟩ (kX5_listed_c l D y3 m0 m1 m2 m3 m4 m5 m6 m7 m8 m9 m10 m11 m12 m13 m14 m15 m16 m17 m18 nk np nr nl nb (ak1 (inB k nk)) par st k.toNatClampNeg (by omega) (by omega) (by assumption) (by assumption)) gX5_programs_X5_listed rfl hvX5_listed ⟨Nat.le_of_ble_eq_true rfl, Nat.le_of_ble_eq_true rfl⟩ hP hK [0, 1, 2] rfl rfl rfl hl.1 rfl (Nat.le_of_ble_eq_true rfl) dX5_programs_15 ⟨Nat.le_of_ble_eq_true rfl, Nat.le_of_ble_eq_true rfl⟩ (fun r4 hr4 => ?_)
    subst hr4
    refine lv_goto (tgt := 22) hx hb dX5_programs_18 (by decide) ?_
    rw [show ak1 (inB k nk) = 0 from hz] at hP hD
    exact hret 22 ls H locs _ _ () _ hP hD hS (Nat.le_of_ble_eq_true rfl) (Nat.le_of_ble_eq_true rfl) rfl dX5_programs_22

set_option maxHeartbeats 4000000 in
set_option maxRecDepth 100000 in
theorem kX5_programs_ex (l : Launch) (D : va_G) (y3 : ClassId × ClassId × ClassId) (m0 : Nat) (m1 : Nat) (m2 : Nat) (m3 : Nat) (m4 : Nat) (m5 : Nat) (m6 : Nat) (m7 : Nat) (m8 : Nat) (m9 : Nat) (m10 : Nat) (m11 : Nat) (m12 : Nat) (m13 : Nat) (m14 : Nat) (m15 : Nat) (m16 : Nat) (m17 : Nat) (m18 : Nat) (nk : Nat) (np : Nat) (nr : Nat) (nl : Nat) (nb : Nat) (zo : Nat) (par : Nat → Int32) (st : Nat → Int32) (k : Int32) (hk : nk ≤ 14) (hp : parOK par nk) (hst : ∀ q : Nat, st q = nI 0 ∨ st q = nI 1 ∨ st q = nI 2) (hz : ¬ (ak1 (inB k nk)) = 0) : wrM l yX5_programs wsX5_programs 2 52 0 0 D y3 [(m0, .inr (5, [.ref m1, .int (nI nk), .ref m2, .ref m3, .ref m4, .ref m5, .ref m6, .int (nI np), .ref m7, .ref m8, .ref m9, .ref m10, .ref m11, .ref m12, .ref m13, .ref m14, .int (nI nr), .ref m15, .int (nI nl), .ref m16, .int (nI nb), .ref m17, .ref m18, .int (nI zo)])), (m1, .inl (y3.1, 14, .inl par)), (m17, .inl (y3.1, 420, .inl st))] [.ref m0, .int k] (fun r (_ : Unit) => r = (nI 0)) (fun (_ : Unit) => [(m0, .inr (5, [.ref m1, .int (nI nk), .ref m2, .ref m3, .ref m4, .ref m5, .ref m6, .int (nI np), .ref m7, .ref m8, .ref m9, .ref m10, .ref m11, .ref m12, .ref m13, .ref m14, .int (nI nr), .ref m15, .int (nI nl), .ref m16, .int (nI nb), .ref m17, .ref m18, .int (nI (ak1 (inB k nk)))])), (m1, .inl (y3.1, 14, .inl par)), (m17, .inl (y3.1, 420, .inl st))]) := by
  refine wr_of (cc := cX5_programs) (maxL := 2) (by decide) rfl (Nat.le_of_ble_eq_true rfl) ?_
  intro p e s m args below meth c A Q hx hb hml hown hts hP hK hD hA hS hret ls hl
  replace hl : lv_has ls 2 [(0, .ref m0), (1, .int k)] := hl
  refine lv_aload_n hx hb dX5_programs_0 rfl (lv_at hl 0 rfl) ?_
  refine lv_aload_n hx hb dX5_programs_1 rfl (lv_at hl 0 rfl) ?_
  refine lv_iload_n hx hb dX5_programs_2 rfl (lv_at hl 1 rfl) ?_
  refine rd_V (ci := 5) (q0 := 0) (own := RX5) (As := [.int k]) (rest := [.ref m0]) (bytes := cX5_isKind) (maxL := 2) ⟨hx, hb, hml, hown, hts⟩ (kX5_isKind l D y3 m0 m1 m2 m3 m4 m5 m6 m7 m8 m9 m10 m11 m12 m13 m14 m15 m16 m17 m18 nk np nr nl nb zo k (by omega)) gX5_programs_X5_isKind rfl hvX5_isKind ⟨Nat.le_of_ble_eq_true rfl, Nat.le_of_ble_eq_true rfl⟩ hP hK [0] rfl rfl rfl hl.1 rfl (Nat.le_of_ble_eq_true rfl) dX5_programs_3 ⟨Nat.le_of_ble_eq_true rfl, Nat.le_of_ble_eq_true rfl⟩ (fun r1 hr1 => ?_)
  subst hr1
  refine wr_V (ci := 5) (q0 := 0) (own := RX5) (As := [.int (bI (inB k nk))]) (rest := []) (bytes := cX5_asked) (maxL := 2) (wr := [(m1, .inl (y3.1, 14, .inl par)), (m17, .inl (y3.1, 420, .inl st))]) (w3 := (fun (_ : Unit) => [(m0, .inr (5, [.ref m1, .int (nI nk), .ref m2, .ref m3, .ref m4, .ref m5, .ref m6, .int (nI np), .ref m7, .ref m8, .ref m9, .ref m10, .ref m11, .ref m12, .ref m13, .ref m14, .int (nI nr), .ref m15, .int (nI nl), .ref m16, .int (nI nb), .ref m17, .ref m18, .int (nI (ak1 (inB k nk)))])), (m1, .inl (y3.1, 14, .inl par)), (m17, .inl (y3.1, 420, .inl st))])) ⟨hx, hb, hml, hown, hts⟩ (kX5_asked l D y3 m0 m1 m2 m3 m4 m5 m6 m7 m8 m9 m10 m11 m12 m13 m14 m15 m16 m17 m18 nk np nr nl nb zo (inB k nk)) gX5_programs_X5_asked rfl hvX5_asked ⟨Nat.le_of_ble_eq_true rfl, Nat.le_of_ble_eq_true rfl⟩ hP hK hD hS hA [0] [1, 2] [2, 0, 1] rfl rfl rfl rfl (by decide) (fun _ => rfl) rfl rfl rfl hl.1 rfl (Nat.le_of_ble_eq_true rfl) dX5_programs_6 ⟨Nat.le_of_ble_eq_true rfl, Nat.le_of_ble_eq_true rfl⟩ (fun r2 u3 H locs hr2 hP hD hS => ?_)
  have hP : va_P D vwCl [(m0, .inr (5, [.ref m1, .int (nI nk), .ref m2, .ref m3, .ref m4, .ref m5, .ref m6, .int (nI np), .ref m7, .ref m8, .ref m9, .ref m10, .ref m11, .ref m12, .ref m13, .ref m14, .int (nI nr), .ref m15, .int (nI nl), .ref m16, .int (nI nb), .ref m17, .ref m18, .int (nI (ak1 (inB k nk)))])), (m1, .inl (y3.1, 14, .inl par)), (m17, .inl (y3.1, 420, .inl st))] H := hP
  have hD : va_D A [(m0, .inr (5, [.ref m1, .int (nI nk), .ref m2, .ref m3, .ref m4, .ref m5, .ref m6, .int (nI np), .ref m7, .ref m8, .ref m9, .ref m10, .ref m11, .ref m12, .ref m13, .ref m14, .int (nI nr), .ref m15, .int (nI nl), .ref m16, .int (nI nb), .ref m17, .ref m18, .int (nI (ak1 (inB k nk)))])), (m1, .inl (y3.1, 14, .inl par)), (m17, .inl (y3.1, 420, .inl st))] := hD
  subst hr2
  refine lb_if_eq (tgt := 21) hx hb dX5_programs_9 (by decide) (fun c9 => ?_) (fun c9 => ?_)
  · refine lv_iconst (v := (nI 0)) hx hb dX5_programs_21 rfl ?_
    exact hret 22 ls H locs _ _ () _ hP hD hS (Nat.le_of_ble_eq_true rfl) (Nat.le_of_ble_eq_true rfl) rfl dX5_programs_22
  · rw [ak1_f hz] at c9; cases c9

set_option maxHeartbeats 4000000 in
set_option maxRecDepth 100000 in
theorem kX5_programAt_ok (l : Launch) (D : va_G) (y3 : ClassId × ClassId × ClassId) (m0 : Nat) (m1 : Nat) (m2 : Nat) (m3 : Nat) (m4 : Nat) (m5 : Nat) (m6 : Nat) (m7 : Nat) (m8 : Nat) (m9 : Nat) (m10 : Nat) (m11 : Nat) (m12 : Nat) (m13 : Nat) (m14 : Nat) (m15 : Nat) (m16 : Nat) (m17 : Nat) (m18 : Nat) (nk : Nat) (np : Nat) (nr : Nat) (nl : Nat) (nb : Nat) (zo : Nat) (par : Nat → Int32) (st : Nat → Int32) (k : Int32) (pl : Int32) (hk : nk ≤ 14) (hp : parOK par nk) (hst : ∀ q : Nat, st q = nI 0 ∨ st q = nI 1 ∨ st q = nI 2) (hz : (ak1 (inB k nk && decide (¬ pioI st par k.toNatClampNeg pl = -1))) = 0) : wrM l yX5_programAt wsX5_programAt 2 52 0 0 D y3 [(m0, .inr (5, [.ref m1, .int (nI nk), .ref m2, .ref m3, .ref m4, .ref m5, .ref m6, .int (nI np), .ref m7, .ref m8, .ref m9, .ref m10, .ref m11, .ref m12, .ref m13, .ref m14, .int (nI nr), .ref m15, .int (nI nl), .ref m16, .int (nI nb), .ref m17, .ref m18, .int (nI zo)])), (m1, .inl (y3.1, 14, .inl par)), (m17, .inl (y3.1, 420, .inl st))] [.ref m0, .int k, .int pl] (fun r (_ : Unit) => r = (pioI st par k.toNatClampNeg pl)) (fun (_ : Unit) => [(m0, .inr (5, [.ref m1, .int (nI nk), .ref m2, .ref m3, .ref m4, .ref m5, .ref m6, .int (nI np), .ref m7, .ref m8, .ref m9, .ref m10, .ref m11, .ref m12, .ref m13, .ref m14, .int (nI nr), .ref m15, .int (nI nl), .ref m16, .int (nI nb), .ref m17, .ref m18, .int (nI 0)])), (m1, .inl (y3.1, 14, .inl par)), (m17, .inl (y3.1, 420, .inl st))]) := by
  refine wr_of (cc := cX5_programAt) (maxL := 4) (by decide) rfl (Nat.le_of_ble_eq_true rfl) ?_
  intro p e s m args below meth c A Q hx hb hml hown hts hP hK hD hA hS hret ls hl
  replace hl : lv_has ls 4 [(0, .ref m0), (1, .int k), (2, .int pl)] := hl
  have jn22 : ∀ (fv : Int32), (fv = (if inB k nk = true then pioI st par k.toNatClampNeg pl else -1)) → ∀ (H : Heap) (locs : List Loc), va_P D vwCl [(m0, .inr (5, [.ref m1, .int (nI nk), .ref m2, .ref m3, .ref m4, .ref m5, .ref m6, .int (nI np), .ref m7, .ref m8, .ref m9, .ref m10, .ref m11, .ref m12, .ref m13, .ref m14, .int (nI nr), .ref m15, .int (nI nl), .ref m16, .int (nI nb), .ref m17, .ref m18, .int (nI zo)])), (m1, .inl (y3.1, 14, .inl par)), (m17, .inl (y3.1, 420, .inl st))] H → va_D A [(m0, .inr (5, [.ref m1, .int (nI nk), .ref m2, .ref m3, .ref m4, .ref m5, .ref m6, .int (nI np), .ref m7, .ref m8, .ref m9, .ref m10, .ref m11, .ref m12, .ref m13, .ref m14, .int (nI nr), .ref m15, .int (nI nl), .ref m16, .int (nI nb), .ref m17, .ref m18, .int (nI zo)])), (m1, .inl (y3.1, 14, .inl par)), (m17, .inl (y3.1, 420, .inl st))] → va_S A s.heap H locs → ∀ ls : Array Slot, lv_has ls 4 [(0, .ref m0), (1, .int k), (2, .int pl)] → W p l e (rmO 2 0 0 52) s m args below meth c H locs 0 0 Q (F0 m 22 ls [.int fv]) := by
    intro fv hfv H locs hP hD hS ls hl
    refine lv_istore_n (lv' := [(3, .int fv), (0, .ref m0), (1, .int k), (2, .int pl)]) hx hb dX5_programAt_22 rfl hl (by decide) rfl (fun ls hl => ?_)
    have jn34 : ∀ (j1 : Bool), (j1 = decide (¬ fv = -1)) → ∀ (H : Heap) (locs : List Loc), va_P D vwCl [(m0, .inr (5, [.ref m1, .int (nI nk), .ref m2, .ref m3, .ref m4, .ref m5, .ref m6, .int (nI np), .ref m7, .ref m8, .ref m9, .ref m10, .ref m11, .ref m12, .ref m13, .ref m14, .int (nI nr), .ref m15, .int (nI nl), .ref m16, .int (nI nb), .ref m17, .ref m18, .int (nI zo)])), (m1, .inl (y3.1, 14, .inl par)), (m17, .inl (y3.1, 420, .inl st))] H → va_D A [(m0, .inr (5, [.ref m1, .int (nI nk), .ref m2, .ref m3, .ref m4, .ref m5, .ref m6, .int (nI np), .ref m7, .ref m8, .ref m9, .ref m10, .ref m11, .ref m12, .ref m13, .ref m14, .int (nI nr), .ref m15, .int (nI nl), .ref m16, .int (nI nb), .ref m17, .ref m18, .int (nI zo)])), (m1, .inl (y3.1, 14, .inl par)), (m17, .inl (y3.1, 420, .inl st))] → va_S A s.heap H locs → ∀ ls : Array Slot, lv_has ls 4 [(3, .int fv), (0, .ref m0), (1, .int k), (2, .int pl)] → W p l e (rmO 2 0 0 52) s m args below meth c H locs 0 0 Q (F0 m 34 ls [.int (bI j1), .ref m0]) := by
      intro j1 hj0 H locs hP hD hS ls hl
      have hj1 : j1 = (inB k nk && decide (¬ pioI st par k.toNatClampNeg pl = -1)) := by rw [hj0, hfv]; exact pa_z
      refine wr_V (ci := 5) (q0 := 0) (own := RX5) (As := [.int (bI j1)]) (rest := []) (bytes := cX5_asked) (maxL := 2) (wr := [(m1, .inl (y3.1, 14, .inl par)), (m17, .inl (y3.1, 420, .inl st))]) (w3 := (fun (_ : Unit) => [(m0, .inr (5, [.ref m1, .int (nI nk), .ref m2, .ref m3, .ref m4, .ref m5, .ref m6, .int (nI np), .ref m7, .ref m8, .ref m9, .ref m10, .ref m11, .ref m12, .ref m13, .ref m14, .int (nI nr), .ref m15, .int (nI nl), .ref m16, .int (nI nb), .ref m17, .ref m18, .int (nI (ak1 j1))])), (m1, .inl (y3.1, 14, .inl par)), (m17, .inl (y3.1, 420, .inl st))])) ⟨hx, hb, hml, hown, hts⟩ (kX5_asked l D y3 m0 m1 m2 m3 m4 m5 m6 m7 m8 m9 m10 m11 m12 m13 m14 m15 m16 m17 m18 nk np nr nl nb zo j1) gX5_programAt_X5_asked rfl hvX5_asked ⟨Nat.le_of_ble_eq_true rfl, Nat.le_of_ble_eq_true rfl⟩ hP hK hD hS hA [0] [1, 2] [2, 0, 1] rfl rfl rfl rfl (by decide) (fun _ => rfl) rfl rfl rfl hl.1 rfl (Nat.le_of_ble_eq_true rfl) dX5_programAt_34 ⟨Nat.le_of_ble_eq_true rfl, Nat.le_of_ble_eq_true rfl⟩ (fun r1 u2 H locs hr1 hP hD hS => ?_)
      have hP : va_P D vwCl [(m0, .inr (5, [.ref m1, .int (nI nk), .ref m2, .ref m3, .ref m4, .ref m5, .ref m6, .int (nI np), .ref m7, .ref m8, .ref m9, .ref m10, .ref m11, .ref m12, .ref m13, .ref m14, .int (nI nr), .ref m15, .int (nI nl), .ref m16, .int (nI nb), .ref m17, .ref m18, .int (nI (ak1 j1))])), (m1, .inl (y3.1, 14, .inl par)), (m17, .inl (y3.1, 420, .inl st))] H := hP
      have hD : va_D A [(m0, .inr (5, [.ref m1, .int (nI nk), .ref m2, .ref m3, .ref m4, .ref m5, .ref m6, .int (nI np), .ref m7, .ref m8, .ref m9, .ref m10, .ref m11, .ref m12, .ref m13, .ref m14, .int (nI nr), .ref m15, .int (nI nl), .ref m16, .int (nI nb), .ref m17, .ref m18, .int (nI (ak1 j1))])), (m1, .inl (y3.1, 14, .inl par)), (m17, .inl (y3.1, 420, .inl st))] := hD
      subst hr1
      refine lb_if_eq (tgt := 44) hx hb dX5_programAt_37 (by decide) (fun c37 => ?_) (fun c37 => ?_)
      · rw [hj1] at c37; rw [ak1_t hz] at c37; cases c37
      · refine lv_iload_n hx hb dX5_programAt_40 rfl (lv_at hl 0 rfl) ?_
        refine lv_goto (tgt := 45) hx hb dX5_programAt_41 (by decide) ?_
        rw [show ak1 j1 = 0 from by rw [hj1]; exact hz] at hP hD
        exact hret 45 ls H locs _ _ () _ hP hD hS (Nat.le_of_ble_eq_true rfl) (Nat.le_of_ble_eq_true rfl) (by rw [hfv, if_pos (Bool.and_eq_true_iff.mp (ak1_t hz)).1]) dX5_programAt_45
    refine lv_aload_n hx hb dX5_programAt_23 rfl (lv_at hl 1 rfl) ?_
    refine lv_iload_n hx hb dX5_programAt_24 rfl (lv_at hl 0 rfl) ?_
    refine lv_iconst (v := (-1)) hx hb dX5_programAt_25 rfl ?_
    refine lv_icmp_eq (tgt := 33) hx hb dX5_programAt_26 (by decide) (fun c26 => ?_) (fun c26 => ?_)
    · refine lv_iconst (v := (nI 0)) hx hb dX5_programAt_33 rfl ?_
      exact jn34 false (by first | exact (decide_eq_true c26).symm | exact (decide_eq_false (fun h => h c26)).symm) _ _ hP hD hS _ (lv_sub hl [0, 1, 2, 3] rfl)
    · refine lv_iconst (v := (nI 1)) hx hb dX5_programAt_29 rfl ?_
      refine lv_goto (tgt := 34) hx hb dX5_programAt_30 (by decide) ?_
      exact jn34 true (by first | exact (decide_eq_true c26).symm | exact (decide_eq_false (fun h => h c26)).symm) _ _ hP hD hS _ (lv_sub hl [0, 1, 2, 3] rfl)
  refine lv_aload_n hx hb dX5_programAt_0 rfl (lv_at hl 0 rfl) ?_
  refine lv_iload_n hx hb dX5_programAt_1 rfl (lv_at hl 1 rfl) ?_
  refine rd_V (ci := 5) (q0 := 0) (own := RX5) (As := [.int k]) (rest := []) (bytes := cX5_isKind) (maxL := 2) ⟨hx, hb, hml, hown, hts⟩ (kX5_isKind l D y3 m0 m1 m2 m3 m4 m5 m6 m7 m8 m9 m10 m11 m12 m13 m14 m15 m16 m17 m18 nk np nr nl nb zo k (by omega)) gX5_programAt_X5_isKind rfl hvX5_isKind ⟨Nat.le_of_ble_eq_true rfl, Nat.le_of_ble_eq_true rfl⟩ hP hK [0] rfl rfl rfl hl.1 rfl (Nat.le_of_ble_eq_true rfl) dX5_programAt_2 ⟨Nat.le_of_ble_eq_true rfl, Nat.le_of_ble_eq_true rfl⟩ (fun r3 hr3 => ?_)
  subst hr3
  refine lb_if_eq (tgt := 21) hx hb dX5_programAt_5 (by decide) (fun c5 => ?_) (fun c5 => ?_)
  · refine lv_iconst (v := (-1)) hx hb dX5_programAt_21 rfl ?_
    exact jn22 (-1) (by first | (rw [if_neg (by rw [c5]; decide)]; done) | (rw [if_pos c5]; unfold pioI; rw [if_neg (Int32.not_le.mpr c9)]) | (rw [if_pos c5]; unfold pioI; rw [if_pos (Int32.not_lt.mp c9)])) _ _ hP hD hS _ (lv_sub hl [0, 1, 2] rfl)
  · refine lv_iload_n hx hb dX5_programAt_8 rfl (lv_at hl 2 rfl) ?_
    refine lv_if_lt (tgt := 21) hx hb dX5_programAt_9 (by decide) (fun c9 => ?_) (fun c9 => ?_)
    · refine lv_iconst (v := (-1)) hx hb dX5_programAt_21 rfl ?_
      exact jn22 (-1) (by first | (rw [if_neg (by rw [c5]; decide)]; done) | (rw [if_pos c5]; unfold pioI; rw [if_neg (Int32.not_le.mpr c9)]) | (rw [if_pos c5]; unfold pioI; rw [if_pos (Int32.not_lt.mp c9)])) _ _ hP hD hS _ (lv_sub hl [0, 1, 2] rfl)
    · obtain ⟨ek, hkn⟩ := inB_c c5 (by omega)
      obtain ⟨ep, hpn⟩ := nn_c (Int32.not_lt.mp c9)
      refine lv_aload_n hx hb dX5_programAt_12 rfl (lv_at hl 0 rfl) ?_
      refine lv_iload_n hx hb dX5_programAt_13 rfl (lv_at hl 1 rfl) ?_
      refine ln_eqi (y := (nI k.toNatClampNeg)) ek ?_
      refine lv_iload_n hx hb dX5_programAt_14 rfl (lv_at hl 2 rfl) ?_
      refine ln_eqi (y := (nI pl.toNatClampNeg)) ep ?_
      refine rd_V (ci := 5) (q0 := 0) (own := RX5) (As := [.int (nI k.toNatClampNeg), .int (nI pl.toNatClampNeg)]) (rest := []) (bytes := cX5_listed) (maxL := 7) ⟨hx, hb, hml, hown, hts⟩ (kX5_listed_p l D y3 m0 m1 m2 m3 m4 m5 m6 m7 m8 m9 m10 m11 m12 m13 m14 m15 m16 m17 m18 nk np nr nl nb zo par st k.toNatClampNeg pl.toNatClampNeg (by omega) (by omega) (by assumption) (by assumption) (by omega)) gX5_programAt_X5_listed rfl hvX5_listed ⟨Nat.le_of_ble_eq_true rfl, Nat.le_of_ble_eq_true rfl⟩ hP hK [0, 1, 2] rfl rfl rfl hl.1 rfl (Nat.le_of_ble_eq_true rfl) dX5_programAt_15 ⟨Nat.le_of_ble_eq_true rfl, Nat.le_of_ble_eq_true rfl⟩ (fun r4 hr4 => ?_)
      subst hr4
      refine lv_goto (tgt := 22) hx hb dX5_programAt_18 (by decide) ?_
      exact jn22 (oI (pioB st par pl.toNatClampNeg 14 (nI k.toNatClampNeg) (fun _ => false))) (by first | (rw [if_neg (by rw [c5]; decide)]; done) | (rw [if_pos c5]; unfold pioI; rw [if_neg (Int32.not_le.mpr c9)]) | (rw [if_pos c5]; unfold pioI; rw [if_pos (Int32.not_lt.mp c9)])) _ _ hP hD hS _ (lv_sub hl [0, 1, 2] rfl)

set_option maxHeartbeats 4000000 in
set_option maxRecDepth 100000 in
theorem kX5_programAt_ex (l : Launch) (D : va_G) (y3 : ClassId × ClassId × ClassId) (m0 : Nat) (m1 : Nat) (m2 : Nat) (m3 : Nat) (m4 : Nat) (m5 : Nat) (m6 : Nat) (m7 : Nat) (m8 : Nat) (m9 : Nat) (m10 : Nat) (m11 : Nat) (m12 : Nat) (m13 : Nat) (m14 : Nat) (m15 : Nat) (m16 : Nat) (m17 : Nat) (m18 : Nat) (nk : Nat) (np : Nat) (nr : Nat) (nl : Nat) (nb : Nat) (zo : Nat) (par : Nat → Int32) (st : Nat → Int32) (k : Int32) (pl : Int32) (hk : nk ≤ 14) (hp : parOK par nk) (hst : ∀ q : Nat, st q = nI 0 ∨ st q = nI 1 ∨ st q = nI 2) (hz : ¬ (ak1 (inB k nk && decide (¬ pioI st par k.toNatClampNeg pl = -1))) = 0) : wrM l yX5_programAt wsX5_programAt 2 52 0 0 D y3 [(m0, .inr (5, [.ref m1, .int (nI nk), .ref m2, .ref m3, .ref m4, .ref m5, .ref m6, .int (nI np), .ref m7, .ref m8, .ref m9, .ref m10, .ref m11, .ref m12, .ref m13, .ref m14, .int (nI nr), .ref m15, .int (nI nl), .ref m16, .int (nI nb), .ref m17, .ref m18, .int (nI zo)])), (m1, .inl (y3.1, 14, .inl par)), (m17, .inl (y3.1, 420, .inl st))] [.ref m0, .int k, .int pl] (fun r (_ : Unit) => r = (nI 0)) (fun (_ : Unit) => [(m0, .inr (5, [.ref m1, .int (nI nk), .ref m2, .ref m3, .ref m4, .ref m5, .ref m6, .int (nI np), .ref m7, .ref m8, .ref m9, .ref m10, .ref m11, .ref m12, .ref m13, .ref m14, .int (nI nr), .ref m15, .int (nI nl), .ref m16, .int (nI nb), .ref m17, .ref m18, .int (nI (ak1 (inB k nk && decide (¬ pioI st par k.toNatClampNeg pl = -1))))])), (m1, .inl (y3.1, 14, .inl par)), (m17, .inl (y3.1, 420, .inl st))]) := by
  refine wr_of (cc := cX5_programAt) (maxL := 4) (by decide) rfl (Nat.le_of_ble_eq_true rfl) ?_
  intro p e s m args below meth c A Q hx hb hml hown hts hP hK hD hA hS hret ls hl
  replace hl : lv_has ls 4 [(0, .ref m0), (1, .int k), (2, .int pl)] := hl
  have jn22 : ∀ (fv : Int32), (fv = (if inB k nk = true then pioI st par k.toNatClampNeg pl else -1)) → ∀ (H : Heap) (locs : List Loc), va_P D vwCl [(m0, .inr (5, [.ref m1, .int (nI nk), .ref m2, .ref m3, .ref m4, .ref m5, .ref m6, .int (nI np), .ref m7, .ref m8, .ref m9, .ref m10, .ref m11, .ref m12, .ref m13, .ref m14, .int (nI nr), .ref m15, .int (nI nl), .ref m16, .int (nI nb), .ref m17, .ref m18, .int (nI zo)])), (m1, .inl (y3.1, 14, .inl par)), (m17, .inl (y3.1, 420, .inl st))] H → va_D A [(m0, .inr (5, [.ref m1, .int (nI nk), .ref m2, .ref m3, .ref m4, .ref m5, .ref m6, .int (nI np), .ref m7, .ref m8, .ref m9, .ref m10, .ref m11, .ref m12, .ref m13, .ref m14, .int (nI nr), .ref m15, .int (nI nl), .ref m16, .int (nI nb), .ref m17, .ref m18, .int (nI zo)])), (m1, .inl (y3.1, 14, .inl par)), (m17, .inl (y3.1, 420, .inl st))] → va_S A s.heap H locs → ∀ ls : Array Slot, lv_has ls 4 [(0, .ref m0), (1, .int k), (2, .int pl)] → W p l e (rmO 2 0 0 52) s m args below meth c H locs 0 0 Q (F0 m 22 ls [.int fv]) := by
    intro fv hfv H locs hP hD hS ls hl
    refine lv_istore_n (lv' := [(3, .int fv), (0, .ref m0), (1, .int k), (2, .int pl)]) hx hb dX5_programAt_22 rfl hl (by decide) rfl (fun ls hl => ?_)
    have jn34 : ∀ (j1 : Bool), (j1 = decide (¬ fv = -1)) → ∀ (H : Heap) (locs : List Loc), va_P D vwCl [(m0, .inr (5, [.ref m1, .int (nI nk), .ref m2, .ref m3, .ref m4, .ref m5, .ref m6, .int (nI np), .ref m7, .ref m8, .ref m9, .ref m10, .ref m11, .ref m12, .ref m13, .ref m14, .int (nI nr), .ref m15, .int (nI nl), .ref m16, .int (nI nb), .ref m17, .ref m18, .int (nI zo)])), (m1, .inl (y3.1, 14, .inl par)), (m17, .inl (y3.1, 420, .inl st))] H → va_D A [(m0, .inr (5, [.ref m1, .int (nI nk), .ref m2, .ref m3, .ref m4, .ref m5, .ref m6, .int (nI np), .ref m7, .ref m8, .ref m9, .ref m10, .ref m11, .ref m12, .ref m13, .ref m14, .int (nI nr), .ref m15, .int (nI nl), .ref m16, .int (nI nb), .ref m17, .ref m18, .int (nI zo)])), (m1, .inl (y3.1, 14, .inl par)), (m17, .inl (y3.1, 420, .inl st))] → va_S A s.heap H locs → ∀ ls : Array Slot, lv_has ls 4 [(3, .int fv), (0, .ref m0), (1, .int k), (2, .int pl)] → W p l e (rmO 2 0 0 52) s m args below meth c H locs 0 0 Q (F0 m 34 ls [.int (bI j1), .ref m0]) := by
      intro j1 hj0 H locs hP hD hS ls hl
      have hj1 : j1 = (inB k nk && decide (¬ pioI st par k.toNatClampNeg pl = -1)) := by rw [hj0, hfv]; exact pa_z
      refine wr_V (ci := 5) (q0 := 0) (own := RX5) (As := [.int (bI j1)]) (rest := []) (bytes := cX5_asked) (maxL := 2) (wr := [(m1, .inl (y3.1, 14, .inl par)), (m17, .inl (y3.1, 420, .inl st))]) (w3 := (fun (_ : Unit) => [(m0, .inr (5, [.ref m1, .int (nI nk), .ref m2, .ref m3, .ref m4, .ref m5, .ref m6, .int (nI np), .ref m7, .ref m8, .ref m9, .ref m10, .ref m11, .ref m12, .ref m13, .ref m14, .int (nI nr), .ref m15, .int (nI nl), .ref m16, .int (nI nb), .ref m17, .ref m18, .int (nI (ak1 j1))])), (m1, .inl (y3.1, 14, .inl par)), (m17, .inl (y3.1, 420, .inl st))])) ⟨hx, hb, hml, hown, hts⟩ (kX5_asked l D y3 m0 m1 m2 m3 m4 m5 m6 m7 m8 m9 m10 m11 m12 m13 m14 m15 m16 m17 m18 nk np nr nl nb zo j1) gX5_programAt_X5_asked rfl hvX5_asked ⟨Nat.le_of_ble_eq_true rfl, Nat.le_of_ble_eq_true rfl⟩ hP hK hD hS hA [0] [1, 2] [2, 0, 1] rfl rfl rfl rfl (by decide) (fun _ => rfl) rfl rfl rfl hl.1 rfl (Nat.le_of_ble_eq_true rfl) dX5_programAt_34 ⟨Nat.le_of_ble_eq_true rfl, Nat.le_of_ble_eq_true rfl⟩ (fun r1 u2 H locs hr1 hP hD hS => ?_)
      have hP : va_P D vwCl [(m0, .inr (5, [.ref m1, .int (nI nk), .ref m2, .ref m3, .ref m4, .ref m5, .ref m6, .int (nI np), .ref m7, .ref m8, .ref m9, .ref m10, .ref m11, .ref m12, .ref m13, .ref m14, .int (nI nr), .ref m15, .int (nI nl), .ref m16, .int (nI nb), .ref m17, .ref m18, .int (nI (ak1 j1))])), (m1, .inl (y3.1, 14, .inl par)), (m17, .inl (y3.1, 420, .inl st))] H := hP
      have hD : va_D A [(m0, .inr (5, [.ref m1, .int (nI nk), .ref m2, .ref m3, .ref m4, .ref m5, .ref m6, .int (nI np), .ref m7, .ref m8, .ref m9, .ref m10, .ref m11, .ref m12, .ref m13, .ref m14, .int (nI nr), .ref m15, .int (nI nl), .ref m16, .int (nI nb), .ref m17, .ref m18, .int (nI (ak1 j1))])), (m1, .inl (y3.1, 14, .inl par)), (m17, .inl (y3.1, 420, .inl st))] := hD
      subst hr1
      refine lb_if_eq (tgt := 44) hx hb dX5_programAt_37 (by decide) (fun c37 => ?_) (fun c37 => ?_)
      · refine lv_iconst (v := (nI 0)) hx hb dX5_programAt_44 rfl ?_
        rw [hj1] at hP hD
        exact hret 45 ls H locs _ _ () _ hP hD hS (Nat.le_of_ble_eq_true rfl) (Nat.le_of_ble_eq_true rfl) rfl dX5_programAt_45
      · rw [hj1] at c37; rw [ak1_f hz] at c37; cases c37
    refine lv_aload_n hx hb dX5_programAt_23 rfl (lv_at hl 1 rfl) ?_
    refine lv_iload_n hx hb dX5_programAt_24 rfl (lv_at hl 0 rfl) ?_
    refine lv_iconst (v := (-1)) hx hb dX5_programAt_25 rfl ?_
    refine lv_icmp_eq (tgt := 33) hx hb dX5_programAt_26 (by decide) (fun c26 => ?_) (fun c26 => ?_)
    · refine lv_iconst (v := (nI 0)) hx hb dX5_programAt_33 rfl ?_
      exact jn34 false (by first | exact (decide_eq_true c26).symm | exact (decide_eq_false (fun h => h c26)).symm) _ _ hP hD hS _ (lv_sub hl [0, 1, 2, 3] rfl)
    · refine lv_iconst (v := (nI 1)) hx hb dX5_programAt_29 rfl ?_
      refine lv_goto (tgt := 34) hx hb dX5_programAt_30 (by decide) ?_
      exact jn34 true (by first | exact (decide_eq_true c26).symm | exact (decide_eq_false (fun h => h c26)).symm) _ _ hP hD hS _ (lv_sub hl [0, 1, 2, 3] rfl)
  refine lv_aload_n hx hb dX5_programAt_0 rfl (lv_at hl 0 rfl) ?_
  refine lv_iload_n hx hb dX5_programAt_1 rfl (lv_at hl 1 rfl) ?_
  refine rd_V (ci := 5) (q0 := 0) (own := RX5) (As := [.int k]) (rest := []) (bytes := cX5_isKind) (maxL := 2) ⟨hx, hb, hml, hown, hts⟩ (kX5_isKind l D y3 m0 m1 m2 m3 m4 m5 m6 m7 m8 m9 m10 m11 m12 m13 m14 m15 m16 m17 m18 nk np nr nl nb zo k (by omega)) gX5_programAt_X5_isKind rfl hvX5_isKind ⟨Nat.le_of_ble_eq_true rfl, Nat.le_of_ble_eq_true rfl⟩ hP hK [0] rfl rfl rfl hl.1 rfl (Nat.le_of_ble_eq_true rfl) dX5_programAt_2 ⟨Nat.le_of_ble_eq_true rfl, Nat.le_of_ble_eq_true rfl⟩ (fun r3 hr3 => ?_)
  subst hr3
  refine lb_if_eq (tgt := 21) hx hb dX5_programAt_5 (by decide) (fun c5 => ?_) (fun c5 => ?_)
  · refine lv_iconst (v := (-1)) hx hb dX5_programAt_21 rfl ?_
    exact jn22 (-1) (by first | (rw [if_neg (by rw [c5]; decide)]; done) | (rw [if_pos c5]; unfold pioI; rw [if_neg (Int32.not_le.mpr c9)]) | (rw [if_pos c5]; unfold pioI; rw [if_pos (Int32.not_lt.mp c9)])) _ _ hP hD hS _ (lv_sub hl [0, 1, 2] rfl)
  · refine lv_iload_n hx hb dX5_programAt_8 rfl (lv_at hl 2 rfl) ?_
    refine lv_if_lt (tgt := 21) hx hb dX5_programAt_9 (by decide) (fun c9 => ?_) (fun c9 => ?_)
    · refine lv_iconst (v := (-1)) hx hb dX5_programAt_21 rfl ?_
      exact jn22 (-1) (by first | (rw [if_neg (by rw [c5]; decide)]; done) | (rw [if_pos c5]; unfold pioI; rw [if_neg (Int32.not_le.mpr c9)]) | (rw [if_pos c5]; unfold pioI; rw [if_pos (Int32.not_lt.mp c9)])) _ _ hP hD hS _ (lv_sub hl [0, 1, 2] rfl)
    · obtain ⟨ek, hkn⟩ := inB_c c5 (by omega)
      obtain ⟨ep, hpn⟩ := nn_c (Int32.not_lt.mp c9)
      refine lv_aload_n hx hb dX5_programAt_12 rfl (lv_at hl 0 rfl) ?_
      refine lv_iload_n hx hb dX5_programAt_13 rfl (lv_at hl 1 rfl) ?_
      refine ln_eqi (y := (nI k.toNatClampNeg)) ek ?_
      refine lv_iload_n hx hb dX5_programAt_14 rfl (lv_at hl 2 rfl) ?_
      refine ln_eqi (y := (nI pl.toNatClampNeg)) ep ?_
      refine rd_V (ci := 5) (q0 := 0) (own := RX5) (As := [.int (nI k.toNatClampNeg), .int (nI pl.toNatClampNeg)]) (rest := []) (bytes := cX5_listed) (maxL := 7) ⟨hx, hb, hml, hown, hts⟩ (kX5_listed_p l D y3 m0 m1 m2 m3 m4 m5 m6 m7 m8 m9 m10 m11 m12 m13 m14 m15 m16 m17 m18 nk np nr nl nb zo par st k.toNatClampNeg pl.toNatClampNeg (by omega) (by omega) (by assumption) (by assumption) (by omega)) gX5_programAt_X5_listed rfl hvX5_listed ⟨Nat.le_of_ble_eq_true rfl, Nat.le_of_ble_eq_true rfl⟩ hP hK [0, 1, 2] rfl rfl rfl hl.1 rfl (Nat.le_of_ble_eq_true rfl) dX5_programAt_15 ⟨Nat.le_of_ble_eq_true rfl, Nat.le_of_ble_eq_true rfl⟩ (fun r4 hr4 => ?_)
      subst hr4
      refine lv_goto (tgt := 22) hx hb dX5_programAt_18 (by decide) ?_
      exact jn22 (oI (pioB st par pl.toNatClampNeg 14 (nI k.toNatClampNeg) (fun _ => false))) (by first | (rw [if_neg (by rw [c5]; decide)]; done) | (rw [if_pos c5]; unfold pioI; rw [if_neg (Int32.not_le.mpr c9)]) | (rw [if_pos c5]; unfold pioI; rw [if_pos (Int32.not_lt.mp c9)])) _ _ hP hD hS _ (lv_sub hl [0, 1, 2] rfl)

set_option maxHeartbeats 4000000 in
set_option maxRecDepth 100000 in
theorem kX5_opener_ok (l : Launch) (D : va_G) (y3 : ClassId × ClassId × ClassId) (m0 : Nat) (m1 : Nat) (m2 : Nat) (m3 : Nat) (m4 : Nat) (m5 : Nat) (m6 : Nat) (m7 : Nat) (m8 : Nat) (m9 : Nat) (m10 : Nat) (m11 : Nat) (m12 : Nat) (m13 : Nat) (m14 : Nat) (m15 : Nat) (m16 : Nat) (m17 : Nat) (m18 : Nat) (nk : Nat) (np : Nat) (nr : Nat) (nl : Nat) (nb : Nat) (zo : Nat) (par : Nat → Int32) (st : Nat → Int32) (df : Nat → Int32) (k : Int32) (hk : nk ≤ 14) (hp : parOK par nk) (hst : ∀ q : Nat, st q = nI 0 ∨ st q = nI 1 ∨ st q = nI 2) (hdf : ∀ q : Nat, df q = -1 ∨ ∃ z : Nat, z < 10 ∧ df q = nI z) (hz : (ak1 (inB k nk)) = 0) : wrM l yX5_opener wsX5_opener 2 43 0 0 D y3 [(m0, .inr (5, [.ref m1, .int (nI nk), .ref m2, .ref m3, .ref m4, .ref m5, .ref m6, .int (nI np), .ref m7, .ref m8, .ref m9, .ref m10, .ref m11, .ref m12, .ref m13, .ref m14, .int (nI nr), .ref m15, .int (nI nl), .ref m16, .int (nI nb), .ref m17, .ref m18, .int (nI zo)])), (m1, .inl (y3.1, 14, .inl par)), (m17, .inl (y3.1, 420, .inl st)), (m18, .inl (y3.1, 42, .inl (fP df)))] [.ref m0, .int k] (fun r (_ : Unit) => r = (duO st df par 14 (nI k.toNatClampNeg))) (fun (_ : Unit) => [(m0, .inr (5, [.ref m1, .int (nI nk), .ref m2, .ref m3, .ref m4, .ref m5, .ref m6, .int (nI np), .ref m7, .ref m8, .ref m9, .ref m10, .ref m11, .ref m12, .ref m13, .ref m14, .int (nI nr), .ref m15, .int (nI nl), .ref m16, .int (nI nb), .ref m17, .ref m18, .int (nI 0)])), (m1, .inl (y3.1, 14, .inl par)), (m17, .inl (y3.1, 420, .inl st)), (m18, .inl (y3.1, 42, .inl (fP df)))]) := by
  refine wr_of (cc := cX5_opener) (maxL := 5) (by decide) rfl (Nat.le_of_ble_eq_true rfl) ?_
  intro p e s m args below meth c A Q hx hb hml hown hts hP hK hD hA hS hret ls hl
  replace hl : lv_has ls 5 [(0, .ref m0), (1, .int k)] := hl
  have hf62 := hts (.fieldLink RX5 62 "KindGuesserModel" "usual" "[I") (by decide +kernel)
  have hf7 := hts (.fieldLink RX5 7 "KindGuesserModel" "parent" "[I") (by decide +kernel)
  have hiX5 : ∀ q ∈ wsX50, q ∈ wsX5_opener := by decide +kernel
  refine lv_aload_n hx hb dX5_opener_0 rfl (lv_at hl 0 rfl) ?_
  refine lv_aload_n hx hb dX5_opener_1 rfl (lv_at hl 0 rfl) ?_
  refine lv_iload_n hx hb dX5_opener_2 rfl (lv_at hl 1 rfl) ?_
  refine rd_V (ci := 5) (q0 := 0) (own := RX5) (As := [.int k]) (rest := [.ref m0]) (bytes := cX5_isKind) (maxL := 2) ⟨hx, hb, hml, hown, hts⟩ (kX5_isKind l D y3 m0 m1 m2 m3 m4 m5 m6 m7 m8 m9 m10 m11 m12 m13 m14 m15 m16 m17 m18 nk np nr nl nb zo k (by omega)) gX5_opener_X5_isKind rfl hvX5_isKind ⟨Nat.le_of_ble_eq_true rfl, Nat.le_of_ble_eq_true rfl⟩ hP hK [0] rfl rfl rfl hl.1 rfl (Nat.le_of_ble_eq_true rfl) dX5_opener_3 ⟨Nat.le_of_ble_eq_true rfl, Nat.le_of_ble_eq_true rfl⟩ (fun r1 hr1 => ?_)
  subst hr1
  refine wr_V (ci := 5) (q0 := 0) (own := RX5) (As := [.int (bI (inB k nk))]) (rest := []) (bytes := cX5_asked) (maxL := 2) (wr := [(m1, .inl (y3.1, 14, .inl par)), (m17, .inl (y3.1, 420, .inl st)), (m18, .inl (y3.1, 42, .inl (fP df)))]) (w3 := (fun (_ : Unit) => [(m0, .inr (5, [.ref m1, .int (nI nk), .ref m2, .ref m3, .ref m4, .ref m5, .ref m6, .int (nI np), .ref m7, .ref m8, .ref m9, .ref m10, .ref m11, .ref m12, .ref m13, .ref m14, .int (nI nr), .ref m15, .int (nI nl), .ref m16, .int (nI nb), .ref m17, .ref m18, .int (nI (ak1 (inB k nk)))])), (m1, .inl (y3.1, 14, .inl par)), (m17, .inl (y3.1, 420, .inl st)), (m18, .inl (y3.1, 42, .inl (fP df)))])) ⟨hx, hb, hml, hown, hts⟩ (kX5_asked l D y3 m0 m1 m2 m3 m4 m5 m6 m7 m8 m9 m10 m11 m12 m13 m14 m15 m16 m17 m18 nk np nr nl nb zo (inB k nk)) gX5_opener_X5_asked rfl hvX5_asked ⟨Nat.le_of_ble_eq_true rfl, Nat.le_of_ble_eq_true rfl⟩ hP hK hD hS hA [0] [1, 2, 3] [3, 0, 1, 2] rfl rfl rfl rfl (by decide) (fun _ => rfl) rfl rfl rfl hl.1 rfl (Nat.le_of_ble_eq_true rfl) dX5_opener_6 ⟨Nat.le_of_ble_eq_true rfl, Nat.le_of_ble_eq_true rfl⟩ (fun r2 u3 H locs hr2 hP hD hS => ?_)
  have hP : va_P D vwCl [(m0, .inr (5, [.ref m1, .int (nI nk), .ref m2, .ref m3, .ref m4, .ref m5, .ref m6, .int (nI np), .ref m7, .ref m8, .ref m9, .ref m10, .ref m11, .ref m12, .ref m13, .ref m14, .int (nI nr), .ref m15, .int (nI nl), .ref m16, .int (nI nb), .ref m17, .ref m18, .int (nI (ak1 (inB k nk)))])), (m1, .inl (y3.1, 14, .inl par)), (m17, .inl (y3.1, 420, .inl st)), (m18, .inl (y3.1, 42, .inl (fP df)))] H := hP
  have hD : va_D A [(m0, .inr (5, [.ref m1, .int (nI nk), .ref m2, .ref m3, .ref m4, .ref m5, .ref m6, .int (nI np), .ref m7, .ref m8, .ref m9, .ref m10, .ref m11, .ref m12, .ref m13, .ref m14, .int (nI nr), .ref m15, .int (nI nl), .ref m16, .int (nI nb), .ref m17, .ref m18, .int (nI (ak1 (inB k nk)))])), (m1, .inl (y3.1, 14, .inl par)), (m17, .inl (y3.1, 420, .inl st)), (m18, .inl (y3.1, 42, .inl (fP df)))] := hD
  subst hr2
  refine lb_if_ne (tgt := 14) hx hb dX5_opener_9 (by decide) (fun c9 => ?_) (fun c9 => ?_)
  · obtain ⟨ek, hkn⟩ := inB_c (ak1_t hz) (by omega)
    have hl : lv_has ls 5 [(0, .ref m0), (1, .int (nI k.toNatClampNeg))] := by rw [← ek]; exact hl
    refine lv_iload_n hx hb dX5_opener_14 rfl (lv_at hl 1 rfl) ?_
    refine lv_istore_n (lv' := [(2, .int (nI k.toNatClampNeg)), (0, .ref m0), (1, .int (nI k.toNatClampNeg))]) hx hb dX5_opener_15 rfl hl (by decide) rfl (fun ls hl => ?_)
    have lp16 : ∀ (n4 : Nat) (v : Option Nat) (f : Nat), msr v < n4 → (∀ i : Nat, v = some i → i < nk) → (duO st df par f (oI v) = duO st df par 14 (nI k.toNatClampNeg)) → (msr v ≤ f) → ∀ (H : Heap) (locs : List Loc), va_P D vwCl [(m0, .inr (5, [.ref m1, .int (nI nk), .ref m2, .ref m3, .ref m4, .ref m5, .ref m6, .int (nI np), .ref m7, .ref m8, .ref m9, .ref m10, .ref m11, .ref m12, .ref m13, .ref m14, .int (nI nr), .ref m15, .int (nI nl), .ref m16, .int (nI nb), .ref m17, .ref m18, .int (nI (ak1 (inB k nk)))])), (m1, .inl (y3.1, 14, .inl par)), (m17, .inl (y3.1, 420, .inl st)), (m18, .inl (y3.1, 42, .inl (fP df)))] H → va_D A [(m0, .inr (5, [.ref m1, .int (nI nk), .ref m2, .ref m3, .ref m4, .ref m5, .ref m6, .int (nI np), .ref m7, .ref m8, .ref m9, .ref m10, .ref m11, .ref m12, .ref m13, .ref m14, .int (nI nr), .ref m15, .int (nI nl), .ref m16, .int (nI nb), .ref m17, .ref m18, .int (nI (ak1 (inB k nk)))])), (m1, .inl (y3.1, 14, .inl par)), (m17, .inl (y3.1, 420, .inl st)), (m18, .inl (y3.1, 42, .inl (fP df)))] → va_S A s.heap H locs → ∀ ls : Array Slot, lv_has ls 5 [(2, .int (oI v)), (0, .ref m0), (1, .int (nI k.toNatClampNeg))] → W p l e (rmO 2 0 0 43) s m args below meth c H locs 0 0 Q (F0 m 16 ls []) := by
      intro n4
      induction n4 with
      | zero => intro v f hm; exact absurd hm (Nat.not_lt_zero _)
      | succ n4 ih16 =>
        intro v f hm16 h1 h2 h3 H locs hP hD hS ls hl
        refine lv_iload_n hx hb dX5_opener_16 rfl (lv_at hl 0 rfl) ?_
        refine lv_iconst (v := (-1)) hx hb dX5_opener_17 rfl ?_
        refine lv_icmp_eq (tgt := 78) hx hb dX5_opener_18 (by decide) (fun c18 => ?_) (fun c18 => ?_)
        · refine lv_iconst (v := (-1)) hx hb dX5_opener_78 rfl ?_
          rw [show ak1 (inB k nk) = 0 from hz] at hP hD
          exact hret 79 ls H locs _ _ () _ hP hD hS (Nat.le_of_ble_eq_true rfl) (Nat.le_of_ble_eq_true rfl) (by rw [← h2, c18, duO_m1]) dX5_opener_79
        · obtain ⟨w, ev⟩ := oI_some c18
          have hi := h1 w ev
          obtain ⟨v2, ev2, hv2, hmv⟩ := par_n hp hi
          refine lv_iconst (v := (nI 0)) hx hb dX5_opener_21 rfl ?_
          refine lv_istore_n (lv' := [(3, .int (nI 0)), (2, .int (oI v)), (0, .ref m0), (1, .int (nI k.toNatClampNeg))]) hx hb dX5_opener_22 rfl hl (by decide) rfl (fun ls hl => ?_)
          have lp23 : ∀ (n5 : Nat) (i : Nat), 3 - i < n5 → (i ≤ 3) → (dfR st df w (3 - i) = dfO st df w) → ∀ (H : Heap) (locs : List Loc), va_P D vwCl [(m0, .inr (5, [.ref m1, .int (nI nk), .ref m2, .ref m3, .ref m4, .ref m5, .ref m6, .int (nI np), .ref m7, .ref m8, .ref m9, .ref m10, .ref m11, .ref m12, .ref m13, .ref m14, .int (nI nr), .ref m15, .int (nI nl), .ref m16, .int (nI nb), .ref m17, .ref m18, .int (nI (ak1 (inB k nk)))])), (m1, .inl (y3.1, 14, .inl par)), (m17, .inl (y3.1, 420, .inl st)), (m18, .inl (y3.1, 42, .inl (fP df)))] H → va_D A [(m0, .inr (5, [.ref m1, .int (nI nk), .ref m2, .ref m3, .ref m4, .ref m5, .ref m6, .int (nI np), .ref m7, .ref m8, .ref m9, .ref m10, .ref m11, .ref m12, .ref m13, .ref m14, .int (nI nr), .ref m15, .int (nI nl), .ref m16, .int (nI nb), .ref m17, .ref m18, .int (nI (ak1 (inB k nk)))])), (m1, .inl (y3.1, 14, .inl par)), (m17, .inl (y3.1, 420, .inl st)), (m18, .inl (y3.1, 42, .inl (fP df)))] → va_S A s.heap H locs → ∀ ls : Array Slot, lv_has ls 5 [(3, .int (nI i)), (2, .int (oI v)), (0, .ref m0), (1, .int (nI k.toNatClampNeg))] → W p l e (rmO 2 0 0 43) s m args below meth c H locs 0 0 Q (F0 m 23 ls []) := by
            intro n5
            induction n5 with
            | zero => intro i hm; exact absurd hm (Nat.not_lt_zero _)
            | succ n5 ih23 =>
              intro i hm23 g1 g2 H locs hP hD hS ls hl
              refine lv_iload_n hx hb dX5_opener_23 rfl (lv_at hl 0 rfl) ?_
              refine lv_iconst (v := (nI 3)) hx hb dX5_opener_24 rfl ?_
              refine ln_icmp_ge (tgt := 68) hx hb (by omega) (by omega) dX5_opener_25 (by decide) (fun c25 => ?_) (fun c25 => ?_)
              · have hdn : dfO st df w = -1 := by rw [← g2, show 3 - i = 0 from by omega]; rfl
                refine lv_aload_n hx hb dX5_opener_68 rfl (lv_at hl 2 rfl) ?_
                refine va_get (D := D) (ci := 5) (v := .ref m1) (C := RX5) (T := TX5) (N := 24) hx hb hts hiX5 hown hK hP 0 rfl rfl 0 (by decide) hf7 (fun _ h9 => h9) rfl dX5_opener_69 ?_
                refine lv_iload_n hx hb dX5_opener_72 rfl (lv_at hl 1 rfl) ?_
                refine ln_eqi (y := (nI w)) (by rw [ev]; rfl) ?_
                refine ln_iald hx hb hK hP 1 0 rfl rfl (by omega) (by decide) dX5_opener_73 ?_
                refine ln_eqi (y := (oI v2)) ev2 ?_
                refine lv_istore_n (lv' := [(2, .int (oI v2)), (3, .int (nI i)), (0, .ref m0), (1, .int (nI k.toNatClampNeg))]) hx hb dX5_opener_74 rfl hl (by decide) rfl (fun ls hl => ?_)
                refine lv_goto (tgt := 16) hx hb dX5_opener_75 (by decide) ?_
                exact ih16 v2 (f - 1) (by rw [ev] at hm16; exact Nat.lt_of_lt_of_le hmv (Nat.le_of_lt_succ hm16)) hv2 (by rw [← h2, ev]; exact du_s (by rw [← ev]; exact c18) (by rw [ev] at h3; exact h3) ev2 (by omega) hdn) (by rw [ev] at h3; exact Nat.le_sub_one_of_lt (Nat.lt_of_lt_of_le hmv h3)) _ _ hP hD hS _ (lv_sub hl [0, 2, 3] rfl)
              · refine lv_aload_n hx hb dX5_opener_28 rfl (lv_at hl 2 rfl) ?_
                refine va_get (D := D) (ci := 5) (v := .ref m18) (C := RX5) (T := TX5) (N := 24) hx hb hts hiX5 hown hK hP 0 rfl rfl 22 (by decide) hf62 (fun _ h9 => h9) rfl dX5_opener_29 ?_
                refine lv_bipush (v := (nI 14)) hx hb dX5_opener_32 rfl ?_
                refine lv_iload_n hx hb dX5_opener_34 rfl (lv_at hl 0 rfl) ?_
                refine ln_imul (n := (i * 14)) hx hb (by omega) dX5_opener_35 ?_
                refine lv_iload_n hx hb dX5_opener_36 rfl (lv_at hl 1 rfl) ?_
                refine ln_eqi (y := (nI w)) (by rw [ev]; rfl) ?_
                refine ln_iadd (n := (i * 14) + w) hx hb rfl dX5_opener_37 ?_
                refine ln_iald hx hb hK hP 3 0 rfl rfl (by omega) (by decide) dX5_opener_38 ?_
                refine lv_iconst (v := (nI 1)) hx hb dX5_opener_39 rfl ?_
                refine lv_isub hx hb dX5_opener_40 ?_
                refine ln_eqi (y := (df ((i * 14) + w))) fP_1 ?_
                refine lv_istore (lv' := [(4, .int (df ((i * 14) + w))), (3, .int (nI i)), (2, .int (oI v)), (0, .ref m0), (1, .int (nI k.toNatClampNeg))]) hx hb dX5_opener_41 hl (by decide) rfl (fun ls hl => ?_)
                refine lv_iload hx hb dX5_opener_43 (lv_at hl 0 rfl) ?_
                refine lv_iconst (v := (-1)) hx hb dX5_opener_45 rfl ?_
                refine lv_icmp_eq (tgt := 62) hx hb dX5_opener_46 (by decide) (fun c46 => ?_) (fun c46 => ?_)
                · refine lv_iinc (v := (nI (i + 1))) (lv' := [(3, .int (nI (i + 1))), (4, .int (df ((i * 14) + w))), (2, .int (oI v)), (0, .ref m0), (1, .int (nI k.toNatClampNeg))]) hx hb dX5_opener_62 hl (k := 1) rfl (nI_add _ _) (by decide) rfl (fun ls hl => ?_)
                  refine lv_goto (tgt := 23) hx hb dX5_opener_65 (by decide) ?_
                  exact ih23 (i + 1) (by omega) (by omega) (by rw [← g2, show 3 - i = (3 - (i + 1)) + 1 from by omega]; exact (dfR_no (by rw [show 3 - 1 - (3 - (i + 1)) = i from by omega]; first | exact Or.inl c46 | exact Or.inr (by rw [ez, nI_clamp (by omega)]; exact c56))).symm) _ _ hP hD hS _ (lv_sub hl [0, 2, 3, 4] rfl)
                · obtain ⟨z, hz9, ez⟩ := (hdf ((i * 14) + w)).resolve_left c46
                  refine lv_aload_n hx hb dX5_opener_49 rfl (lv_at hl 3 rfl) ?_
                  refine lv_iload_n hx hb dX5_opener_50 rfl (lv_at hl 2 rfl) ?_
                  refine ln_eqi (y := (nI w)) (by rw [ev]; rfl) ?_
                  refine lv_iload hx hb dX5_opener_51 (lv_at hl 0 rfl) ?_
                  refine ln_eqi (y := (nI z)) ez ?_
                  refine rd_V (ci := 5) (q0 := 0) (own := RX5) (As := [.int (nI w), .int (nI z)]) (rest := []) (bytes := cX5_opens) (maxL := 7) ⟨hx, hb, hml, hown, hts⟩ (kX5_opens l D y3 m0 m1 m2 m3 m4 m5 m6 m7 m8 m9 m10 m11 m12 m13 m14 m15 m16 m17 m18 nk np nr nl nb (ak1 (inB k nk)) st w z (by omega) (by omega) (by assumption)) gX5_opener_X5_opens rfl hvX5_opens ⟨Nat.le_of_ble_eq_true rfl, Nat.le_of_ble_eq_true rfl⟩ hP hK [0, 2] rfl rfl rfl hl.1 rfl (Nat.le_of_ble_eq_true rfl) dX5_opener_53 ⟨Nat.le_of_ble_eq_true rfl, Nat.le_of_ble_eq_true rfl⟩ (fun r6 hr6 => ?_)
                  subst hr6
                  refine lb_if_eq (tgt := 62) hx hb dX5_opener_56 (by decide) (fun c56 => ?_) (fun c56 => ?_)
                  · refine lv_iinc (v := (nI (i + 1))) (lv' := [(3, .int (nI (i + 1))), (4, .int (df ((i * 14) + w))), (2, .int (oI v)), (0, .ref m0), (1, .int (nI k.toNatClampNeg))]) hx hb dX5_opener_62 hl (k := 1) rfl (nI_add _ _) (by decide) rfl (fun ls hl => ?_)
                    refine lv_goto (tgt := 23) hx hb dX5_opener_65 (by decide) ?_
                    exact ih23 (i + 1) (by omega) (by omega) (by rw [← g2, show 3 - i = (3 - (i + 1)) + 1 from by omega]; exact (dfR_no (by rw [show 3 - 1 - (3 - (i + 1)) = i from by omega]; first | exact Or.inl c46 | exact Or.inr (by rw [ez, nI_clamp (by omega)]; exact c56))).symm) _ _ hP hD hS _ (lv_sub hl [0, 2, 3, 4] rfl)
                  · refine lv_iload hx hb dX5_opener_59 (lv_at hl 0 rfl) ?_
                    rw [show ak1 (inB k nk) = 0 from hz] at hP hD
                    exact hret 61 ls H locs _ _ () _ hP hD hS (Nat.le_of_ble_eq_true rfl) (Nat.le_of_ble_eq_true rfl) (by rw [← h2, ev]; exact (du_e (by rw [← ev]; exact c18) (by rw [ev] at h3; exact h3) (by omega) (by rw [← g2, show 3 - i = (3 - (i + 1)) + 1 from by omega, dfR_yes (by rw [show 3 - 1 - (3 - (i + 1)) = i from by omega]; exact c46) (by rw [show 3 - 1 - (3 - (i + 1)) = i from by omega, ez, nI_clamp (by omega)]; exact c56), show 3 - 1 - (3 - (i + 1)) = i from by omega]) c46).symm) dX5_opener_61
          exact lp23 _ 0 (Nat.lt_succ_self _) (Nat.zero_le _) rfl _ _ hP hD hS _ (lv_sub hl [0, 1, 2, 3] rfl)
    exact lp16 _ (some k.toNatClampNeg) 14 (Nat.lt_succ_self _) (fun i hi => by cases hi; exact hkn) rfl (by show k.toNatClampNeg + 1 ≤ 14; omega) _ _ hP hD hS _ (lv_sub hl [0, 1, 2] rfl)
  · rw [ak1_t hz] at c9; cases c9

set_option maxHeartbeats 4000000 in
set_option maxRecDepth 100000 in
theorem kX5_opener_ex (l : Launch) (D : va_G) (y3 : ClassId × ClassId × ClassId) (m0 : Nat) (m1 : Nat) (m2 : Nat) (m3 : Nat) (m4 : Nat) (m5 : Nat) (m6 : Nat) (m7 : Nat) (m8 : Nat) (m9 : Nat) (m10 : Nat) (m11 : Nat) (m12 : Nat) (m13 : Nat) (m14 : Nat) (m15 : Nat) (m16 : Nat) (m17 : Nat) (m18 : Nat) (nk : Nat) (np : Nat) (nr : Nat) (nl : Nat) (nb : Nat) (zo : Nat) (par : Nat → Int32) (st : Nat → Int32) (df : Nat → Int32) (k : Int32) (hk : nk ≤ 14) (hp : parOK par nk) (hst : ∀ q : Nat, st q = nI 0 ∨ st q = nI 1 ∨ st q = nI 2) (hdf : ∀ q : Nat, df q = -1 ∨ ∃ z : Nat, z < 10 ∧ df q = nI z) (hz : ¬ (ak1 (inB k nk)) = 0) : wrM l yX5_opener wsX5_opener 2 43 0 0 D y3 [(m0, .inr (5, [.ref m1, .int (nI nk), .ref m2, .ref m3, .ref m4, .ref m5, .ref m6, .int (nI np), .ref m7, .ref m8, .ref m9, .ref m10, .ref m11, .ref m12, .ref m13, .ref m14, .int (nI nr), .ref m15, .int (nI nl), .ref m16, .int (nI nb), .ref m17, .ref m18, .int (nI zo)])), (m1, .inl (y3.1, 14, .inl par)), (m17, .inl (y3.1, 420, .inl st)), (m18, .inl (y3.1, 42, .inl (fP df)))] [.ref m0, .int k] (fun r (_ : Unit) => r = (nI 0)) (fun (_ : Unit) => [(m0, .inr (5, [.ref m1, .int (nI nk), .ref m2, .ref m3, .ref m4, .ref m5, .ref m6, .int (nI np), .ref m7, .ref m8, .ref m9, .ref m10, .ref m11, .ref m12, .ref m13, .ref m14, .int (nI nr), .ref m15, .int (nI nl), .ref m16, .int (nI nb), .ref m17, .ref m18, .int (nI (ak1 (inB k nk)))])), (m1, .inl (y3.1, 14, .inl par)), (m17, .inl (y3.1, 420, .inl st)), (m18, .inl (y3.1, 42, .inl (fP df)))]) := by
  refine wr_of (cc := cX5_opener) (maxL := 5) (by decide) rfl (Nat.le_of_ble_eq_true rfl) ?_
  intro p e s m args below meth c A Q hx hb hml hown hts hP hK hD hA hS hret ls hl
  replace hl : lv_has ls 5 [(0, .ref m0), (1, .int k)] := hl
  refine lv_aload_n hx hb dX5_opener_0 rfl (lv_at hl 0 rfl) ?_
  refine lv_aload_n hx hb dX5_opener_1 rfl (lv_at hl 0 rfl) ?_
  refine lv_iload_n hx hb dX5_opener_2 rfl (lv_at hl 1 rfl) ?_
  refine rd_V (ci := 5) (q0 := 0) (own := RX5) (As := [.int k]) (rest := [.ref m0]) (bytes := cX5_isKind) (maxL := 2) ⟨hx, hb, hml, hown, hts⟩ (kX5_isKind l D y3 m0 m1 m2 m3 m4 m5 m6 m7 m8 m9 m10 m11 m12 m13 m14 m15 m16 m17 m18 nk np nr nl nb zo k (by omega)) gX5_opener_X5_isKind rfl hvX5_isKind ⟨Nat.le_of_ble_eq_true rfl, Nat.le_of_ble_eq_true rfl⟩ hP hK [0] rfl rfl rfl hl.1 rfl (Nat.le_of_ble_eq_true rfl) dX5_opener_3 ⟨Nat.le_of_ble_eq_true rfl, Nat.le_of_ble_eq_true rfl⟩ (fun r1 hr1 => ?_)
  subst hr1
  refine wr_V (ci := 5) (q0 := 0) (own := RX5) (As := [.int (bI (inB k nk))]) (rest := []) (bytes := cX5_asked) (maxL := 2) (wr := [(m1, .inl (y3.1, 14, .inl par)), (m17, .inl (y3.1, 420, .inl st)), (m18, .inl (y3.1, 42, .inl (fP df)))]) (w3 := (fun (_ : Unit) => [(m0, .inr (5, [.ref m1, .int (nI nk), .ref m2, .ref m3, .ref m4, .ref m5, .ref m6, .int (nI np), .ref m7, .ref m8, .ref m9, .ref m10, .ref m11, .ref m12, .ref m13, .ref m14, .int (nI nr), .ref m15, .int (nI nl), .ref m16, .int (nI nb), .ref m17, .ref m18, .int (nI (ak1 (inB k nk)))])), (m1, .inl (y3.1, 14, .inl par)), (m17, .inl (y3.1, 420, .inl st)), (m18, .inl (y3.1, 42, .inl (fP df)))])) ⟨hx, hb, hml, hown, hts⟩ (kX5_asked l D y3 m0 m1 m2 m3 m4 m5 m6 m7 m8 m9 m10 m11 m12 m13 m14 m15 m16 m17 m18 nk np nr nl nb zo (inB k nk)) gX5_opener_X5_asked rfl hvX5_asked ⟨Nat.le_of_ble_eq_true rfl, Nat.le_of_ble_eq_true rfl⟩ hP hK hD hS hA [0] [1, 2, 3] [3, 0, 1, 2] rfl rfl rfl rfl (by decide) (fun _ => rfl) rfl rfl rfl hl.1 rfl (Nat.le_of_ble_eq_true rfl) dX5_opener_6 ⟨Nat.le_of_ble_eq_true rfl, Nat.le_of_ble_eq_true rfl⟩ (fun r2 u3 H locs hr2 hP hD hS => ?_)
  have hP : va_P D vwCl [(m0, .inr (5, [.ref m1, .int (nI nk), .ref m2, .ref m3, .ref m4, .ref m5, .ref m6, .int (nI np), .ref m7, .ref m8, .ref m9, .ref m10, .ref m11, .ref m12, .ref m13, .ref m14, .int (nI nr), .ref m15, .int (nI nl), .ref m16, .int (nI nb), .ref m17, .ref m18, .int (nI (ak1 (inB k nk)))])), (m1, .inl (y3.1, 14, .inl par)), (m17, .inl (y3.1, 420, .inl st)), (m18, .inl (y3.1, 42, .inl (fP df)))] H := hP
  have hD : va_D A [(m0, .inr (5, [.ref m1, .int (nI nk), .ref m2, .ref m3, .ref m4, .ref m5, .ref m6, .int (nI np), .ref m7, .ref m8, .ref m9, .ref m10, .ref m11, .ref m12, .ref m13, .ref m14, .int (nI nr), .ref m15, .int (nI nl), .ref m16, .int (nI nb), .ref m17, .ref m18, .int (nI (ak1 (inB k nk)))])), (m1, .inl (y3.1, 14, .inl par)), (m17, .inl (y3.1, 420, .inl st)), (m18, .inl (y3.1, 42, .inl (fP df)))] := hD
  subst hr2
  refine lb_if_ne (tgt := 14) hx hb dX5_opener_9 (by decide) (fun c9 => ?_) (fun c9 => ?_)
  · rw [ak1_f hz] at c9; cases c9
  · refine lv_iconst (v := (nI 0)) hx hb dX5_opener_12 rfl ?_
    exact hret 13 ls H locs _ _ () _ hP hD hS (Nat.le_of_ble_eq_true rfl) (Nat.le_of_ble_eq_true rfl) rfl dX5_opener_13
