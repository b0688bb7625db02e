/-! ===== letters are alike: two names and two rows of tokens, of which one has 9 less what the other has ===== -/
def tnN (j : Nat) : Nat := if j < 10 then 9 - j else j
theorem tnN_le {j : Nat} (h : j ≤ 11) : tnN j ≤ 11 := by unfold tnN; split <;> omega
/-- the names of the two tellers -/
def rLT (lta ltb : Nat → Int32) (nl : Nat) : Prop := ∀ i : Nat, i < nl → ∃ j : Nat, j ≤ 9 ∧ lta i = nI j ∧ ltb i = nI (9 - j)
/-- their patterns' tokens -/
def rTK (tka tkb : Nat → Int32) (ln : Nat → Nat) : Prop := ∀ q i : Nat, i < ln q → ∃ j : Nat, j ≤ 11 ∧ tka ((q * 8) + i) = nI j ∧ tkb ((q * 8) + i) = nI (tnN j)
theorem dec_iff {P Q : Prop} [Decidable P] [Decidable Q] (h : P ↔ Q) : decide P = decide Q := by
  by_cases p : P
  · rw [decide_eq_true p, decide_eq_true (h.mp p)]
  · rw [decide_eq_false p, decide_eq_false (fun q => p (h.mpr q))]
theorem st_eq {lta ltb : Nat → Int32} {nl j i : Nat} (hL : rLT lta ltb nl) (hj : j ≤ 11) (hi : i < nl) : stB lta (nI j) i = stB ltb (nI (tnN j)) i := by
  obtain ⟨c, hc, e1, e2⟩ := hL i hi
  unfold stB
  rw [e1, e2]
  have t := tnN_le hj
  have a : decide (nI j = nI 11) = decide (nI (tnN j) = nI 11) := dec_iff (by
    rw [nI_eq (by omega) (by omega), nI_eq (by omega) (by omega)]
    unfold tnN
    split <;> omega)
  have b : decide (nI j = nI c) = decide (nI (tnN j) = nI (9 - c)) := dec_iff (by
    rw [nI_eq (by omega) (by omega), nI_eq (by omega) (by omega)]
    unfold tnN
    split <;> omega)
  rw [a, b]
theorem stp_eq {lta ltb : Nat → Int32} {nl j : Nat} {Ra Rb : Nat → Bool} (hL : rLT lta ltb nl) (hj : j ≤ 11) (hR : ∀ i : Nat, i ≤ nl → Ra i = Rb i) : ∀ i : Nat, i ≤ nl → stpB lta (nI j) Ra i = stpB ltb (nI (tnN j)) Rb i := by
  intro i hi
  have t := tnN_le hj
  have a : nI j = nI 10 ↔ nI (tnN j) = nI 10 := by
    rw [nI_eq (by omega) (by omega), nI_eq (by omega) (by omega)]
    unfold tnN
    split <;> omega
  by_cases h : nI j = nI 10
  · rw [stpB_ok h, stpB_ok (a.mp h)]
    exact anB_congr (fun q hq => hR q (by omega))
  · have h2 : ¬ nI (tnN j) = nI 10 := fun q => h (a.mpr q)
    cases i with
    | zero => rw [stpB_0 h, stpB_0 h2]
    | succ q => rw [stpB_s h, stpB_s h2, hR q (by omega), st_eq hL hj (by omega)]
theorem rch_eq {lta ltb tka tkb : Nat → Int32} {nl base : Nat} (hL : rLT lta ltb nl) : ∀ k : Nat, (∀ i : Nat, i < k → ∃ j : Nat, j ≤ 11 ∧ tka (base + i) = nI j ∧ tkb (base + i) = nI (tnN j)) → ∀ i : Nat, i ≤ nl → rchB lta tka base k i = rchB ltb tkb base k i
  | 0, _, i, _ => rfl
  | k + 1, h, i, hi => by
    obtain ⟨j, hj, e1, e2⟩ := h k (Nat.lt_succ_self k)
    show stpB lta (tka (base + k)) (rchB lta tka base k) i = stpB ltb (tkb (base + k)) (rchB ltb tkb base k) i
    rw [e1, e2]
    exact stp_eq hL hj (rch_eq hL k (fun i hi => h i (by omega))) i hi
theorem fit_eq {lta ltb tka tkb : Nat → Int32} {nl : Nat} {ln : Nat → Nat} (hL : rLT lta ltb nl) (hT : rTK tka tkb ln) (q : Nat) : fitB lta nl tka ln q = fitB ltb nl tkb ln q :=
  rch_eq hL (ln q) (hT q) nl (Nat.le_refl _)
theorem cn_eq {par : Nat → Int32} {kp : Nat → Nat} {th : Nat → Bool} {lta ltb tka tkb : Nat → Int32} {nl : Nat} {ln : Nat → Nat} (hL : rLT lta ltb nl) (hT : rTK tka tkb ln) (g : Int32) : cnP par kp th lta nl tka ln g = cnP par kp th ltb nl tkb ln g := by
  funext j
  unfold cnP
  rw [fit_eq hL hT]
theorem rLT_0 {lta ltb : Nat → Int32} : rLT lta ltb 0 := fun i hi => absurd hi (Nat.not_lt_zero i)
theorem rLT_up {lta ltb : Nat → Int32} {nl j : Nat} (h : rLT lta ltb nl) (hj : j ≤ 9) : rLT (upd lta nl (nI j)) (upd ltb nl (nI (9 - j))) (nl + 1) := fun i hi => by
  by_cases e : i = nl
  · subst e; exact ⟨j, hj, by rw [pk_us], by rw [pk_us]⟩
  · obtain ⟨c, hc, e1, e2⟩ := h i (by omega)
    exact ⟨c, hc, by rw [pk_un e]; exact e1, by rw [pk_un e]; exact e2⟩
theorem tkW_o {tk : Nat → Int32} {np x1 x2 i : Nat} : ∀ {n : Nat}, (∀ z : Nat, z < n → i ≠ (np * 8) + z) → tkW tk np x1 x2 n i = tk i
  | 0, _ => rfl
  | n + 1, h => by
    show upd (tkW tk np x1 x2 n) ((np * 8) + n) (nI (tkN n x1 x2)) i = tk i
    rw [pk_un (h n (by omega))]
    exact tkW_o (fun z hz => h z (by omega))
theorem tkW_i {tk : Nat → Int32} {np x1 x2 z : Nat} : ∀ {n : Nat}, z < n → tkW tk np x1 x2 n ((np * 8) + z) = nI (tkN z x1 x2)
  | 0, h => absurd h (Nat.not_lt_zero z)
  | n + 1, h => by
    show upd (tkW tk np x1 x2 n) ((np * 8) + n) (nI (tkN n x1 x2)) ((np * 8) + z) = _
    by_cases e : z = n
    · subst e; rw [pk_us]
    · rw [pk_un (by omega)]
      exact tkW_i (by omega)
/-- a row of tokens as a number, two digits each, from the lowest on -/
def hrN (t : Nat → Nat) : Nat → Nat → Nat
  | _, 0 => 0
  | lo, c + 1 => t lo + 100 * hrN t (lo + 1) c
theorem hrN_congr {t u : Nat → Nat} : ∀ {c lo : Nat}, (∀ i : Nat, lo ≤ i → i < lo + c → t i = u i) → hrN t lo c = hrN u lo c
  | 0, _, _ => rfl
  | c + 1, lo, h => by
    show t lo + 100 * hrN t (lo + 1) c = u lo + 100 * hrN u (lo + 1) c
    rw [h lo (Nat.le_refl _) (by omega), hrN_congr (fun i a b => h i (by omega) (by omega))]
theorem hrN_lt {t : Nat → Nat} (h : ∀ i : Nat, t i ≤ 11) : ∀ {c lo : Nat}, hrN t lo c < 100 ^ c
  | 0, _ => by show (0 : Nat) < 1; omega
  | c + 1, lo => by
    have := hrN_lt h (c := c) (lo := lo + 1)
    have := h lo
    show t lo + 100 * hrN t (lo + 1) c < 100 ^ (c + 1)
    rw [Nat.pow_succ]
    omega
theorem hrN_dig {t : Nat → Nat} (h : ∀ i : Nat, t i ≤ 11) : ∀ {i c lo : Nat}, i < c → (hrN t lo c / 100 ^ i) % 100 = t (lo + i)
  | _, 0, _, hi => absurd hi (Nat.not_lt_zero _)
  | 0, c + 1, lo, _ => by
    have := h lo
    show ((t lo + 100 * hrN t (lo + 1) c) / 100 ^ 0) % 100 = t lo
    rw [Nat.pow_zero, Nat.div_one]
    omega
  | i + 1, c + 1, lo, hi => by
    have a := h lo
    show ((t lo + 100 * hrN t (lo + 1) c) / 100 ^ (i + 1)) % 100 = t (lo + (i + 1))
    rw [Nat.pow_succ, Nat.mul_comm (100 ^ i) 100, ← Nat.div_div_eq_div_mul, show (t lo + 100 * hrN t (lo + 1) c) / 100 = hrN t (lo + 1) c by omega, hrN_dig h (by omega), show lo + 1 + i = lo + (i + 1) by omega]
def mnN (a b : Nat) : Nat := if a ≤ b then a else b
def mxN (a b : Nat) : Nat := if a ≤ b then b else a
/-- the two numbers of a pattern of n tokens, those from the place q on -/
def hrA (t : Nat → Nat) (n q : Nat) : Nat := hrN t q (mnN n 4 - q)
def hrB (t : Nat → Nat) (n q : Nat) : Nat := hrN t (mxN q 4) (n - mxN q 4)
theorem hrA_lt {t : Nat → Nat} {n q : Nat} (h : ∀ i : Nat, t i ≤ 11) : hrA t n q < 2 ^ 31 := by
  have h1 := hrN_lt h (c := mnN n 4 - q) (lo := q)
  have h2 : mnN n 4 - q ≤ 4 := by unfold mnN; split <;> omega
  have h3 : 100 ^ (mnN n 4 - q) ≤ 100 ^ 4 := Nat.pow_le_pow_right (by omega) h2
  have h4 : (100 : Nat) ^ 4 < 2 ^ 31 := by decide
  unfold hrA
  omega
theorem hrB_lt {t : Nat → Nat} {n q : Nat} (h : ∀ i : Nat, t i ≤ 11) (hn : n ≤ 8) : hrB t n q < 2 ^ 31 := by
  have h1 := hrN_lt h (c := n - mxN q 4) (lo := mxN q 4)
  have h2 : n - mxN q 4 ≤ 4 := by unfold mxN; split <;> omega
  have h3 : 100 ^ (n - mxN q 4) ≤ 100 ^ 4 := Nat.pow_le_pow_right (by omega) h2
  have h4 : (100 : Nat) ^ 4 < 2 ^ 31 := by decide
  unfold hrB
  omega
theorem tk_dig {t : Nat → Nat} {n i : Nat} (h : ∀ i : Nat, t i ≤ 11) (hi : i < n) (hn : n ≤ 8) : tkN i (hrA t n 0) (hrB t n 0) = t i := by
  unfold tkN hrA hrB
  have e : mxN 0 4 = 4 := rfl
  rw [e]
  by_cases h4 : i < 4
  · rw [if_pos h4, if_pos h4, hrN_dig h (by unfold mnN; split <;> omega), Nat.zero_add]
  · rw [if_neg h4, if_neg h4, hrN_dig h (by omega), show 4 + (i - 4) = i by omega]
/-- one token more, below 4 -/
theorem hrA_s {t : Nat → Nat} {n p j : Nat} (hp : p < 4) (hpn : p < n) : hrA (va_up t p j) n p = 100 * hrA t n (p + 1) + j := by
  unfold hrA
  have e : mnN n 4 - p = (mnN n 4 - (p + 1)) + 1 := by unfold mnN; split <;> omega
  rw [e]
  show va_up t p j p + 100 * hrN (va_up t p j) (p + 1) _ = _
  rw [up_s, hrN_congr (u := t) (fun i a b => up_n (by omega))]
  omega
theorem hrB_k {t : Nat → Nat} {n p j : Nat} (hp : p < 4) : hrB (va_up t p j) n p = hrB t n (p + 1) := by
  unfold hrB
  have e1 : mxN p 4 = 4 := by unfold mxN; rw [if_pos (by omega)]
  have e2 : mxN (p + 1) 4 = 4 := by unfold mxN; rw [if_pos (by omega)]
  rw [e1, e2]
  exact hrN_congr (fun i a b => up_n (by omega))
/-- one from 4 on -/
theorem hrA_k {t : Nat → Nat} {n p j : Nat} (hp : ¬ p < 4) : hrA (va_up t p j) n p = hrA t n (p + 1) := by
  unfold hrA
  have e1 : mnN n 4 - p = 0 := by unfold mnN; split <;> omega
  have e2 : mnN n 4 - (p + 1) = 0 := by unfold mnN; split <;> omega
  rw [e1, e2]; rfl
theorem hrB_s {t : Nat → Nat} {n p j : Nat} (hp : ¬ p < 4) (hpn : p < n) : hrB (va_up t p j) n p = 100 * hrB t n (p + 1) + j := by
  unfold hrB
  have e1 : mxN p 4 = p := by unfold mxN; split <;> omega
  have e2 : mxN (p + 1) 4 = p + 1 := by unfold mxN; split <;> omega
  rw [e1, e2, show n - p = (n - (p + 1)) + 1 by omega]
  show va_up t p j p + 100 * hrN (va_up t p j) (p + 1) _ = _
  rw [up_s, hrN_congr (u := t) (fun i a b => up_n (by omega))]
  omega
theorem tn_up {t : Nat → Nat} {p j : Nat} : (fun i => tnN (va_up t p j i)) = va_up (fun i => tnN (t i)) p (tnN j) := by
  funext i
  by_cases h : i = p
  · subst h; rw [up_s, up_s]
  · rw [up_n h, up_n h]
theorem rTK_up {tka tkb : Nat → Int32} {ln : Nat → Nat} {t : Nat → Nat} {np n : Nat} (h : rTK tka tkb ln) (hln : ∀ q : Nat, ln q ≤ 8) (ht : ∀ i : Nat, t i ≤ 11) (hn : n ≤ 8) :
    rTK (tkW tka np (hrA t n 0) (hrB t n 0) n) (tkW tkb np (hrA (fun i => tnN (t i)) n 0) (hrB (fun i => tnN (t i)) n 0) n) (va_up ln np n) := fun q i hi => by
  by_cases e : q = np
  · subst e
    rw [up_s] at hi
    refine ⟨t i, ht i, ?_, ?_⟩
    · rw [tkW_i hi, tk_dig ht hi hn]
    · rw [tkW_i hi, tk_dig (fun i => tnN_le (ht i)) hi hn]
  · rw [up_n e] at hi
    obtain ⟨j, hj, e1, e2⟩ := h q i hi
    have := hln q
    refine ⟨j, hj, ?_, ?_⟩
    · rw [tkW_o (fun z hz => by omega)]; exact e1
    · rw [tkW_o (fun z hz => by omega)]; exact e2
/-- the pattern's arguments are in range -/
theorem pt_in {wg n x1 x2 : Nat} {t : Nat → Nat} (hw : wg ≤ 100) (hn : n ≤ 8) (h1 : x1 < 2 ^ 31) (h2 : x2 < 2 ^ 31) (ht : ∀ i : Nat, i < n → tkN i x1 x2 ≤ 11) : ptB (nI wg) (nI n) (nI x1) (nI x2) = true := by
  unfold ptB
  rw [rgB_t (show nI 0 ≤ nI wg from nI_pos' (by omega)) ((nI_leI (by omega) (by omega)).mpr hw), rgB_t (show nI 0 ≤ nI n from nI_pos' (by omega)) ((nI_leI (by omega) (by omega)).mpr hn), decide_eq_true (show (0 : Int32) ≤ nI x1 from nI_pos' (by omega)), decide_eq_true (show (0 : Int32) ≤ nI x2 from nI_pos' (by omega)), nI_clamp (by omega), nI_clamp (by omega), nI_clamp (by omega)]
  simp only [Bool.true_and]
  exact alB_t (fun i hi => decide_eq_true (ht i hi))
theorem nn_31 {x : Int32} (h : bt x 31 = false) : ∃ j : Nat, j < 2 ^ 31 ∧ x = nI j := by
  refine nI_of (fun hx => ?_)
  have h1 := Int32.lt_iff_toInt_lt.mp hx
  have e0 : (0 : Int32).toInt = 0 := rfl
  have e1 : x.toInt = x.toBitVec.toInt := rfl
  have e2 : x.toBitVec.msb = false := by rw [BitVec.msb_eq_getLsbD_last]; exact h
  rw [e0, e1, BitVec.toInt_eq_msb_cond, e2] at h1
  simp at h1
  omega
theorem bt_nn {w : Nat} (hw : w < 2 ^ 31) : bt (nI w) 31 = false := by
  cases h : bt (nI w) 31 with
  | false => rfl
  | true =>
    exfalso
    have e1 : (nI w).toInt = (nI w).toBitVec.toInt := rfl
    have e2 : (nI w).toBitVec.msb = true := by rw [BitVec.msb_eq_getLsbD_last]; exact h
    rw [nI_toInt hw, BitVec.toInt_eq_msb_cond, e2] at e1
    have := (nI w).toBitVec.isLt
    simp at e1
    omega
/-- a number shifted to the right is a number -/
theorem shr_N {w p : Nat} (hw : w < 2 ^ 31) (hp : p < 32) : ∃ j : Nat, j < 2 ^ 31 ∧ (nI w >>> (nI p &&& 31)) = nI j :=
  nn_31 (by
    rw [b_sshr p hp _ (by omega)]
    split
    · rw [show p + 31 = 31 by omega]; exact bt_nn hw
    · exact bt_nn hw)
/-- a number of the script, its sign and the highest bit left out -/
theorem msk_N (x : Int32) : ∃ d : Nat, d < 2 ^ 31 ∧ (x &&& 1073741823) = nI d :=
  nn_31 (by rw [b_and, show bt 1073741823 31 = false from by decide +kernel, Bool.and_false])
