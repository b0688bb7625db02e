def cntB (P : Nat → Bool) : Nat → Nat
  | 0 => 0
  | n + 1 => cntB P n + (if P n = true then 1 else 0)
theorem cntB_t {P : Nat → Bool} {n : Nat} (h : P n = true) : cntB P (n + 1) = cntB P n + 1 := by
  show cntB P n + _ = _
  rw [if_pos h]
theorem cntB_f {P : Nat → Bool} {n : Nat} (h : P n = false) : cntB P (n + 1) = cntB P n := by
  show cntB P n + _ = _
  rw [if_neg (by rw [h]; decide)]; rfl
theorem cntB_congr {P Q : Nat → Bool} : ∀ {n : Nat}, (∀ i, i < n → P i = Q i) → cntB P n = cntB Q n
  | 0, _ => rfl
  | n + 1, h => by
    show cntB P n + _ = cntB Q n + _
    rw [cntB_congr (fun i hi => h i (by omega)), h n (by omega)]
theorem cntB_le (P : Nat → Bool) : ∀ n, cntB P n ≤ n
  | 0 => Nat.le_refl _
  | n + 1 => by
    show cntB P n + _ ≤ n + 1
    have := cntB_le P n
    by_cases h : P n = true
    · rw [if_pos h]; omega
    · rw [if_neg h]; omega
theorem cntB_or {P Q : Nat → Bool} : ∀ {n : Nat}, (∀ i, i < n → ¬ (P i = true ∧ Q i = true)) → cntB (fun i => P i || Q i) n = cntB P n + cntB Q n
  | 0, _ => rfl
  | n + 1, h => by
    show cntB (fun i => P i || Q i) n + _ = (cntB P n + _) + (cntB Q n + _)
    rw [cntB_or (fun i hi => h i (by omega))]
    have h1 := h n (by omega)
    cases hp : P n <;> cases hq : Q n <;> simp [hp, hq] at h1 ⊢ <;> omega
theorem bt_nI {n i : Nat} (hn : n < 2 ^ 32) (hi : i < 32) : bt (nI n) i = n.testBit i := by
  show (BitVec.ofNat 32 n).getLsbD i = n.testBit i
  rw [BitVec.getLsbD_ofNat]
  simp [hi]
theorem nI_low {x : Int32} (h : ∀ i : Nat, 10 ≤ i → i < 32 → bt x i = false) : ∃ n : Nat, n < 1024 ∧ x = nI n := by
  refine ⟨x.toBitVec.toNat % 1024, Nat.mod_lt _ (by omega), b_ext (fun i hi => ?_)⟩
  have hm : x.toBitVec.toNat % 1024 < 1024 := Nat.mod_lt _ (by omega)
  rw [bt_nI (by omega) hi, show (1024 : Nat) = 2 ^ 10 from rfl, Nat.testBit_mod_two_pow]
  by_cases h10 : i < 10
  · rw [decide_eq_true h10, Bool.true_and]; rfl
  · rw [decide_eq_false h10, Bool.false_and]; exact h i (by omega) hi
def bc_1 (x : Int32) : Int32 := x - (((x).toUInt32 >>> (((nI 1)).toUInt32 &&& Int32.toUInt32 31)).toInt32 &&& 1431655765)
def bc_2 (x : Int32) : Int32 := (x &&& 858993459) + (((x).toUInt32 >>> (((nI 2)).toUInt32 &&& Int32.toUInt32 31)).toInt32 &&& 858993459)
def bc_3 (x : Int32) : Int32 := (x + ((x).toUInt32 >>> (((nI 4)).toUInt32 &&& Int32.toUInt32 31)).toInt32) &&& 252645135
def bc_4 (x : Int32) : Int32 := x + ((x).toUInt32 >>> (((nI 8)).toUInt32 &&& Int32.toUInt32 31)).toInt32
def bc_5 (x : Int32) : Int32 := x + ((x).toUInt32 >>> (((nI 16)).toUInt32 &&& Int32.toUInt32 31)).toInt32
def bc_F (x : Int32) : Int32 := bc_5 (bc_4 (bc_3 (bc_2 (bc_1 x)))) &&& nI 63
set_option maxRecDepth 100000 in
theorem bc_K : ∀ n, n < 1024 → bc_F (nI n) = nI (cntB (bt (nI n)) 10) := by decide +kernel
theorem bc_ok {x : Int32} (h : ∀ i : Nat, 10 ≤ i → i < 32 → bt x i = false) : bc_F x = nI (cntB (bt x) 10) := by
  obtain ⟨n, hn, rfl⟩ := nI_low h
  exact bc_K n hn
/-- how a program stands in the lists, from the list 3 - k on: the first that names it decides -/
def opR (st : Nat → Int32) (kd pg : Nat) : Nat → Bool
  | 0 => false
  | k + 1 => if st (((((3 - 1 - k) * 14) + kd) * 10) + pg) = 0 then opR st kd pg k else decide (st (((((3 - 1 - k) * 14) + kd) * 10) + pg) = nI 1)
def opB (st : Nat → Int32) (kd pg : Nat) : Bool := opR st kd pg 3
theorem opR_0 {st : Nat → Int32} {kd pg k : Nat} (h : st (((((3 - 1 - k) * 14) + kd) * 10) + pg) = 0) : opR st kd pg (k + 1) = opR st kd pg k := by show (if _ then _ else _) = _; rw [if_pos h]
theorem opR_1 {st : Nat → Int32} {kd pg k : Nat} (h : ¬ st (((((3 - 1 - k) * 14) + kd) * 10) + pg) = 0) : opR st kd pg (k + 1) = decide (st (((((3 - 1 - k) * 14) + kd) * 10) + pg) = nI 1) := by show (if _ then _ else _) = _; rw [if_neg h]
theorem op_no {st : Nat → Int32} {kd q : Nat} {a : Int32} (h : ∀ i : Nat, i < 32 → bt a i = (decide (i < q) && opB st kd i)) (hq : q < 32) (hp : opB st kd q = false) : ∀ i : Nat, i < 32 → bt a i = (decide (i < q + 1) && opB st kd i) := by
  intro i hi
  rw [h i hi]
  by_cases hiq : i = q
  · subst hiq; rw [hp, Bool.and_false, Bool.and_false]
  · congr 1; exact decide_eq_decide.mpr (by omega)
theorem op_yes {st : Nat → Int32} {kd q : Nat} {a : Int32} (h : ∀ i : Nat, i < 32 → bt a i = (decide (i < q) && opB st kd i)) (hq : q < 32) (hp : opB st kd q = true) : ∀ i : Nat, i < 32 → bt (a ||| (nI 1 <<< (nI q &&& 31))) i = (decide (i < q + 1) && opB st kd i) := by
  intro i hi
  rw [bt_set a hq hi, h i hi]
  by_cases hiq : i = q
  · subst hiq; rw [hp, decide_eq_true (rfl : i = i), decide_eq_true (Nat.lt_succ_self i), Bool.or_true]; rfl
  · rw [decide_eq_false hiq, Bool.or_false]; congr 1; exact decide_eq_decide.mpr (by omega)
/-- the programs seen on the way up, f steps at most -/
def seenB (st par : Nat → Int32) : Nat → Int32 → (Nat → Bool) → Nat → Bool
  | 0, _, S => S
  | f + 1, u, S => if u = -1 then S else seenB st par f (par u.toNatClampNeg) (fun i => S i || (decide (i < 10) && opB st u.toNatClampNeg i))
theorem seen_m1 {st par : Nat → Int32} {f : Nat} {S : Nat → Bool} : seenB st par f (-1) S = S := by cases f <;> simp [seenB]
theorem bt_or_fun {a r : Int32} {st : Nat → Int32} {kd : Nat} (h4 : ∀ i : Nat, 10 ≤ i → i < 32 → bt a i = false) (hr : ∀ i : Nat, i < 32 → bt r i = (decide (i < 10) && opB st kd i)) : bt (a ||| r) = (fun i => bt a i || (decide (i < 10) && opB st kd i)) := by
  funext i
  rw [b_or]
  by_cases hi : i < 32
  · rw [hr i hi]
  · rw [b_big (x := r) (by omega), decide_eq_false (by omega : ¬ i < 10)]; rfl
theorem seen_s {st par : Nat → Int32} {f i : Nat} {a r : Int32} (hu : ¬ nI i = -1) (hi : i < 2 ^ 31) (h4 : ∀ i : Nat, 10 ≤ i → i < 32 → bt a i = false) (hr : ∀ k : Nat, k < 32 → bt r k = (decide (k < 10) && opB st i k)) : seenB st par (f + 1) (nI i) (bt a) = seenB st par f (par i) (bt (a ||| r)) := by
  show (if _ then _ else _) = _
  rw [if_neg hu, nI_clamp hi, bt_or_fun h4 hr]
theorem or_hi {a r : Int32} {st : Nat → Int32} {kd : Nat} (h4 : ∀ i : Nat, 10 ≤ i → i < 32 → bt a i = false) (hr : ∀ i : Nat, i < 32 → bt r i = (decide (i < 10) && opB st kd i)) : ∀ i : Nat, 10 ≤ i → i < 32 → bt (a ||| r) i = false := by
  intro i h1 h2
  rw [b_or, h4 i h1 h2, hr i h2, decide_eq_false (by omega : ¬ i < 10)]; rfl
/-- the k-th of those below n for which P holds -/
def fnd (P : Nat → Bool) (k : Nat) : Nat → Option Nat
  | 0 => none
  | n + 1 => match fnd P k n with
    | some i => some i
    | none => if P n = true ∧ cntB P n = k then some n else none
theorem fnd_no {P : Nat → Bool} {k q : Nat} (h : fnd P k q = none) (h2 : P q = false ∨ ¬ cntB P q = k) : fnd P k (q + 1) = none := by
  show (match fnd P k q with | some i => some i | none => if P q = true ∧ cntB P q = k then some q else none) = none
  rw [h]
  show (if P q = true ∧ cntB P q = k then some q else none) = none
  rw [if_neg]
  rintro ⟨a, b⟩
  rcases h2 with h2 | h2
  · rw [a] at h2; cases h2
  · exact h2 b
theorem fnd_at {P : Nat → Bool} {k q : Nat} (h : fnd P k q = none) (h2 : P q = true) (h3 : cntB P q = k) : fnd P k (q + 1) = some q := by
  show (match fnd P k q with | some i => some i | none => if P q = true ∧ cntB P q = k then some q else none) = some q
  rw [h]
  show (if P q = true ∧ cntB P q = k then some q else none) = some q
  rw [if_pos ⟨h2, h3⟩]
theorem fnd_up {P : Nat → Bool} {k q : Nat} : ∀ {n : Nat}, q < n → fnd P k (q + 1) = some q → fnd P k n = some q
  | 0, h, _ => absurd h (Nat.not_lt_zero q)
  | n + 1, h, h1 => by
    by_cases hq : q = n
    · subst hq; exact h1
    · show (match fnd P k n with | some i => some i | none => if P n = true ∧ cntB P n = k then some n else none) = some q
      rw [fnd_up (by omega) h1]
theorem fnd_yes {P : Nat → Bool} {k q n : Nat} (hq : q < n) (h : fnd P k q = none) (h2 : P q = true) (h3 : cntB P q = k) : fnd P k n = some q := fnd_up hq (fnd_at h h2 h3)
theorem fnd_congr {P Q : Nat → Bool} {k : Nat} : ∀ {n : Nat}, (∀ i, i < n → P i = Q i) → fnd P k n = fnd Q k n
  | 0, _ => rfl
  | n + 1, h => by
    show (match fnd P k n with | some i => some i | none => if P n = true ∧ cntB P n = k then some n else none) = (match fnd Q k n with | some i => some i | none => if Q n = true ∧ cntB Q n = k then some n else none)
    rw [fnd_congr (fun i hi => h i (by omega)), h n (by omega), cntB_congr (fun i hi => h i (by omega))]
/-- the programs that open a kind and are not yet seen -/
def nwB (st : Nat → Int32) (kd : Nat) (S : Nat → Bool) (i : Nat) : Bool := (decide (i < 10) && opB st kd i) && !S i
/-- the program at place p, on the way up -/
def pioB (st par : Nat → Int32) (p : Nat) : Nat → Int32 → (Nat → Bool) → Option Nat
  | 0, _, _ => none
  | f + 1, u, S => if u = -1 then none else if p - cntB S 10 < cntB (nwB st u.toNatClampNeg S) 10 then fnd (nwB st u.toNatClampNeg S) (p - cntB S 10) 10 else pioB st par p f (par u.toNatClampNeg) (fun i => S i || nwB st u.toNatClampNeg S i)
def pioI (st par : Nat → Int32) (j : Nat) (pl : Int32) : Int32 := if 0 ≤ pl then oI (pioB st par pl.toNatClampNeg 14 (nI j) (fun _ => false)) else -1
theorem pio_m1 {st par : Nat → Int32} {p f : Nat} {S : Nat → Bool} : pioB st par p f (-1) S = none := by cases f <;> simp [pioB]
theorem bt_nw {a r : Int32} {st : Nat → Int32} {kd : Nat} (hr : ∀ i : Nat, i < 32 → bt r i = (decide (i < 10) && opB st kd i)) : bt (r &&& (a ^^^ (-1))) = nwB st kd (bt a) := by
  funext i
  unfold nwB
  rw [b_and, b_xor]
  by_cases hi : i < 32
  · rw [hr i hi, b_m1 i hi, Bool.xor_true]
  · rw [b_big (x := r) (by omega), decide_eq_false (by omega : ¬ i < 10)]; rfl
theorem an_hi {a r : Int32} {st : Nat → Int32} {kd : Nat} (hr : ∀ i : Nat, i < 32 → bt r i = (decide (i < 10) && opB st kd i)) : ∀ i : Nat, 10 ≤ i → i < 32 → bt (r &&& (a ^^^ (-1))) i = false := by
  intro i h1 h2
  rw [bt_nw hr]
  unfold nwB
  rw [decide_eq_false (by omega : ¬ i < 10)]; rfl
theorem or_hi4 {a r : Int32} {st : Nat → Int32} {kd : Nat} (h4 : ∀ i : Nat, 10 ≤ i → i < 32 → bt a i = false) (hr : ∀ i : Nat, i < 32 → bt r i = (decide (i < 10) && opB st kd i)) : ∀ i : Nat, 10 ≤ i → i < 32 → bt (a ||| (r &&& (a ^^^ (-1)))) i = false := by
  intro i h1 h2
  rw [b_or, h4 i h1 h2, an_hi hr i h1 h2]; rfl
theorem bt_or_nw {a r : Int32} {st : Nat → Int32} {kd : Nat} (hr : ∀ i : Nat, i < 32 → bt r i = (decide (i < 10) && opB st kd i)) : bt (a ||| (r &&& (a ^^^ (-1)))) = (fun i => bt a i || nwB st kd (bt a) i) := by
  funext i
  rw [b_or, bt_nw hr]
theorem pio_s {st par : Nat → Int32} {p f i : Nat} {a r : Int32} (hu : ¬ nI i = -1) (hi : i < 2 ^ 31) (h4 : ∀ i : Nat, 10 ≤ i → i < 32 → bt a i = false) (hr : ∀ k : Nat, k < 32 → bt r k = (decide (k < 10) && opB st i k)) (hc : cntB (bt (r &&& (a ^^^ (-1)))) 10 ≤ p - cntB (bt a) 10) : pioB st par p (f + 1) (nI i) (bt a) = pioB st par p f (par i) (bt (a ||| (r &&& (a ^^^ (-1))))) := by
  show (if _ then _ else if _ then _ else _) = _
  rw [if_neg hu, nI_clamp hi, if_neg (by rw [bt_nw hr] at hc; omega), bt_or_nw hr]
theorem pio_e {st par : Nat → Int32} {p f i : Nat} {a r : Int32} (hu : ¬ nI i = -1) (hi : i < 2 ^ 31) (h4 : ∀ i : Nat, 10 ≤ i → i < 32 → bt a i = false) (hr : ∀ k : Nat, k < 32 → bt r k = (decide (k < 10) && opB st i k)) (hc : ¬ cntB (bt (r &&& (a ^^^ (-1)))) 10 ≤ p - cntB (bt a) 10) : oI (pioB st par p (f + 1) (nI i) (bt a)) = oI (fnd (bt (r &&& (a ^^^ (-1)))) (p - cntB (bt a) 10) 10) := by
  show oI (if _ then _ else if _ then _ else _) = _
  rw [if_neg hu, nI_clamp hi, if_pos (by rw [bt_nw hr] at hc; omega), bt_nw hr]
theorem pio_c {st : Nat → Int32} {p i : Nat} {a r : Int32} (h4 : ∀ i : Nat, 10 ≤ i → i < 32 → bt a i = false) (hr : ∀ k : Nat, k < 32 → bt r k = (decide (k < 10) && opB st i k)) (h5 : cntB (bt a) 10 ≤ p) (hc : cntB (bt (r &&& (a ^^^ (-1)))) 10 ≤ p - cntB (bt a) 10) : cntB (bt (a ||| (r &&& (a ^^^ (-1))))) 10 ≤ p := by
  rw [bt_or_nw hr, cntB_or (fun k hk => ?_)]
  · rw [bt_nw hr] at hc; omega
  · rintro ⟨h1, h2⟩
    unfold nwB at h2
    rw [h1] at h2
    simp at h2
/-- the default of a kind itself, from the list 3 - k on -/
def dfR (st df : Nat → Int32) (kd : Nat) : Nat → Int32
  | 0 => -1
  | k + 1 => if df (((3 - 1 - k) * 14) + kd) ≠ -1 ∧ opB st kd (df (((3 - 1 - k) * 14) + kd)).toNatClampNeg = true then df (((3 - 1 - k) * 14) + kd) else dfR st df kd k
def dfO (st df : Nat → Int32) (kd : Nat) : Int32 := dfR st df kd 3
theorem dfR_yes {st df : Nat → Int32} {kd k : Nat} (h : ¬ df (((3 - 1 - k) * 14) + kd) = -1) (h2 : opB st kd (df (((3 - 1 - k) * 14) + kd)).toNatClampNeg = true) : dfR st df kd (k + 1) = df (((3 - 1 - k) * 14) + kd) := by show (if _ then _ else _) = _; rw [if_pos ⟨h, h2⟩]
theorem dfR_no {st df : Nat → Int32} {kd k : Nat} (h : df (((3 - 1 - k) * 14) + kd) = -1 ∨ opB st kd (df (((3 - 1 - k) * 14) + kd)).toNatClampNeg = false) : dfR st df kd (k + 1) = dfR st df kd k := by
  show (if _ then _ else _) = _
  rw [if_neg]
  rintro ⟨a, b⟩
  rcases h with h | h
  · exact a h
  · rw [b] at h; cases h
def duO (st df par : Nat → Int32) : Nat → Int32 → Int32
  | 0, _ => -1
  | f + 1, u => if u = -1 then -1 else if dfO st df u.toNatClampNeg = -1 then duO st df par f (par u.toNatClampNeg) else dfO st df u.toNatClampNeg
theorem duO_m1 {st df par : Nat → Int32} {f : Nat} : duO st df par f (-1) = -1 := by cases f <;> simp [duO]
theorem duO_s {st df par : Nat → Int32} {f i : Nat} (hu : ¬ nI i = -1) (hi : i < 2 ^ 31) (h : dfO st df i = -1) : duO st df par (f + 1) (nI i) = duO st df par f (par i) := by show (if _ then _ else if _ then _ else _) = _; rw [if_neg hu, nI_clamp hi, if_pos h]
theorem duO_e {st df par : Nat → Int32} {f i : Nat} (hu : ¬ nI i = -1) (hi : i < 2 ^ 31) (h : ¬ dfO st df i = -1) : duO st df par (f + 1) (nI i) = dfO st df i := by show (if _ then _ else if _ then _ else _) = _; rw [if_neg hu, nI_clamp hi, if_neg h]
theorem hvJ6_bitCount_0f7a4 : yJ6_bitCount_0f7a4.cls ≠ "java/lang/invoke/MethodHandle" ∧ yJ6_bitCount_0f7a4.cls ≠ "java/lang/invoke/VarHandle" ∧ (parseMethodDescriptor yJ6_bitCount_0f7a4.desc).map (fun d => d.parameters.length) = some 1 := by decide +kernel
theorem hvX3_placeOf : yX3_placeOf.cls ≠ "java/lang/invoke/MethodHandle" ∧ yX3_placeOf.cls ≠ "java/lang/invoke/VarHandle" ∧ (parseMethodDescriptor yX3_placeOf.desc).map (fun d => d.parameters.length) = some 2 := by decide +kernel
theorem hvX3_setStanding : yX3_setStanding.cls = RX3 ∧ yX3_setStanding.cls ≠ "java/lang/invoke/MethodHandle" ∧ yX3_setStanding.cls ≠ "java/lang/invoke/VarHandle" ∧ (parseMethodDescriptor yX3_setStanding.desc).map (fun d => d.parameters.length) = some 4 := by decide +kernel
theorem hvX3_setDefaultOf : yX3_setDefaultOf.cls = RX3 ∧ yX3_setDefaultOf.cls ≠ "java/lang/invoke/MethodHandle" ∧ yX3_setDefaultOf.cls ≠ "java/lang/invoke/VarHandle" ∧ (parseMethodDescriptor yX3_setDefaultOf.desc).map (fun d => d.parameters.length) = some 3 := by decide +kernel
theorem hvX3_opens : yX3_opens.cls = RX3 ∧ yX3_opens.cls ≠ "java/lang/invoke/MethodHandle" ∧ yX3_opens.cls ≠ "java/lang/invoke/VarHandle" ∧ (parseMethodDescriptor yX3_opens.desc).map (fun d => d.parameters.length) = some 2 := by decide +kernel
theorem hvX3_openersOf : yX3_openersOf.cls = RX3 ∧ yX3_openersOf.cls ≠ "java/lang/invoke/MethodHandle" ∧ yX3_openersOf.cls ≠ "java/lang/invoke/VarHandle" ∧ (parseMethodDescriptor yX3_openersOf.desc).map (fun d => d.parameters.length) = some 1 := by decide +kernel
theorem hvX3_countPrograms : yX3_countPrograms.cls = RX3 ∧ yX3_countPrograms.cls ≠ "java/lang/invoke/MethodHandle" ∧ yX3_countPrograms.cls ≠ "java/lang/invoke/VarHandle" ∧ (parseMethodDescriptor yX3_countPrograms.desc).map (fun d => d.parameters.length) = some 2 := by decide +kernel
theorem hvX3_programOf : yX3_programOf.cls ≠ "java/lang/invoke/MethodHandle" ∧ yX3_programOf.cls ≠ "java/lang/invoke/VarHandle" ∧ (parseMethodDescriptor yX3_programOf.desc).map (fun d => d.parameters.length) = some 2 := by decide +kernel
theorem hvX3_programInOrder : yX3_programInOrder.cls = RX3 ∧ yX3_programInOrder.cls ≠ "java/lang/invoke/MethodHandle" ∧ yX3_programInOrder.cls ≠ "java/lang/invoke/VarHandle" ∧ (parseMethodDescriptor yX3_programInOrder.desc).map (fun d => d.parameters.length) = some 3 := by decide +kernel
theorem hvX3_defaultOf : yX3_defaultOf.cls = RX3 ∧ yX3_defaultOf.cls ≠ "java/lang/invoke/MethodHandle" ∧ yX3_defaultOf.cls ≠ "java/lang/invoke/VarHandle" ∧ (parseMethodDescriptor yX3_defaultOf.desc).map (fun d => d.parameters.length) = some 1 := by decide +kernel
theorem hvX3_defaultUpward : yX3_defaultUpward.cls = RX3 ∧ yX3_defaultUpward.cls ≠ "java/lang/invoke/MethodHandle" ∧ yX3_defaultUpward.cls ≠ "java/lang/invoke/VarHandle" ∧ (parseMethodDescriptor yX3_defaultUpward.desc).map (fun d => d.parameters.length) = some 2 := by decide +kernel
set_option maxHeartbeats 4000000 in
set_option maxRecDepth 100000 in
theorem kJ6_bitCount_0f7a4 (l : Launch) (D : va_G) (y3 : ClassId × ClassId × ClassId) (x : Int32) (hx9 : ∀ i : Nat, 10 ≤ i → i < 32 → bt x i = false) : rdM l yJ6_bitCount_0f7a4 wsJ6_bitCount_0f7a4 0 0 D y3 [] [.int x] (fun r => r = (nI (cntB (bt x) 10))) := by
  refine rd_of (cc := cJ6_bitCount_0f7a4) (maxL := 1) (by decide) rfl (Nat.le_of_ble_eq_true rfl) ?_
  intro p e s m args below meth c Q hx hb hml hown hts hP hK hret ls hl
  replace hl : lv_has ls 1 [(0, .int x)] := hl
  refine lv_iload_n hx hb dJ6_bitCount_0f7a4_0 rfl (lv_at hl 0 rfl) ?_
  refine lv_iload_n hx hb dJ6_bitCount_0f7a4_1 rfl (lv_at hl 0 rfl) ?_
  refine lv_iconst (v := (nI 1)) hx hb dJ6_bitCount_0f7a4_2 rfl ?_
  refine lv_iushr (v := ((x).toUInt32 >>> (((nI 1)).toUInt32 &&& Int32.toUInt32 31)).toInt32) hx hb dJ6_bitCount_0f7a4_3 rfl ?_
  refine lv_ldcw (own := RJ6) (v := 1431655765) hx hb hown (hts (.constant RJ6 265 (1431655765)) (by decide +kernel)) dJ6_bitCount_0f7a4_4 ?_
  refine lv_iand hx hb dJ6_bitCount_0f7a4_7 ?_
  refine lv_isub hx hb dJ6_bitCount_0f7a4_8 ?_
  refine lv_topi (fun v1 ev1 => ?_)
  refine lv_istore_n (lv' := [(0, .int v1)]) hx hb dJ6_bitCount_0f7a4_9 rfl hl (by decide) rfl (fun ls hl => ?_)
  refine lv_iload_n hx hb dJ6_bitCount_0f7a4_10 rfl (lv_at hl 0 rfl) ?_
  refine lv_ldcw (own := RJ6) (v := 858993459) hx hb hown (hts (.constant RJ6 266 (858993459)) (by decide +kernel)) dJ6_bitCount_0f7a4_11 ?_
  refine lv_iand hx hb dJ6_bitCount_0f7a4_14 ?_
  refine lv_iload_n hx hb dJ6_bitCount_0f7a4_15 rfl (lv_at hl 0 rfl) ?_
  refine lv_iconst (v := (nI 2)) hx hb dJ6_bitCount_0f7a4_16 rfl ?_
  refine lv_iushr (v := ((v1).toUInt32 >>> (((nI 2)).toUInt32 &&& Int32.toUInt32 31)).toInt32) hx hb dJ6_bitCount_0f7a4_17 rfl ?_
  refine lv_ldcw (own := RJ6) (v := 858993459) hx hb hown (hts (.constant RJ6 266 (858993459)) (by decide +kernel)) dJ6_bitCount_0f7a4_18 ?_
  refine lv_iand hx hb dJ6_bitCount_0f7a4_21 ?_
  refine lv_iadd hx hb dJ6_bitCount_0f7a4_22 ?_
  refine lv_topi (fun v2 ev2 => ?_)
  refine lv_istore_n (lv' := [(0, .int v2)]) hx hb dJ6_bitCount_0f7a4_23 rfl hl (by decide) rfl (fun ls hl => ?_)
  refine lv_iload_n hx hb dJ6_bitCount_0f7a4_24 rfl (lv_at hl 0 rfl) ?_
  refine lv_iload_n hx hb dJ6_bitCount_0f7a4_25 rfl (lv_at hl 0 rfl) ?_
  refine lv_iconst (v := (nI 4)) hx hb dJ6_bitCount_0f7a4_26 rfl ?_
  refine lv_iushr (v := ((v2).toUInt32 >>> (((nI 4)).toUInt32 &&& Int32.toUInt32 31)).toInt32) hx hb dJ6_bitCount_0f7a4_27 rfl ?_
  refine lv_iadd hx hb dJ6_bitCount_0f7a4_28 ?_
  refine lv_ldcw (own := RJ6) (v := 252645135) hx hb hown (hts (.constant RJ6 267 (252645135)) (by decide +kernel)) dJ6_bitCount_0f7a4_29 ?_
  refine lv_iand hx hb dJ6_bitCount_0f7a4_32 ?_
  refine lv_topi (fun v3 ev3 => ?_)
  refine lv_istore_n (lv' := [(0, .int v3)]) hx hb dJ6_bitCount_0f7a4_33 rfl hl (by decide) rfl (fun ls hl => ?_)
  refine lv_iload_n hx hb dJ6_bitCount_0f7a4_34 rfl (lv_at hl 0 rfl) ?_
  refine lv_iload_n hx hb dJ6_bitCount_0f7a4_35 rfl (lv_at hl 0 rfl) ?_
  refine lv_bipush (v := (nI 8)) hx hb dJ6_bitCount_0f7a4_36 rfl ?_
  refine lv_iushr (v := ((v3).toUInt32 >>> (((nI 8)).toUInt32 &&& Int32.toUInt32 31)).toInt32) hx hb dJ6_bitCount_0f7a4_38 rfl ?_
  refine lv_iadd hx hb dJ6_bitCount_0f7a4_39 ?_
  refine lv_topi (fun v4 ev4 => ?_)
  refine lv_istore_n (lv' := [(0, .int v4)]) hx hb dJ6_bitCount_0f7a4_40 rfl hl (by decide) rfl (fun ls hl => ?_)
  refine lv_iload_n hx hb dJ6_bitCount_0f7a4_41 rfl (lv_at hl 0 rfl) ?_
  refine lv_iload_n hx hb dJ6_bitCount_0f7a4_42 rfl (lv_at hl 0 rfl) ?_
  refine lv_bipush (v := (nI 16)) hx hb dJ6_bitCount_0f7a4_43 rfl ?_
  refine lv_iushr (v := ((v4).toUInt32 >>> (((nI 16)).toUInt32 &&& Int32.toUInt32 31)).toInt32) hx hb dJ6_bitCount_0f7a4_45 rfl ?_
  refine lv_iadd hx hb dJ6_bitCount_0f7a4_46 ?_
  refine lv_topi (fun v5 ev5 => ?_)
  refine lv_istore_n (lv' := [(0, .int v5)]) hx hb dJ6_bitCount_0f7a4_47 rfl hl (by decide) rfl (fun ls hl => ?_)
  refine lv_iload_n hx hb dJ6_bitCount_0f7a4_48 rfl (lv_at hl 0 rfl) ?_
  refine lv_bipush (v := (nI 63)) hx hb dJ6_bitCount_0f7a4_49 rfl ?_
  refine lv_iand hx hb dJ6_bitCount_0f7a4_51 ?_
  exact hret 52 ls _ (by subst ev5 ev4 ev3 ev2 ev1; exact bc_ok hx9) dJ6_bitCount_0f7a4_52

set_option maxHeartbeats 4000000 in
set_option maxRecDepth 100000 in
theorem kX3_placeOf (l : Launch) (D : va_G) (y3 : ClassId × ClassId × ClassId) (i : Nat) (kd : Nat) : rdM l yX3_placeOf wsX3_placeOf 0 0 D y3 [] [.int (nI i), .int (nI kd)] (fun r => r = (nI ((i * 14) + kd))) := by
  refine rd_of (cc := cX3_placeOf) (maxL := 2) (by decide) rfl (Nat.le_of_ble_eq_true rfl) ?_
  intro p e s m args below meth c Q hx hb hml hown hts hP hK hret ls hl
  replace hl : lv_has ls 2 [(0, .int (nI i)), (1, .int (nI kd))] := hl
  refine lv_iload_n hx hb dX3_placeOf_0 rfl (lv_at hl 0 rfl) ?_
  refine lv_bipush (v := (nI 14)) hx hb dX3_placeOf_1 rfl ?_
  refine ln_imul (n := i * 14) hx hb (by omega) dX3_placeOf_3 ?_
  refine lv_iload_n hx hb dX3_placeOf_4 rfl (lv_at hl 1 rfl) ?_
  refine ln_iadd (n := (i * 14) + kd) hx hb (by omega) dX3_placeOf_5 ?_
  exact hret 6 ls _ rfl dX3_placeOf_6

set_option maxHeartbeats 4000000 in
set_option maxRecDepth 100000 in
theorem kX3_setStanding (l : Launch) (D : va_G) (y3 : ClassId × ClassId × ClassId) (g0 : Nat) (g1 : Nat) (g2 : Nat) (st : Nat → Int32) (i : Nat) (kd : Nat) (pg : Nat) (sv : Int32) (hi : i < 3) (hkd : kd < 14) (hpg : pg < 10) : wrM l yX3_setStanding wsX3_setStanding 1 21 0 0 D y3 [(g0, .inr (3, [.ref g1, .ref g2])), (g1, .inl (y3.1, 420, .inl st))] [.ref g0, .int (nI i), .int (nI kd), .int (nI pg), .int sv] (fun r (_ : Unit) => r = (st ((((i * 14) + kd) * 10) + pg))) (fun (_ : Unit) => [(g0, .inr (3, [.ref g1, .ref g2])), (g1, .inl (y3.1, 420, .inl (upd st ((((i * 14) + kd) * 10) + pg) sv)))]) := by
  refine wr_of (cc := cX3_setStanding) (maxL := 7) (by decide) rfl (Nat.le_of_ble_eq_true rfl) ?_
  intro p e s m args below meth c A Q hx hb hml hown hts hP hK hD hA hS hret ls hl
  replace hl : lv_has ls 7 [(0, .ref g0), (1, .int (nI i)), (2, .int (nI kd)), (3, .int (nI pg)), (4, .int sv)] := hl
  have hf9 := hts (.fieldLink RX3 9 "KindGuesser$ProgramLists" "standings" "[I") (by decide +kernel)
  have hiX3 : ∀ q ∈ wsX30, q ∈ wsX3_setStanding := by decide +kernel
  refine lv_iload_n hx hb dX3_setStanding_0 rfl (lv_at hl 1 rfl) ?_
  refine lv_iload_n hx hb dX3_setStanding_1 rfl (lv_at hl 2 rfl) ?_
  refine rd_S (own := RX3) (As := [.int (nI i), .int (nI kd)]) (rest := []) (bytes := cX3_placeOf) (maxL := 2) ⟨hx, hb, hml, hown, hts⟩ (kX3_placeOf l D y3 i kd) gX3_setStanding_X3_placeOf rfl hvX3_placeOf ⟨Nat.le_of_ble_eq_true rfl, Nat.le_of_ble_eq_true rfl⟩ hP hK [] rfl  hl.1 rfl (Nat.le_of_ble_eq_true rfl) dX3_setStanding_2 ⟨Nat.le_of_ble_eq_true rfl, Nat.le_of_ble_eq_true rfl⟩ (fun r1 hr1 => ?_)
  subst hr1
  refine lv_bipush (v := (nI 10)) hx hb dX3_setStanding_5 rfl ?_
  refine ln_imul (n := ((i * 14) + kd) * 10) hx hb (by omega) dX3_setStanding_7 ?_
  refine lv_iload_n hx hb dX3_setStanding_8 rfl (lv_at hl 3 rfl) ?_
  refine ln_iadd (n := (((i * 14) + kd) * 10) + pg) hx hb (by omega) dX3_setStanding_9 ?_
  refine lv_istore (lv' := [(5, .int (nI ((((i * 14) + kd) * 10) + pg))), (0, .ref g0), (1, .int (nI i)), (2, .int (nI kd)), (3, .int (nI pg)), (4, .int sv)]) hx hb dX3_setStanding_10 hl (by decide) rfl (fun ls hl => ?_)
  refine lv_aload_n hx hb dX3_setStanding_12 rfl (lv_at hl 1 rfl) ?_
  refine va_get (D := D) (ci := 3) (v := .ref g1) (C := RX3) (T := TX3) (N := 2) hx hb hts hiX3 hown hK hP 0 rfl rfl 0 (by decide) hf9 (fun _ h9 => h9) rfl dX3_setStanding_13 ?_
  refine lv_iload hx hb dX3_setStanding_16 (lv_at hl 0 rfl) ?_
  refine ln_iald hx hb hK hP 1 0 rfl rfl (by omega) (by decide) dX3_setStanding_18 ?_
  refine lv_istore (lv' := [(6, .int (st ((((i * 14) + kd) * 10) + pg))), (5, .int (nI ((((i * 14) + kd) * 10) + pg))), (0, .ref g0), (1, .int (nI i)), (2, .int (nI kd)), (3, .int (nI pg)), (4, .int sv)]) hx hb dX3_setStanding_19 hl (by decide) rfl (fun ls hl => ?_)
  refine lv_aload_n hx hb dX3_setStanding_21 rfl (lv_at hl 2 rfl) ?_
  refine va_get (D := D) (ci := 3) (v := .ref g1) (C := RX3) (T := TX3) (N := 2) hx hb hts hiX3 hown hK hP 0 rfl rfl 0 (by decide) hf9 (fun _ h9 => h9) rfl dX3_setStanding_22 ?_
  refine lv_iload hx hb dX3_setStanding_25 (lv_at hl 1 rfl) ?_
  refine lv_iload hx hb dX3_setStanding_27 (lv_at hl 6 rfl) ?_
  refine ln_iast hx hb hK hP hD hS 1 0 rfl rfl (by omega) (by decide) dX3_setStanding_29 _ rfl (fun H locs hP hD hS => ?_)
  have hP : va_P D vwCl [(g0, .inr (3, [.ref g1, .ref g2])), (g1, .inl (y3.1, 420, .inl (upd st ((((i * 14) + kd) * 10) + pg) sv)))] H := hP
  have hD : va_D A [(g0, .inr (3, [.ref g1, .ref g2])), (g1, .inl (y3.1, 420, .inl (upd st ((((i * 14) + kd) * 10) + pg) sv)))] := hD
  refine lv_iload hx hb dX3_setStanding_30 (lv_at hl 0 rfl) ?_
  exact hret 32 ls H locs _ _ () _ hP hD hS (Nat.le_of_ble_eq_true rfl) (Nat.le_of_ble_eq_true rfl) rfl dX3_setStanding_32

set_option maxHeartbeats 4000000 in
set_option maxRecDepth 100000 in
theorem kX3_setDefaultOf (l : Launch) (D : va_G) (y3 : ClassId × ClassId × ClassId) (g0 : Nat) (g1 : Nat) (g2 : Nat) (df : Nat → Int32) (i : Nat) (kd : Nat) (sv : Int32) (hi : i < 3) (hkd : kd < 14) : wrM l yX3_setDefaultOf wsX3_setDefaultOf 1 21 0 0 D y3 [(g0, .inr (3, [.ref g1, .ref g2])), (g2, .inl (y3.1, 42, .inl df))] [.ref g0, .int (nI i), .int (nI kd), .int sv] (fun r (_ : Unit) => r = (df ((i * 14) + kd))) (fun (_ : Unit) => [(g0, .inr (3, [.ref g1, .ref g2])), (g2, .inl (y3.1, 42, .inl (upd df ((i * 14) + kd) sv)))]) := by
  refine wr_of (cc := cX3_setDefaultOf) (maxL := 6) (by decide) rfl (Nat.le_of_ble_eq_true rfl) ?_
  intro p e s m args below meth c A Q hx hb hml hown hts hP hK hD hA hS hret ls hl
  replace hl : lv_has ls 6 [(0, .ref g0), (1, .int (nI i)), (2, .int (nI kd)), (3, .int sv)] := hl
  have hf15 := hts (.fieldLink RX3 15 "KindGuesser$ProgramLists" "defaults" "[I") (by decide +kernel)
  have hiX3 : ∀ q ∈ wsX30, q ∈ wsX3_setDefaultOf := by decide +kernel
  refine lv_iload_n hx hb dX3_setDefaultOf_0 rfl (lv_at hl 1 rfl) ?_
  refine lv_iload_n hx hb dX3_setDefaultOf_1 rfl (lv_at hl 2 rfl) ?_
  refine rd_S (own := RX3) (As := [.int (nI i), .int (nI kd)]) (rest := []) (bytes := cX3_placeOf) (maxL := 2) ⟨hx, hb, hml, hown, hts⟩ (kX3_placeOf l D y3 i kd) gX3_setDefaultOf_X3_placeOf rfl hvX3_placeOf ⟨Nat.le_of_ble_eq_true rfl, Nat.le_of_ble_eq_true rfl⟩ hP hK [] rfl  hl.1 rfl (Nat.le_of_ble_eq_true rfl) dX3_setDefaultOf_2 ⟨Nat.le_of_ble_eq_true rfl, Nat.le_of_ble_eq_true rfl⟩ (fun r1 hr1 => ?_)
  subst hr1
  refine lv_istore (lv' := [(4, .int (nI ((i * 14) + kd))), (0, .ref g0), (1, .int (nI i)), (2, .int (nI kd)), (3, .int sv)]) hx hb dX3_setDefaultOf_5 hl (by decide) rfl (fun ls hl => ?_)
  refine lv_aload_n hx hb dX3_setDefaultOf_7 rfl (lv_at hl 1 rfl) ?_
  refine va_get (D := D) (ci := 3) (v := .ref g2) (C := RX3) (T := TX3) (N := 2) hx hb hts hiX3 hown hK hP 0 rfl rfl 1 (by decide) hf15 (fun _ h9 => h9) rfl dX3_setDefaultOf_8 ?_
  refine lv_iload hx hb dX3_setDefaultOf_11 (lv_at hl 0 rfl) ?_
  refine ln_iald hx hb hK hP 1 0 rfl rfl (by omega) (by decide) dX3_setDefaultOf_13 ?_
  refine lv_istore (lv' := [(5, .int (df ((i * 14) + kd))), (4, .int (nI ((i * 14) + kd))), (0, .ref g0), (1, .int (nI i)), (2, .int (nI kd)), (3, .int sv)]) hx hb dX3_setDefaultOf_14 hl (by decide) rfl (fun ls hl => ?_)
  refine lv_aload_n hx hb dX3_setDefaultOf_16 rfl (lv_at hl 2 rfl) ?_
  refine va_get (D := D) (ci := 3) (v := .ref g2) (C := RX3) (T := TX3) (N := 2) hx hb hts hiX3 hown hK hP 0 rfl rfl 1 (by decide) hf15 (fun _ h9 => h9) rfl dX3_setDefaultOf_17 ?_
  refine lv_iload hx hb dX3_setDefaultOf_20 (lv_at hl 1 rfl) ?_
  refine lv_iload_n hx hb dX3_setDefaultOf_22 rfl (lv_at hl 5 rfl) ?_
  refine ln_iast hx hb hK hP hD hS 1 0 rfl rfl (by omega) (by decide) dX3_setDefaultOf_23 _ rfl (fun H locs hP hD hS => ?_)
  have hP : va_P D vwCl [(g0, .inr (3, [.ref g1, .ref g2])), (g2, .inl (y3.1, 42, .inl (upd df ((i * 14) + kd) sv)))] H := hP
  have hD : va_D A [(g0, .inr (3, [.ref g1, .ref g2])), (g2, .inl (y3.1, 42, .inl (upd df ((i * 14) + kd) sv)))] := hD
  refine lv_iload hx hb dX3_setDefaultOf_24 (lv_at hl 0 rfl) ?_
  exact hret 26 ls H locs _ _ () _ hP hD hS (Nat.le_of_ble_eq_true rfl) (Nat.le_of_ble_eq_true rfl) rfl dX3_setDefaultOf_26

set_option maxHeartbeats 4000000 in
set_option maxRecDepth 100000 in
theorem kX3_opens (l : Launch) (D : va_G) (y3 : ClassId × ClassId × ClassId) (g0 : Nat) (g1 : Nat) (g2 : Nat) (st : Nat → Int32) (pg : Nat) (kd : Nat) (hpg : pg < 10) (hkd : kd < 14) : rdM l yX3_opens wsX3_opens 1 21 D y3 [(g0, .inr (3, [.ref g1, .ref g2])), (g1, .inl (y3.1, 420, .inl st))] [.ref g0, .int (nI pg), .int (nI kd)] (fun r => r = (bI (opB st kd pg))) := by
  refine rz_of (cc := cX3_opens) (maxL := 5) (by decide) rfl (Nat.le_of_ble_eq_true rfl) ?_
  intro p e s m args below meth c Q hx hb hml hown hts hP hK hret ls hl
  replace hl : lv_has ls 5 [(0, .ref g0), (1, .int (nI pg)), (2, .int (nI kd))] := hl
  have hf9 := hts (.fieldLink RX3 9 "KindGuesser$ProgramLists" "standings" "[I") (by decide +kernel)
  have hiX3 : ∀ q ∈ wsX30, q ∈ wsX3_opens := by decide +kernel
  refine lv_iconst (v := (nI 0)) hx hb dX3_opens_0 rfl ?_
  refine lv_istore_n (lv' := [(3, .int (nI 0)), (0, .ref g0), (1, .int (nI pg)), (2, .int (nI kd))]) hx hb dX3_opens_1 rfl hl (by decide) rfl (fun ls hl => ?_)
  have lp2 : ∀ (n1 : Nat) (i : Nat), 3 - i < n1 → (i ≤ 3) → (opR st kd pg (3 - i) = opB st kd pg) → ∀ ls : Array Slot, lv_has ls 5 [(3, .int (nI i)), (0, .ref g0), (1, .int (nI pg)), (2, .int (nI kd))] → W p l e (rmO 1 0 0 21) s m args below meth c s.heap [] 0 0 Q (F0 m 2 ls []) := by
    intro n1
    induction n1 with
    | zero => intro i hm; exact absurd hm (Nat.not_lt_zero _)
    | succ n1 ih2 =>
      intro i hm2 h1 h2 ls hl
      refine lv_iload_n hx hb dX3_opens_2 rfl (lv_at hl 0 rfl) ?_
      refine lv_iconst (v := (nI 3)) hx hb dX3_opens_3 rfl ?_
      refine ln_icmp_ge (tgt := 47) hx hb (by omega) (by omega) dX3_opens_4 (by decide) (fun c4 => ?_) (fun c4 => ?_)
      · refine lv_iconst (v := (nI 0)) hx hb dX3_opens_47 rfl ?_
        exact hret 48 ls _ (bI_f (by rw [← h2, show 3 - i = 0 from by omega]; rfl)) dX3_opens_48
      · refine lv_aload_n hx hb dX3_opens_7 rfl (lv_at hl 1 rfl) ?_
        refine va_get (D := D) (ci := 3) (v := .ref g1) (C := RX3) (T := TX3) (N := 2) hx hb hts hiX3 hown hK hP 0 rfl rfl 0 (by decide) hf9 (fun _ h9 => h9) rfl dX3_opens_8 ?_
        refine lv_iload_n hx hb dX3_opens_11 rfl (lv_at hl 0 rfl) ?_
        refine lv_iload_n hx hb dX3_opens_12 rfl (lv_at hl 3 rfl) ?_
        refine rd_S (own := RX3) (As := [.int (nI i), .int (nI kd)]) (rest := [.ref g1]) (bytes := cX3_placeOf) (maxL := 2) ⟨hx, hb, hml, hown, hts⟩ (kX3_placeOf l D y3 i kd) gX3_opens_X3_placeOf rfl hvX3_placeOf ⟨Nat.le_of_ble_eq_true rfl, Nat.le_of_ble_eq_true rfl⟩ hP hK [] rfl  hl.1 rfl (Nat.le_of_ble_eq_true rfl) dX3_opens_13 ⟨Nat.zero_le _, Nat.zero_le _⟩ (fun r2 hr2 => ?_)
        subst hr2
        refine lv_bipush (v := (nI 10)) hx hb dX3_opens_16 rfl ?_
        refine ln_imul (n := ((i * 14) + kd) * 10) hx hb (by omega) dX3_opens_18 ?_
        refine lv_iload_n hx hb dX3_opens_19 rfl (lv_at hl 2 rfl) ?_
        refine ln_iadd (n := (((i * 14) + kd) * 10) + pg) hx hb (by omega) dX3_opens_20 ?_
        refine ln_iald hx hb hK hP 1 0 rfl rfl (by omega) (by decide) dX3_opens_21 ?_
        refine lv_istore (lv' := [(4, .int (st ((((i * 14) + kd) * 10) + pg))), (3, .int (nI i)), (0, .ref g0), (1, .int (nI pg)), (2, .int (nI kd))]) hx hb dX3_opens_22 hl (by decide) rfl (fun ls hl => ?_)
        refine lv_iload hx hb dX3_opens_24 (lv_at hl 0 rfl) ?_
        refine lv_if_eq (tgt := 41) hx hb dX3_opens_26 (by decide) (fun c26 => ?_) (fun c26 => ?_)
        · refine lv_iinc (v := (nI (i + 1))) (lv' := [(3, .int (nI (i + 1))), (4, .int (st ((((i * 14) + kd) * 10) + pg))), (0, .ref g0), (1, .int (nI pg)), (2, .int (nI kd))]) hx hb dX3_opens_41 hl (k := 1) rfl (nI_add _ _) (by decide) rfl (fun ls hl => ?_)
          refine lv_goto (tgt := 2) hx hb dX3_opens_44 (by decide) ?_
          exact ih2 (i + 1) (by omega) (by omega) (by rw [← h2, show 3 - i = (3 - (i + 1)) + 1 from by omega, opR_0 (by rw [show 3 - 1 - (3 - (i + 1)) = i from by omega]; exact c26)]) _ (lv_sub hl [0, 2, 3, 4] rfl)
        · refine lv_iload hx hb dX3_opens_29 (lv_at hl 0 rfl) ?_
          refine lv_iconst (v := (nI 1)) hx hb dX3_opens_31 rfl ?_
          refine lv_icmp_ne (tgt := 39) hx hb dX3_opens_32 (by decide) (fun c32 => ?_) (fun c32 => ?_)
          · refine lv_iconst (v := (nI 0)) hx hb dX3_opens_39 rfl ?_
            exact hret 40 ls _ (by first | exact bI_t (by rw [← h2, show 3 - i = (3 - (i + 1)) + 1 from by omega, opR_1 (by rw [show 3 - 1 - (3 - (i + 1)) = i from by omega]; exact c26), show 3 - 1 - (3 - (i + 1)) = i from by omega]; exact decide_eq_true c32) | exact bI_f (by rw [← h2, show 3 - i = (3 - (i + 1)) + 1 from by omega, opR_1 (by rw [show 3 - 1 - (3 - (i + 1)) = i from by omega]; exact c26), show 3 - 1 - (3 - (i + 1)) = i from by omega]; exact decide_eq_false c32)) dX3_opens_40
          · refine lv_iconst (v := (nI 1)) hx hb dX3_opens_35 rfl ?_
            refine lv_goto (tgt := 40) hx hb dX3_opens_36 (by decide) ?_
            exact hret 40 ls _ (by first | exact bI_t (by rw [← h2, show 3 - i = (3 - (i + 1)) + 1 from by omega, opR_1 (by rw [show 3 - 1 - (3 - (i + 1)) = i from by omega]; exact c26), show 3 - 1 - (3 - (i + 1)) = i from by omega]; exact decide_eq_true c32) | exact bI_f (by rw [← h2, show 3 - i = (3 - (i + 1)) + 1 from by omega, opR_1 (by rw [show 3 - 1 - (3 - (i + 1)) = i from by omega]; exact c26), show 3 - 1 - (3 - (i + 1)) = i from by omega]; exact decide_eq_false c32)) dX3_opens_40
  exact lp2 _ 0 (Nat.lt_succ_self _) (Nat.zero_le _) rfl _ (lv_sub hl [0, 1, 2, 3] rfl)

set_option maxHeartbeats 4000000 in
set_option maxRecDepth 100000 in
theorem kX3_openersOf (l : Launch) (D : va_G) (y3 : ClassId × ClassId × ClassId) (g0 : Nat) (g1 : Nat) (g2 : Nat) (st : Nat → Int32) (kd : Nat) (hkd : kd < 14) : rdM l yX3_openersOf wsX3_openersOf 2 45 D y3 [(g0, .inr (3, [.ref g1, .ref g2])), (g1, .inl (y3.1, 420, .inl st))] [.ref g0, .int (nI kd)] (fun r => ∀ i : Nat, i < 32 → bt r i = (decide (i < 10) && opB st kd i)) := by
  refine rd_of (cc := cX3_openersOf) (maxL := 4) (by decide) rfl (Nat.le_of_ble_eq_true rfl) ?_
  intro p e s m args below meth c Q hx hb hml hown hts hP hK hret ls hl
  replace hl : lv_has ls 4 [(0, .ref g0), (1, .int (nI kd))] := hl
  refine lv_iconst (v := (nI 0)) hx hb dX3_openersOf_0 rfl ?_
  refine lv_istore_n (lv' := [(2, .int (nI 0)), (0, .ref g0), (1, .int (nI kd))]) hx hb dX3_openersOf_1 rfl hl (by decide) rfl (fun ls hl => ?_)
  refine lv_iconst (v := (nI 0)) hx hb dX3_openersOf_2 rfl ?_
  refine lv_istore_n (lv' := [(3, .int (nI 0)), (2, .int (nI 0)), (0, .ref g0), (1, .int (nI kd))]) hx hb dX3_openersOf_3 rfl hl (by decide) rfl (fun ls hl => ?_)
  have lp4 : ∀ (n1 : Nat) (q : Nat) (a : Int32), 10 - q < n1 → (q ≤ 10) → (∀ i : Nat, i < 32 → bt a i = (decide (i < q) && opB st kd i)) → ∀ ls : Array Slot, lv_has ls 4 [(3, .int (nI q)), (2, .int a), (0, .ref g0), (1, .int (nI kd))] → W p l e (rmO 2 0 0 45) s m args below meth c s.heap [] 0 0 Q (F0 m 4 ls []) := by
    intro n1
    induction n1 with
    | zero => intro q a hm; exact absurd hm (Nat.not_lt_zero _)
    | succ n1 ih4 =>
      intro q a hm4 h1 h2 ls hl
      refine lv_iload_n hx hb dX3_openersOf_4 rfl (lv_at hl 0 rfl) ?_
      refine lv_bipush (v := (nI 10)) hx hb dX3_openersOf_5 rfl ?_
      refine ln_icmp_ge (tgt := 31) hx hb (by omega) (by omega) dX3_openersOf_7 (by decide) (fun c7 => ?_) (fun c7 => ?_)
      · refine lv_iload_n hx hb dX3_openersOf_31 rfl (lv_at hl 1 rfl) ?_
        exact hret 32 ls _ (by rw [show q = 10 from by omega] at h2; exact h2) dX3_openersOf_32
      · refine lv_aload_n hx hb dX3_openersOf_10 rfl (lv_at hl 2 rfl) ?_
        refine lv_iload_n hx hb dX3_openersOf_11 rfl (lv_at hl 0 rfl) ?_
        refine lv_iload_n hx hb dX3_openersOf_12 rfl (lv_at hl 3 rfl) ?_
        refine rd_V (ci := 3) (q0 := 0) (own := RX3) (As := [.int (nI q), .int (nI kd)]) (rest := []) (bytes := cX3_opens) (maxL := 5) ⟨hx, hb, hml, hown, hts⟩ (kX3_opens l D y3 g0 g1 g2 st q kd (by omega) (by omega)) gX3_openersOf_X3_opens rfl hvX3_opens ⟨Nat.le_of_ble_eq_true rfl, Nat.le_of_ble_eq_true rfl⟩ hP hK [0, 1] rfl rfl rfl hl.1 rfl (Nat.le_of_ble_eq_true rfl) dX3_openersOf_13 ⟨Nat.zero_le _, Nat.zero_le _⟩ (fun r2 hr2 => ?_)
        subst hr2
        refine lb_if_eq (tgt := 25) hx hb dX3_openersOf_16 (by decide) (fun c16 => ?_) (fun c16 => ?_)
        · refine lv_iinc (v := (nI (q + 1))) (lv' := [(3, .int (nI (q + 1))), (2, .int a), (0, .ref g0), (1, .int (nI kd))]) hx hb dX3_openersOf_25 hl (k := 0) rfl (nI_add _ _) (by decide) rfl (fun ls hl => ?_)
          refine lv_goto (tgt := 4) hx hb dX3_openersOf_28 (by decide) ?_
          exact ih4 (q + 1) a (by omega) (by omega) (op_no h2 (by omega) c16) _ (lv_sub hl [0, 1, 2, 3] rfl)
        · refine lv_iload_n hx hb dX3_openersOf_19 rfl (lv_at hl 1 rfl) ?_
          refine lv_iconst (v := (nI 1)) hx hb dX3_openersOf_20 rfl ?_
          refine lv_iload_n hx hb dX3_openersOf_21 rfl (lv_at hl 0 rfl) ?_
          refine lv_ishl hx hb dX3_openersOf_22 ?_
          refine lv_ior hx hb dX3_openersOf_23 ?_
          refine lv_istore_n (lv' := [(2, .int (a ||| ((nI 1) <<< ((nI q) &&& 31)))), (3, .int (nI q)), (0, .ref g0), (1, .int (nI kd))]) hx hb dX3_openersOf_24 rfl hl (by decide) rfl (fun ls hl => ?_)
          refine lv_iinc (v := (nI (q + 1))) (lv' := [(3, .int (nI (q + 1))), (2, .int (a ||| ((nI 1) <<< ((nI q) &&& 31)))), (0, .ref g0), (1, .int (nI kd))]) hx hb dX3_openersOf_25 hl (k := 1) rfl (nI_add _ _) (by decide) rfl (fun ls hl => ?_)
          refine lv_goto (tgt := 4) hx hb dX3_openersOf_28 (by decide) ?_
          exact ih4 (q + 1) (a ||| ((nI 1) <<< ((nI q) &&& 31))) (by omega) (by omega) (op_yes h2 (by omega) c16) _ (lv_sub hl [0, 1, 2, 3] rfl)
  exact lp4 _ 0 (nI 0) (Nat.lt_succ_self _) (Nat.zero_le _) (fun i hi => by rw [bt_0, decide_eq_false (Nat.not_lt_zero i)]; rfl) _ (lv_sub hl [0, 1, 2, 3] rfl)

set_option maxHeartbeats 4000000 in
set_option maxRecDepth 100000 in
theorem kX3_countPrograms (l : Launch) (D : va_G) (y3 : ClassId × ClassId × ClassId) (g0 : Nat) (g1 : Nat) (g2 : Nat) (a0 : Nat) (a1 : Nat) (nk : Nat) (par : Nat → Int32) (st : Nat → Int32) (j : Nat) (hj : j < nk) (hk : nk ≤ 14) (hp : parOK par nk) : rdM l yX3_countPrograms wsX3_countPrograms 3 68 D y3 [(g0, .inr (3, [.ref g1, .ref g2])), (g1, .inl (y3.1, 420, .inl st)), (a0, .inr (1, [.ref a1, .int (nI nk)])), (a1, .inl (y3.1, 14, .inl par))] [.ref g0, .ref a0, .int (nI j)] (fun r => r = (nI (cntB (seenB st par 14 (nI j) (fun _ => false)) 10))) := by
  refine rd_of (cc := cX3_countPrograms) (maxL := 6) (by decide) rfl (Nat.le_of_ble_eq_true rfl) ?_
  intro p e s m args below meth c Q hx hb hml hown hts hP hK hret ls hl
  replace hl : lv_has ls 6 [(0, .ref g0), (1, .ref a0), (2, .int (nI j))] := hl
  refine lv_iconst (v := (nI 0)) hx hb dX3_countPrograms_0 rfl ?_
  refine lv_istore_n (lv' := [(3, .int (nI 0)), (0, .ref g0), (1, .ref a0), (2, .int (nI j))]) hx hb dX3_countPrograms_1 rfl hl (by decide) rfl (fun ls hl => ?_)
  refine lv_iload_n hx hb dX3_countPrograms_2 rfl (lv_at hl 3 rfl) ?_
  refine lv_istore (lv' := [(4, .int (nI j)), (3, .int (nI 0)), (0, .ref g0), (1, .ref a0), (2, .int (nI j))]) hx hb dX3_countPrograms_3 hl (by decide) rfl (fun ls hl => ?_)
  refine lv_iconst (v := (nI 0)) hx hb dX3_countPrograms_5 rfl ?_
  refine lv_istore (lv' := [(5, .int (nI 0)), (4, .int (nI j)), (3, .int (nI 0)), (0, .ref g0), (1, .ref a0), (2, .int (nI j))]) hx hb dX3_countPrograms_6 hl (by decide) rfl (fun ls hl => ?_)
  have lp8 : ∀ (n1 : Nat) (t : Nat) (u : Int32) (a : Int32), 14 - t < n1 → (t ≤ 14) → (u = -1 ∨ ∃ i : Nat, i < nk ∧ u = nI i) → (seenB st par (14 - t) u (bt a) = seenB st par 14 (nI j) (fun _ => false)) → (∀ i : Nat, 10 ≤ i → i < 32 → bt a i = false) → ∀ ls : Array Slot, lv_has ls 6 [(5, .int (nI t)), (4, .int u), (3, .int a), (0, .ref g0), (1, .ref a0), (2, .int (nI j))] → W p l e (rmO 3 0 0 68) s m args below meth c s.heap [] 0 0 Q (F0 m 8 ls []) := by
    intro n1
    induction n1 with
    | zero => intro t u a hm; exact absurd hm (Nat.not_lt_zero _)
    | succ n1 ih8 =>
      intro t u a hm8 h1 h2 h3 h4 ls hl
      refine lv_iload hx hb dX3_countPrograms_8 (lv_at hl 0 rfl) ?_
      refine lv_bipush (v := (nI 14)) hx hb dX3_countPrograms_10 rfl ?_
      refine ln_icmp_ge (tgt := 44) hx hb (by omega) (by omega) dX3_countPrograms_12 (by decide) (fun c12 => ?_) (fun c12 => ?_)
      · refine lv_iload_n hx hb dX3_countPrograms_44 rfl (lv_at hl 2 rfl) ?_
        refine rd_S (own := RX3) (As := [.int a]) (rest := []) (bytes := cJ6_bitCount_0f7a4) (maxL := 1) ⟨hx, hb, hml, hown, hts⟩ (kJ6_bitCount_0f7a4 l D y3 a h4) gX3_countPrograms_J6_bitCount_0f7a4 rfl hvJ6_bitCount_0f7a4 ⟨Nat.le_of_ble_eq_true rfl, Nat.le_of_ble_eq_true rfl⟩ hP hK [] rfl  hl.1 rfl (Nat.le_of_ble_eq_true rfl) dX3_countPrograms_45 ⟨Nat.zero_le _, Nat.zero_le _⟩ (fun r2 hr2 => ?_)
        subst hr2
        exact hret 48 ls _ (by rw [show bt a = seenB st par 14 (nI j) (fun _ => false) from (by first | (rw [← h3, show 14 - t = 0 from by omega]; rfl) | (rw [← h3, c18, seen_m1]))]) dX3_countPrograms_48
      · refine lv_iload hx hb dX3_countPrograms_15 (lv_at hl 1 rfl) ?_
        refine lv_iconst (v := (-1)) hx hb dX3_countPrograms_17 rfl ?_
        refine lv_icmp_eq (tgt := 44) hx hb dX3_countPrograms_18 (by decide) (fun c18 => ?_) (fun c18 => ?_)
        · refine lv_iload_n hx hb dX3_countPrograms_44 rfl (lv_at hl 2 rfl) ?_
          refine rd_S (own := RX3) (As := [.int a]) (rest := []) (bytes := cJ6_bitCount_0f7a4) (maxL := 1) ⟨hx, hb, hml, hown, hts⟩ (kJ6_bitCount_0f7a4 l D y3 a h4) gX3_countPrograms_J6_bitCount_0f7a4 rfl hvJ6_bitCount_0f7a4 ⟨Nat.le_of_ble_eq_true rfl, Nat.le_of_ble_eq_true rfl⟩ hP hK [] rfl  hl.1 rfl (Nat.le_of_ble_eq_true rfl) dX3_countPrograms_45 ⟨Nat.zero_le _, Nat.zero_le _⟩ (fun r3 hr3 => ?_)
          subst hr3
          exact hret 48 ls _ (by rw [show bt a = seenB st par 14 (nI j) (fun _ => false) from (by first | (rw [← h3, show 14 - t = 0 from by omega]; rfl) | (rw [← h3, c18, seen_m1]))]) dX3_countPrograms_48
        · obtain ⟨i, hi, ei⟩ := h2.resolve_left c18
          refine lv_iload_n hx hb dX3_countPrograms_21 rfl (lv_at hl 2 rfl) ?_
          refine lv_aload_n hx hb dX3_countPrograms_22 rfl (lv_at hl 3 rfl) ?_
          refine lv_iload hx hb dX3_countPrograms_23 (lv_at hl 1 rfl) ?_
          refine ln_eqi (y := (nI i)) ei ?_
          refine rd_V (ci := 3) (q0 := 0) (own := RX3) (As := [.int (nI i)]) (rest := [.int a]) (bytes := cX3_openersOf) (maxL := 4) ⟨hx, hb, hml, hown, hts⟩ (kX3_openersOf l D y3 g0 g1 g2 st i (by omega)) gX3_countPrograms_X3_openersOf rfl hvX3_openersOf ⟨Nat.le_of_ble_eq_true rfl, Nat.le_of_ble_eq_true rfl⟩ hP hK [0, 1] rfl rfl rfl hl.1 rfl (Nat.le_of_ble_eq_true rfl) dX3_countPrograms_25 ⟨Nat.zero_le _, Nat.zero_le _⟩ (fun r25 hr25 => ?_)
          refine lv_ior hx hb dX3_countPrograms_28 ?_
          refine lv_istore_n (lv' := [(3, .int (a ||| r25)), (5, .int (nI t)), (4, .int u), (0, .ref g0), (1, .ref a0), (2, .int (nI j))]) hx hb dX3_countPrograms_29 rfl hl (by decide) rfl (fun ls hl => ?_)
          refine lv_aload_n hx hb dX3_countPrograms_30 rfl (lv_at hl 4 rfl) ?_
          refine lv_iload hx hb dX3_countPrograms_31 (lv_at hl 2 rfl) ?_
          refine rd_V (ci := 1) (q0 := 0) (own := RX3) (As := [.int u]) (rest := []) (bytes := cX1_parentOf) (maxL := 2) ⟨hx, hb, hml, hown, hts⟩ (kX1_parentOf l D y3 a0 a1 nk par u (by omega)) gX3_countPrograms_X1_parentOf rfl hvX1_parentOf ⟨Nat.le_of_ble_eq_true rfl, Nat.le_of_ble_eq_true rfl⟩ hP hK [2, 3] rfl rfl rfl hl.1 rfl (Nat.le_of_ble_eq_true rfl) dX3_countPrograms_33 ⟨Nat.zero_le _, Nat.zero_le _⟩ (fun r4 hr4 => ?_)
          subst hr4
          refine lv_istore (lv' := [(4, .int (parO par nk u)), (3, .int (a ||| r25)), (5, .int (nI t)), (0, .ref g0), (1, .ref a0), (2, .int (nI j))]) hx hb dX3_countPrograms_36 hl (by decide) rfl (fun ls hl => ?_)
          refine lv_iinc (v := (nI (t + 1))) (lv' := [(5, .int (nI (t + 1))), (4, .int (parO par nk u)), (3, .int (a ||| r25)), (0, .ref g0), (1, .ref a0), (2, .int (nI j))]) hx hb dX3_countPrograms_38 hl (k := 2) rfl (nI_add _ _) (by decide) rfl (fun ls hl => ?_)
          refine lv_goto (tgt := 8) hx hb dX3_countPrograms_41 (by decide) ?_
          exact ih8 (t + 1) (parO par nk u) (a ||| r25) (by omega) (by omega) (by rw [ei, parO_N hi (by omega)]; exact (hp i hi).imp id (fun ⟨q, hq, e⟩ => ⟨q, by omega, e⟩)) (by rw [← h3, ei, parO_N hi (by omega), show 14 - t = (14 - (t + 1)) + 1 from by omega]; exact (seen_s (by rw [← ei]; exact c18) (by omega) h4 hr25).symm) (or_hi h4 hr25) _ (lv_sub hl [0, 1, 2, 3, 4, 5] rfl)
  exact lp8 _ 0 (nI j) (nI 0) (Nat.lt_succ_self _) (Nat.zero_le _) (Or.inr ⟨j, hj, rfl⟩) (by rw [show bt (nI 0) = (fun _ => false) from funext bt_0]) (fun i _ _ => bt_0 i) _ (lv_sub hl [0, 1, 2, 3, 4, 5] rfl)

set_option maxHeartbeats 4000000 in
set_option maxRecDepth 100000 in
theorem kX3_programOf (l : Launch) (D : va_G) (y3 : ClassId × ClassId × ClassId) (x : Int32) (k : Nat) (hk : k < 2 ^ 31) : rdM l yX3_programOf wsX3_programOf 0 0 D y3 [] [.int x, .int (nI k)] (fun r => r = (oI (fnd (bt x) k 10))) := by
  refine rd_of (cc := cX3_programOf) (maxL := 4) (by decide) rfl (Nat.le_of_ble_eq_true rfl) ?_
  intro p e s m args below meth c Q hx hb hml hown hts hP hK hret ls hl
  replace hl : lv_has ls 4 [(0, .int x), (1, .int (nI k))] := hl
  refine lv_iload_n hx hb dX3_programOf_0 rfl (lv_at hl 1 rfl) ?_
  refine lv_istore_n (lv' := [(2, .int (nI k)), (0, .int x), (1, .int (nI k))]) hx hb dX3_programOf_1 rfl hl (by decide) rfl (fun ls hl => ?_)
  refine lv_iconst (v := (nI 0)) hx hb dX3_programOf_2 rfl ?_
  refine lv_istore_n (lv' := [(3, .int (nI 0)), (2, .int (nI k)), (0, .int x), (1, .int (nI k))]) hx hb dX3_programOf_3 rfl hl (by decide) rfl (fun ls hl => ?_)
  have lp4 : ∀ (n1 : Nat) (q : Nat) (a : Nat), 10 - q < n1 → (q ≤ 10) → (fnd (bt x) k q = none) → (cntB (bt x) q + a = k) → ∀ ls : Array Slot, lv_has ls 4 [(3, .int (nI q)), (2, .int (nI a)), (0, .int x), (1, .int (nI k))] → W p l e (rmO 0 0 0 0) s m args below meth c s.heap [] 0 0 Q (F0 m 4 ls []) := by
    intro n1
    induction n1 with
    | zero => intro q a hm; exact absurd hm (Nat.not_lt_zero _)
    | succ n1 ih4 =>
      intro q a hm4 h1 h2 h3 ls hl
      refine lv_iload_n hx hb dX3_programOf_4 rfl (lv_at hl 0 rfl) ?_
      refine lv_bipush (v := (nI 10)) hx hb dX3_programOf_5 rfl ?_
      refine ln_icmp_ge (tgt := 34) hx hb (by omega) (by omega) dX3_programOf_7 (by decide) (fun c7 => ?_) (fun c7 => ?_)
      · refine lv_iconst (v := (-1)) hx hb dX3_programOf_34 rfl ?_
        exact hret 35 ls _ (by rw [show q = 10 from by omega] at h2; rw [h2]; rfl) dX3_programOf_35
      · refine lv_iload_n hx hb dX3_programOf_10 rfl (lv_at hl 2 rfl) ?_
        refine lv_iload_n hx hb dX3_programOf_11 rfl (lv_at hl 0 rfl) ?_
        refine lv_ishr hx hb dX3_programOf_12 ?_
        refine lv_iconst (v := (nI 1)) hx hb dX3_programOf_13 rfl ?_
        refine lv_iand hx hb dX3_programOf_14 ?_
        refine lv_iconst (v := (nI 1)) hx hb dX3_programOf_15 rfl ?_
        refine lv_icmp_ne (tgt := 28) hx hb dX3_programOf_16 (by decide) (fun c16 => ?_) (fun c16 => ?_)
        · refine lv_iinc (v := (nI (q + 1))) (lv' := [(3, .int (nI (q + 1))), (2, .int (nI a)), (0, .int x), (1, .int (nI k))]) hx hb dX3_programOf_28 hl (k := 0) rfl (nI_add _ _) (by decide) rfl (fun ls hl => ?_)
          refine lv_goto (tgt := 4) hx hb dX3_programOf_31 (by decide) ?_
          exact ih4 (q + 1) a (by omega) (by omega) (fnd_no h2 (Or.inl (bt_f (by omega) c16))) (by rw [cntB_f (bt_f (by omega) c16)]; exact h3) _ (lv_sub hl [0, 1, 2, 3] rfl)
        · refine lv_iload_n hx hb dX3_programOf_19 rfl (lv_at hl 1 rfl) ?_
          refine ln_if_ne (tgt := 25) hx hb (by omega) dX3_programOf_20 (by decide) (fun c20 => ?_) (fun c20 => ?_)
          · refine lv_iinc (v := (nI (a - 1))) (lv' := [(2, .int (nI (a - 1))), (3, .int (nI q)), (0, .int x), (1, .int (nI k))]) hx hb dX3_programOf_25 hl (k := 1) rfl (by rw [nI_m1] <;> omega) (by decide) rfl (fun ls hl => ?_)
            refine lv_iinc (v := (nI (q + 1))) (lv' := [(3, .int (nI (q + 1))), (2, .int (nI (a - 1))), (0, .int x), (1, .int (nI k))]) hx hb dX3_programOf_28 hl (k := 1) rfl (nI_add _ _) (by decide) rfl (fun ls hl => ?_)
            refine lv_goto (tgt := 4) hx hb dX3_programOf_31 (by decide) ?_
            exact ih4 (q + 1) (a - 1) (by omega) (by omega) (fnd_no h2 (Or.inr (by omega))) (by rw [cntB_t (bt_t (by omega) c16)]; omega) _ (lv_sub hl [0, 1, 2, 3] rfl)
          · refine lv_iload_n hx hb dX3_programOf_23 rfl (lv_at hl 0 rfl) ?_
            exact hret 24 ls _ (by rw [fnd_yes (by omega : q < 10) h2 (bt_t (by omega) c16) (by omega)]; rfl) dX3_programOf_24
  exact lp4 _ 0 k (Nat.lt_succ_self _) (Nat.zero_le _) rfl (by show 0 + k = k; omega) _ (lv_sub hl [0, 1, 2, 3] rfl)

set_option maxHeartbeats 4000000 in
set_option maxRecDepth 100000 in
theorem kX3_programInOrder (l : Launch) (D : va_G) (y3 : ClassId × ClassId × ClassId) (g0 : Nat) (g1 : Nat) (g2 : Nat) (a0 : Nat) (a1 : Nat) (nk : Nat) (par : Nat → Int32) (st : Nat → Int32) (j : Nat) (pl : Int32) (hj : j < nk) (hk : nk ≤ 14) (hp : parOK par nk) : rdM l yX3_programInOrder wsX3_programInOrder 3 68 D y3 [(g0, .inr (3, [.ref g1, .ref g2])), (g1, .inl (y3.1, 420, .inl st)), (a0, .inr (1, [.ref a1, .int (nI nk)])), (a1, .inl (y3.1, 14, .inl par))] [.ref g0, .ref a0, .int (nI j), .int pl] (fun r => r = (pioI st par j pl)) := by
  refine rd_of (cc := cX3_programInOrder) (maxL := 9) (by decide) rfl (Nat.le_of_ble_eq_true rfl) ?_
  intro p e s m args below meth c Q hx hb hml hown hts hP hK hret ls hl
  replace hl : lv_has ls 9 [(0, .ref g0), (1, .ref a0), (2, .int (nI j)), (3, .int pl)] := hl
  refine lv_iload_n hx hb dX3_programInOrder_0 rfl (lv_at hl 3 rfl) ?_
  refine lv_if_ge (tgt := 6) hx hb dX3_programInOrder_1 (by decide) (fun c1 => ?_) (fun c1 => ?_)
  · obtain ⟨p9, hp9, ep⟩ := nI_of (Int32.not_lt.mpr c1)
    subst ep
    refine lv_iconst (v := (nI 0)) hx hb dX3_programInOrder_6 rfl ?_
    refine lv_istore (lv' := [(4, .int (nI 0)), (0, .ref g0), (1, .ref a0), (2, .int (nI j)), (3, .int (nI p9))]) hx hb dX3_programInOrder_7 hl (by decide) rfl (fun ls hl => ?_)
    refine lv_iload_n hx hb dX3_programInOrder_9 rfl (lv_at hl 3 rfl) ?_
    refine lv_istore (lv' := [(5, .int (nI j)), (4, .int (nI 0)), (0, .ref g0), (1, .ref a0), (2, .int (nI j)), (3, .int (nI p9))]) hx hb dX3_programInOrder_10 hl (by decide) rfl (fun ls hl => ?_)
    refine lv_iconst (v := (nI 0)) hx hb dX3_programInOrder_12 rfl ?_
    refine lv_istore (lv' := [(6, .int (nI 0)), (5, .int (nI j)), (4, .int (nI 0)), (0, .ref g0), (1, .ref a0), (2, .int (nI j)), (3, .int (nI p9))]) hx hb dX3_programInOrder_13 hl (by decide) rfl (fun ls hl => ?_)
    have lp15 : ∀ (n1 : Nat) (t : Nat) (u : Int32) (a : Int32), 14 - t < n1 → (t ≤ 14) → (u = -1 ∨ ∃ i : Nat, i < nk ∧ u = nI i) → (pioB st par p9 (14 - t) u (bt a) = pioB st par p9 14 (nI j) (fun _ => false)) → (∀ i : Nat, 10 ≤ i → i < 32 → bt a i = false) → (cntB (bt a) 10 ≤ p9) → ∀ ls : Array Slot, lv_has ls 9 [(6, .int (nI t)), (5, .int u), (4, .int a), (0, .ref g0), (1, .ref a0), (2, .int (nI j)), (3, .int (nI p9))] → W p l e (rmO 3 0 0 68) s m args below meth c s.heap [] 0 0 Q (F0 m 15 ls []) := by
      intro n1
      induction n1 with
      | zero => intro t u a hm; exact absurd hm (Nat.not_lt_zero _)
      | succ n1 ih15 =>
        intro t u a hm15 h1 h2 h3 h4 h5 ls hl
        refine lv_iload hx hb dX3_programInOrder_15 (lv_at hl 0 rfl) ?_
        refine lv_bipush (v := (nI 14)) hx hb dX3_programInOrder_17 rfl ?_
        refine ln_icmp_ge (tgt := 91) hx hb (by omega) (by omega) dX3_programInOrder_19 (by decide) (fun c19 => ?_) (fun c19 => ?_)
        · refine lv_iconst (v := (-1)) hx hb dX3_programInOrder_91 rfl ?_
          exact hret 92 ls _ (by unfold pioI; rw [if_pos c1, nI_clamp (by omega), ← h3]; first | (rw [show 14 - t = 0 from by omega]; rfl) | (rw [c25, pio_m1]; rfl)) dX3_programInOrder_92
        · refine lv_iload hx hb dX3_programInOrder_22 (lv_at hl 1 rfl) ?_
          refine lv_iconst (v := (-1)) hx hb dX3_programInOrder_24 rfl ?_
          refine lv_icmp_eq (tgt := 91) hx hb dX3_programInOrder_25 (by decide) (fun c25 => ?_) (fun c25 => ?_)
          · refine lv_iconst (v := (-1)) hx hb dX3_programInOrder_91 rfl ?_
            exact hret 92 ls _ (by unfold pioI; rw [if_pos c1, nI_clamp (by omega), ← h3]; first | (rw [show 14 - t = 0 from by omega]; rfl) | (rw [c25, pio_m1]; rfl)) dX3_programInOrder_92
          · obtain ⟨i, hi, ei⟩ := h2.resolve_left c25
            refine lv_aload_n hx hb dX3_programInOrder_28 rfl (lv_at hl 3 rfl) ?_
            refine lv_iload hx hb dX3_programInOrder_29 (lv_at hl 1 rfl) ?_
            refine ln_eqi (y := (nI i)) ei ?_
            refine rd_V (ci := 3) (q0 := 0) (own := RX3) (As := [.int (nI i)]) (rest := []) (bytes := cX3_openersOf) (maxL := 4) ⟨hx, hb, hml, hown, hts⟩ (kX3_openersOf l D y3 g0 g1 g2 st i (by omega)) gX3_programInOrder_X3_openersOf rfl hvX3_openersOf ⟨Nat.le_of_ble_eq_true rfl, Nat.le_of_ble_eq_true rfl⟩ hP hK [0, 1] rfl rfl rfl hl.1 rfl (Nat.le_of_ble_eq_true rfl) dX3_programInOrder_31 ⟨Nat.zero_le _, Nat.zero_le _⟩ (fun r31 hr31 => ?_)
            refine lv_iload hx hb dX3_programInOrder_34 (lv_at hl 2 rfl) ?_
            refine lv_iconst (v := (-1)) hx hb dX3_programInOrder_36 rfl ?_
            refine lv_ixor hx hb dX3_programInOrder_37 ?_
            refine lv_iand hx hb dX3_programInOrder_38 ?_
            refine lv_istore (lv' := [(7, .int (r31 &&& (a ^^^ (-1)))), (6, .int (nI t)), (5, .int u), (4, .int a), (0, .ref g0), (1, .ref a0), (2, .int (nI j)), (3, .int (nI p9))]) hx hb dX3_programInOrder_39 hl (by decide) rfl (fun ls hl => ?_)
            refine lv_iload hx hb dX3_programInOrder_41 (lv_at hl 3 rfl) ?_
            refine rd_S (own := RX3) (As := [.int a]) (rest := []) (bytes := cJ6_bitCount_0f7a4) (maxL := 1) ⟨hx, hb, hml, hown, hts⟩ (kJ6_bitCount_0f7a4 l D y3 a h4) gX3_programInOrder_J6_bitCount_0f7a4 rfl hvJ6_bitCount_0f7a4 ⟨Nat.le_of_ble_eq_true rfl, Nat.le_of_ble_eq_true rfl⟩ hP hK [] rfl  hl.1 rfl (Nat.le_of_ble_eq_true rfl) dX3_programInOrder_43 ⟨Nat.zero_le _, Nat.zero_le _⟩ (fun r2 hr2 => ?_)
            subst hr2
            refine lv_istore (lv' := [(8, .int (nI (cntB (bt a) 10))), (7, .int (r31 &&& (a ^^^ (-1)))), (6, .int (nI t)), (5, .int u), (4, .int a), (0, .ref g0), (1, .ref a0), (2, .int (nI j)), (3, .int (nI p9))]) hx hb dX3_programInOrder_46 hl (by decide) rfl (fun ls hl => ?_)
            refine lv_iload_n hx hb dX3_programInOrder_48 rfl (lv_at hl 8 rfl) ?_
            refine lv_iload hx hb dX3_programInOrder_49 (lv_at hl 0 rfl) ?_
            refine ln_isub (n := (p9 - (cntB (bt a) 10))) hx hb (by omega) (by omega) dX3_programInOrder_51 ?_
            refine lv_iload hx hb dX3_programInOrder_52 (lv_at hl 1 rfl) ?_
            refine rd_S (own := RX3) (As := [.int (r31 &&& (a ^^^ (-1)))]) (rest := [.int (nI (p9 - (cntB (bt a) 10)))]) (bytes := cJ6_bitCount_0f7a4) (maxL := 1) ⟨hx, hb, hml, hown, hts⟩ (kJ6_bitCount_0f7a4 l D y3 (r31 &&& (a ^^^ (-1))) (an_hi hr31)) gX3_programInOrder_J6_bitCount_0f7a4 rfl hvJ6_bitCount_0f7a4 ⟨Nat.le_of_ble_eq_true rfl, Nat.le_of_ble_eq_true rfl⟩ hP hK [] rfl  hl.1 rfl (Nat.le_of_ble_eq_true rfl) dX3_programInOrder_54 ⟨Nat.zero_le _, Nat.zero_le _⟩ (fun r3 hr3 => ?_)
            subst hr3
            refine ln_icmp_ge (tgt := 70) hx hb (by omega) (Nat.lt_of_le_of_lt (cntB_le _ _) (by omega)) dX3_programInOrder_57 (by decide) (fun c57 => ?_) (fun c57 => ?_)
            · refine lv_iload hx hb dX3_programInOrder_70 (lv_at hl 4 rfl) ?_
              refine lv_iload hx hb dX3_programInOrder_72 (lv_at hl 1 rfl) ?_
              refine lv_ior hx hb dX3_programInOrder_74 ?_
              refine lv_istore (lv' := [(4, .int (a ||| (r31 &&& (a ^^^ (-1))))), (8, .int (nI (cntB (bt a) 10))), (7, .int (r31 &&& (a ^^^ (-1)))), (6, .int (nI t)), (5, .int u), (0, .ref g0), (1, .ref a0), (2, .int (nI j)), (3, .int (nI p9))]) hx hb dX3_programInOrder_75 hl (by decide) rfl (fun ls hl => ?_)
              refine lv_aload_n hx hb dX3_programInOrder_77 rfl (lv_at hl 6 rfl) ?_
              refine lv_iload hx hb dX3_programInOrder_78 (lv_at hl 4 rfl) ?_
              refine rd_V (ci := 1) (q0 := 0) (own := RX3) (As := [.int u]) (rest := []) (bytes := cX1_parentOf) (maxL := 2) ⟨hx, hb, hml, hown, hts⟩ (kX1_parentOf l D y3 a0 a1 nk par u (by omega)) gX3_programInOrder_X1_parentOf rfl hvX1_parentOf ⟨Nat.le_of_ble_eq_true rfl, Nat.le_of_ble_eq_true rfl⟩ hP hK [2, 3] rfl rfl rfl hl.1 rfl (Nat.le_of_ble_eq_true rfl) dX3_programInOrder_80 ⟨Nat.zero_le _, Nat.zero_le _⟩ (fun r4 hr4 => ?_)
              subst hr4
              refine lv_istore (lv' := [(5, .int (parO par nk u)), (4, .int (a ||| (r31 &&& (a ^^^ (-1))))), (8, .int (nI (cntB (bt a) 10))), (7, .int (r31 &&& (a ^^^ (-1)))), (6, .int (nI t)), (0, .ref g0), (1, .ref a0), (2, .int (nI j)), (3, .int (nI p9))]) hx hb dX3_programInOrder_83 hl (by decide) rfl (fun ls hl => ?_)
              refine lv_iinc (v := (nI (t + 1))) (lv' := [(6, .int (nI (t + 1))), (5, .int (parO par nk u)), (4, .int (a ||| (r31 &&& (a ^^^ (-1))))), (8, .int (nI (cntB (bt a) 10))), (7, .int (r31 &&& (a ^^^ (-1)))), (0, .ref g0), (1, .ref a0), (2, .int (nI j)), (3, .int (nI p9))]) hx hb dX3_programInOrder_85 hl (k := 4) rfl (nI_add _ _) (by decide) rfl (fun ls hl => ?_)
              refine lv_goto (tgt := 15) hx hb dX3_programInOrder_88 (by decide) ?_
              exact ih15 (t + 1) (parO par nk u) (a ||| (r31 &&& (a ^^^ (-1)))) (by omega) (by omega) (by rw [ei, parO_N hi (by omega)]; exact (hp i hi).imp id (fun ⟨q, hq, e⟩ => ⟨q, by omega, e⟩)) (by rw [← h3, ei, parO_N hi (by omega), show 14 - t = (14 - (t + 1)) + 1 from by omega]; exact (pio_s (by rw [← ei]; exact c25) (by omega) h4 hr31 c57).symm) (or_hi4 h4 hr31) (pio_c h4 hr31 h5 c57) _ (lv_sub hl [0, 1, 2, 5, 6, 7, 8] rfl)
            · refine lv_iload hx hb dX3_programInOrder_60 (lv_at hl 1 rfl) ?_
              refine lv_iload_n hx hb dX3_programInOrder_62 rfl (lv_at hl 8 rfl) ?_
              refine lv_iload hx hb dX3_programInOrder_63 (lv_at hl 0 rfl) ?_
              refine ln_isub (n := (p9 - (cntB (bt a) 10))) hx hb (by omega) (by omega) dX3_programInOrder_65 ?_
              refine rd_S (own := RX3) (As := [.int (r31 &&& (a ^^^ (-1))), .int (nI (p9 - (cntB (bt a) 10)))]) (rest := []) (bytes := cX3_programOf) (maxL := 4) ⟨hx, hb, hml, hown, hts⟩ (kX3_programOf l D y3 (r31 &&& (a ^^^ (-1))) (p9 - (cntB (bt a) 10)) (by omega)) gX3_programInOrder_X3_programOf rfl hvX3_programOf ⟨Nat.le_of_ble_eq_true rfl, Nat.le_of_ble_eq_true rfl⟩ hP hK [] rfl  hl.1 rfl (Nat.le_of_ble_eq_true rfl) dX3_programInOrder_66 ⟨Nat.zero_le _, Nat.zero_le _⟩ (fun r5 hr5 => ?_)
              subst hr5
              exact hret 69 ls _ (by unfold pioI; rw [if_pos c1, nI_clamp (by omega), ← h3, ei, show 14 - t = (14 - (t + 1)) + 1 from by omega]; exact (pio_e (by rw [← ei]; exact c25) (by omega) h4 hr31 c57).symm) dX3_programInOrder_69
    exact lp15 _ 0 (nI j) (nI 0) (Nat.lt_succ_self _) (Nat.zero_le _) (Or.inr ⟨j, hj, rfl⟩) (by rw [show bt (nI 0) = (fun _ => false) from funext bt_0]) (fun i _ _ => bt_0 i) (by rw [show bt (nI 0) = (fun _ => false) from funext bt_0]; exact Nat.zero_le _) _ (lv_sub hl [0, 1, 2, 3, 4, 5, 6] rfl)
  · refine lv_iconst (v := (-1)) hx hb dX3_programInOrder_4 rfl ?_
    exact hret 5 ls _ (by unfold pioI; rw [if_neg c1]) dX3_programInOrder_5

set_option maxHeartbeats 4000000 in
set_option maxRecDepth 100000 in
theorem kX3_defaultOf (l : Launch) (D : va_G) (y3 : ClassId × ClassId × ClassId) (g0 : Nat) (g1 : Nat) (g2 : Nat) (st : Nat → Int32) (df : Nat → Int32) (kd : Nat) (hkd : kd < 14) (hdf : ∀ q : Nat, df q = -1 ∨ ∃ z : Nat, z < 10 ∧ df q = nI z) : rdM l yX3_defaultOf wsX3_defaultOf 2 45 D y3 [(g0, .inr (3, [.ref g1, .ref g2])), (g1, .inl (y3.1, 420, .inl st)), (g2, .inl (y3.1, 42, .inl df))] [.ref g0, .int (nI kd)] (fun r => r = (dfO st df kd)) := by
  refine rd_of (cc := cX3_defaultOf) (maxL := 4) (by decide) rfl (Nat.le_of_ble_eq_true rfl) ?_
  intro p e s m args below meth c Q hx hb hml hown hts hP hK hret ls hl
  replace hl : lv_has ls 4 [(0, .ref g0), (1, .int (nI kd))] := hl
  have hf15 := hts (.fieldLink RX3 15 "KindGuesser$ProgramLists" "defaults" "[I") (by decide +kernel)
  have hiX3 : ∀ q ∈ wsX30, q ∈ wsX3_defaultOf := by decide +kernel
  refine lv_iconst (v := (nI 0)) hx hb dX3_defaultOf_0 rfl ?_
  refine lv_istore_n (lv' := [(2, .int (nI 0)), (0, .ref g0), (1, .int (nI kd))]) hx hb dX3_defaultOf_1 rfl hl (by decide) rfl (fun ls hl => ?_)
  have lp2 : ∀ (n1 : Nat) (i : Nat), 3 - i < n1 → (i ≤ 3) → (dfR st df kd (3 - i) = dfO st df kd) → ∀ ls : Array Slot, lv_has ls 4 [(2, .int (nI i)), (0, .ref g0), (1, .int (nI kd))] → W p l e (rmO 2 0 0 45) s m args below meth c s.heap [] 0 0 Q (F0 m 2 ls []) := by
    intro n1
    induction n1 with
    | zero => intro i hm; exact absurd hm (Nat.not_lt_zero _)
    | succ n1 ih2 =>
      intro i hm2 h1 h2 ls hl
      refine lv_iload_n hx hb dX3_defaultOf_2 rfl (lv_at hl 0 rfl) ?_
      refine lv_iconst (v := (nI 3)) hx hb dX3_defaultOf_3 rfl ?_
      refine ln_icmp_ge (tgt := 40) hx hb (by omega) (by omega) dX3_defaultOf_4 (by decide) (fun c4 => ?_) (fun c4 => ?_)
      · refine lv_iconst (v := (-1)) hx hb dX3_defaultOf_40 rfl ?_
        exact hret 41 ls _ (by rw [← h2, show 3 - i = 0 from by omega]; rfl) dX3_defaultOf_41
      · refine lv_aload_n hx hb dX3_defaultOf_7 rfl (lv_at hl 1 rfl) ?_
        refine va_get (D := D) (ci := 3) (v := .ref g2) (C := RX3) (T := TX3) (N := 2) hx hb hts hiX3 hown hK hP 0 rfl rfl 1 (by decide) hf15 (fun _ h9 => h9) rfl dX3_defaultOf_8 ?_
        refine lv_iload_n hx hb dX3_defaultOf_11 rfl (lv_at hl 0 rfl) ?_
        refine lv_iload_n hx hb dX3_defaultOf_12 rfl (lv_at hl 2 rfl) ?_
        refine rd_S (own := RX3) (As := [.int (nI i), .int (nI kd)]) (rest := [.ref g2]) (bytes := cX3_placeOf) (maxL := 2) ⟨hx, hb, hml, hown, hts⟩ (kX3_placeOf l D y3 i kd) gX3_defaultOf_X3_placeOf rfl hvX3_placeOf ⟨Nat.le_of_ble_eq_true rfl, Nat.le_of_ble_eq_true rfl⟩ hP hK [] rfl  hl.1 rfl (Nat.le_of_ble_eq_true rfl) dX3_defaultOf_13 ⟨Nat.zero_le _, Nat.zero_le _⟩ (fun r2 hr2 => ?_)
        subst hr2
        refine ln_iald hx hb hK hP 2 0 rfl rfl (by omega) (by decide) dX3_defaultOf_16 ?_
        refine lv_istore_n (lv' := [(3, .int (df ((i * 14) + kd))), (2, .int (nI i)), (0, .ref g0), (1, .int (nI kd))]) hx hb dX3_defaultOf_17 rfl hl (by decide) rfl (fun ls hl => ?_)
        refine lv_iload_n hx hb dX3_defaultOf_18 rfl (lv_at hl 0 rfl) ?_
        refine lv_iconst (v := (-1)) hx hb dX3_defaultOf_19 rfl ?_
        refine lv_icmp_eq (tgt := 34) hx hb dX3_defaultOf_20 (by decide) (fun c20 => ?_) (fun c20 => ?_)
        · refine lv_iinc (v := (nI (i + 1))) (lv' := [(2, .int (nI (i + 1))), (3, .int (df ((i * 14) + kd))), (0, .ref g0), (1, .int (nI kd))]) hx hb dX3_defaultOf_34 hl (k := 1) rfl (nI_add _ _) (by decide) rfl (fun ls hl => ?_)
          refine lv_goto (tgt := 2) hx hb dX3_defaultOf_37 (by decide) ?_
          exact ih2 (i + 1) (by omega) (by omega) (by rw [← h2, show 3 - i = (3 - (i + 1)) + 1 from by omega]; exact (dfR_no (by rw [show 3 - 1 - (3 - (i + 1)) = i from by omega]; first | exact Or.inl c20 | exact Or.inr (by rw [ez, nI_clamp (by omega)]; exact c29))).symm) _ (lv_sub hl [0, 2, 3] rfl)
        · obtain ⟨z, hz, ez⟩ := (hdf ((i * 14) + kd)).resolve_left c20
          refine lv_aload_n hx hb dX3_defaultOf_23 rfl (lv_at hl 2 rfl) ?_
          refine lv_iload_n hx hb dX3_defaultOf_24 rfl (lv_at hl 0 rfl) ?_
          refine ln_eqi (y := (nI z)) ez ?_
          refine lv_iload_n hx hb dX3_defaultOf_25 rfl (lv_at hl 3 rfl) ?_
          refine rd_V (ci := 3) (q0 := 0) (own := RX3) (As := [.int (nI z), .int (nI kd)]) (rest := []) (bytes := cX3_opens) (maxL := 5) ⟨hx, hb, hml, hown, hts⟩ (kX3_opens l D y3 g0 g1 g2 st z kd (by omega) (by omega)) gX3_defaultOf_X3_opens rfl hvX3_opens ⟨Nat.le_of_ble_eq_true rfl, Nat.le_of_ble_eq_true rfl⟩ hP hK [0, 1] rfl rfl rfl hl.1 rfl (Nat.le_of_ble_eq_true rfl) dX3_defaultOf_26 ⟨Nat.zero_le _, Nat.zero_le _⟩ (fun r3 hr3 => ?_)
          subst hr3
          refine lb_if_eq (tgt := 34) hx hb dX3_defaultOf_29 (by decide) (fun c29 => ?_) (fun c29 => ?_)
          · refine lv_iinc (v := (nI (i + 1))) (lv' := [(2, .int (nI (i + 1))), (3, .int (df ((i * 14) + kd))), (0, .ref g0), (1, .int (nI kd))]) hx hb dX3_defaultOf_34 hl (k := 1) rfl (nI_add _ _) (by decide) rfl (fun ls hl => ?_)
            refine lv_goto (tgt := 2) hx hb dX3_defaultOf_37 (by decide) ?_
            exact ih2 (i + 1) (by omega) (by omega) (by rw [← h2, show 3 - i = (3 - (i + 1)) + 1 from by omega]; exact (dfR_no (by rw [show 3 - 1 - (3 - (i + 1)) = i from by omega]; first | exact Or.inl c20 | exact Or.inr (by rw [ez, nI_clamp (by omega)]; exact c29))).symm) _ (lv_sub hl [0, 2, 3] rfl)
          · refine lv_iload_n hx hb dX3_defaultOf_32 rfl (lv_at hl 0 rfl) ?_
            exact hret 33 ls _ (by rw [← h2, show 3 - i = (3 - (i + 1)) + 1 from by omega, dfR_yes (by rw [show 3 - 1 - (3 - (i + 1)) = i from by omega]; exact c20) (by rw [show 3 - 1 - (3 - (i + 1)) = i from by omega, ez, nI_clamp (by omega)]; exact c29), show 3 - 1 - (3 - (i + 1)) = i from by omega]) dX3_defaultOf_33
  exact lp2 _ 0 (Nat.lt_succ_self _) (Nat.zero_le _) rfl _ (lv_sub hl [0, 1, 2] rfl)

set_option maxHeartbeats 4000000 in
set_option maxRecDepth 100000 in
theorem kX3_defaultUpward (l : Launch) (D : va_G) (y3 : ClassId × ClassId × ClassId) (g0 : Nat) (g1 : Nat) (g2 : Nat) (a0 : Nat) (a1 : Nat) (nk : Nat) (par : Nat → Int32) (st : Nat → Int32) (df : Nat → Int32) (j : Nat) (hj : j < nk) (hk : nk ≤ 14) (hp : parOK par nk) (hdf : ∀ q : Nat, df q = -1 ∨ ∃ z : Nat, z < 10 ∧ df q = nI z) : rdM l yX3_defaultUpward wsX3_defaultUpward 3 68 D y3 [(g0, .inr (3, [.ref g1, .ref g2])), (g1, .inl (y3.1, 420, .inl st)), (g2, .inl (y3.1, 42, .inl df)), (a0, .inr (1, [.ref a1, .int (nI nk)])), (a1, .inl (y3.1, 14, .inl par))] [.ref g0, .ref a0, .int (nI j)] (fun r => r = (duO st df par 14 (nI j))) := by
  refine rd_of (cc := cX3_defaultUpward) (maxL := 6) (by decide) rfl (Nat.le_of_ble_eq_true rfl) ?_
  intro p e s m args below meth c Q hx hb hml hown hts hP hK hret ls hl
  replace hl : lv_has ls 6 [(0, .ref g0), (1, .ref a0), (2, .int (nI j))] := hl
  refine lv_iload_n hx hb dX3_defaultUpward_0 rfl (lv_at hl 2 rfl) ?_
  refine lv_istore_n (lv' := [(3, .int (nI j)), (0, .ref g0), (1, .ref a0), (2, .int (nI j))]) hx hb dX3_defaultUpward_1 rfl hl (by decide) rfl (fun ls hl => ?_)
  refine lv_iconst (v := (nI 0)) hx hb dX3_defaultUpward_2 rfl ?_
  refine lv_istore (lv' := [(4, .int (nI 0)), (3, .int (nI j)), (0, .ref g0), (1, .ref a0), (2, .int (nI j))]) hx hb dX3_defaultUpward_3 hl (by decide) rfl (fun ls hl => ?_)
  have lp5 : ∀ (n1 : Nat) (t : Nat) (u : Int32), 14 - t < n1 → (t ≤ 14) → (u = -1 ∨ ∃ i : Nat, i < nk ∧ u = nI i) → (duO st df par (14 - t) u = duO st df par 14 (nI j)) → ∀ ls : Array Slot, lv_has ls 6 [(4, .int (nI t)), (3, .int u), (0, .ref g0), (1, .ref a0), (2, .int (nI j))] → W p l e (rmO 3 0 0 68) s m args below meth c s.heap [] 0 0 Q (F0 m 5 ls []) := by
    intro n1
    induction n1 with
    | zero => intro t u hm; exact absurd hm (Nat.not_lt_zero _)
    | succ n1 ih5 =>
      intro t u hm5 h1 h2 h3 ls hl
      refine lv_iload hx hb dX3_defaultUpward_5 (lv_at hl 0 rfl) ?_
      refine lv_bipush (v := (nI 14)) hx hb dX3_defaultUpward_7 rfl ?_
      refine ln_icmp_ge (tgt := 45) hx hb (by omega) (by omega) dX3_defaultUpward_9 (by decide) (fun c9 => ?_) (fun c9 => ?_)
      · refine lv_iconst (v := (-1)) hx hb dX3_defaultUpward_45 rfl ?_
        exact hret 46 ls _ (by rw [← h3]; first | (rw [show 14 - t = 0 from by omega]; rfl) | (rw [c14, duO_m1])) dX3_defaultUpward_46
      · refine lv_iload_n hx hb dX3_defaultUpward_12 rfl (lv_at hl 1 rfl) ?_
        refine lv_iconst (v := (-1)) hx hb dX3_defaultUpward_13 rfl ?_
        refine lv_icmp_eq (tgt := 45) hx hb dX3_defaultUpward_14 (by decide) (fun c14 => ?_) (fun c14 => ?_)
        · refine lv_iconst (v := (-1)) hx hb dX3_defaultUpward_45 rfl ?_
          exact hret 46 ls _ (by rw [← h3]; first | (rw [show 14 - t = 0 from by omega]; rfl) | (rw [c14, duO_m1])) dX3_defaultUpward_46
        · obtain ⟨i, hi, ei⟩ := h2.resolve_left c14
          refine lv_aload_n hx hb dX3_defaultUpward_17 rfl (lv_at hl 2 rfl) ?_
          refine lv_iload_n hx hb dX3_defaultUpward_18 rfl (lv_at hl 1 rfl) ?_
          refine ln_eqi (y := (nI i)) ei ?_
          refine rd_V (ci := 3) (q0 := 0) (own := RX3) (As := [.int (nI i)]) (rest := []) (bytes := cX3_defaultOf) (maxL := 4) ⟨hx, hb, hml, hown, hts⟩ (kX3_defaultOf l D y3 g0 g1 g2 st df i (by omega) (by assumption)) gX3_defaultUpward_X3_defaultOf rfl hvX3_defaultOf ⟨Nat.le_of_ble_eq_true rfl, Nat.le_of_ble_eq_true rfl⟩ hP hK [0, 1, 2] rfl rfl rfl hl.1 rfl (Nat.le_of_ble_eq_true rfl) dX3_defaultUpward_19 ⟨Nat.zero_le _, Nat.zero_le _⟩ (fun r2 hr2 => ?_)
          subst hr2
          refine lv_istore (lv' := [(5, .int (dfO st df i)), (4, .int (nI t)), (3, .int u), (0, .ref g0), (1, .ref a0), (2, .int (nI j))]) hx hb dX3_defaultUpward_22 hl (by decide) rfl (fun ls hl => ?_)
          refine lv_iload hx hb dX3_defaultUpward_24 (lv_at hl 0 rfl) ?_
          refine lv_iconst (v := (-1)) hx hb dX3_defaultUpward_26 rfl ?_
          refine lv_icmp_eq (tgt := 33) hx hb dX3_defaultUpward_27 (by decide) (fun c27 => ?_) (fun c27 => ?_)
          · refine lv_aload_n hx hb dX3_defaultUpward_33 rfl (lv_at hl 4 rfl) ?_
            refine lv_iload_n hx hb dX3_defaultUpward_34 rfl (lv_at hl 2 rfl) ?_
            refine rd_V (ci := 1) (q0 := 0) (own := RX3) (As := [.int u]) (rest := []) (bytes := cX1_parentOf) (maxL := 2) ⟨hx, hb, hml, hown, hts⟩ (kX1_parentOf l D y3 a0 a1 nk par u (by omega)) gX3_defaultUpward_X1_parentOf rfl hvX1_parentOf ⟨Nat.le_of_ble_eq_true rfl, Nat.le_of_ble_eq_true rfl⟩ hP hK [3, 4] rfl rfl rfl hl.1 rfl (Nat.le_of_ble_eq_true rfl) dX3_defaultUpward_35 ⟨Nat.zero_le _, Nat.zero_le _⟩ (fun r3 hr3 => ?_)
            subst hr3
            refine lv_istore_n (lv' := [(3, .int (parO par nk u)), (5, .int (dfO st df i)), (4, .int (nI t)), (0, .ref g0), (1, .ref a0), (2, .int (nI j))]) hx hb dX3_defaultUpward_38 rfl hl (by decide) rfl (fun ls hl => ?_)
            refine lv_iinc (v := (nI (t + 1))) (lv' := [(4, .int (nI (t + 1))), (3, .int (parO par nk u)), (5, .int (dfO st df i)), (0, .ref g0), (1, .ref a0), (2, .int (nI j))]) hx hb dX3_defaultUpward_39 hl (k := 2) rfl (nI_add _ _) (by decide) rfl (fun ls hl => ?_)
            refine lv_goto (tgt := 5) hx hb dX3_defaultUpward_42 (by decide) ?_
            exact ih5 (t + 1) (parO par nk u) (by omega) (by omega) (by rw [ei, parO_N hi (by omega)]; exact (hp i hi).imp id (fun ⟨q, hq, e⟩ => ⟨q, by omega, e⟩)) (by rw [← h3, ei, parO_N hi (by omega), show 14 - t = (14 - (t + 1)) + 1 from by omega]; exact (duO_s (by rw [← ei]; exact c14) (by omega) c27).symm) _ (lv_sub hl [0, 1, 3, 4, 5] rfl)
          · refine lv_iload hx hb dX3_defaultUpward_30 (lv_at hl 0 rfl) ?_
            exact hret 32 ls _ (by rw [← h3, ei, show 14 - t = (14 - (t + 1)) + 1 from by omega, duO_e (by rw [← ei]; exact c14) (by omega) c27]) dX3_defaultUpward_32
  exact lp5 _ 0 (nI j) (Nat.lt_succ_self _) (Nat.zero_le _) (Or.inr ⟨j, hj, rfl⟩) rfl _ (lv_sub hl [0, 1, 2, 3, 4] rfl)
