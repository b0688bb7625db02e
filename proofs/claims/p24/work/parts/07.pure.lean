/-! ===== own layer: what the class's answers are, as plain functions ===== -/
def inB (k : Int32) (n : Nat) : Bool := decide (0 ≤ k.toInt ∧ k.toInt < n)
theorem inB_t {k : Int32} {n : Nat} (h0 : ¬ k < 0) (h1 : ¬ nI n ≤ k) (hn : n < 2 ^ 31) : inB k n = true := by
  have e0 : ¬ k.toInt < (0 : Int32).toInt := fun q => h0 (Int32.lt_iff_toInt_lt.mpr q)
  have e1 : ¬ (nI n).toInt ≤ k.toInt := fun q => h1 (Int32.le_iff_toInt_le.mpr q)
  rw [nI_toInt hn] at e1
  have e2 : (0 : Int32).toInt = 0 := rfl
  rw [e2] at e0
  exact decide_eq_true ⟨by omega, by omega⟩
theorem inB_f0 {k : Int32} {n : Nat} (h0 : k < 0) : inB k n = false := by
  have e0 := Int32.lt_iff_toInt_lt.mp h0
  have e2 : (0 : Int32).toInt = 0 := rfl
  rw [e2] at e0
  exact decide_eq_false (fun q => by omega)
theorem inB_f1 {k : Int32} {n : Nat} (h1 : nI n ≤ k) (hn : n < 2 ^ 31) : inB k n = false := by
  have e1 := Int32.le_iff_toInt_le.mp h1
  rw [nI_toInt hn] at e1
  exact decide_eq_false (fun q => by omega)
theorem inB_N {k : Int32} {n : Nat} (h : inB k n = true) (hn : n < 2 ^ 31) : ∃ j : Nat, j < n ∧ k = nI j := vp_in_of (vp_in_iff.mpr (of_decide_eq_true h)) hn
theorem inB_nI {j n : Nat} (hj : j < 2 ^ 31) : inB (nI j) n = decide (j < n) := by
  unfold inB
  rw [nI_toInt hj]
  by_cases h : j < n
  · rw [decide_eq_true h, decide_eq_true ⟨by omega, by omega⟩]
  · rw [decide_eq_false h, decide_eq_false (fun q => by omega)]
theorem nI_m1 {a : Nat} (h : 0 < a) : nI a + Int32.ofInt (-1) = nI (a - 1) := by
  obtain ⟨b, rfl⟩ : ∃ b, a = b + 1 := ⟨a - 1, by omega⟩
  rw [show b + 1 - 1 = b from rfl]
  exact pk_m1 b
theorem nI_ne_m1 {j : Nat} (hj : j < 2 ^ 31) : ¬ nI j = -1 := fun q => by
  have h := congrArg Int32.toInt q
  rw [nI_toInt hj] at h
  have e2 : (-1 : Int32).toInt = -1 := rfl
  omega
/-- the parent of a kind, -1 for none: an earlier kind -/
def parOK (par : Nat → Int32) (nk : Nat) : Prop := ∀ i : Nat, i < nk → par i = -1 ∨ ∃ q : Nat, q < i ∧ par i = nI q
def parO (par : Nat → Int32) (nk : Nat) (k : Int32) : Int32 := if inB k nk = true then par k.toNatClampNeg else -1
theorem parO_N {par : Nat → Int32} {nk j : Nat} (hj : j < nk) (hn : nk < 2 ^ 31) : parO par nk (nI j) = par j := by
  unfold parO
  rw [inB_nI (by omega), decide_eq_true hj, if_pos rfl, nI_clamp (by omega)]
/-- whether u leads up to o within f steps -/
def spc (par : Nat → Int32) : Nat → Int32 → Int32 → Bool
  | 0, _, _ => false
  | f + 1, u, o => if u = -1 then false else if u = o then true else spc par f (par u.toNatClampNeg) o
theorem spc_m1 (par : Nat → Int32) (f : Nat) (o : Int32) : spc par f (-1) o = false := by cases f <;> simp [spc]
theorem spc_eq {par : Nat → Int32} {f : Nat} {u o : Int32} (h : ¬ u = -1) (h2 : u = o) : spc par (f + 1) u o = true := by simp [spc, h, h2]; intro h3; exact absurd (h2.trans h3) h
theorem spc_up {par : Nat → Int32} {f : Nat} {u o : Int32} (h : ¬ u = -1) (h2 : ¬ u = o) : spc par (f + 1) u o = spc par f (par u.toNatClampNeg) o := by simp [spc, h, h2]
