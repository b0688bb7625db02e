/-! ===== own layer: rows of numbers and of truth values; patterns of names, as plain functions ===== -/
theorem up_s {α : Type} {f : Nat → α} {k : Nat} {v : α} : va_up f k v k = v := by simp [va_up]
theorem up_n {α : Type} {f : Nat → α} {k j : Nat} {v : α} (h : j ≠ k) : va_up f k v j = f j := by simp [va_up, h]
def fN (f : Nat → Nat) : Nat → Int32 := fun q => nI (f q)
def fB (f : Nat → Bool) : Nat → Int32 := fun q => bI (f q)
theorem fN_up (f : Nat → Nat) (k x : Nat) : upd (fN f) k (nI x) = fN (va_up f k x) := by
  funext j
  by_cases h : j = k
  · subst h; rw [pk_us]; unfold fN; rw [up_s]
  · rw [pk_un h]; unfold fN; rw [up_n h]
theorem fB_up (f : Nat → Bool) (k : Nat) (x : Bool) : upd (fB f) k (bI x) = fB (va_up f k x) := by
  funext j
  by_cases h : j = k
  · subst h; rw [pk_us]; unfold fB; rw [up_s]
  · rw [pk_un h]; unfold fB; rw [up_n h]
section LN2
variable {p : Program} {l : Launch} {e : Env} {R : Room} {s : State} {m : MethodId} {args : Array Value} {below : List Frame} {meth : Method} {c : Code} {H : Heap} {locs : List Loc} {cells slots : Nat} {Q : State → Prop}
variable {cc : ByteArray} {pc : Nat} {ls : Array Slot} {rest : List Value}
variable {D : va_G} {cl : List vw_C} {ws : va_W} {tys : List (ClassId × FieldType)} {a : Nat} {A : Nat → Prop} {H0 : Heap}
theorem ln_ialdN (hexec : p.tables.exec = Jvm.exec) (hb : c.code = cc) (hK : va_K D cl tys s) (hP : va_P D cl ws H) (q0 t0 : Nat) {cA : ClassId} {n j : Nat} {f : Nat → Nat} (ha : ws[q0]? = some (a, .inl (cA, n, .inl (fN f)))) (ht : tys[t0]? = some (cA, .int)) (hj : j < n) (hn : n < 2 ^ 31) (hdg : decode cc pc = .ok (.iaload, 1))
    (kk : W p l e R s m args below meth c H locs cells slots Q (F0 m (pc + 1) ls (.int (nI (f j)) :: rest))) : W p l e R s m args below meth c H locs cells slots Q (F0 m pc ls (.int (nI j) :: .ref a :: rest)) :=
  ln_iald hexec hb hK hP q0 t0 ha ht hj hn hdg kk
theorem ln_zaldB (hexec : p.tables.exec = Jvm.exec) (hb : c.code = cc) (hK : va_K D cl tys s) (hP : va_P D cl ws H) (q0 t0 : Nat) {cA : ClassId} {n j : Nat} {f : Nat → Bool} (ha : ws[q0]? = some (a, .inl (cA, n, .inl (fB f)))) (ht : tys[t0]? = some (cA, .boolean)) (hj : j < n) (hn : n < 2 ^ 31) (hdg : decode cc pc = .ok (.baload, 1))
    (kk : W p l e R s m args below meth c H locs cells slots Q (F0 m (pc + 1) ls (.int (bI (f j)) :: rest))) : W p l e R s m args below meth c H locs cells slots Q (F0 m pc ls (.int (nI j) :: .ref a :: rest)) :=
  ln_zald hexec hb hK hP q0 t0 ha ht hj hn hdg kk
theorem ln_iastN (hexec : p.tables.exec = Jvm.exec) (hb : c.code = cc) (hK : va_K D cl tys s) (hP : va_P D cl ws H) (hD : va_D A ws) (hS : va_S A H0 H locs) (q0 t0 : Nat) {cA : ClassId} {n j : Nat} {f : Nat → Nat} (ha : ws[q0]? = some (a, .inl (cA, n, .inl (fN f)))) (ht : tys[t0]? = some (cA, .int)) {x : Nat} (hj : j < n) (hn : n < 2 ^ 31) (hdg : decode cc pc = .ok (.iastore, 1)) (w1 : va_W) (hw : ws.set q0 (a, .inl (cA, n, .inl (fN (va_up f j x)))) = w1)
    (kk : ∀ (H1 : Heap) (locs1 : List Loc), va_P D cl w1 H1 → va_D A w1 → va_S A H0 H1 locs1 → W p l e R s m args below meth c H1 locs1 cells slots Q (F0 m (pc + 1) ls rest)) : W p l e R s m args below meth c H locs cells slots Q (F0 m pc ls (.int (nI x) :: .int (nI j) :: .ref a :: rest)) :=
  ln_iast hexec hb hK hP hD hS q0 t0 ha ht hj hn hdg w1 (by rw [fN_up]; exact hw) kk
theorem ln_zastB {b : Bool} (hexec : p.tables.exec = Jvm.exec) (hb : c.code = cc) (hK : va_K D cl tys s) (hP : va_P D cl ws H) (hD : va_D A ws) (hS : va_S A H0 H locs) (q0 t0 : Nat) {cA : ClassId} {n j : Nat} {f : Nat → Bool} (ha : ws[q0]? = some (a, .inl (cA, n, .inl (fB f)))) (ht : tys[t0]? = some (cA, .boolean)) (hj : j < n) (hn : n < 2 ^ 31) (hdg : decode cc pc = .ok (.bastore, 1)) (w1 : va_W) (hw : ws.set q0 (a, .inl (cA, n, .inl (fB (va_up f j b)))) = w1)
    (kk : ∀ (H1 : Heap) (locs1 : List Loc), va_P D cl w1 H1 → va_D A w1 → va_S A H0 H1 locs1 → W p l e R s m args below meth c H1 locs1 cells slots Q (F0 m (pc + 1) ls rest)) : W p l e R s m args below meth c H locs cells slots Q (F0 m pc ls (.int (bI b) :: .int (nI j) :: .ref a :: rest)) :=
  ln_zast hexec hb hK hP hD hS q0 t0 ha ht (bI_nar b) hj hn hdg w1 (by rw [fB_up]; exact hw) kk
end LN2
def stB (lt : Nat → Int32) (tok : Int32) (i : Nat) : Bool := decide (tok = nI 11) || decide (tok = lt i)
theorem stB_11 {lt : Nat → Int32} {tok : Int32} {i : Nat} (h : tok = nI 11) : stB lt tok i = true := by unfold stB; rw [decide_eq_true h]; rfl
theorem stB_lt {lt : Nat → Int32} {tok : Int32} {i : Nat} (h : tok = lt i) : stB lt tok i = true := by unfold stB; rw [decide_eq_true h, Bool.or_true]
theorem stB_no {lt : Nat → Int32} {tok : Int32} {i : Nat} (h : ¬ tok = nI 11) (h2 : ¬ tok = lt i) : stB lt tok i = false := by unfold stB; rw [decide_eq_false h, decide_eq_false h2]; rfl
def anB (R : Nat → Bool) : Nat → Bool
  | 0 => R 0
  | i + 1 => anB R i || R (i + 1)
theorem anB_iff (R : Nat → Bool) : ∀ i, anB R i = true ↔ ∃ q, q ≤ i ∧ R q = true
  | 0 => ⟨fun h => ⟨0, Nat.le_refl _, h⟩, fun ⟨q, h1, h2⟩ => by rw [Nat.le_zero.mp h1] at h2; exact h2⟩
  | i + 1 => by
    unfold anB
    rw [Bool.or_eq_true, anB_iff R i]
    constructor
    · rintro (⟨q, h1, h2⟩ | h)
      · exact ⟨q, by omega, h2⟩
      · exact ⟨i + 1, Nat.le_refl _, h⟩
    · rintro ⟨q, h1, h2⟩
      by_cases h : q = i + 1
      · subst h; exact Or.inr h2
      · exact Or.inl ⟨q, by omega, h2⟩
theorem anB_congr {R S : Nat → Bool} : ∀ {i : Nat}, (∀ q, q ≤ i → R q = S q) → anB R i = anB S i
  | 0, h => h 0 (Nat.le_refl _)
  | i + 1, h => by unfold anB; rw [anB_congr (fun q hq => h q (by omega)), h (i + 1) (Nat.le_refl _)]
/-- which beginnings of the name stand for one token more -/
def stpB (lt : Nat → Int32) (tok : Int32) (R : Nat → Bool) (i : Nat) : Bool := if tok = nI 10 then anB R i else match i with
  | 0 => false
  | q + 1 => R q && stB lt tok q
theorem stpB_congr {lt : Nat → Int32} {tok : Int32} {R S : Nat → Bool} {i : Nat} (h : ∀ q, q ≤ i → R q = S q) : stpB lt tok R i = stpB lt tok S i := by
  unfold stpB
  by_cases ht : tok = nI 10
  · rw [if_pos ht, if_pos ht, anB_congr h]
  · rw [if_neg ht, if_neg ht]
    cases i with
    | zero => rfl
    | succ q => dsimp only; rw [h q (by omega)]
theorem stpB_ok {lt : Nat → Int32} {tok : Int32} {R : Nat → Bool} {i : Nat} (h : tok = nI 10) : stpB lt tok R i = anB R i := by unfold stpB; rw [if_pos h]
theorem stpB_0 {lt : Nat → Int32} {tok : Int32} {R : Nat → Bool} (h : ¬ tok = nI 10) : stpB lt tok R 0 = false := by unfold stpB; rw [if_neg h]
theorem stpB_s {lt : Nat → Int32} {tok : Int32} {R : Nat → Bool} {q : Nat} (h : ¬ tok = nI 10) : stpB lt tok R (q + 1) = (R q && stB lt tok q) := by unfold stpB; rw [if_neg h]
/-- the beginnings of the name (by their lengths) for which the first k tokens from a place on stand -/
def rchB (lt tk : Nat → Int32) (base : Nat) : Nat → Nat → Bool
  | 0 => fun i => decide (i = 0)
  | k + 1 => stpB lt (tk (base + k)) (rchB lt tk base k)
/-- whether n tokens from the pattern's row on fit the name of nl letters -/
def fitB (lt : Nat → Int32) (nl : Nat) (tk : Nat → Int32) (ln : Nat → Nat) (j : Nat) : Bool := rchB lt tk (j * 8) (ln j) nl
/-- the class's set of beginnings, in the middle of a token: up to q done, a bit for each -/
def raI (lt : Nat → Int32) (tok x a : Int32) (q : Nat) : Prop := (∀ i, i ≤ q → bt a i = stpB lt tok (bt x) i) ∧ ∀ i, q < i → i < 32 → bt a i = (decide (tok = nI 10) && bt x i)
theorem raI_0 {lt : Nat → Int32} {tok x : Int32} : raI lt tok x (if tok = nI 10 then x else nI 0) 0 := by
  by_cases h : tok = nI 10
  · rw [if_pos h]
    refine ⟨fun i hi => ?_, fun i h1 h2 => by rw [decide_eq_true h, Bool.true_and]⟩
    rw [Nat.le_zero.mp hi, stpB_ok h]; rfl
  · rw [if_neg h]
    refine ⟨fun i hi => ?_, fun i h1 h2 => by rw [decide_eq_false h, Bool.false_and]; exact bt_0 i⟩
    rw [Nat.le_zero.mp hi, stpB_0 h]; exact bt_0 0
theorem raI_s {lt : Nat → Int32} {tok x a : Int32} {q : Nat} (hq : q + 1 < 32) (h : raI lt tok x a q) {g : Bool} (hg : g = if tok = nI 10 then bt a q else (bt x q && stB lt tok q)) :
    raI lt tok x (if g = true then a ||| (nI 1 <<< (nI (q + 1) &&& 31)) else a) (q + 1) := by
  have key : ∀ i, i < 32 → bt (if g = true then a ||| (nI 1 <<< (nI (q + 1) &&& 31)) else a) i = (bt a i || (g && decide (i = q + 1))) := by
    intro i hi
    cases g with
    | false => simp
    | true => simp only [if_true, Bool.true_and]; exact bt_set a hq hi
  refine ⟨fun i hi => ?_, fun i h1 h2 => ?_⟩
  · rw [key i (by omega)]
    by_cases hiq : i = q + 1
    · subst hiq
      rw [h.2 (q + 1) (by omega) hq, decide_eq_true (rfl : q + 1 = q + 1), Bool.and_true]
      by_cases ht : tok = nI 10
      · rw [decide_eq_true ht, Bool.true_and, hg, if_pos ht, h.1 q (Nat.le_refl _), stpB_ok ht, stpB_ok ht, Bool.or_comm]
        rfl
      · rw [decide_eq_false ht, Bool.false_and, Bool.false_or, hg, if_neg ht, stpB_s ht]
    · rw [h.1 i (by omega), decide_eq_false hiq, Bool.and_false, Bool.or_false]
  · rw [key i h2, h.2 i (by omega) h2, decide_eq_false (by omega : ¬ i = q + 1), Bool.and_false, Bool.or_false]
/-- the first of the best: a later one comes in only if it is ahead of what stands -/
def bstB (cand : Nat → Bool) (ahd : Nat → Nat → Bool) : Nat → Option Nat
  | 0 => none
  | k + 1 => match bstB cand ahd k with
    | none => if cand k = true then some k else none
    | some b => if (cand k && ahd k b) = true then some k else some b
def oI : Option Nat → Int32
  | none => -1
  | some k => nI k
def ahO (ahd : Nat → Nat → Bool) (k : Nat) : Option Nat → Bool
  | none => true
  | some b => ahd k b
theorem bstB_s (cand : Nat → Bool) (ahd : Nat → Nat → Bool) (k : Nat) : bstB cand ahd (k + 1) = if (cand k && ahO ahd k (bstB cand ahd k)) = true then some k else bstB cand ahd k := by
  unfold ahO
  cases h : bstB cand ahd k <;> simp [bstB, h]
theorem bstB_lt {cand : Nat → Bool} {ahd : Nat → Nat → Bool} : ∀ {k b : Nat}, bstB cand ahd k = some b → b < k ∧ cand b = true
  | 0, b, h => by simp [bstB] at h
  | k + 1, b, h => by
    rw [bstB_s] at h
    by_cases hc : (cand k && ahO ahd k (bstB cand ahd k)) = true
    · rw [if_pos hc] at h
      cases h
      exact ⟨by omega, (Bool.and_eq_true_iff.mp hc).1⟩
    · rw [if_neg hc] at h
      have := bstB_lt h
      exact ⟨by omega, this.2⟩
theorem bstB_yes {cand : Nat → Bool} {ahd : Nat → Nat → Bool} {k : Nat} {o : Option Nat} (h : o = bstB cand ahd k) (h1 : ahO ahd k o = true) (h2 : cand k = true) : some k = bstB cand ahd (k + 1) := by
  rw [bstB_s, ← h, h1, h2]; rfl
theorem bstB_no {cand : Nat → Bool} {ahd : Nat → Nat → Bool} {k : Nat} {o : Option Nat} (h : o = bstB cand ahd k) (h1 : ahO ahd k o = false ∨ cand k = false) : o = bstB cand ahd (k + 1) := by
  rw [bstB_s, ← h]
  rcases h1 with h1 | h1 <;> rw [h1] <;> simp
theorem oI_some {o : Option Nat} (h : ¬ oI o = -1) : ∃ b, o = some b := by
  cases o with
  | none => exact absurd rfl h
  | some b => exact ⟨b, rfl⟩
theorem oI_none {o : Option Nat} (hb : ∀ b, o = some b → b < 2 ^ 31) (h : oI o = -1) : o = none := by
  cases o with
  | none => rfl
  | some b => exact absurd h (nI_ne_m1 (hb b rfl))
/-- which pattern is ahead of which -/
def ahP (wt : Nat → Int32) (ln : Nat → Nat) (k b : Nat) : Bool := if wt k = wt b then decide (ln b < ln k) else decide (wt b < wt k)
/-- whether a pattern's kind is a special one of another, or any kind is meant -/
def isO (par : Nat → Int32) (kp : Nat → Nat) (g : Int32) (j : Nat) : Bool := decide (g = -1) || spc par 14 (nI (kp j)) g
/-- whether a pattern is there, fits, and is of the kind -/
def cnP (par : Nat → Int32) (kp : Nat → Nat) (th : Nat → Bool) (lt : Nat → Int32) (nl : Nat) (tk : Nat → Int32) (ln : Nat → Nat) (g : Int32) (j : Nat) : Bool := th j && (isO par kp g j && fitB lt nl tk ln j)
