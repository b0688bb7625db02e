def exB (P : Nat → Bool) : Nat → Bool
  | 0 => false
  | n + 1 => exB P n || P n
theorem exB_iff (P : Nat → Bool) : ∀ n, exB P n = true ↔ ∃ i, i < n ∧ P i = true
  | 0 => ⟨fun h => (by cases h), fun ⟨i, h, _⟩ => absurd h (Nat.not_lt_zero i)⟩
  | n + 1 => by
    unfold exB
    rw [Bool.or_eq_true, exB_iff P n]
    constructor
    · rintro (⟨i, h1, h2⟩ | h)
      · exact ⟨i, by omega, h2⟩
      · exact ⟨n, by omega, h⟩
    · rintro ⟨i, h1, h2⟩
      by_cases h : i = n
      · subst h; exact Or.inr h2
      · exact Or.inl ⟨i, by omega, h2⟩
def alB (P : Nat → Bool) : Nat → Bool
  | 0 => true
  | n + 1 => alB P n && P n
theorem alB_f {P : Nat → Bool} {q : Nat} : ∀ {n : Nat}, q < n → P q = false → alB P n = false
  | 0, h, _ => absurd h (Nat.not_lt_zero q)
  | n + 1, h, hp => by
    unfold alB
    by_cases hq : q = n
    · subst hq; rw [hp, Bool.and_false]
    · rw [alB_f (by omega) hp, Bool.false_and]
def tbB (x : Int32) : Bool := (decide (nI 32 ≤ x) && decide (x ≤ nI 126)) || (decide (x = nI 9) || (decide (x = nI 10) || decide (x = nI 13)))
theorem tbB_r {x : Int32} (h : nI 32 ≤ x) (h2 : x ≤ nI 126) : tbB x = true := by unfold tbB; rw [decide_eq_true h, decide_eq_true h2]; rfl
theorem tbB_e {x : Int32} (h : x = nI 9 ∨ x = nI 10 ∨ x = nI 13) : tbB x = true := by
  unfold tbB
  rcases h with h | h | h <;> rw [decide_eq_true h] <;> simp
theorem tbB_no {x : Int32} (h : ¬ (nI 32 ≤ x ∧ x ≤ nI 126)) (h1 : ¬ x = nI 9) (h2 : ¬ x = nI 10) (h3 : ¬ x = nI 13) : tbB x = false := by
  unfold tbB
  rw [decide_eq_false h1, decide_eq_false h2, decide_eq_false h3]
  by_cases ha : nI 32 ≤ x
  · rw [decide_eq_false (fun hb => h ⟨ha, hb⟩)]; simp
  · rw [decide_eq_false ha]; rfl
def gnl (lev tc : Nat → Nat) (j : Nat) : Nat := if tc j = 0 then 0 else lev (((j * 6) + (tc j)) - 1) + 1
def kndR (nr : Nat) (kr : Nat → Nat) (k : Int32) : Int32 := if inB k nr = true then nI (kr k.toNatClampNeg) else -1
theorem kndR_N {nr : Nat} {kr : Nat → Nat} {j : Nat} (hj : j < nr) (hn : nr < 2 ^ 31) : kndR nr kr (nI j) = nI (kr j) := by
  unfold kndR
  rw [inB_nI (by omega), decide_eq_true hj, if_pos rfl, nI_clamp (by omega)]
def stgB (nr : Nat) (pr : Nat → Int32) (k : Int32) : Bool := inB k nr && decide (nI 50 ≤ pr k.toNatClampNeg)
/-- whether a test holds -/
def hldB (vb : Nat → Int32) (nb : Nat) (fo tu : Nat → Nat) (wn mk : Nat → Int32) (t : Nat) : Bool := exB (fun i => decide (fo t ≤ i ∧ i ≤ tu t) && decide ((vb i &&& mk t) = wn t)) nb
theorem hld_t {vb : Nat → Int32} {nb : Nat} {fo tu : Nat → Nat} {wn mk : Nat → Int32} {t i : Nat} (h1 : i < nb) (h2 : fo t ≤ i) (h3 : i ≤ tu t) (h4 : (vb i &&& mk t) = wn t) : hldB vb nb fo tu wn mk t = true :=
  (exB_iff _ nb).mpr ⟨i, h1, by rw [decide_eq_true ⟨h2, h3⟩, decide_eq_true h4]; rfl⟩
theorem hld_f {vb : Nat → Int32} {nb : Nat} {fo tu : Nat → Nat} {wn mk : Nat → Int32} {t : Nat} (h : ∀ i, fo t ≤ i → i ≤ tu t → i < nb → ¬ (vb i &&& mk t) = wn t) : hldB vb nb fo tu wn mk t = false := by
  cases hb : hldB vb nb fo tu wn mk t
  · rfl
  · obtain ⟨i, h1, h2⟩ := (exB_iff _ nb).mp hb
    have h3 := Bool.and_eq_true_iff.mp h2
    have h4 := of_decide_eq_true h3.1
    exact absurd (of_decide_eq_true h3.2) (h i h4.1 h4.2 h1)
noncomputable def pdec (P : Prop) : Bool := @decide P (Classical.propDecidable P)
theorem pdec_iff {P : Prop} : pdec P = true ↔ P := by unfold pdec; exact @decide_eq_true_iff P (Classical.propDecidable P)
theorem pdec_t {P : Prop} (h : P) : pdec P = true := pdec_iff.mpr h
theorem pdec_f {P : Prop} (h : ¬ P) : pdec P = false := by
  cases hb : pdec P
  · rfl
  · exact absurd (pdec_iff.mp hb) h
theorem pdec_of {g : Bool} {P : Prop} (h : g = true ↔ P) : g = pdec P := by
  cases hb : pdec P
  · cases hg : g
    · rfl
    · rw [pdec_t (h.mp hg)] at hb; cases hb
  · exact h.mpr (pdec_iff.mp hb)
/-- a test directly below another one -/
def isCh (lev : Nat → Nat) (t i : Nat) : Prop := t < i ∧ (∀ k : Nat, t < k → k ≤ i → lev t + 1 ≤ lev k) ∧ lev i = lev t + 1
/-- no test is below this one, or some test below it leads -/
def lbP (lev : Nat → Nat) (ld : Nat → Bool) (t en : Nat) : Prop := (∀ i : Nat, i < en → ¬ isCh lev t i) ∨ ∃ i : Nat, i < en ∧ isCh lev t i ∧ ld i = true
theorem lb_end {lev : Nat → Nat} {ld : Nat → Bool} {t q en : Nat} {g : Bool} (h1 : t < q) (h2 : q ≤ en) (h3 : ∀ k : Nat, t < k → k < q → lev t + 1 ≤ lev k) (h4 : g = true ↔ ∀ i : Nat, t < i → i < q → ¬ lev i = lev t + 1) (h5 : ∀ i : Nat, t < i → i < q → lev i = lev t + 1 → ld i = false) (hx : en ≤ q ∨ lev q < lev t + 1) : g = true ↔ lbP lev ld t en := by
  have key : ∀ i, i < en → isCh lev t i → i < q := by
    intro i hi hc
    rcases hx with h | h
    · omega
    · rcases Nat.lt_or_ge i q with hq | hq
      · exact hq
      · have := hc.2.1 q h1 hq
        omega
  constructor
  · intro hg
    exact Or.inl (fun i hi hc => h4.mp hg i hc.1 (key i hi hc) hc.2.2)
  · rintro (h | ⟨i, hi, hc, hl⟩)
    · exact h4.mpr (fun i a1 a2 a3 => h i (by omega) ⟨a1, fun k b1 b2 => h3 k b1 (by omega), a3⟩)
    · rw [h5 i hc.1 (key i hi hc) hc.2.2] at hl
      cases hl
theorem lbP_congr {lev : Nat → Nat} {u v : Nat → Bool} {t en : Nat} (h : ∀ i : Nat, t < i → i < en → u i = v i) : pdec (lbP lev u t en) = pdec (lbP lev v t en) := by
  refine pdec_of (pdec_iff.trans ⟨?_, ?_⟩)
  · rintro (a | ⟨i, a, b, c⟩)
    · exact Or.inl a
    · exact Or.inr ⟨i, a, b, by rw [← h i b.1 a]; exact c⟩
  · rintro (a | ⟨i, a, b, c⟩)
    · exact Or.inl a
    · exact Or.inr ⟨i, a, b, by rw [h i b.1 a]; exact c⟩
/-- which tests lead: each by those directly below it -/
def ldS (lev : Nat → Nat) (ho : Nat → Bool) (ba en : Nat) (L : Nat → Bool) : Prop := ∀ t : Nat, ba ≤ t → t < en → L t = (ho t && pdec (lbP lev L t en))
theorem ldS_one {lev : Nat → Nat} {ho : Nat → Bool} {ba en : Nat} {L M : Nat → Bool} (h : ldS lev ho ba en L) (h2 : ldS lev ho ba en M) : ∀ d t : Nat, ba ≤ t → t < en → en - t ≤ d → L t = M t := by
  intro d
  induction d with
  | zero => intro t a1 a2 a3; omega
  | succ d ih =>
    intro t a1 a2 a3
    rw [h t a1 a2, h2 t a1 a2, lbP_congr (fun i b1 b2 => ih i (by omega) b2 (by omega))]
/-- whether a rule proves its kind: some test of the level 0 leads -/
noncomputable def prvB (lev : Nat → Nat) (ho : Nat → Bool) (ba en : Nat) : Bool := pdec (∃ L : Nat → Bool, ldS lev ho ba en L ∧ ∃ t : Nat, ba ≤ t ∧ t < en ∧ L t = true ∧ lev t = 0)
theorem prv_of {lev : Nat → Nat} {ho : Nat → Bool} {ba en : Nat} {v : Nat → Bool} {pv : Bool} (h3 : ldS lev ho ba en v) (h4 : pv = true ↔ ∃ t : Nat, ba ≤ t ∧ t < en ∧ v t = true ∧ lev t = 0) : pv = prvB lev ho ba en := by
  refine pdec_of (h4.trans ⟨fun h => ⟨v, h3, h⟩, ?_⟩)
  rintro ⟨L, hL, t, a1, a2, a3, a4⟩
  exact ⟨t, a1, a2, by rw [ldS_one h3 hL (en - t) t a1 a2 (Nat.le_refl _)]; exact a3, a4⟩
theorem pk_end {lev : Nat → Nat} {ho : Nat → Bool} {ba en : Nat} {v : Nat → Bool} {pv : Bool} (h3 : ∀ t : Nat, ba + 0 ≤ t → t < en → v t = (ho t && pdec (lbP lev v t en))) (h4 : pv = true ↔ ∃ t : Nat, ba + 0 ≤ t ∧ t < en ∧ v t = true ∧ lev t = 0) : pv = prvB lev ho ba en := prv_of (ba := ba) h3 h4
theorem pk_h3 {lev : Nat → Nat} {ho : Nat → Bool} {ba k en : Nat} {v : Nat → Bool} {g : Bool} (h3 : ∀ t : Nat, ba + (k + 1) ≤ t → t < en → v t = (ho t && pdec (lbP lev v t en))) (hk : ba + k < en) (hg : g = (ho (ba + k) && pdec (lbP lev v (ba + k) en))) : ∀ t : Nat, ba + k ≤ t → t < en → va_up v (ba + k) g t = (ho t && pdec (lbP lev (va_up v (ba + k) g) t en)) := by
  intro t a1 a2
  have e : pdec (lbP lev (va_up v (ba + k) g) t en) = pdec (lbP lev v t en) := lbP_congr (fun i b1 b2 => up_n (by omega))
  rw [e]
  by_cases h : t = ba + k
  · subst h; rw [up_s]; exact hg
  · rw [up_n h]; exact h3 t (by omega) a2
theorem pk_h4 {lev : Nat → Nat} {ba k en : Nat} {v : Nat → Bool} {g pv pv2 : Bool} (h4 : pv = true ↔ ∃ t : Nat, ba + (k + 1) ≤ t ∧ t < en ∧ v t = true ∧ lev t = 0) (hk : ba + k < en) (hg : pv2 = (pv || (g && decide (lev (ba + k) = 0)))) : pv2 = true ↔ ∃ t : Nat, ba + k ≤ t ∧ t < en ∧ va_up v (ba + k) g t = true ∧ lev t = 0 := by
  rw [hg, Bool.or_eq_true, h4]
  constructor
  · rintro (⟨t, a1, a2, a3, a4⟩ | h)
    · exact ⟨t, by omega, a2, by rw [up_n (by omega)]; exact a3, a4⟩
    · have h9 := Bool.and_eq_true_iff.mp h
      exact ⟨ba + k, Nat.le_refl _, hk, by rw [up_s]; exact h9.1, of_decide_eq_true h9.2⟩
  · rintro ⟨t, a1, a2, a3, a4⟩
    by_cases h : t = ba + k
    · subst h
      rw [up_s] at a3
      exact Or.inr (by rw [a3, decide_eq_true a4]; rfl)
    · rw [up_n h] at a3
      exact Or.inl ⟨t, by omega, a2, a3, a4⟩
theorem pk_tI {ba k : Nat} {x : Int32} (h2 : x = nI (ba + k) - nI 1) (hb : ba + k < 2 ^ 30) : x.toInt = ((ba + k : Nat) : Int) - 1 := by rw [h2, pk_sub_toInt hb (by omega)]; rfl
theorem pk_k0 {ba k : Nat} {x : Int32} (h2 : x = nI (ba + k) - nI 1) (hc : x < nI ba) (hb : ba + k < 2 ^ 30) : k = 0 := by
  have h := Int32.lt_iff_toInt_lt.mp hc
  rw [pk_tI h2 hb, nI_toInt (by omega)] at h
  omega
theorem pk_ks {ba k : Nat} {x : Int32} (h2 : x = nI (ba + k) - nI 1) (hc : ¬ x < nI ba) (hb : ba + k < 2 ^ 30) : ∃ k1, k = k1 + 1 := by
  rcases Nat.eq_zero_or_pos k with h | h
  · exfalso
    refine hc (Int32.lt_iff_toInt_lt.mpr ?_)
    rw [pk_tI h2 hb, nI_toInt (by omega)]
    omega
  · exact ⟨k - 1, by omega⟩

theorem hvX0_isFullOfBytes : yX0_isFullOfBytes.cls = RX0 ∧ yX0_isFullOfBytes.cls ≠ "java/lang/invoke/MethodHandle" ∧ yX0_isFullOfBytes.cls ≠ "java/lang/invoke/VarHandle" ∧ (parseMethodDescriptor yX0_isFullOfBytes.desc).map (fun d => d.parameters.length) = some 0 := by decide +kernel
theorem hvX0_addByte : yX0_addByte.cls = RX0 ∧ yX0_addByte.cls ≠ "java/lang/invoke/MethodHandle" ∧ yX0_addByte.cls ≠ "java/lang/invoke/VarHandle" ∧ (parseMethodDescriptor yX0_addByte.desc).map (fun d => d.parameters.length) = some 1 := by decide +kernel
theorem hvX0_clearBytes : yX0_clearBytes.cls = RX0 ∧ yX0_clearBytes.cls ≠ "java/lang/invoke/MethodHandle" ∧ yX0_clearBytes.cls ≠ "java/lang/invoke/VarHandle" ∧ (parseMethodDescriptor yX0_clearBytes.desc).map (fun d => d.parameters.length) = some 0 := by decide +kernel
theorem hvX0_isTextByte : yX0_isTextByte.cls ≠ "java/lang/invoke/MethodHandle" ∧ yX0_isTextByte.cls ≠ "java/lang/invoke/VarHandle" ∧ (parseMethodDescriptor yX0_isTextByte.desc).map (fun d => d.parameters.length) = some 1 := by decide +kernel
theorem hvX0_isText : yX0_isText.cls = RX0 ∧ yX0_isText.cls ≠ "java/lang/invoke/MethodHandle" ∧ yX0_isText.cls ≠ "java/lang/invoke/VarHandle" ∧ (parseMethodDescriptor yX0_isText.desc).map (fun d => d.parameters.length) = some 0 := by decide +kernel
theorem hvX0_hasRule : yX0_hasRule.cls = RX0 ∧ yX0_hasRule.cls ≠ "java/lang/invoke/MethodHandle" ∧ yX0_hasRule.cls ≠ "java/lang/invoke/VarHandle" ∧ (parseMethodDescriptor yX0_hasRule.desc).map (fun d => d.parameters.length) = some 1 := by decide +kernel
theorem hvX0_isFullOfRules : yX0_isFullOfRules.cls = RX0 ∧ yX0_isFullOfRules.cls ≠ "java/lang/invoke/MethodHandle" ∧ yX0_isFullOfRules.cls ≠ "java/lang/invoke/VarHandle" ∧ (parseMethodDescriptor yX0_isFullOfRules.desc).map (fun d => d.parameters.length) = some 0 := by decide +kernel
theorem hvX0_addRule : yX0_addRule.cls = RX0 ∧ yX0_addRule.cls ≠ "java/lang/invoke/MethodHandle" ∧ yX0_addRule.cls ≠ "java/lang/invoke/VarHandle" ∧ (parseMethodDescriptor yX0_addRule.desc).map (fun d => d.parameters.length) = some 2 := by decide +kernel
theorem hvX0_greatestNextLevel : yX0_greatestNextLevel.cls = RX0 ∧ yX0_greatestNextLevel.cls ≠ "java/lang/invoke/MethodHandle" ∧ yX0_greatestNextLevel.cls ≠ "java/lang/invoke/VarHandle" ∧ (parseMethodDescriptor yX0_greatestNextLevel.desc).map (fun d => d.parameters.length) = some 1 := by decide +kernel
theorem hvX0_isFullOfTests : yX0_isFullOfTests.cls = RX0 ∧ yX0_isFullOfTests.cls ≠ "java/lang/invoke/MethodHandle" ∧ yX0_isFullOfTests.cls ≠ "java/lang/invoke/VarHandle" ∧ (parseMethodDescriptor yX0_isFullOfTests.desc).map (fun d => d.parameters.length) = some 1 := by decide +kernel
theorem hvX0_addTest : yX0_addTest.cls = RX0 ∧ yX0_addTest.cls ≠ "java/lang/invoke/MethodHandle" ∧ yX0_addTest.cls ≠ "java/lang/invoke/VarHandle" ∧ (parseMethodDescriptor yX0_addTest.desc).map (fun d => d.parameters.length) = some 6 := by decide +kernel
theorem hvX0_kindOf : yX0_kindOf.cls = RX0 ∧ yX0_kindOf.cls ≠ "java/lang/invoke/MethodHandle" ∧ yX0_kindOf.cls ≠ "java/lang/invoke/VarHandle" ∧ (parseMethodDescriptor yX0_kindOf.desc).map (fun d => d.parameters.length) = some 1 := by decide +kernel
theorem hvX0_isStrong : yX0_isStrong.cls = RX0 ∧ yX0_isStrong.cls ≠ "java/lang/invoke/MethodHandle" ∧ yX0_isStrong.cls ≠ "java/lang/invoke/VarHandle" ∧ (parseMethodDescriptor yX0_isStrong.desc).map (fun d => d.parameters.length) = some 1 := by decide +kernel
theorem hvX0_holds : yX0_holds.cls = RX0 ∧ yX0_holds.cls ≠ "java/lang/invoke/MethodHandle" ∧ yX0_holds.cls ≠ "java/lang/invoke/VarHandle" ∧ (parseMethodDescriptor yX0_holds.desc).map (fun d => d.parameters.length) = some 1 := by decide +kernel
theorem hvX0_leadsBelow : yX0_leadsBelow.cls = RX0 ∧ yX0_leadsBelow.cls ≠ "java/lang/invoke/MethodHandle" ∧ yX0_leadsBelow.cls ≠ "java/lang/invoke/VarHandle" ∧ (parseMethodDescriptor yX0_leadsBelow.desc).map (fun d => d.parameters.length) = some 2 := by decide +kernel
theorem hvX0_provesKind : yX0_provesKind.cls = RX0 ∧ yX0_provesKind.cls ≠ "java/lang/invoke/MethodHandle" ∧ yX0_provesKind.cls ≠ "java/lang/invoke/VarHandle" ∧ (parseMethodDescriptor yX0_provesKind.desc).map (fun d => d.parameters.length) = some 1 := by decide +kernel
theorem hvX0_provingRule : yX0_provingRule.cls = RX0 ∧ yX0_provingRule.cls ≠ "java/lang/invoke/MethodHandle" ∧ yX0_provingRule.cls ≠ "java/lang/invoke/VarHandle" ∧ (parseMethodDescriptor yX0_provingRule.desc).map (fun d => d.parameters.length) = some 0 := by decide +kernel
set_option maxHeartbeats 4000000 in
set_option maxRecDepth 100000 in
theorem kX0_isFullOfBytes (l : Launch) (D : va_G) (y3 : ClassId × ClassId × ClassId) (f0 : Nat) (f1 : Nat) (f2 : Nat) (f3 : Nat) (f4 : Nat) (f5 : Nat) (f6 : Nat) (f7 : Nat) (f8 : Nat) (f9 : Nat) (f10 : Nat) (nb : Nat) (nr : Nat) (hnb : nb ≤ 16) : rdM l yX0_isFullOfBytes wsX0_isFullOfBytes 0 0 D y3 [(f0, .inr (0, [.ref f1, .int (nI nb), .ref f2, .ref f3, .ref f4, .int (nI nr), .ref f5, .ref f6, .ref f7, .ref f8, .ref f9, .ref f10]))] [.ref f0] (fun r => r = (bI (decide (16 ≤ nb)))) := by
  refine rz_of (cc := cX0_isFullOfBytes) (maxL := 1) (by decide) rfl (Nat.le_of_ble_eq_true rfl) ?_
  intro p e s m args below meth c Q hx hb hml hown hts hP hK hret ls hl
  replace hl : lv_has ls 1 [(0, .ref f0)] := hl
  have hf15 := hts (.fieldLink RX0 15 "KindGuesser$ByteSide" "byteCount" "I") (by decide +kernel)
  have hiX0 : ∀ q ∈ wsX00, q ∈ wsX0_isFullOfBytes := by decide +kernel
  refine lv_aload_n hx hb dX0_isFullOfBytes_0 rfl (lv_at hl 0 rfl) ?_
  refine va_get (D := D) (ci := 0) (v := .int (nI nb)) (C := RX0) (T := TX0) (N := 12) hx hb hts hiX0 hown hK hP 0 rfl rfl 1 (by decide) hf15 (fun _ h9 => h9) rfl dX0_isFullOfBytes_1 ?_
  refine lv_bipush (v := (nI 16)) hx hb dX0_isFullOfBytes_4 rfl ?_
  refine ln_icmp_lt (tgt := 13) hx hb (by omega) (by omega) dX0_isFullOfBytes_6 (by decide) (fun c6 => ?_) (fun c6 => ?_)
  · refine lv_iconst (v := (nI 0)) hx hb dX0_isFullOfBytes_13 rfl ?_
    exact hret 14 ls _ (bI_df (by omega)) dX0_isFullOfBytes_14
  · refine lv_iconst (v := (nI 1)) hx hb dX0_isFullOfBytes_9 rfl ?_
    refine lv_goto (tgt := 14) hx hb dX0_isFullOfBytes_10 (by decide) ?_
    exact hret 14 ls _ (bI_dt (by omega)) dX0_isFullOfBytes_14

set_option maxHeartbeats 4000000 in
set_option maxRecDepth 100000 in
theorem kX0_addByte (l : Launch) (D : va_G) (y3 : ClassId × ClassId × ClassId) (f0 : Nat) (f1 : Nat) (f2 : Nat) (f3 : Nat) (f4 : Nat) (f5 : Nat) (f6 : Nat) (f7 : Nat) (f8 : Nat) (f9 : Nat) (f10 : Nat) (nb : Nat) (nr : Nat) (vb : Nat → Int32) (k : Int32) (hnb : nb < 16) : wrM l yX0_addByte wsX0_addByte 0 0 0 0 D y3 [(f0, .inr (0, [.ref f1, .int (nI nb), .ref f2, .ref f3, .ref f4, .int (nI nr), .ref f5, .ref f6, .ref f7, .ref f8, .ref f9, .ref f10])), (f1, .inl (y3.1, 16, .inl vb))] [.ref f0, .int k] (fun r (_ : Unit) => r = (nI (nb + 1))) (fun (_ : Unit) => [(f0, .inr (0, [.ref f1, .int (nI (nb + 1)), .ref f2, .ref f3, .ref f4, .int (nI nr), .ref f5, .ref f6, .ref f7, .ref f8, .ref f9, .ref f10])), (f1, .inl (y3.1, 16, .inl (upd vb nb k)))]) := by
  refine wr_of (cc := cX0_addByte) (maxL := 2) (by decide) rfl (Nat.le_of_ble_eq_true rfl) ?_
  intro p e s m args below meth c A Q hx hb hml hown hts hP hK hD hA hS hret ls hl
  replace hl : lv_has ls 2 [(0, .ref f0), (1, .int k)] := hl
  have hf15 := hts (.fieldLink RX0 15 "KindGuesser$ByteSide" "byteCount" "I") (by decide +kernel)
  have hf9 := hts (.fieldLink RX0 9 "KindGuesser$ByteSide" "values" "[I") (by decide +kernel)
  have hiX0 : ∀ q ∈ wsX00, q ∈ wsX0_addByte := by decide +kernel
  refine lv_aload_n hx hb dX0_addByte_0 rfl (lv_at hl 0 rfl) ?_
  refine va_get (D := D) (ci := 0) (v := .ref f1) (C := RX0) (T := TX0) (N := 12) hx hb hts hiX0 hown hK hP 0 rfl rfl 0 (by decide) hf9 (fun _ h9 => h9) rfl dX0_addByte_1 ?_
  refine lv_aload_n hx hb dX0_addByte_4 rfl (lv_at hl 0 rfl) ?_
  refine va_get (D := D) (ci := 0) (v := .int (nI nb)) (C := RX0) (T := TX0) (N := 12) hx hb hts hiX0 hown hK hP 0 rfl rfl 1 (by decide) hf15 (fun _ h9 => h9) rfl dX0_addByte_5 ?_
  refine lv_iload_n hx hb dX0_addByte_8 rfl (lv_at hl 1 rfl) ?_
  refine ln_iast hx hb hK hP hD hS 1 0 rfl rfl (by omega) (by decide) dX0_addByte_9 _ rfl (fun H locs hP hD hS => ?_)
  have hP : va_P D vwCl [(f0, .inr (0, [.ref f1, .int (nI nb), .ref f2, .ref f3, .ref f4, .int (nI nr), .ref f5, .ref f6, .ref f7, .ref f8, .ref f9, .ref f10])), (f1, .inl (y3.1, 16, .inl (upd vb nb k)))] H := hP
  have hD : va_D A [(f0, .inr (0, [.ref f1, .int (nI nb), .ref f2, .ref f3, .ref f4, .int (nI nr), .ref f5, .ref f6, .ref f7, .ref f8, .ref f9, .ref f10])), (f1, .inl (y3.1, 16, .inl (upd vb nb k)))] := hD
  refine lv_aload_n hx hb dX0_addByte_10 rfl (lv_at hl 0 rfl) ?_
  refine lv_dup hx hb dX0_addByte_11 rfl ?_
  refine va_get (D := D) (ci := 0) (v := .int (nI nb)) (C := RX0) (T := TX0) (N := 12) hx hb hts hiX0 hown hK hP 0 rfl rfl 1 (by decide) hf15 (fun _ h9 => h9) rfl dX0_addByte_12 ?_
  refine lv_iconst (v := (nI 1)) hx hb dX0_addByte_15 rfl ?_
  refine ln_iadd (n := nb + 1) hx hb rfl dX0_addByte_16 ?_
  refine va_put (D := D) (ci := 0) (v := .int (nI (nb + 1))) (ty := .int) (C := RX0) (T := TX0) (N := 12) hx hb hts hiX0 tyX0 tyX0_ok nmX0 hown hK hP hD hS 0 rfl rfl 1 (by decide) hf15 (fun _ h9 => h9) rfl (by decide +kernel) rfl rfl (Nat.le_of_ble_eq_true rfl) dX0_addByte_17 (fun H locs hP hD hS => ?_)
  have hP : va_P D vwCl [(f0, .inr (0, [.ref f1, .int (nI (nb + 1)), .ref f2, .ref f3, .ref f4, .int (nI nr), .ref f5, .ref f6, .ref f7, .ref f8, .ref f9, .ref f10])), (f1, .inl (y3.1, 16, .inl (upd vb nb k)))] H := hP
  have hD : va_D A [(f0, .inr (0, [.ref f1, .int (nI (nb + 1)), .ref f2, .ref f3, .ref f4, .int (nI nr), .ref f5, .ref f6, .ref f7, .ref f8, .ref f9, .ref f10])), (f1, .inl (y3.1, 16, .inl (upd vb nb k)))] := hD
  refine lv_aload_n hx hb dX0_addByte_20 rfl (lv_at hl 0 rfl) ?_
  refine va_get (D := D) (ci := 0) (v := .int (nI (nb + 1))) (C := RX0) (T := TX0) (N := 12) hx hb hts hiX0 hown hK hP 0 rfl rfl 1 (by decide) hf15 (fun _ h9 => h9) rfl dX0_addByte_21 ?_
  exact hret 24 ls H locs _ _ () _ hP hD hS (Nat.le_of_ble_eq_true rfl) (Nat.le_of_ble_eq_true rfl) rfl dX0_addByte_24

set_option maxHeartbeats 4000000 in
set_option maxRecDepth 100000 in
theorem kX0_clearBytes (l : Launch) (D : va_G) (y3 : ClassId × ClassId × ClassId) (f0 : Nat) (f1 : Nat) (f2 : Nat) (f3 : Nat) (f4 : Nat) (f5 : Nat) (f6 : Nat) (f7 : Nat) (f8 : Nat) (f9 : Nat) (f10 : Nat) (nb : Nat) (nr : Nat) : wrM l yX0_clearBytes wsX0_clearBytes 0 0 0 0 D y3 [(f0, .inr (0, [.ref f1, .int (nI nb), .ref f2, .ref f3, .ref f4, .int (nI nr), .ref f5, .ref f6, .ref f7, .ref f8, .ref f9, .ref f10]))] [.ref f0] (fun r (_ : Unit) => r = (nI nb)) (fun (_ : Unit) => [(f0, .inr (0, [.ref f1, .int (nI 0), .ref f2, .ref f3, .ref f4, .int (nI nr), .ref f5, .ref f6, .ref f7, .ref f8, .ref f9, .ref f10]))]) := by
  refine wr_of (cc := cX0_clearBytes) (maxL := 2) (by decide) rfl (Nat.le_of_ble_eq_true rfl) ?_
  intro p e s m args below meth c A Q hx hb hml hown hts hP hK hD hA hS hret ls hl
  replace hl : lv_has ls 2 [(0, .ref f0)] := hl
  have hf15 := hts (.fieldLink RX0 15 "KindGuesser$ByteSide" "byteCount" "I") (by decide +kernel)
  have hiX0 : ∀ q ∈ wsX00, q ∈ wsX0_clearBytes := by decide +kernel
  refine lv_aload_n hx hb dX0_clearBytes_0 rfl (lv_at hl 0 rfl) ?_
  refine va_get (D := D) (ci := 0) (v := .int (nI nb)) (C := RX0) (T := TX0) (N := 12) hx hb hts hiX0 hown hK hP 0 rfl rfl 1 (by decide) hf15 (fun _ h9 => h9) rfl dX0_clearBytes_1 ?_
  refine lv_istore_n (lv' := [(1, .int (nI nb)), (0, .ref f0)]) hx hb dX0_clearBytes_4 rfl hl (by decide) rfl (fun ls hl => ?_)
  refine lv_aload_n hx hb dX0_clearBytes_5 rfl (lv_at hl 1 rfl) ?_
  refine lv_iconst (v := (nI 0)) hx hb dX0_clearBytes_6 rfl ?_
  refine va_put (D := D) (ci := 0) (v := .int (nI 0)) (ty := .int) (C := RX0) (T := TX0) (N := 12) hx hb hts hiX0 tyX0 tyX0_ok nmX0 hown hK hP hD hS 0 rfl rfl 1 (by decide) hf15 (fun _ h9 => h9) rfl (by decide +kernel) rfl rfl (Nat.le_of_ble_eq_true rfl) dX0_clearBytes_7 (fun H locs hP hD hS => ?_)
  have hP : va_P D vwCl [(f0, .inr (0, [.ref f1, .int (nI 0), .ref f2, .ref f3, .ref f4, .int (nI nr), .ref f5, .ref f6, .ref f7, .ref f8, .ref f9, .ref f10]))] H := hP
  have hD : va_D A [(f0, .inr (0, [.ref f1, .int (nI 0), .ref f2, .ref f3, .ref f4, .int (nI nr), .ref f5, .ref f6, .ref f7, .ref f8, .ref f9, .ref f10]))] := hD
  refine lv_iload_n hx hb dX0_clearBytes_10 rfl (lv_at hl 0 rfl) ?_
  exact hret 11 ls H locs _ _ () _ hP hD hS (Nat.le_of_ble_eq_true rfl) (Nat.le_of_ble_eq_true rfl) rfl dX0_clearBytes_11

set_option maxHeartbeats 4000000 in
set_option maxRecDepth 100000 in
theorem kX0_isTextByte (l : Launch) (D : va_G) (y3 : ClassId × ClassId × ClassId) (x : Int32) : rdM l yX0_isTextByte wsX0_isTextByte 0 0 D y3 [] [.int x] (fun r => r = (bI (tbB x))) := by
  refine rz_of (cc := cX0_isTextByte) (maxL := 1) (by decide) rfl (Nat.le_of_ble_eq_true rfl) ?_
  intro p e s m args below meth c Q hx hb hml hown hts hP hK hret ls hl
  replace hl : lv_has ls 1 [(0, .int x)] := hl
  refine lv_iload_n hx hb dX0_isTextByte_0 rfl (lv_at hl 0 rfl) ?_
  refine lv_bipush (v := (nI 32)) hx hb dX0_isTextByte_1 rfl ?_
  refine lv_icmp_lt (tgt := 12) hx hb dX0_isTextByte_3 (by decide) (fun c3 => ?_) (fun c3 => ?_)
  · refine lv_iload_n hx hb dX0_isTextByte_12 rfl (lv_at hl 0 rfl) ?_
    refine lv_bipush (v := (nI 9)) hx hb dX0_isTextByte_13 rfl ?_
    refine lv_icmp_eq (tgt := 30) hx hb dX0_isTextByte_15 (by decide) (fun c15 => ?_) (fun c15 => ?_)
    · refine lv_iconst (v := (nI 1)) hx hb dX0_isTextByte_30 rfl ?_
      refine lv_goto (tgt := 35) hx hb dX0_isTextByte_31 (by decide) ?_
      exact hret 35 ls _ (bI_t (by first | exact tbB_r (Int32.not_lt.mp c3) c9 | exact tbB_e (Or.inl c15) | exact tbB_e (Or.inr (Or.inl c21)) | exact tbB_e (Or.inr (Or.inr c27)))) dX0_isTextByte_35
    · refine lv_iload_n hx hb dX0_isTextByte_18 rfl (lv_at hl 0 rfl) ?_
      refine lv_bipush (v := (nI 10)) hx hb dX0_isTextByte_19 rfl ?_
      refine lv_icmp_eq (tgt := 30) hx hb dX0_isTextByte_21 (by decide) (fun c21 => ?_) (fun c21 => ?_)
      · refine lv_iconst (v := (nI 1)) hx hb dX0_isTextByte_30 rfl ?_
        refine lv_goto (tgt := 35) hx hb dX0_isTextByte_31 (by decide) ?_
        exact hret 35 ls _ (bI_t (by first | exact tbB_r (Int32.not_lt.mp c3) c9 | exact tbB_e (Or.inl c15) | exact tbB_e (Or.inr (Or.inl c21)) | exact tbB_e (Or.inr (Or.inr c27)))) dX0_isTextByte_35
      · refine lv_iload_n hx hb dX0_isTextByte_24 rfl (lv_at hl 0 rfl) ?_
        refine lv_bipush (v := (nI 13)) hx hb dX0_isTextByte_25 rfl ?_
        refine lv_icmp_ne (tgt := 34) hx hb dX0_isTextByte_27 (by decide) (fun c27 => ?_) (fun c27 => ?_)
        · refine lv_iconst (v := (nI 0)) hx hb dX0_isTextByte_34 rfl ?_
          exact hret 35 ls _ (bI_f (tbB_no (by first | exact fun h => absurd h.1 (Int32.not_le.mpr c3) | exact fun h => c9 h.2) c15 c21 c27)) dX0_isTextByte_35
        · refine lv_iconst (v := (nI 1)) hx hb dX0_isTextByte_30 rfl ?_
          refine lv_goto (tgt := 35) hx hb dX0_isTextByte_31 (by decide) ?_
          exact hret 35 ls _ (bI_t (by first | exact tbB_r (Int32.not_lt.mp c3) c9 | exact tbB_e (Or.inl c15) | exact tbB_e (Or.inr (Or.inl c21)) | exact tbB_e (Or.inr (Or.inr c27)))) dX0_isTextByte_35
  · refine lv_iload_n hx hb dX0_isTextByte_6 rfl (lv_at hl 0 rfl) ?_
    refine lv_bipush (v := (nI 126)) hx hb dX0_isTextByte_7 rfl ?_
    refine lv_icmp_le (tgt := 30) hx hb dX0_isTextByte_9 (by decide) (fun c9 => ?_) (fun c9 => ?_)
    · refine lv_iconst (v := (nI 1)) hx hb dX0_isTextByte_30 rfl ?_
      refine lv_goto (tgt := 35) hx hb dX0_isTextByte_31 (by decide) ?_
      exact hret 35 ls _ (bI_t (by first | exact tbB_r (Int32.not_lt.mp c3) c9 | exact tbB_e (Or.inl c15) | exact tbB_e (Or.inr (Or.inl c21)) | exact tbB_e (Or.inr (Or.inr c27)))) dX0_isTextByte_35
    · refine lv_iload_n hx hb dX0_isTextByte_12 rfl (lv_at hl 0 rfl) ?_
      refine lv_bipush (v := (nI 9)) hx hb dX0_isTextByte_13 rfl ?_
      refine lv_icmp_eq (tgt := 30) hx hb dX0_isTextByte_15 (by decide) (fun c15 => ?_) (fun c15 => ?_)
      · refine lv_iconst (v := (nI 1)) hx hb dX0_isTextByte_30 rfl ?_
        refine lv_goto (tgt := 35) hx hb dX0_isTextByte_31 (by decide) ?_
        exact hret 35 ls _ (bI_t (by first | exact tbB_r (Int32.not_lt.mp c3) c9 | exact tbB_e (Or.inl c15) | exact tbB_e (Or.inr (Or.inl c21)) | exact tbB_e (Or.inr (Or.inr c27)))) dX0_isTextByte_35
      · refine lv_iload_n hx hb dX0_isTextByte_18 rfl (lv_at hl 0 rfl) ?_
        refine lv_bipush (v := (nI 10)) hx hb dX0_isTextByte_19 rfl ?_
        refine lv_icmp_eq (tgt := 30) hx hb dX0_isTextByte_21 (by decide) (fun c21 => ?_) (fun c21 => ?_)
        · refine lv_iconst (v := (nI 1)) hx hb dX0_isTextByte_30 rfl ?_
          refine lv_goto (tgt := 35) hx hb dX0_isTextByte_31 (by decide) ?_
          exact hret 35 ls _ (bI_t (by first | exact tbB_r (Int32.not_lt.mp c3) c9 | exact tbB_e (Or.inl c15) | exact tbB_e (Or.inr (Or.inl c21)) | exact tbB_e (Or.inr (Or.inr c27)))) dX0_isTextByte_35
        · refine lv_iload_n hx hb dX0_isTextByte_24 rfl (lv_at hl 0 rfl) ?_
          refine lv_bipush (v := (nI 13)) hx hb dX0_isTextByte_25 rfl ?_
          refine lv_icmp_ne (tgt := 34) hx hb dX0_isTextByte_27 (by decide) (fun c27 => ?_) (fun c27 => ?_)
          · refine lv_iconst (v := (nI 0)) hx hb dX0_isTextByte_34 rfl ?_
            exact hret 35 ls _ (bI_f (tbB_no (by first | exact fun h => absurd h.1 (Int32.not_le.mpr c3) | exact fun h => c9 h.2) c15 c21 c27)) dX0_isTextByte_35
          · refine lv_iconst (v := (nI 1)) hx hb dX0_isTextByte_30 rfl ?_
            refine lv_goto (tgt := 35) hx hb dX0_isTextByte_31 (by decide) ?_
            exact hret 35 ls _ (bI_t (by first | exact tbB_r (Int32.not_lt.mp c3) c9 | exact tbB_e (Or.inl c15) | exact tbB_e (Or.inr (Or.inl c21)) | exact tbB_e (Or.inr (Or.inr c27)))) dX0_isTextByte_35

set_option maxHeartbeats 4000000 in
set_option maxRecDepth 100000 in
theorem kX0_isText (l : Launch) (D : va_G) (y3 : ClassId × ClassId × ClassId) (f0 : Nat) (f1 : Nat) (f2 : Nat) (f3 : Nat) (f4 : Nat) (f5 : Nat) (f6 : Nat) (f7 : Nat) (f8 : Nat) (f9 : Nat) (f10 : Nat) (nb : Nat) (nr : Nat) (vb : Nat → Int32) (hnb : nb ≤ 16) : rdM l yX0_isText wsX0_isText 1 20 D y3 [(f0, .inr (0, [.ref f1, .int (nI nb), .ref f2, .ref f3, .ref f4, .int (nI nr), .ref f5, .ref f6, .ref f7, .ref f8, .ref f9, .ref f10])), (f1, .inl (y3.1, 16, .inl vb))] [.ref f0] (fun r => r = (bI (alB (fun i => tbB (vb i)) nb))) := by
  refine rz_of (cc := cX0_isText) (maxL := 2) (by decide) rfl (Nat.le_of_ble_eq_true rfl) ?_
  intro p e s m args below meth c Q hx hb hml hown hts hP hK hret ls hl
  replace hl : lv_has ls 2 [(0, .ref f0)] := hl
  have hf15 := hts (.fieldLink RX0 15 "KindGuesser$ByteSide" "byteCount" "I") (by decide +kernel)
  have hf9 := hts (.fieldLink RX0 9 "KindGuesser$ByteSide" "values" "[I") (by decide +kernel)
  have hiX0 : ∀ q ∈ wsX00, q ∈ wsX0_isText := by decide +kernel
  refine lv_iconst (v := (nI 0)) hx hb dX0_isText_0 rfl ?_
  refine lv_istore_n (lv' := [(1, .int (nI 0)), (0, .ref f0)]) hx hb dX0_isText_1 rfl hl (by decide) rfl (fun ls hl => ?_)
  have lp2 : ∀ (n1 : Nat) (q : Nat), nb - q < n1 → (q ≤ nb) → (alB (fun i => tbB (vb i)) q = true) → ∀ ls : Array Slot, lv_has ls 2 [(1, .int (nI q)), (0, .ref f0)] → W p l e (rmO 1 0 0 20) s m args below meth c s.heap [] 0 0 Q (F0 m 2 ls []) := by
    intro n1
    induction n1 with
    | zero => intro q hm; exact absurd hm (Nat.not_lt_zero _)
    | succ n1 ih2 =>
      intro q hm2 h1 h2 ls hl
      refine lv_iload_n hx hb dX0_isText_2 rfl (lv_at hl 0 rfl) ?_
      refine lv_aload_n hx hb dX0_isText_3 rfl (lv_at hl 1 rfl) ?_
      refine va_get (D := D) (ci := 0) (v := .int (nI nb)) (C := RX0) (T := TX0) (N := 12) hx hb hts hiX0 hown hK hP 0 rfl rfl 1 (by decide) hf15 (fun _ h9 => h9) rfl dX0_isText_4 ?_
      refine ln_icmp_ge (tgt := 30) hx hb (by omega) (by omega) dX0_isText_7 (by decide) (fun c7 => ?_) (fun c7 => ?_)
      · refine lv_iconst (v := (nI 1)) hx hb dX0_isText_30 rfl ?_
        exact hret 31 ls _ (bI_t (by rw [show nb = q from by omega]; exact h2)) dX0_isText_31
      · refine lv_aload_n hx hb dX0_isText_10 rfl (lv_at hl 1 rfl) ?_
        refine va_get (D := D) (ci := 0) (v := .ref f1) (C := RX0) (T := TX0) (N := 12) hx hb hts hiX0 hown hK hP 0 rfl rfl 0 (by decide) hf9 (fun _ h9 => h9) rfl dX0_isText_11 ?_
        refine lv_iload_n hx hb dX0_isText_14 rfl (lv_at hl 0 rfl) ?_
        refine ln_iald hx hb hK hP 1 0 rfl rfl (by omega) (by decide) dX0_isText_15 ?_
        refine rd_S (own := RX0) (As := [.int (vb q)]) (rest := []) (bytes := cX0_isTextByte) (maxL := 1) ⟨hx, hb, hml, hown, hts⟩ (kX0_isTextByte l D y3 (vb q)) gX0_isText_X0_isTextByte rfl hvX0_isTextByte ⟨Nat.le_of_ble_eq_true rfl, Nat.le_of_ble_eq_true rfl⟩ hP hK [] rfl  hl.1 rfl (Nat.le_of_ble_eq_true rfl) dX0_isText_16 ⟨Nat.zero_le _, Nat.zero_le _⟩ (fun r2 hr2 => ?_)
        subst hr2
        refine lb_if_ne (tgt := 24) hx hb dX0_isText_19 (by decide) (fun c19 => ?_) (fun c19 => ?_)
        · refine lv_iinc (v := (nI (q + 1))) (lv' := [(1, .int (nI (q + 1))), (0, .ref f0)]) hx hb dX0_isText_24 hl (k := 0) rfl (nI_add _ _) (by decide) rfl (fun ls hl => ?_)
          refine lv_goto (tgt := 2) hx hb dX0_isText_27 (by decide) ?_
          exact ih2 (q + 1) (by omega) (by omega) (by show (alB _ q && tbB (vb q)) = true; rw [h2, c19]; rfl) _ (lv_sub hl [0, 1] rfl)
        · refine lv_iconst (v := (nI 0)) hx hb dX0_isText_22 rfl ?_
          exact hret 23 ls _ (bI_f (alB_f (q := q) (by omega) c19)) dX0_isText_23
  exact lp2 _ 0 (Nat.lt_succ_self _) (Nat.zero_le _) rfl _ (lv_sub hl [0, 1] rfl)

set_option maxHeartbeats 4000000 in
set_option maxRecDepth 100000 in
theorem kX0_hasRule (l : Launch) (D : va_G) (y3 : ClassId × ClassId × ClassId) (f0 : Nat) (f1 : Nat) (f2 : Nat) (f3 : Nat) (f4 : Nat) (f5 : Nat) (f6 : Nat) (f7 : Nat) (f8 : Nat) (f9 : Nat) (f10 : Nat) (nb : Nat) (nr : Nat) (k : Int32) (hnr : nr ≤ 12) : rdM l yX0_hasRule wsX0_hasRule 0 0 D y3 [(f0, .inr (0, [.ref f1, .int (nI nb), .ref f2, .ref f3, .ref f4, .int (nI nr), .ref f5, .ref f6, .ref f7, .ref f8, .ref f9, .ref f10]))] [.ref f0, .int k] (fun r => r = (bI (inB k nr))) := by
  refine rz_of (cc := cX0_hasRule) (maxL := 2) (by decide) rfl (Nat.le_of_ble_eq_true rfl) ?_
  intro p e s m args below meth c Q hx hb hml hown hts hP hK hret ls hl
  replace hl : lv_has ls 2 [(0, .ref f0), (1, .int k)] := hl
  have hf28 := hts (.fieldLink RX0 28 "KindGuesser$ByteSide" "ruleCount" "I") (by decide +kernel)
  have hiX0 : ∀ q ∈ wsX00, q ∈ wsX0_hasRule := by decide +kernel
  refine lv_iload_n hx hb dX0_hasRule_0 rfl (lv_at hl 1 rfl) ?_
  refine lv_if_lt (tgt := 16) hx hb dX0_hasRule_1 (by decide) (fun c1 => ?_) (fun c1 => ?_)
  · refine lv_iconst (v := (nI 0)) hx hb dX0_hasRule_16 rfl ?_
    exact hret 17 ls _ (bI_f (by first | exact inB_f0 c1 | exact inB_f1 c9 (by omega))) dX0_hasRule_17
  · refine lv_iload_n hx hb dX0_hasRule_4 rfl (lv_at hl 1 rfl) ?_
    refine lv_aload_n hx hb dX0_hasRule_5 rfl (lv_at hl 0 rfl) ?_
    refine va_get (D := D) (ci := 0) (v := .int (nI nr)) (C := RX0) (T := TX0) (N := 12) hx hb hts hiX0 hown hK hP 0 rfl rfl 5 (by decide) hf28 (fun _ h9 => h9) rfl dX0_hasRule_6 ?_
    refine lv_icmp_ge (tgt := 16) hx hb dX0_hasRule_9 (by decide) (fun c9 => ?_) (fun c9 => ?_)
    · refine lv_iconst (v := (nI 0)) hx hb dX0_hasRule_16 rfl ?_
      exact hret 17 ls _ (bI_f (by first | exact inB_f0 c1 | exact inB_f1 c9 (by omega))) dX0_hasRule_17
    · refine lv_iconst (v := (nI 1)) hx hb dX0_hasRule_12 rfl ?_
      refine lv_goto (tgt := 17) hx hb dX0_hasRule_13 (by decide) ?_
      exact hret 17 ls _ (bI_t (inB_t c1 c9 (by omega))) dX0_hasRule_17

set_option maxHeartbeats 4000000 in
set_option maxRecDepth 100000 in
theorem kX0_isFullOfRules (l : Launch) (D : va_G) (y3 : ClassId × ClassId × ClassId) (f0 : Nat) (f1 : Nat) (f2 : Nat) (f3 : Nat) (f4 : Nat) (f5 : Nat) (f6 : Nat) (f7 : Nat) (f8 : Nat) (f9 : Nat) (f10 : Nat) (nb : Nat) (nr : Nat) (hnr : nr ≤ 12) : rdM l yX0_isFullOfRules wsX0_isFullOfRules 0 0 D y3 [(f0, .inr (0, [.ref f1, .int (nI nb), .ref f2, .ref f3, .ref f4, .int (nI nr), .ref f5, .ref f6, .ref f7, .ref f8, .ref f9, .ref f10]))] [.ref f0] (fun r => r = (bI (decide (12 ≤ nr)))) := by
  refine rz_of (cc := cX0_isFullOfRules) (maxL := 1) (by decide) rfl (Nat.le_of_ble_eq_true rfl) ?_
  intro p e s m args below meth c Q hx hb hml hown hts hP hK hret ls hl
  replace hl : lv_has ls 1 [(0, .ref f0)] := hl
  have hf28 := hts (.fieldLink RX0 28 "KindGuesser$ByteSide" "ruleCount" "I") (by decide +kernel)
  have hiX0 : ∀ q ∈ wsX00, q ∈ wsX0_isFullOfRules := by decide +kernel
  refine lv_aload_n hx hb dX0_isFullOfRules_0 rfl (lv_at hl 0 rfl) ?_
  refine va_get (D := D) (ci := 0) (v := .int (nI nr)) (C := RX0) (T := TX0) (N := 12) hx hb hts hiX0 hown hK hP 0 rfl rfl 5 (by decide) hf28 (fun _ h9 => h9) rfl dX0_isFullOfRules_1 ?_
  refine lv_bipush (v := (nI 12)) hx hb dX0_isFullOfRules_4 rfl ?_
  refine ln_icmp_lt (tgt := 13) hx hb (by omega) (by omega) dX0_isFullOfRules_6 (by decide) (fun c6 => ?_) (fun c6 => ?_)
  · refine lv_iconst (v := (nI 0)) hx hb dX0_isFullOfRules_13 rfl ?_
    exact hret 14 ls _ (bI_df (by omega)) dX0_isFullOfRules_14
  · refine lv_iconst (v := (nI 1)) hx hb dX0_isFullOfRules_9 rfl ?_
    refine lv_goto (tgt := 14) hx hb dX0_isFullOfRules_10 (by decide) ?_
    exact hret 14 ls _ (bI_dt (by omega)) dX0_isFullOfRules_14

set_option maxHeartbeats 4000000 in
set_option maxRecDepth 100000 in
theorem kX0_addRule (l : Launch) (D : va_G) (y3 : ClassId × ClassId × ClassId) (f0 : Nat) (f1 : Nat) (f2 : Nat) (f3 : Nat) (f4 : Nat) (f5 : Nat) (f6 : Nat) (f7 : Nat) (f8 : Nat) (f9 : Nat) (f10 : Nat) (nb : Nat) (nr : Nat) (kr : Nat → Nat) (pr : Nat → Int32) (kd : Nat) (w : Int32) (hnr : nr < 12) : wrM l yX0_addRule wsX0_addRule 0 0 0 0 D y3 [(f0, .inr (0, [.ref f1, .int (nI nb), .ref f2, .ref f3, .ref f4, .int (nI nr), .ref f5, .ref f6, .ref f7, .ref f8, .ref f9, .ref f10])), (f2, .inl (y3.1, 12, .inl (fN kr))), (f3, .inl (y3.1, 12, .inl pr))] [.ref f0, .int (nI kd), .int w] (fun r (_ : Unit) => r = (nI nr)) (fun (_ : Unit) => [(f0, .inr (0, [.ref f1, .int (nI nb), .ref f2, .ref f3, .ref f4, .int (nI (nr + 1)), .ref f5, .ref f6, .ref f7, .ref f8, .ref f9, .ref f10])), (f2, .inl (y3.1, 12, .inl (fN (va_up kr nr kd)))), (f3, .inl (y3.1, 12, .inl (upd pr nr w)))]) := by
  refine wr_of (cc := cX0_addRule) (maxL := 3) (by decide) rfl (Nat.le_of_ble_eq_true rfl) ?_
  intro p e s m args below meth c A Q hx hb hml hown hts hP hK hD hA hS hret ls hl
  replace hl : lv_has ls 3 [(0, .ref f0), (1, .int (nI kd)), (2, .int w)] := hl
  have hf19 := hts (.fieldLink RX0 19 "KindGuesser$ByteSide" "kindsOfRules" "[I") (by decide +kernel)
  have hf22 := hts (.fieldLink RX0 22 "KindGuesser$ByteSide" "priorities" "[I") (by decide +kernel)
  have hf28 := hts (.fieldLink RX0 28 "KindGuesser$ByteSide" "ruleCount" "I") (by decide +kernel)
  have hiX0 : ∀ q ∈ wsX00, q ∈ wsX0_addRule := by decide +kernel
  refine lv_aload_n hx hb dX0_addRule_0 rfl (lv_at hl 0 rfl) ?_
  refine va_get (D := D) (ci := 0) (v := .ref f2) (C := RX0) (T := TX0) (N := 12) hx hb hts hiX0 hown hK hP 0 rfl rfl 2 (by decide) hf19 (fun _ h9 => h9) rfl dX0_addRule_1 ?_
  refine lv_aload_n hx hb dX0_addRule_4 rfl (lv_at hl 0 rfl) ?_
  refine va_get (D := D) (ci := 0) (v := .int (nI nr)) (C := RX0) (T := TX0) (N := 12) hx hb hts hiX0 hown hK hP 0 rfl rfl 5 (by decide) hf28 (fun _ h9 => h9) rfl dX0_addRule_5 ?_
  refine lv_iload_n hx hb dX0_addRule_8 rfl (lv_at hl 1 rfl) ?_
  refine ln_iastN hx hb hK hP hD hS 1 0 rfl rfl (by omega) (by decide) dX0_addRule_9 _ rfl (fun H locs hP hD hS => ?_)
  have hP : va_P D vwCl [(f0, .inr (0, [.ref f1, .int (nI nb), .ref f2, .ref f3, .ref f4, .int (nI nr), .ref f5, .ref f6, .ref f7, .ref f8, .ref f9, .ref f10])), (f2, .inl (y3.1, 12, .inl (fN (va_up kr nr kd)))), (f3, .inl (y3.1, 12, .inl pr))] H := hP
  have hD : va_D A [(f0, .inr (0, [.ref f1, .int (nI nb), .ref f2, .ref f3, .ref f4, .int (nI nr), .ref f5, .ref f6, .ref f7, .ref f8, .ref f9, .ref f10])), (f2, .inl (y3.1, 12, .inl (fN (va_up kr nr kd)))), (f3, .inl (y3.1, 12, .inl pr))] := hD
  refine lv_aload_n hx hb dX0_addRule_10 rfl (lv_at hl 0 rfl) ?_
  refine va_get (D := D) (ci := 0) (v := .ref f3) (C := RX0) (T := TX0) (N := 12) hx hb hts hiX0 hown hK hP 0 rfl rfl 3 (by decide) hf22 (fun _ h9 => h9) rfl dX0_addRule_11 ?_
  refine lv_aload_n hx hb dX0_addRule_14 rfl (lv_at hl 0 rfl) ?_
  refine va_get (D := D) (ci := 0) (v := .int (nI nr)) (C := RX0) (T := TX0) (N := 12) hx hb hts hiX0 hown hK hP 0 rfl rfl 5 (by decide) hf28 (fun _ h9 => h9) rfl dX0_addRule_15 ?_
  refine lv_iload_n hx hb dX0_addRule_18 rfl (lv_at hl 2 rfl) ?_
  refine ln_iast hx hb hK hP hD hS 2 0 rfl rfl (by omega) (by decide) dX0_addRule_19 _ rfl (fun H locs hP hD hS => ?_)
  have hP : va_P D vwCl [(f0, .inr (0, [.ref f1, .int (nI nb), .ref f2, .ref f3, .ref f4, .int (nI nr), .ref f5, .ref f6, .ref f7, .ref f8, .ref f9, .ref f10])), (f2, .inl (y3.1, 12, .inl (fN (va_up kr nr kd)))), (f3, .inl (y3.1, 12, .inl (upd pr nr w)))] H := hP
  have hD : va_D A [(f0, .inr (0, [.ref f1, .int (nI nb), .ref f2, .ref f3, .ref f4, .int (nI nr), .ref f5, .ref f6, .ref f7, .ref f8, .ref f9, .ref f10])), (f2, .inl (y3.1, 12, .inl (fN (va_up kr nr kd)))), (f3, .inl (y3.1, 12, .inl (upd pr nr w)))] := hD
  refine lv_aload_n hx hb dX0_addRule_20 rfl (lv_at hl 0 rfl) ?_
  refine lv_dup hx hb dX0_addRule_21 rfl ?_
  refine va_get (D := D) (ci := 0) (v := .int (nI nr)) (C := RX0) (T := TX0) (N := 12) hx hb hts hiX0 hown hK hP 0 rfl rfl 5 (by decide) hf28 (fun _ h9 => h9) rfl dX0_addRule_22 ?_
  refine lv_iconst (v := (nI 1)) hx hb dX0_addRule_25 rfl ?_
  refine ln_iadd (n := nr + 1) hx hb rfl dX0_addRule_26 ?_
  refine va_put (D := D) (ci := 0) (v := .int (nI (nr + 1))) (ty := .int) (C := RX0) (T := TX0) (N := 12) hx hb hts hiX0 tyX0 tyX0_ok nmX0 hown hK hP hD hS 0 rfl rfl 5 (by decide) hf28 (fun _ h9 => h9) rfl (by decide +kernel) rfl rfl (Nat.le_of_ble_eq_true rfl) dX0_addRule_27 (fun H locs hP hD hS => ?_)
  have hP : va_P D vwCl [(f0, .inr (0, [.ref f1, .int (nI nb), .ref f2, .ref f3, .ref f4, .int (nI (nr + 1)), .ref f5, .ref f6, .ref f7, .ref f8, .ref f9, .ref f10])), (f2, .inl (y3.1, 12, .inl (fN (va_up kr nr kd)))), (f3, .inl (y3.1, 12, .inl (upd pr nr w)))] H := hP
  have hD : va_D A [(f0, .inr (0, [.ref f1, .int (nI nb), .ref f2, .ref f3, .ref f4, .int (nI (nr + 1)), .ref f5, .ref f6, .ref f7, .ref f8, .ref f9, .ref f10])), (f2, .inl (y3.1, 12, .inl (fN (va_up kr nr kd)))), (f3, .inl (y3.1, 12, .inl (upd pr nr w)))] := hD
  refine lv_aload_n hx hb dX0_addRule_30 rfl (lv_at hl 0 rfl) ?_
  refine va_get (D := D) (ci := 0) (v := .int (nI (nr + 1))) (C := RX0) (T := TX0) (N := 12) hx hb hts hiX0 hown hK hP 0 rfl rfl 5 (by decide) hf28 (fun _ h9 => h9) rfl dX0_addRule_31 ?_
  refine lv_iconst (v := (nI 1)) hx hb dX0_addRule_34 rfl ?_
  refine ln_isub (n := nr) hx hb (by omega) (by omega) dX0_addRule_35 ?_
  exact hret 36 ls H locs _ _ () _ hP hD hS (Nat.le_of_ble_eq_true rfl) (Nat.le_of_ble_eq_true rfl) rfl dX0_addRule_36

set_option maxHeartbeats 4000000 in
set_option maxRecDepth 100000 in
theorem kX0_greatestNextLevel (l : Launch) (D : va_G) (y3 : ClassId × ClassId × ClassId) (f0 : Nat) (f1 : Nat) (f2 : Nat) (f3 : Nat) (f4 : Nat) (f5 : Nat) (f6 : Nat) (f7 : Nat) (f8 : Nat) (f9 : Nat) (f10 : Nat) (nb : Nat) (nr : Nat) (tc : Nat → Nat) (lev : Nat → Nat) (j : Nat) (hj : j < 12) (htc : ∀ q : Nat, tc q ≤ 6) : rdM l yX0_greatestNextLevel wsX0_greatestNextLevel 0 0 D y3 [(f0, .inr (0, [.ref f1, .int (nI nb), .ref f2, .ref f3, .ref f4, .int (nI nr), .ref f5, .ref f6, .ref f7, .ref f8, .ref f9, .ref f10])), (f4, .inl (y3.1, 12, .inl (fN tc))), (f5, .inl (y3.1, 72, .inl (fN lev)))] [.ref f0, .int (nI j)] (fun r => r = (nI (gnl lev tc j))) := by
  refine rd_of (cc := cX0_greatestNextLevel) (maxL := 3) (by decide) rfl (Nat.le_of_ble_eq_true rfl) ?_
  intro p e s m args below meth c Q hx hb hml hown hts hP hK hret ls hl
  replace hl : lv_has ls 3 [(0, .ref f0), (1, .int (nI j))] := hl
  have q1 := htc j
  have hf25 := hts (.fieldLink RX0 25 "KindGuesser$ByteSide" "testCounts" "[I") (by decide +kernel)
  have hf31 := hts (.fieldLink RX0 31 "KindGuesser$ByteSide" "levels" "[I") (by decide +kernel)
  have hiX0 : ∀ q ∈ wsX00, q ∈ wsX0_greatestNextLevel := by decide +kernel
  refine lv_aload_n hx hb dX0_greatestNextLevel_0 rfl (lv_at hl 0 rfl) ?_
  refine va_get (D := D) (ci := 0) (v := .ref f4) (C := RX0) (T := TX0) (N := 12) hx hb hts hiX0 hown hK hP 0 rfl rfl 4 (by decide) hf25 (fun _ h9 => h9) rfl dX0_greatestNextLevel_1 ?_
  refine lv_iload_n hx hb dX0_greatestNextLevel_4 rfl (lv_at hl 1 rfl) ?_
  refine ln_ialdN hx hb hK hP 1 0 rfl rfl (by omega) (by decide) dX0_greatestNextLevel_5 ?_
  refine lv_istore_n (lv' := [(2, .int (nI (tc j))), (0, .ref f0), (1, .int (nI j))]) hx hb dX0_greatestNextLevel_6 rfl hl (by decide) rfl (fun ls hl => ?_)
  refine lv_iload_n hx hb dX0_greatestNextLevel_7 rfl (lv_at hl 0 rfl) ?_
  refine ln_if_ne (tgt := 15) hx hb (by omega) dX0_greatestNextLevel_8 (by decide) (fun c8 => ?_) (fun c8 => ?_)
  · refine lv_aload_n hx hb dX0_greatestNextLevel_15 rfl (lv_at hl 1 rfl) ?_
    refine va_get (D := D) (ci := 0) (v := .ref f5) (C := RX0) (T := TX0) (N := 12) hx hb hts hiX0 hown hK hP 0 rfl rfl 6 (by decide) hf31 (fun _ h9 => h9) rfl dX0_greatestNextLevel_16 ?_
    refine lv_iload_n hx hb dX0_greatestNextLevel_19 rfl (lv_at hl 2 rfl) ?_
    refine lv_bipush (v := (nI 6)) hx hb dX0_greatestNextLevel_20 rfl ?_
    refine ln_imul (n := j * 6) hx hb (by omega) dX0_greatestNextLevel_22 ?_
    refine lv_iload_n hx hb dX0_greatestNextLevel_23 rfl (lv_at hl 0 rfl) ?_
    refine ln_iadd (n := (j * 6) + (tc j)) hx hb (by omega) dX0_greatestNextLevel_24 ?_
    refine lv_iconst (v := (nI 1)) hx hb dX0_greatestNextLevel_25 rfl ?_
    refine ln_isub (n := ((j * 6) + (tc j)) - 1) hx hb (by omega) (by omega) dX0_greatestNextLevel_26 ?_
    refine ln_ialdN hx hb hK hP 2 0 rfl rfl (by omega) (by decide) dX0_greatestNextLevel_27 ?_
    refine lv_iconst (v := (nI 1)) hx hb dX0_greatestNextLevel_28 rfl ?_
    refine ln_iadd (n := (lev (((j * 6) + (tc j)) - 1)) + 1) hx hb rfl dX0_greatestNextLevel_29 ?_
    exact hret 30 ls _ (by unfold gnl; first | (rw [if_pos c8]; done) | rw [if_neg c8]) dX0_greatestNextLevel_30
  · refine lv_iconst (v := (nI 0)) hx hb dX0_greatestNextLevel_11 rfl ?_
    refine lv_goto (tgt := 30) hx hb dX0_greatestNextLevel_12 (by decide) ?_
    exact hret 30 ls _ (by unfold gnl; first | (rw [if_pos c8]; done) | rw [if_neg c8]) dX0_greatestNextLevel_30

set_option maxHeartbeats 4000000 in
set_option maxRecDepth 100000 in
theorem kX0_isFullOfTests (l : Launch) (D : va_G) (y3 : ClassId × ClassId × ClassId) (f0 : Nat) (f1 : Nat) (f2 : Nat) (f3 : Nat) (f4 : Nat) (f5 : Nat) (f6 : Nat) (f7 : Nat) (f8 : Nat) (f9 : Nat) (f10 : Nat) (nb : Nat) (nr : Nat) (tc : Nat → Nat) (j : Nat) (hj : j < 12) (htc : ∀ q : Nat, tc q ≤ 6) : rdM l yX0_isFullOfTests wsX0_isFullOfTests 0 0 D y3 [(f0, .inr (0, [.ref f1, .int (nI nb), .ref f2, .ref f3, .ref f4, .int (nI nr), .ref f5, .ref f6, .ref f7, .ref f8, .ref f9, .ref f10])), (f4, .inl (y3.1, 12, .inl (fN tc)))] [.ref f0, .int (nI j)] (fun r => r = (bI (decide (6 ≤ tc j)))) := by
  refine rz_of (cc := cX0_isFullOfTests) (maxL := 2) (by decide) rfl (Nat.le_of_ble_eq_true rfl) ?_
  intro p e s m args below meth c Q hx hb hml hown hts hP hK hret ls hl
  replace hl : lv_has ls 2 [(0, .ref f0), (1, .int (nI j))] := hl
  have q1 := htc j
  have hf25 := hts (.fieldLink RX0 25 "KindGuesser$ByteSide" "testCounts" "[I") (by decide +kernel)
  have hiX0 : ∀ q ∈ wsX00, q ∈ wsX0_isFullOfTests := by decide +kernel
  refine lv_aload_n hx hb dX0_isFullOfTests_0 rfl (lv_at hl 0 rfl) ?_
  refine va_get (D := D) (ci := 0) (v := .ref f4) (C := RX0) (T := TX0) (N := 12) hx hb hts hiX0 hown hK hP 0 rfl rfl 4 (by decide) hf25 (fun _ h9 => h9) rfl dX0_isFullOfTests_1 ?_
  refine lv_iload_n hx hb dX0_isFullOfTests_4 rfl (lv_at hl 1 rfl) ?_
  refine ln_ialdN hx hb hK hP 1 0 rfl rfl (by omega) (by decide) dX0_isFullOfTests_5 ?_
  refine lv_bipush (v := (nI 6)) hx hb dX0_isFullOfTests_6 rfl ?_
  refine ln_icmp_lt (tgt := 15) hx hb (by omega) (by omega) dX0_isFullOfTests_8 (by decide) (fun c8 => ?_) (fun c8 => ?_)
  · refine lv_iconst (v := (nI 0)) hx hb dX0_isFullOfTests_15 rfl ?_
    exact hret 16 ls _ (bI_df (by omega)) dX0_isFullOfTests_16
  · refine lv_iconst (v := (nI 1)) hx hb dX0_isFullOfTests_11 rfl ?_
    refine lv_goto (tgt := 16) hx hb dX0_isFullOfTests_12 (by decide) ?_
    exact hret 16 ls _ (bI_dt (by omega)) dX0_isFullOfTests_16

set_option maxHeartbeats 4000000 in
set_option maxRecDepth 100000 in
theorem kX0_addTest (l : Launch) (D : va_G) (y3 : ClassId × ClassId × ClassId) (f0 : Nat) (f1 : Nat) (f2 : Nat) (f3 : Nat) (f4 : Nat) (f5 : Nat) (f6 : Nat) (f7 : Nat) (f8 : Nat) (f9 : Nat) (f10 : Nat) (nb : Nat) (nr : Nat) (tc : Nat → Nat) (lev : Nat → Nat) (fo : Nat → Nat) (tu : Nat → Nat) (wn : Nat → Int32) (mk : Nat → Int32) (j : Nat) (a1 : Nat) (a2 : Nat) (a3 : Nat) (a4 : Int32) (a5 : Int32) (hj : j < 12) (htj : tc j < 6) : wrM l yX0_addTest wsX0_addTest 0 0 0 0 D y3 [(f0, .inr (0, [.ref f1, .int (nI nb), .ref f2, .ref f3, .ref f4, .int (nI nr), .ref f5, .ref f6, .ref f7, .ref f8, .ref f9, .ref f10])), (f4, .inl (y3.1, 12, .inl (fN tc))), (f5, .inl (y3.1, 72, .inl (fN lev))), (f6, .inl (y3.1, 72, .inl (fN fo))), (f7, .inl (y3.1, 72, .inl (fN tu))), (f8, .inl (y3.1, 72, .inl wn)), (f9, .inl (y3.1, 72, .inl mk))] [.ref f0, .int (nI j), .int (nI a1), .int (nI a2), .int (nI a3), .int a4, .int a5] (fun r (_ : Unit) => r = (nI ((tc j) + 1))) (fun (_ : Unit) => [(f0, .inr (0, [.ref f1, .int (nI nb), .ref f2, .ref f3, .ref f4, .int (nI nr), .ref f5, .ref f6, .ref f7, .ref f8, .ref f9, .ref f10])), (f4, .inl (y3.1, 12, .inl (fN (va_up tc j ((tc j) + 1))))), (f5, .inl (y3.1, 72, .inl (fN (va_up lev ((j * 6) + (tc j)) a1)))), (f6, .inl (y3.1, 72, .inl (fN (va_up fo ((j * 6) + (tc j)) a2)))), (f7, .inl (y3.1, 72, .inl (fN (va_up tu ((j * 6) + (tc j)) a3)))), (f8, .inl (y3.1, 72, .inl (upd wn ((j * 6) + (tc j)) a4))), (f9, .inl (y3.1, 72, .inl (upd mk ((j * 6) + (tc j)) a5)))]) := by
  refine wr_of (cc := cX0_addTest) (maxL := 8) (by decide) rfl (Nat.le_of_ble_eq_true rfl) ?_
  intro p e s m args below meth c A Q hx hb hml hown hts hP hK hD hA hS hret ls hl
  replace hl : lv_has ls 8 [(0, .ref f0), (1, .int (nI j)), (2, .int (nI a1)), (3, .int (nI a2)), (4, .int (nI a3)), (5, .int a4), (6, .int a5)] := hl
  have hf25 := hts (.fieldLink RX0 25 "KindGuesser$ByteSide" "testCounts" "[I") (by decide +kernel)
  have hf31 := hts (.fieldLink RX0 31 "KindGuesser$ByteSide" "levels" "[I") (by decide +kernel)
  have hf34 := hts (.fieldLink RX0 34 "KindGuesser$ByteSide" "froms" "[I") (by decide +kernel)
  have hf37 := hts (.fieldLink RX0 37 "KindGuesser$ByteSide" "tos" "[I") (by decide +kernel)
  have hf40 := hts (.fieldLink RX0 40 "KindGuesser$ByteSide" "wanted" "[I") (by decide +kernel)
  have hf43 := hts (.fieldLink RX0 43 "KindGuesser$ByteSide" "masks" "[I") (by decide +kernel)
  have hiX0 : ∀ q ∈ wsX00, q ∈ wsX0_addTest := by decide +kernel
  refine lv_iload_n hx hb dX0_addTest_0 rfl (lv_at hl 1 rfl) ?_
  refine lv_bipush (v := (nI 6)) hx hb dX0_addTest_1 rfl ?_
  refine ln_imul (n := j * 6) hx hb (by omega) dX0_addTest_3 ?_
  refine lv_aload_n hx hb dX0_addTest_4 rfl (lv_at hl 0 rfl) ?_
  refine va_get (D := D) (ci := 0) (v := .ref f4) (C := RX0) (T := TX0) (N := 12) hx hb hts hiX0 hown hK hP 0 rfl rfl 4 (by decide) hf25 (fun _ h9 => h9) rfl dX0_addTest_5 ?_
  refine lv_iload_n hx hb dX0_addTest_8 rfl (lv_at hl 1 rfl) ?_
  refine ln_ialdN hx hb hK hP 1 0 rfl rfl (by omega) (by decide) dX0_addTest_9 ?_
  refine ln_iadd (n := (j * 6) + (tc j)) hx hb (by omega) dX0_addTest_10 ?_
  refine lv_istore (lv' := [(7, .int (nI ((j * 6) + (tc j)))), (0, .ref f0), (1, .int (nI j)), (2, .int (nI a1)), (3, .int (nI a2)), (4, .int (nI a3)), (5, .int a4), (6, .int a5)]) hx hb dX0_addTest_11 hl (by decide) rfl (fun ls hl => ?_)
  refine lv_aload_n hx hb dX0_addTest_13 rfl (lv_at hl 1 rfl) ?_
  refine va_get (D := D) (ci := 0) (v := .ref f5) (C := RX0) (T := TX0) (N := 12) hx hb hts hiX0 hown hK hP 0 rfl rfl 6 (by decide) hf31 (fun _ h9 => h9) rfl dX0_addTest_14 ?_
  refine lv_iload hx hb dX0_addTest_17 (lv_at hl 0 rfl) ?_
  refine lv_iload_n hx hb dX0_addTest_19 rfl (lv_at hl 3 rfl) ?_
  refine ln_iastN hx hb hK hP hD hS 2 0 rfl rfl (by omega) (by decide) dX0_addTest_20 _ rfl (fun H locs hP hD hS => ?_)
  have hP : va_P D vwCl [(f0, .inr (0, [.ref f1, .int (nI nb), .ref f2, .ref f3, .ref f4, .int (nI nr), .ref f5, .ref f6, .ref f7, .ref f8, .ref f9, .ref f10])), (f4, .inl (y3.1, 12, .inl (fN tc))), (f5, .inl (y3.1, 72, .inl (fN (va_up lev ((j * 6) + (tc j)) a1)))), (f6, .inl (y3.1, 72, .inl (fN fo))), (f7, .inl (y3.1, 72, .inl (fN tu))), (f8, .inl (y3.1, 72, .inl wn)), (f9, .inl (y3.1, 72, .inl mk))] H := hP
  have hD : va_D A [(f0, .inr (0, [.ref f1, .int (nI nb), .ref f2, .ref f3, .ref f4, .int (nI nr), .ref f5, .ref f6, .ref f7, .ref f8, .ref f9, .ref f10])), (f4, .inl (y3.1, 12, .inl (fN tc))), (f5, .inl (y3.1, 72, .inl (fN (va_up lev ((j * 6) + (tc j)) a1)))), (f6, .inl (y3.1, 72, .inl (fN fo))), (f7, .inl (y3.1, 72, .inl (fN tu))), (f8, .inl (y3.1, 72, .inl wn)), (f9, .inl (y3.1, 72, .inl mk))] := hD
  refine lv_aload_n hx hb dX0_addTest_21 rfl (lv_at hl 1 rfl) ?_
  refine va_get (D := D) (ci := 0) (v := .ref f6) (C := RX0) (T := TX0) (N := 12) hx hb hts hiX0 hown hK hP 0 rfl rfl 7 (by decide) hf34 (fun _ h9 => h9) rfl dX0_addTest_22 ?_
  refine lv_iload hx hb dX0_addTest_25 (lv_at hl 0 rfl) ?_
  refine lv_iload_n hx hb dX0_addTest_27 rfl (lv_at hl 4 rfl) ?_
  refine ln_iastN hx hb hK hP hD hS 3 0 rfl rfl (by omega) (by decide) dX0_addTest_28 _ rfl (fun H locs hP hD hS => ?_)
  have hP : va_P D vwCl [(f0, .inr (0, [.ref f1, .int (nI nb), .ref f2, .ref f3, .ref f4, .int (nI nr), .ref f5, .ref f6, .ref f7, .ref f8, .ref f9, .ref f10])), (f4, .inl (y3.1, 12, .inl (fN tc))), (f5, .inl (y3.1, 72, .inl (fN (va_up lev ((j * 6) + (tc j)) a1)))), (f6, .inl (y3.1, 72, .inl (fN (va_up fo ((j * 6) + (tc j)) a2)))), (f7, .inl (y3.1, 72, .inl (fN tu))), (f8, .inl (y3.1, 72, .inl wn)), (f9, .inl (y3.1, 72, .inl mk))] H := hP
  have hD : va_D A [(f0, .inr (0, [.ref f1, .int (nI nb), .ref f2, .ref f3, .ref f4, .int (nI nr), .ref f5, .ref f6, .ref f7, .ref f8, .ref f9, .ref f10])), (f4, .inl (y3.1, 12, .inl (fN tc))), (f5, .inl (y3.1, 72, .inl (fN (va_up lev ((j * 6) + (tc j)) a1)))), (f6, .inl (y3.1, 72, .inl (fN (va_up fo ((j * 6) + (tc j)) a2)))), (f7, .inl (y3.1, 72, .inl (fN tu))), (f8, .inl (y3.1, 72, .inl wn)), (f9, .inl (y3.1, 72, .inl mk))] := hD
  refine lv_aload_n hx hb dX0_addTest_29 rfl (lv_at hl 1 rfl) ?_
  refine va_get (D := D) (ci := 0) (v := .ref f7) (C := RX0) (T := TX0) (N := 12) hx hb hts hiX0 hown hK hP 0 rfl rfl 8 (by decide) hf37 (fun _ h9 => h9) rfl dX0_addTest_30 ?_
  refine lv_iload hx hb dX0_addTest_33 (lv_at hl 0 rfl) ?_
  refine lv_iload hx hb dX0_addTest_35 (lv_at hl 5 rfl) ?_
  refine ln_iastN hx hb hK hP hD hS 4 0 rfl rfl (by omega) (by decide) dX0_addTest_37 _ rfl (fun H locs hP hD hS => ?_)
  have hP : va_P D vwCl [(f0, .inr (0, [.ref f1, .int (nI nb), .ref f2, .ref f3, .ref f4, .int (nI nr), .ref f5, .ref f6, .ref f7, .ref f8, .ref f9, .ref f10])), (f4, .inl (y3.1, 12, .inl (fN tc))), (f5, .inl (y3.1, 72, .inl (fN (va_up lev ((j * 6) + (tc j)) a1)))), (f6, .inl (y3.1, 72, .inl (fN (va_up fo ((j * 6) + (tc j)) a2)))), (f7, .inl (y3.1, 72, .inl (fN (va_up tu ((j * 6) + (tc j)) a3)))), (f8, .inl (y3.1, 72, .inl wn)), (f9, .inl (y3.1, 72, .inl mk))] H := hP
  have hD : va_D A [(f0, .inr (0, [.ref f1, .int (nI nb), .ref f2, .ref f3, .ref f4, .int (nI nr), .ref f5, .ref f6, .ref f7, .ref f8, .ref f9, .ref f10])), (f4, .inl (y3.1, 12, .inl (fN tc))), (f5, .inl (y3.1, 72, .inl (fN (va_up lev ((j * 6) + (tc j)) a1)))), (f6, .inl (y3.1, 72, .inl (fN (va_up fo ((j * 6) + (tc j)) a2)))), (f7, .inl (y3.1, 72, .inl (fN (va_up tu ((j * 6) + (tc j)) a3)))), (f8, .inl (y3.1, 72, .inl wn)), (f9, .inl (y3.1, 72, .inl mk))] := hD
  refine lv_aload_n hx hb dX0_addTest_38 rfl (lv_at hl 1 rfl) ?_
  refine va_get (D := D) (ci := 0) (v := .ref f8) (C := RX0) (T := TX0) (N := 12) hx hb hts hiX0 hown hK hP 0 rfl rfl 9 (by decide) hf40 (fun _ h9 => h9) rfl dX0_addTest_39 ?_
  refine lv_iload hx hb dX0_addTest_42 (lv_at hl 0 rfl) ?_
  refine lv_iload hx hb dX0_addTest_44 (lv_at hl 6 rfl) ?_
  refine ln_iast hx hb hK hP hD hS 5 0 rfl rfl (by omega) (by decide) dX0_addTest_46 _ rfl (fun H locs hP hD hS => ?_)
  have hP : va_P D vwCl [(f0, .inr (0, [.ref f1, .int (nI nb), .ref f2, .ref f3, .ref f4, .int (nI nr), .ref f5, .ref f6, .ref f7, .ref f8, .ref f9, .ref f10])), (f4, .inl (y3.1, 12, .inl (fN tc))), (f5, .inl (y3.1, 72, .inl (fN (va_up lev ((j * 6) + (tc j)) a1)))), (f6, .inl (y3.1, 72, .inl (fN (va_up fo ((j * 6) + (tc j)) a2)))), (f7, .inl (y3.1, 72, .inl (fN (va_up tu ((j * 6) + (tc j)) a3)))), (f8, .inl (y3.1, 72, .inl (upd wn ((j * 6) + (tc j)) a4))), (f9, .inl (y3.1, 72, .inl mk))] H := hP
  have hD : va_D A [(f0, .inr (0, [.ref f1, .int (nI nb), .ref f2, .ref f3, .ref f4, .int (nI nr), .ref f5, .ref f6, .ref f7, .ref f8, .ref f9, .ref f10])), (f4, .inl (y3.1, 12, .inl (fN tc))), (f5, .inl (y3.1, 72, .inl (fN (va_up lev ((j * 6) + (tc j)) a1)))), (f6, .inl (y3.1, 72, .inl (fN (va_up fo ((j * 6) + (tc j)) a2)))), (f7, .inl (y3.1, 72, .inl (fN (va_up tu ((j * 6) + (tc j)) a3)))), (f8, .inl (y3.1, 72, .inl (upd wn ((j * 6) + (tc j)) a4))), (f9, .inl (y3.1, 72, .inl mk))] := hD
  refine lv_aload_n hx hb dX0_addTest_47 rfl (lv_at hl 1 rfl) ?_
  refine va_get (D := D) (ci := 0) (v := .ref f9) (C := RX0) (T := TX0) (N := 12) hx hb hts hiX0 hown hK hP 0 rfl rfl 10 (by decide) hf43 (fun _ h9 => h9) rfl dX0_addTest_48 ?_
  refine lv_iload hx hb dX0_addTest_51 (lv_at hl 0 rfl) ?_
  refine lv_iload hx hb dX0_addTest_53 (lv_at hl 7 rfl) ?_
  refine ln_iast hx hb hK hP hD hS 6 0 rfl rfl (by omega) (by decide) dX0_addTest_55 _ rfl (fun H locs hP hD hS => ?_)
  have hP : va_P D vwCl [(f0, .inr (0, [.ref f1, .int (nI nb), .ref f2, .ref f3, .ref f4, .int (nI nr), .ref f5, .ref f6, .ref f7, .ref f8, .ref f9, .ref f10])), (f4, .inl (y3.1, 12, .inl (fN tc))), (f5, .inl (y3.1, 72, .inl (fN (va_up lev ((j * 6) + (tc j)) a1)))), (f6, .inl (y3.1, 72, .inl (fN (va_up fo ((j * 6) + (tc j)) a2)))), (f7, .inl (y3.1, 72, .inl (fN (va_up tu ((j * 6) + (tc j)) a3)))), (f8, .inl (y3.1, 72, .inl (upd wn ((j * 6) + (tc j)) a4))), (f9, .inl (y3.1, 72, .inl (upd mk ((j * 6) + (tc j)) a5)))] H := hP
  have hD : va_D A [(f0, .inr (0, [.ref f1, .int (nI nb), .ref f2, .ref f3, .ref f4, .int (nI nr), .ref f5, .ref f6, .ref f7, .ref f8, .ref f9, .ref f10])), (f4, .inl (y3.1, 12, .inl (fN tc))), (f5, .inl (y3.1, 72, .inl (fN (va_up lev ((j * 6) + (tc j)) a1)))), (f6, .inl (y3.1, 72, .inl (fN (va_up fo ((j * 6) + (tc j)) a2)))), (f7, .inl (y3.1, 72, .inl (fN (va_up tu ((j * 6) + (tc j)) a3)))), (f8, .inl (y3.1, 72, .inl (upd wn ((j * 6) + (tc j)) a4))), (f9, .inl (y3.1, 72, .inl (upd mk ((j * 6) + (tc j)) a5)))] := hD
  refine lv_aload_n hx hb dX0_addTest_56 rfl (lv_at hl 1 rfl) ?_
  refine va_get (D := D) (ci := 0) (v := .ref f4) (C := RX0) (T := TX0) (N := 12) hx hb hts hiX0 hown hK hP 0 rfl rfl 4 (by decide) hf25 (fun _ h9 => h9) rfl dX0_addTest_57 ?_
  refine lv_iload_n hx hb dX0_addTest_60 rfl (lv_at hl 2 rfl) ?_
  refine lv_dup2_11 hx hb dX0_addTest_61 rfl rfl ?_
  refine ln_ialdN hx hb hK hP 1 0 rfl rfl (by omega) (by decide) dX0_addTest_62 ?_
  refine lv_iconst (v := (nI 1)) hx hb dX0_addTest_63 rfl ?_
  refine ln_iadd (n := (tc j) + 1) hx hb rfl dX0_addTest_64 ?_
  refine ln_iastN hx hb hK hP hD hS 1 0 rfl rfl (by omega) (by decide) dX0_addTest_65 _ rfl (fun H locs hP hD hS => ?_)
  have hP : va_P D vwCl [(f0, .inr (0, [.ref f1, .int (nI nb), .ref f2, .ref f3, .ref f4, .int (nI nr), .ref f5, .ref f6, .ref f7, .ref f8, .ref f9, .ref f10])), (f4, .inl (y3.1, 12, .inl (fN (va_up tc j ((tc j) + 1))))), (f5, .inl (y3.1, 72, .inl (fN (va_up lev ((j * 6) + (tc j)) a1)))), (f6, .inl (y3.1, 72, .inl (fN (va_up fo ((j * 6) + (tc j)) a2)))), (f7, .inl (y3.1, 72, .inl (fN (va_up tu ((j * 6) + (tc j)) a3)))), (f8, .inl (y3.1, 72, .inl (upd wn ((j * 6) + (tc j)) a4))), (f9, .inl (y3.1, 72, .inl (upd mk ((j * 6) + (tc j)) a5)))] H := hP
  have hD : va_D A [(f0, .inr (0, [.ref f1, .int (nI nb), .ref f2, .ref f3, .ref f4, .int (nI nr), .ref f5, .ref f6, .ref f7, .ref f8, .ref f9, .ref f10])), (f4, .inl (y3.1, 12, .inl (fN (va_up tc j ((tc j) + 1))))), (f5, .inl (y3.1, 72, .inl (fN (va_up lev ((j * 6) + (tc j)) a1)))), (f6, .inl (y3.1, 72, .inl (fN (va_up fo ((j * 6) + (tc j)) a2)))), (f7, .inl (y3.1, 72, .inl (fN (va_up tu ((j * 6) + (tc j)) a3)))), (f8, .inl (y3.1, 72, .inl (upd wn ((j * 6) + (tc j)) a4))), (f9, .inl (y3.1, 72, .inl (upd mk ((j * 6) + (tc j)) a5)))] := hD
  refine lv_aload_n hx hb dX0_addTest_66 rfl (lv_at hl 1 rfl) ?_
  refine va_get (D := D) (ci := 0) (v := .ref f4) (C := RX0) (T := TX0) (N := 12) hx hb hts hiX0 hown hK hP 0 rfl rfl 4 (by decide) hf25 (fun _ h9 => h9) rfl dX0_addTest_67 ?_
  refine lv_iload_n hx hb dX0_addTest_70 rfl (lv_at hl 2 rfl) ?_
  refine ln_ialdN hx hb hK hP 1 0 rfl rfl (by omega) (by decide) dX0_addTest_71 ?_
  refine ln_eqi (y := (nI ((tc j) + 1))) (by rw [up_s]) ?_
  exact hret 72 ls H locs _ _ () _ hP hD hS (Nat.le_of_ble_eq_true rfl) (Nat.le_of_ble_eq_true rfl) rfl dX0_addTest_72

set_option maxHeartbeats 4000000 in
set_option maxRecDepth 100000 in
theorem kX0_kindOf (l : Launch) (D : va_G) (y3 : ClassId × ClassId × ClassId) (f0 : Nat) (f1 : Nat) (f2 : Nat) (f3 : Nat) (f4 : Nat) (f5 : Nat) (f6 : Nat) (f7 : Nat) (f8 : Nat) (f9 : Nat) (f10 : Nat) (nb : Nat) (nr : Nat) (kr : Nat → Nat) (k : Int32) (hnr : nr ≤ 12) : rdM l yX0_kindOf wsX0_kindOf 1 21 D y3 [(f0, .inr (0, [.ref f1, .int (nI nb), .ref f2, .ref f3, .ref f4, .int (nI nr), .ref f5, .ref f6, .ref f7, .ref f8, .ref f9, .ref f10])), (f2, .inl (y3.1, 12, .inl (fN kr)))] [.ref f0, .int k] (fun r => r = (kndR nr kr k)) := by
  refine rd_of (cc := cX0_kindOf) (maxL := 2) (by decide) rfl (Nat.le_of_ble_eq_true rfl) ?_
  intro p e s m args below meth c Q hx hb hml hown hts hP hK hret ls hl
  replace hl : lv_has ls 2 [(0, .ref f0), (1, .int k)] := hl
  have hf19 := hts (.fieldLink RX0 19 "KindGuesser$ByteSide" "kindsOfRules" "[I") (by decide +kernel)
  have hiX0 : ∀ q ∈ wsX00, q ∈ wsX0_kindOf := by decide +kernel
  refine lv_aload_n hx hb dX0_kindOf_0 rfl (lv_at hl 0 rfl) ?_
  refine lv_iload_n hx hb dX0_kindOf_1 rfl (lv_at hl 1 rfl) ?_
  refine rd_V (ci := 0) (q0 := 0) (own := RX0) (As := [.int k]) (rest := []) (bytes := cX0_hasRule) (maxL := 2) ⟨hx, hb, hml, hown, hts⟩ (kX0_hasRule l D y3 f0 f1 f2 f3 f4 f5 f6 f7 f8 f9 f10 nb nr k (by omega)) gX0_kindOf_X0_hasRule rfl hvX0_hasRule ⟨Nat.le_of_ble_eq_true rfl, Nat.le_of_ble_eq_true rfl⟩ hP hK [0] rfl rfl rfl hl.1 rfl (Nat.le_of_ble_eq_true rfl) dX0_kindOf_2 ⟨Nat.zero_le _, Nat.zero_le _⟩ (fun r1 hr1 => ?_)
  subst hr1
  refine lb_if_eq (tgt := 17) hx hb dX0_kindOf_5 (by decide) (fun c5 => ?_) (fun c5 => ?_)
  · refine lv_iconst (v := (-1)) hx hb dX0_kindOf_17 rfl ?_
    exact hret 18 ls _ (by unfold kndR; rw [c5]; rfl) dX0_kindOf_18
  · refine lv_aload_n hx hb dX0_kindOf_8 rfl (lv_at hl 0 rfl) ?_
    refine va_get (D := D) (ci := 0) (v := .ref f2) (C := RX0) (T := TX0) (N := 12) hx hb hts hiX0 hown hK hP 0 rfl rfl 2 (by decide) hf19 (fun _ h9 => h9) rfl dX0_kindOf_9 ?_
    refine lv_iload_n hx hb dX0_kindOf_12 rfl (lv_at hl 1 rfl) ?_
    obtain ⟨j, hj, ej⟩ := inB_N c5 (by omega)
    refine ln_eqi (y := (nI j)) ej ?_
    refine ln_ialdN hx hb hK hP 1 0 rfl rfl (by omega) (by decide) dX0_kindOf_13 ?_
    refine lv_goto (tgt := 18) hx hb dX0_kindOf_14 (by decide) ?_
    exact hret 18 ls _ (by rw [ej, kndR_N hj (by omega)]) dX0_kindOf_18

set_option maxHeartbeats 4000000 in
set_option maxRecDepth 100000 in
theorem kX0_isStrong (l : Launch) (D : va_G) (y3 : ClassId × ClassId × ClassId) (f0 : Nat) (f1 : Nat) (f2 : Nat) (f3 : Nat) (f4 : Nat) (f5 : Nat) (f6 : Nat) (f7 : Nat) (f8 : Nat) (f9 : Nat) (f10 : Nat) (nb : Nat) (nr : Nat) (pr : Nat → Int32) (k : Int32) (hnr : nr ≤ 12) : rdM l yX0_isStrong wsX0_isStrong 1 21 D y3 [(f0, .inr (0, [.ref f1, .int (nI nb), .ref f2, .ref f3, .ref f4, .int (nI nr), .ref f5, .ref f6, .ref f7, .ref f8, .ref f9, .ref f10])), (f3, .inl (y3.1, 12, .inl pr))] [.ref f0, .int k] (fun r => r = (bI (stgB nr pr k))) := by
  refine rz_of (cc := cX0_isStrong) (maxL := 2) (by decide) rfl (Nat.le_of_ble_eq_true rfl) ?_
  intro p e s m args below meth c Q hx hb hml hown hts hP hK hret ls hl
  replace hl : lv_has ls 2 [(0, .ref f0), (1, .int k)] := hl
  have hf22 := hts (.fieldLink RX0 22 "KindGuesser$ByteSide" "priorities" "[I") (by decide +kernel)
  have hiX0 : ∀ q ∈ wsX00, q ∈ wsX0_isStrong := by decide +kernel
  refine lv_aload_n hx hb dX0_isStrong_0 rfl (lv_at hl 0 rfl) ?_
  refine lv_iload_n hx hb dX0_isStrong_1 rfl (lv_at hl 1 rfl) ?_
  refine rd_V (ci := 0) (q0 := 0) (own := RX0) (As := [.int k]) (rest := []) (bytes := cX0_hasRule) (maxL := 2) ⟨hx, hb, hml, hown, hts⟩ (kX0_hasRule l D y3 f0 f1 f2 f3 f4 f5 f6 f7 f8 f9 f10 nb nr k (by omega)) gX0_isStrong_X0_hasRule rfl hvX0_hasRule ⟨Nat.le_of_ble_eq_true rfl, Nat.le_of_ble_eq_true rfl⟩ hP hK [0] rfl rfl rfl hl.1 rfl (Nat.le_of_ble_eq_true rfl) dX0_isStrong_2 ⟨Nat.zero_le _, Nat.zero_le _⟩ (fun r1 hr1 => ?_)
  subst hr1
  refine lb_if_eq (tgt := 23) hx hb dX0_isStrong_5 (by decide) (fun c5 => ?_) (fun c5 => ?_)
  · refine lv_iconst (v := (nI 0)) hx hb dX0_isStrong_23 rfl ?_
    exact hret 24 ls _ (bI_f (by unfold stgB; first | (rw [c5]; rfl) | (rw [c5, ej, nI_clamp (by omega)]; exact decide_eq_false (Int32.not_le.mpr c16)))) dX0_isStrong_24
  · refine lv_aload_n hx hb dX0_isStrong_8 rfl (lv_at hl 0 rfl) ?_
    refine va_get (D := D) (ci := 0) (v := .ref f3) (C := RX0) (T := TX0) (N := 12) hx hb hts hiX0 hown hK hP 0 rfl rfl 3 (by decide) hf22 (fun _ h9 => h9) rfl dX0_isStrong_9 ?_
    refine lv_iload_n hx hb dX0_isStrong_12 rfl (lv_at hl 1 rfl) ?_
    obtain ⟨j, hj, ej⟩ := inB_N c5 (by omega)
    refine ln_eqi (y := (nI j)) ej ?_
    refine ln_iald hx hb hK hP 1 0 rfl rfl (by omega) (by decide) dX0_isStrong_13 ?_
    refine lv_bipush (v := (nI 50)) hx hb dX0_isStrong_14 rfl ?_
    refine lv_icmp_lt (tgt := 23) hx hb dX0_isStrong_16 (by decide) (fun c16 => ?_) (fun c16 => ?_)
    · refine lv_iconst (v := (nI 0)) hx hb dX0_isStrong_23 rfl ?_
      exact hret 24 ls _ (bI_f (by unfold stgB; first | (rw [c5]; rfl) | (rw [c5, ej, nI_clamp (by omega)]; exact decide_eq_false (Int32.not_le.mpr c16)))) dX0_isStrong_24
    · refine lv_iconst (v := (nI 1)) hx hb dX0_isStrong_19 rfl ?_
      refine lv_goto (tgt := 24) hx hb dX0_isStrong_20 (by decide) ?_
      exact hret 24 ls _ (bI_t (by unfold stgB; rw [c5, ej, nI_clamp (by omega)]; exact decide_eq_true (Int32.not_lt.mp c16))) dX0_isStrong_24

set_option maxHeartbeats 4000000 in
set_option maxRecDepth 100000 in
theorem kX0_holds (l : Launch) (D : va_G) (y3 : ClassId × ClassId × ClassId) (f0 : Nat) (f1 : Nat) (f2 : Nat) (f3 : Nat) (f4 : Nat) (f5 : Nat) (f6 : Nat) (f7 : Nat) (f8 : Nat) (f9 : Nat) (f10 : Nat) (nb : Nat) (nr : Nat) (vb : Nat → Int32) (fo : Nat → Nat) (tu : Nat → Nat) (wn : Nat → Int32) (mk : Nat → Int32) (t : Nat) (ht : t < 72) (hnb : nb ≤ 16) (hfo : ∀ q : Nat, fo q ≤ 15) (htu : ∀ q : Nat, tu q ≤ 15) : rdM l yX0_holds wsX0_holds 0 0 D y3 [(f0, .inr (0, [.ref f1, .int (nI nb), .ref f2, .ref f3, .ref f4, .int (nI nr), .ref f5, .ref f6, .ref f7, .ref f8, .ref f9, .ref f10])), (f1, .inl (y3.1, 16, .inl vb)), (f6, .inl (y3.1, 72, .inl (fN fo))), (f7, .inl (y3.1, 72, .inl (fN tu))), (f8, .inl (y3.1, 72, .inl wn)), (f9, .inl (y3.1, 72, .inl mk))] [.ref f0, .int (nI t)] (fun r => r = (bI (hldB vb nb fo tu wn mk t))) := by
  refine rz_of (cc := cX0_holds) (maxL := 3) (by decide) rfl (Nat.le_of_ble_eq_true rfl) ?_
  intro p e s m args below meth c Q hx hb hml hown hts hP hK hret ls hl
  replace hl : lv_has ls 3 [(0, .ref f0), (1, .int (nI t))] := hl
  have q1 := hfo t
  have q2 := htu t
  have hf15 := hts (.fieldLink RX0 15 "KindGuesser$ByteSide" "byteCount" "I") (by decide +kernel)
  have hf34 := hts (.fieldLink RX0 34 "KindGuesser$ByteSide" "froms" "[I") (by decide +kernel)
  have hf37 := hts (.fieldLink RX0 37 "KindGuesser$ByteSide" "tos" "[I") (by decide +kernel)
  have hf40 := hts (.fieldLink RX0 40 "KindGuesser$ByteSide" "wanted" "[I") (by decide +kernel)
  have hf43 := hts (.fieldLink RX0 43 "KindGuesser$ByteSide" "masks" "[I") (by decide +kernel)
  have hf9 := hts (.fieldLink RX0 9 "KindGuesser$ByteSide" "values" "[I") (by decide +kernel)
  have hiX0 : ∀ q ∈ wsX00, q ∈ wsX0_holds := by decide +kernel
  refine lv_aload_n hx hb dX0_holds_0 rfl (lv_at hl 0 rfl) ?_
  refine va_get (D := D) (ci := 0) (v := .ref f6) (C := RX0) (T := TX0) (N := 12) hx hb hts hiX0 hown hK hP 0 rfl rfl 7 (by decide) hf34 (fun _ h9 => h9) rfl dX0_holds_1 ?_
  refine lv_iload_n hx hb dX0_holds_4 rfl (lv_at hl 1 rfl) ?_
  refine ln_ialdN hx hb hK hP 2 0 rfl rfl (by omega) (by decide) dX0_holds_5 ?_
  refine lv_istore_n (lv' := [(2, .int (nI (fo t))), (0, .ref f0), (1, .int (nI t))]) hx hb dX0_holds_6 rfl hl (by decide) rfl (fun ls hl => ?_)
  have lp7 : ∀ (n1 : Nat) (q : Nat), 16 - q < n1 → (fo t ≤ q) → (∀ i : Nat, fo t ≤ i → i < q → ¬ (vb i &&& mk t) = wn t) → (q ≤ 16) → ∀ ls : Array Slot, lv_has ls 3 [(2, .int (nI q)), (0, .ref f0), (1, .int (nI t))] → W p l e (rmO 0 0 0 0) s m args below meth c s.heap [] 0 0 Q (F0 m 7 ls []) := by
    intro n1
    induction n1 with
    | zero => intro q hm; exact absurd hm (Nat.not_lt_zero _)
    | succ n1 ih7 =>
      intro q hm7 h1 h2 h3 ls hl
      refine lv_iload_n hx hb dX0_holds_7 rfl (lv_at hl 0 rfl) ?_
      refine lv_aload_n hx hb dX0_holds_8 rfl (lv_at hl 1 rfl) ?_
      refine va_get (D := D) (ci := 0) (v := .ref f7) (C := RX0) (T := TX0) (N := 12) hx hb hts hiX0 hown hK hP 0 rfl rfl 8 (by decide) hf37 (fun _ h9 => h9) rfl dX0_holds_9 ?_
      refine lv_iload_n hx hb dX0_holds_12 rfl (lv_at hl 2 rfl) ?_
      refine ln_ialdN hx hb hK hP 3 0 rfl rfl (by omega) (by decide) dX0_holds_13 ?_
      refine ln_icmp_gt (tgt := 55) hx hb (by omega) (by omega) dX0_holds_14 (by decide) (fun c14 => ?_) (fun c14 => ?_)
      · refine lv_iconst (v := (nI 0)) hx hb dX0_holds_55 rfl ?_
        exact hret 56 ls _ (bI_f (hld_f (fun i hi1 hi2 hi3 => h2 i hi1 (by omega)))) dX0_holds_56
      · refine lv_iload_n hx hb dX0_holds_17 rfl (lv_at hl 0 rfl) ?_
        refine lv_aload_n hx hb dX0_holds_18 rfl (lv_at hl 1 rfl) ?_
        refine va_get (D := D) (ci := 0) (v := .int (nI nb)) (C := RX0) (T := TX0) (N := 12) hx hb hts hiX0 hown hK hP 0 rfl rfl 1 (by decide) hf15 (fun _ h9 => h9) rfl dX0_holds_19 ?_
        refine ln_icmp_ge (tgt := 55) hx hb (by omega) (by omega) dX0_holds_22 (by decide) (fun c22 => ?_) (fun c22 => ?_)
        · refine lv_iconst (v := (nI 0)) hx hb dX0_holds_55 rfl ?_
          exact hret 56 ls _ (bI_f (hld_f (fun i hi1 hi2 hi3 => h2 i hi1 (by omega)))) dX0_holds_56
        · refine lv_aload_n hx hb dX0_holds_25 rfl (lv_at hl 1 rfl) ?_
          refine va_get (D := D) (ci := 0) (v := .ref f1) (C := RX0) (T := TX0) (N := 12) hx hb hts hiX0 hown hK hP 0 rfl rfl 0 (by decide) hf9 (fun _ h9 => h9) rfl dX0_holds_26 ?_
          refine lv_iload_n hx hb dX0_holds_29 rfl (lv_at hl 0 rfl) ?_
          refine ln_iald hx hb hK hP 1 0 rfl rfl (by omega) (by decide) dX0_holds_30 ?_
          refine lv_aload_n hx hb dX0_holds_31 rfl (lv_at hl 1 rfl) ?_
          refine va_get (D := D) (ci := 0) (v := .ref f9) (C := RX0) (T := TX0) (N := 12) hx hb hts hiX0 hown hK hP 0 rfl rfl 10 (by decide) hf43 (fun _ h9 => h9) rfl dX0_holds_32 ?_
          refine lv_iload_n hx hb dX0_holds_35 rfl (lv_at hl 2 rfl) ?_
          refine ln_iald hx hb hK hP 5 0 rfl rfl (by omega) (by decide) dX0_holds_36 ?_
          refine lv_iand hx hb dX0_holds_37 ?_
          refine lv_aload_n hx hb dX0_holds_38 rfl (lv_at hl 1 rfl) ?_
          refine va_get (D := D) (ci := 0) (v := .ref f8) (C := RX0) (T := TX0) (N := 12) hx hb hts hiX0 hown hK hP 0 rfl rfl 9 (by decide) hf40 (fun _ h9 => h9) rfl dX0_holds_39 ?_
          refine lv_iload_n hx hb dX0_holds_42 rfl (lv_at hl 2 rfl) ?_
          refine ln_iald hx hb hK hP 4 0 rfl rfl (by omega) (by decide) dX0_holds_43 ?_
          refine lv_icmp_ne (tgt := 49) hx hb dX0_holds_44 (by decide) (fun c44 => ?_) (fun c44 => ?_)
          · refine lv_iinc (v := (nI (q + 1))) (lv' := [(2, .int (nI (q + 1))), (0, .ref f0), (1, .int (nI t))]) hx hb dX0_holds_49 hl (k := 0) rfl (nI_add _ _) (by decide) rfl (fun ls hl => ?_)
            refine lv_goto (tgt := 7) hx hb dX0_holds_52 (by decide) ?_
            exact ih7 (q + 1) (by omega) (by omega) (fun i hi1 hi2 => by
          by_cases hiq : i = q
          · subst hiq; exact c44
          · exact h2 i hi1 (by omega)) (by omega) _ (lv_sub hl [0, 1, 2] rfl)
          · refine lv_iconst (v := (nI 1)) hx hb dX0_holds_47 rfl ?_
            exact hret 48 ls _ (bI_t (hld_t (i := q) (by omega) (by omega) (by omega) c44)) dX0_holds_48
  exact lp7 _ (fo t) (Nat.lt_succ_self _) (Nat.le_refl _) (fun i h1 h2 => absurd h2 (by omega)) (by omega) _ (lv_sub hl [0, 1, 2] rfl)

set_option maxHeartbeats 4000000 in
set_option maxRecDepth 100000 in
theorem kX0_leadsBelow (l : Launch) (D : va_G) (y3 : ClassId × ClassId × ClassId) (f0 : Nat) (f1 : Nat) (f2 : Nat) (f3 : Nat) (f4 : Nat) (f5 : Nat) (f6 : Nat) (f7 : Nat) (f8 : Nat) (f9 : Nat) (f10 : Nat) (nb : Nat) (nr : Nat) (lev : Nat → Nat) (ld : Nat → Bool) (t : Nat) (en : Nat) (ht : t < en) (hen : en ≤ 72) (hlv : ∀ q : Nat, lev q ≤ 5) : rdM l yX0_leadsBelow wsX0_leadsBelow 0 0 D y3 [(f0, .inr (0, [.ref f1, .int (nI nb), .ref f2, .ref f3, .ref f4, .int (nI nr), .ref f5, .ref f6, .ref f7, .ref f8, .ref f9, .ref f10])), (f5, .inl (y3.1, 72, .inl (fN lev))), (f10, .inl (y3.2.1, 72, .inl (fB ld)))] [.ref f0, .int (nI t), .int (nI en)] (fun r => r = (bI (pdec (lbP lev ld t en)))) := by
  refine rz_of (cc := cX0_leadsBelow) (maxL := 6) (by decide) rfl (Nat.le_of_ble_eq_true rfl) ?_
  intro p e s m args below meth c Q hx hb hml hown hts hP hK hret ls hl
  replace hl : lv_has ls 6 [(0, .ref f0), (1, .int (nI t)), (2, .int (nI en))] := hl
  have q1 := hlv t
  have hf31 := hts (.fieldLink RX0 31 "KindGuesser$ByteSide" "levels" "[I") (by decide +kernel)
  have hf46 := hts (.fieldLink RX0 46 "KindGuesser$ByteSide" "leads" "[Z") (by decide +kernel)
  have hiX0 : ∀ q ∈ wsX00, q ∈ wsX0_leadsBelow := by decide +kernel
  refine lv_aload_n hx hb dX0_leadsBelow_0 rfl (lv_at hl 0 rfl) ?_
  refine va_get (D := D) (ci := 0) (v := .ref f5) (C := RX0) (T := TX0) (N := 12) hx hb hts hiX0 hown hK hP 0 rfl rfl 6 (by decide) hf31 (fun _ h9 => h9) rfl dX0_leadsBelow_1 ?_
  refine lv_iload_n hx hb dX0_leadsBelow_4 rfl (lv_at hl 1 rfl) ?_
  refine ln_ialdN hx hb hK hP 1 0 rfl rfl (by omega) (by decide) dX0_leadsBelow_5 ?_
  refine lv_iconst (v := (nI 1)) hx hb dX0_leadsBelow_6 rfl ?_
  refine ln_iadd (n := (lev t) + 1) hx hb rfl dX0_leadsBelow_7 ?_
  refine lv_istore_n (lv' := [(3, .int (nI ((lev t) + 1))), (0, .ref f0), (1, .int (nI t)), (2, .int (nI en))]) hx hb dX0_leadsBelow_8 rfl hl (by decide) rfl (fun ls hl => ?_)
  refine lv_iconst (v := (nI 1)) hx hb dX0_leadsBelow_9 rfl ?_
  refine lv_istore (lv' := [(4, .int (nI 1)), (3, .int (nI ((lev t) + 1))), (0, .ref f0), (1, .int (nI t)), (2, .int (nI en))]) hx hb dX0_leadsBelow_10 hl (by decide) rfl (fun ls hl => ?_)
  refine lv_iload_n hx hb dX0_leadsBelow_12 rfl (lv_at hl 3 rfl) ?_
  refine lv_iconst (v := (nI 1)) hx hb dX0_leadsBelow_13 rfl ?_
  refine ln_iadd (n := t + 1) hx hb rfl dX0_leadsBelow_14 ?_
  refine lv_istore (lv' := [(5, .int (nI (t + 1))), (4, .int (nI 1)), (3, .int (nI ((lev t) + 1))), (0, .ref f0), (1, .int (nI t)), (2, .int (nI en))]) hx hb dX0_leadsBelow_15 hl (by decide) rfl (fun ls hl => ?_)
  have lp17 : ∀ (n1 : Nat) (q : Nat) (g : Bool), en - q < n1 → (t < q) → (q ≤ en) → (∀ k : Nat, t < k → k < q → lev t + 1 ≤ lev k) → (g = true ↔ ∀ i : Nat, t < i → i < q → ¬ lev i = lev t + 1) → (∀ i : Nat, t < i → i < q → lev i = lev t + 1 → ld i = false) → ∀ ls : Array Slot, lv_has ls 6 [(5, .int (nI q)), (4, .int (bI g)), (3, .int (nI ((lev t) + 1))), (0, .ref f0), (1, .int (nI t)), (2, .int (nI en))] → W p l e (rmO 0 0 0 0) s m args below meth c s.heap [] 0 0 Q (F0 m 17 ls []) := by
    intro n1
    induction n1 with
    | zero => intro q g hm; exact absurd hm (Nat.not_lt_zero _)
    | succ n1 ih17 =>
      intro q g hm17 h1 h2 h3 h4 h5 ls hl
      have q2 := hlv q
      refine lv_iload hx hb dX0_leadsBelow_17 (lv_at hl 0 rfl) ?_
      refine lv_iload_n hx hb dX0_leadsBelow_19 rfl (lv_at hl 5 rfl) ?_
      refine ln_icmp_ge (tgt := 66) hx hb (by omega) (by omega) dX0_leadsBelow_20 (by decide) (fun c20 => ?_) (fun c20 => ?_)
      · refine lv_iload hx hb dX0_leadsBelow_66 (lv_at hl 1 rfl) ?_
        exact hret 68 ls _ (congrArg bI (pdec_of (lb_end h1 h2 h3 h4 h5 (by first | exact Or.inl c20 | exact Or.inr c31)))) dX0_leadsBelow_68
      · refine lv_aload_n hx hb dX0_leadsBelow_23 rfl (lv_at hl 3 rfl) ?_
        refine va_get (D := D) (ci := 0) (v := .ref f5) (C := RX0) (T := TX0) (N := 12) hx hb hts hiX0 hown hK hP 0 rfl rfl 6 (by decide) hf31 (fun _ h9 => h9) rfl dX0_leadsBelow_24 ?_
        refine lv_iload hx hb dX0_leadsBelow_27 (lv_at hl 0 rfl) ?_
        refine ln_ialdN hx hb hK hP 1 0 rfl rfl (by omega) (by decide) dX0_leadsBelow_29 ?_
        refine lv_iload_n hx hb dX0_leadsBelow_30 rfl (lv_at hl 2 rfl) ?_
        refine ln_icmp_lt (tgt := 66) hx hb (by omega) (by omega) dX0_leadsBelow_31 (by decide) (fun c31 => ?_) (fun c31 => ?_)
        · refine lv_iload hx hb dX0_leadsBelow_66 (lv_at hl 1 rfl) ?_
          exact hret 68 ls _ (congrArg bI (pdec_of (lb_end h1 h2 h3 h4 h5 (by first | exact Or.inl c20 | exact Or.inr c31)))) dX0_leadsBelow_68
        · refine lv_aload_n hx hb dX0_leadsBelow_34 rfl (lv_at hl 3 rfl) ?_
          refine va_get (D := D) (ci := 0) (v := .ref f5) (C := RX0) (T := TX0) (N := 12) hx hb hts hiX0 hown hK hP 0 rfl rfl 6 (by decide) hf31 (fun _ h9 => h9) rfl dX0_leadsBelow_35 ?_
          refine lv_iload hx hb dX0_leadsBelow_38 (lv_at hl 0 rfl) ?_
          refine ln_ialdN hx hb hK hP 1 0 rfl rfl (by omega) (by decide) dX0_leadsBelow_40 ?_
          refine lv_iload_n hx hb dX0_leadsBelow_41 rfl (lv_at hl 2 rfl) ?_
          refine ln_icmp_ne (tgt := 60) hx hb (by omega) (by omega) dX0_leadsBelow_42 (by decide) (fun c42 => ?_) (fun c42 => ?_)
          · refine lv_iinc (v := (nI (q + 1))) (lv' := [(5, .int (nI (q + 1))), (4, .int (bI g)), (3, .int (nI ((lev t) + 1))), (0, .ref f0), (1, .int (nI t)), (2, .int (nI en))]) hx hb dX0_leadsBelow_60 hl (k := 0) rfl (nI_add _ _) (by decide) rfl (fun ls hl => ?_)
            refine lv_goto (tgt := 17) hx hb dX0_leadsBelow_63 (by decide) ?_
            exact ih17 (q + 1) g (by omega) (by omega) (by omega) (fun k a1 a2 => by
          by_cases hk : k = q
          · subst hk; omega
          · exact h3 k a1 (by omega)) (h4.trans ⟨fun h i a1 a2 => by
          by_cases hi : i = q
          · subst hi; exact c42
          · exact h i a1 (by omega), fun h i a1 a2 => h i a1 (by omega)⟩) (fun i a1 a2 a3 => by
          by_cases hi : i = q
          · subst hi; first | exact c52 | exact absurd a3 c42
          · exact h5 i a1 (by omega) a3) _ (lv_sub hl [0, 1, 2, 3, 4, 5] rfl)
          · refine lv_aload_n hx hb dX0_leadsBelow_45 rfl (lv_at hl 3 rfl) ?_
            refine va_get (D := D) (ci := 0) (v := .ref f10) (C := RX0) (T := TX0) (N := 12) hx hb hts hiX0 hown hK hP 0 rfl rfl 11 (by decide) hf46 (fun _ h9 => h9) rfl dX0_leadsBelow_46 ?_
            refine lv_iload hx hb dX0_leadsBelow_49 (lv_at hl 0 rfl) ?_
            refine ln_zaldB hx hb hK hP 2 1 rfl rfl (by omega) (by decide) dX0_leadsBelow_51 ?_
            refine lb_if_eq (tgt := 57) hx hb dX0_leadsBelow_52 (by decide) (fun c52 => ?_) (fun c52 => ?_)
            · refine lv_iconst (v := (nI 0)) hx hb dX0_leadsBelow_57 rfl ?_
              refine lv_istore (lv' := [(4, .int (nI 0)), (5, .int (nI q)), (3, .int (nI ((lev t) + 1))), (0, .ref f0), (1, .int (nI t)), (2, .int (nI en))]) hx hb dX0_leadsBelow_58 hl (by decide) rfl (fun ls hl => ?_)
              refine lv_iinc (v := (nI (q + 1))) (lv' := [(5, .int (nI (q + 1))), (4, .int (nI 0)), (3, .int (nI ((lev t) + 1))), (0, .ref f0), (1, .int (nI t)), (2, .int (nI en))]) hx hb dX0_leadsBelow_60 hl (k := 1) rfl (nI_add _ _) (by decide) rfl (fun ls hl => ?_)
              refine lv_goto (tgt := 17) hx hb dX0_leadsBelow_63 (by decide) ?_
              exact ih17 (q + 1) false (by omega) (by omega) (by omega) (fun k a1 a2 => by
          by_cases hk : k = q
          · subst hk; omega
          · exact h3 k a1 (by omega)) (⟨fun h => absurd h (by decide), fun h => absurd c42 (h q (by omega) (by omega))⟩) (fun i a1 a2 a3 => by
          by_cases hi : i = q
          · subst hi; first | exact c52 | exact absurd a3 c42
          · exact h5 i a1 (by omega) a3) _ (lv_sub hl [0, 1, 2, 3, 4, 5] rfl)
            · refine lv_iconst (v := (nI 1)) hx hb dX0_leadsBelow_55 rfl ?_
              exact hret 56 ls _ (bI_t (pdec_t (Or.inr ⟨q, by omega, ⟨by omega, fun k a1 a2 => (by
            by_cases hk : k = q
            · subst hk; omega
            · exact h3 k a1 (by omega)), c42⟩, c52⟩))) dX0_leadsBelow_56
  exact lp17 _ (t + 1) true (Nat.lt_succ_self _) (by omega) (by omega) (fun k a1 a2 => absurd a2 (by omega)) (⟨fun _ i a1 a2 => absurd a2 (by omega), fun _ => rfl⟩) (fun i a1 a2 => absurd a2 (by omega)) _ (lv_sub hl [0, 1, 2, 3, 4, 5] rfl)

set_option maxHeartbeats 4000000 in
set_option maxRecDepth 100000 in
theorem kX0_provesKind (l : Launch) (D : va_G) (y3 : ClassId × ClassId × ClassId) (f0 : Nat) (f1 : Nat) (f2 : Nat) (f3 : Nat) (f4 : Nat) (f5 : Nat) (f6 : Nat) (f7 : Nat) (f8 : Nat) (f9 : Nat) (f10 : Nat) (nb : Nat) (nr : Nat) (vb : Nat → Int32) (tc : Nat → Nat) (lev : Nat → Nat) (fo : Nat → Nat) (tu : Nat → Nat) (wn : Nat → Int32) (mk : Nat → Int32) (ld : Nat → Bool) (j : Nat) (hj : j < 12) (hnb : nb ≤ 16) (htc : ∀ q : Nat, tc q ≤ 6) (hlv : ∀ q : Nat, lev q ≤ 5) (hfo : ∀ q : Nat, fo q ≤ 15) (htu : ∀ q : Nat, tu q ≤ 15) : wrM l yX0_provesKind wsX0_provesKind 1 25 0 0 D y3 [(f0, .inr (0, [.ref f1, .int (nI nb), .ref f2, .ref f3, .ref f4, .int (nI nr), .ref f5, .ref f6, .ref f7, .ref f8, .ref f9, .ref f10])), (f1, .inl (y3.1, 16, .inl vb)), (f4, .inl (y3.1, 12, .inl (fN tc))), (f5, .inl (y3.1, 72, .inl (fN lev))), (f6, .inl (y3.1, 72, .inl (fN fo))), (f7, .inl (y3.1, 72, .inl (fN tu))), (f8, .inl (y3.1, 72, .inl wn)), (f9, .inl (y3.1, 72, .inl mk)), (f10, .inl (y3.2.1, 72, .inl (fB ld)))] [.ref f0, .int (nI j)] (fun r (u : Nat → Bool) => r = (bI (prvB lev (hldB vb nb fo tu wn mk) (j * 6) ((j * 6) + (tc j))))) (fun (u : Nat → Bool) => [(f0, .inr (0, [.ref f1, .int (nI nb), .ref f2, .ref f3, .ref f4, .int (nI nr), .ref f5, .ref f6, .ref f7, .ref f8, .ref f9, .ref f10])), (f1, .inl (y3.1, 16, .inl vb)), (f4, .inl (y3.1, 12, .inl (fN tc))), (f5, .inl (y3.1, 72, .inl (fN lev))), (f6, .inl (y3.1, 72, .inl (fN fo))), (f7, .inl (y3.1, 72, .inl (fN tu))), (f8, .inl (y3.1, 72, .inl wn)), (f9, .inl (y3.1, 72, .inl mk)), (f10, .inl (y3.2.1, 72, .inl (fB u)))]) := by
  refine wz_of (cc := cX0_provesKind) (maxL := 6) (by decide) rfl (Nat.le_of_ble_eq_true rfl) ?_
  intro p e s m args below meth c A Q hx hb hml hown hts hP hK hD hA hS hret ls hl
  replace hl : lv_has ls 6 [(0, .ref f0), (1, .int (nI j))] := hl
  have q1 := htc j
  have hf25 := hts (.fieldLink RX0 25 "KindGuesser$ByteSide" "testCounts" "[I") (by decide +kernel)
  have hf31 := hts (.fieldLink RX0 31 "KindGuesser$ByteSide" "levels" "[I") (by decide +kernel)
  have hf46 := hts (.fieldLink RX0 46 "KindGuesser$ByteSide" "leads" "[Z") (by decide +kernel)
  have hiX0 : ∀ q ∈ wsX00, q ∈ wsX0_provesKind := by decide +kernel
  refine lv_iload_n hx hb dX0_provesKind_0 rfl (lv_at hl 1 rfl) ?_
  refine lv_bipush (v := (nI 6)) hx hb dX0_provesKind_1 rfl ?_
  refine ln_imul (n := j * 6) hx hb (by omega) dX0_provesKind_3 ?_
  refine lv_istore_n (lv' := [(2, .int (nI (j * 6))), (0, .ref f0), (1, .int (nI j))]) hx hb dX0_provesKind_4 rfl hl (by decide) rfl (fun ls hl => ?_)
  refine lv_iload_n hx hb dX0_provesKind_5 rfl (lv_at hl 0 rfl) ?_
  refine lv_aload_n hx hb dX0_provesKind_6 rfl (lv_at hl 1 rfl) ?_
  refine va_get (D := D) (ci := 0) (v := .ref f4) (C := RX0) (T := TX0) (N := 12) hx hb hts hiX0 hown hK hP 0 rfl rfl 4 (by decide) hf25 (fun _ h9 => h9) rfl dX0_provesKind_7 ?_
  refine lv_iload_n hx hb dX0_provesKind_10 rfl (lv_at hl 2 rfl) ?_
  refine ln_ialdN hx hb hK hP 2 0 rfl rfl (by omega) (by decide) dX0_provesKind_11 ?_
  refine ln_iadd (n := (j * 6) + (tc j)) hx hb (by omega) dX0_provesKind_12 ?_
  refine lv_istore_n (lv' := [(3, .int (nI ((j * 6) + (tc j)))), (2, .int (nI (j * 6))), (0, .ref f0), (1, .int (nI j))]) hx hb dX0_provesKind_13 rfl hl (by decide) rfl (fun ls hl => ?_)
  refine lv_iconst (v := (nI 0)) hx hb dX0_provesKind_14 rfl ?_
  refine lv_istore (lv' := [(4, .int (nI 0)), (3, .int (nI ((j * 6) + (tc j)))), (2, .int (nI (j * 6))), (0, .ref f0), (1, .int (nI j))]) hx hb dX0_provesKind_15 hl (by decide) rfl (fun ls hl => ?_)
  refine lv_iload_n hx hb dX0_provesKind_17 rfl (lv_at hl 1 rfl) ?_
  refine lv_iconst (v := (nI 1)) hx hb dX0_provesKind_18 rfl ?_
  refine lv_isub hx hb dX0_provesKind_19 ?_
  refine lv_istore (lv' := [(5, .int ((nI ((j * 6) + (tc j))) - (nI 1))), (4, .int (nI 0)), (3, .int (nI ((j * 6) + (tc j)))), (2, .int (nI (j * 6))), (0, .ref f0), (1, .int (nI j))]) hx hb dX0_provesKind_20 hl (by decide) rfl (fun ls hl => ?_)
  have lp22 : ∀ (n1 : Nat) (k : Nat) (x : Int32) (v : Nat → Bool) (pv : Bool), k < n1 → (k ≤ tc j) → (x = nI ((j * 6) + k) - nI 1) → (∀ t : Nat, (j * 6) + k ≤ t → t < ((j * 6) + (tc j)) → v t = ((hldB vb nb fo tu wn mk) t && pdec (lbP lev v t ((j * 6) + (tc j))))) → (pv = true ↔ ∃ t : Nat, (j * 6) + k ≤ t ∧ t < ((j * 6) + (tc j)) ∧ v t = true ∧ lev t = 0) → ∀ (H : Heap) (locs : List Loc), va_P D vwCl [(f0, .inr (0, [.ref f1, .int (nI nb), .ref f2, .ref f3, .ref f4, .int (nI nr), .ref f5, .ref f6, .ref f7, .ref f8, .ref f9, .ref f10])), (f1, .inl (y3.1, 16, .inl vb)), (f4, .inl (y3.1, 12, .inl (fN tc))), (f5, .inl (y3.1, 72, .inl (fN lev))), (f6, .inl (y3.1, 72, .inl (fN fo))), (f7, .inl (y3.1, 72, .inl (fN tu))), (f8, .inl (y3.1, 72, .inl wn)), (f9, .inl (y3.1, 72, .inl mk)), (f10, .inl (y3.2.1, 72, .inl (fB v)))] H → va_D A [(f0, .inr (0, [.ref f1, .int (nI nb), .ref f2, .ref f3, .ref f4, .int (nI nr), .ref f5, .ref f6, .ref f7, .ref f8, .ref f9, .ref f10])), (f1, .inl (y3.1, 16, .inl vb)), (f4, .inl (y3.1, 12, .inl (fN tc))), (f5, .inl (y3.1, 72, .inl (fN lev))), (f6, .inl (y3.1, 72, .inl (fN fo))), (f7, .inl (y3.1, 72, .inl (fN tu))), (f8, .inl (y3.1, 72, .inl wn)), (f9, .inl (y3.1, 72, .inl mk)), (f10, .inl (y3.2.1, 72, .inl (fB v)))] → va_S A s.heap H locs → ∀ ls : Array Slot, lv_has ls 6 [(5, .int x), (4, .int (bI pv)), (3, .int (nI ((j * 6) + (tc j)))), (2, .int (nI (j * 6))), (0, .ref f0), (1, .int (nI j))] → W p l e (rmO 1 0 0 25) s m args below meth c H locs 0 0 Q (F0 m 22 ls []) := by
    intro n1
    induction n1 with
    | zero => intro k x v pv hm; exact absurd hm (Nat.not_lt_zero _)
    | succ n1 ih22 =>
      intro k x v pv hm22 h1 h2 h3 h4 H locs hP hD hS ls hl
      refine lv_iload hx hb dX0_provesKind_22 (lv_at hl 0 rfl) ?_
      refine lv_iload_n hx hb dX0_provesKind_24 rfl (lv_at hl 3 rfl) ?_
      refine lv_icmp_lt (tgt := 97) hx hb dX0_provesKind_25 (by decide) (fun c25 => ?_) (fun c25 => ?_)
      · have ek : k = 0 := pk_k0 h2 c25 (by omega)
        subst ek
        refine lv_iload hx hb dX0_provesKind_97 (lv_at hl 1 rfl) ?_
        exact hret 99 ls H locs _ _ v _ (prvB lev (hldB vb nb fo tu wn mk) (j * 6) ((j * 6) + (tc j))) hP hD hS (Nat.le_of_ble_eq_true rfl) (Nat.le_of_ble_eq_true rfl) (congrArg bI (pk_end h3 h4)) rfl dX0_provesKind_99
      · obtain ⟨k, rfl⟩ := pk_ks h2 c25 (by omega)
        have ex : x = nI ((j * 6) + k) := by rw [h2, pk_sub (by omega)]; rfl
        subst ex
        have jn58 : ∀ (g : Bool), (g = ((hldB vb nb fo tu wn mk) ((j * 6) + k) && pdec (lbP lev v ((j * 6) + k) ((j * 6) + (tc j))))) → ∀ (H : Heap) (locs : List Loc), va_P D vwCl [(f0, .inr (0, [.ref f1, .int (nI nb), .ref f2, .ref f3, .ref f4, .int (nI nr), .ref f5, .ref f6, .ref f7, .ref f8, .ref f9, .ref f10])), (f1, .inl (y3.1, 16, .inl vb)), (f4, .inl (y3.1, 12, .inl (fN tc))), (f5, .inl (y3.1, 72, .inl (fN lev))), (f6, .inl (y3.1, 72, .inl (fN fo))), (f7, .inl (y3.1, 72, .inl (fN tu))), (f8, .inl (y3.1, 72, .inl wn)), (f9, .inl (y3.1, 72, .inl mk)), (f10, .inl (y3.2.1, 72, .inl (fB v)))] H → va_D A [(f0, .inr (0, [.ref f1, .int (nI nb), .ref f2, .ref f3, .ref f4, .int (nI nr), .ref f5, .ref f6, .ref f7, .ref f8, .ref f9, .ref f10])), (f1, .inl (y3.1, 16, .inl vb)), (f4, .inl (y3.1, 12, .inl (fN tc))), (f5, .inl (y3.1, 72, .inl (fN lev))), (f6, .inl (y3.1, 72, .inl (fN fo))), (f7, .inl (y3.1, 72, .inl (fN tu))), (f8, .inl (y3.1, 72, .inl wn)), (f9, .inl (y3.1, 72, .inl mk)), (f10, .inl (y3.2.1, 72, .inl (fB v)))] → va_S A s.heap H locs → ∀ ls : Array Slot, lv_has ls 6 [(5, .int (nI ((j * 6) + k))), (4, .int (bI pv)), (3, .int (nI ((j * 6) + (tc j)))), (2, .int (nI (j * 6))), (0, .ref f0), (1, .int (nI j))] → W p l e (rmO 1 0 0 25) s m args below meth c H locs 0 0 Q (F0 m 58 ls [.int (bI g), .int (nI ((j * 6) + k)), .ref f10]) := by
          intro g hg H locs hP hD hS ls hl
          refine ln_zastB (b := g) hx hb hK hP hD hS 8 1 rfl rfl (by omega) (by decide) dX0_provesKind_58 _ rfl (fun H locs hP hD hS => ?_)
          have hP : va_P D vwCl [(f0, .inr (0, [.ref f1, .int (nI nb), .ref f2, .ref f3, .ref f4, .int (nI nr), .ref f5, .ref f6, .ref f7, .ref f8, .ref f9, .ref f10])), (f1, .inl (y3.1, 16, .inl vb)), (f4, .inl (y3.1, 12, .inl (fN tc))), (f5, .inl (y3.1, 72, .inl (fN lev))), (f6, .inl (y3.1, 72, .inl (fN fo))), (f7, .inl (y3.1, 72, .inl (fN tu))), (f8, .inl (y3.1, 72, .inl wn)), (f9, .inl (y3.1, 72, .inl mk)), (f10, .inl (y3.2.1, 72, .inl (fB (va_up v ((j * 6) + k) g))))] H := hP
          have hD : va_D A [(f0, .inr (0, [.ref f1, .int (nI nb), .ref f2, .ref f3, .ref f4, .int (nI nr), .ref f5, .ref f6, .ref f7, .ref f8, .ref f9, .ref f10])), (f1, .inl (y3.1, 16, .inl vb)), (f4, .inl (y3.1, 12, .inl (fN tc))), (f5, .inl (y3.1, 72, .inl (fN lev))), (f6, .inl (y3.1, 72, .inl (fN fo))), (f7, .inl (y3.1, 72, .inl (fN tu))), (f8, .inl (y3.1, 72, .inl wn)), (f9, .inl (y3.1, 72, .inl mk)), (f10, .inl (y3.2.1, 72, .inl (fB (va_up v ((j * 6) + k) g))))] := hD
          have jn89 : ∀ (pv2 : Bool), (pv2 = (pv || (g && decide (lev ((j * 6) + k) = 0)))) → ∀ (H : Heap) (locs : List Loc), va_P D vwCl [(f0, .inr (0, [.ref f1, .int (nI nb), .ref f2, .ref f3, .ref f4, .int (nI nr), .ref f5, .ref f6, .ref f7, .ref f8, .ref f9, .ref f10])), (f1, .inl (y3.1, 16, .inl vb)), (f4, .inl (y3.1, 12, .inl (fN tc))), (f5, .inl (y3.1, 72, .inl (fN lev))), (f6, .inl (y3.1, 72, .inl (fN fo))), (f7, .inl (y3.1, 72, .inl (fN tu))), (f8, .inl (y3.1, 72, .inl wn)), (f9, .inl (y3.1, 72, .inl mk)), (f10, .inl (y3.2.1, 72, .inl (fB (va_up v ((j * 6) + k) g))))] H → va_D A [(f0, .inr (0, [.ref f1, .int (nI nb), .ref f2, .ref f3, .ref f4, .int (nI nr), .ref f5, .ref f6, .ref f7, .ref f8, .ref f9, .ref f10])), (f1, .inl (y3.1, 16, .inl vb)), (f4, .inl (y3.1, 12, .inl (fN tc))), (f5, .inl (y3.1, 72, .inl (fN lev))), (f6, .inl (y3.1, 72, .inl (fN fo))), (f7, .inl (y3.1, 72, .inl (fN tu))), (f8, .inl (y3.1, 72, .inl wn)), (f9, .inl (y3.1, 72, .inl mk)), (f10, .inl (y3.2.1, 72, .inl (fB (va_up v ((j * 6) + k) g))))] → va_S A s.heap H locs → ∀ ls : Array Slot, lv_has ls 6 [(5, .int (nI ((j * 6) + k))), (4, .int (bI pv)), (3, .int (nI ((j * 6) + (tc j)))), (2, .int (nI (j * 6))), (0, .ref f0), (1, .int (nI j))] → W p l e (rmO 1 0 0 25) s m args below meth c H locs 0 0 Q (F0 m 89 ls [.int (bI pv2)]) := by
            intro pv2 hg2 H locs hP hD hS ls hl
            refine lv_istore (lv' := [(4, .int (bI pv2)), (5, .int (nI ((j * 6) + k))), (3, .int (nI ((j * 6) + (tc j)))), (2, .int (nI (j * 6))), (0, .ref f0), (1, .int (nI j))]) hx hb dX0_provesKind_89 hl (by decide) rfl (fun ls hl => ?_)
            refine lv_iinc (v := (nI ((j * 6) + k) - nI 1)) (lv' := [(5, .int (nI ((j * 6) + k) - nI 1)), (4, .int (bI pv2)), (3, .int (nI ((j * 6) + (tc j)))), (2, .int (nI (j * 6))), (0, .ref f0), (1, .int (nI j))]) hx hb dX0_provesKind_91 hl (k := 1) rfl (by rw [Int32.sub_eq_add_neg]; rfl) (by decide) rfl (fun ls hl => ?_)
            refine lv_goto (tgt := 22) hx hb dX0_provesKind_94 (by decide) ?_
            exact ih22 k (nI ((j * 6) + k) - nI 1) (va_up v ((j * 6) + k) g) pv2 (by omega) (by omega) rfl (pk_h3 h3 (by omega) hg) (pk_h4 h4 (by omega) hg2) _ _ hP hD hS _ (lv_sub hl [0, 1, 2, 3, 4, 5] rfl)
          have q2 := hlv ((j * 6) + k)
          refine lv_iload hx hb dX0_provesKind_59 (lv_at hl 1 rfl) ?_
          refine lb_if_ne (tgt := 84) hx hb dX0_provesKind_61 (by decide) (fun c61 => ?_) (fun c61 => ?_)
          · refine lv_iconst (v := (nI 1)) hx hb dX0_provesKind_84 rfl ?_
            refine lv_goto (tgt := 89) hx hb dX0_provesKind_85 (by decide) ?_
            exact jn89 true (by first | (rw [c61]; rfl) | (rw [up_s] at c71; rw [c61, c71, decide_eq_true c81]; rfl)) _ _ hP hD hS _ (lv_sub hl [0, 1, 2, 3, 4, 5] rfl)
          · refine lv_aload_n hx hb dX0_provesKind_64 rfl (lv_at hl 4 rfl) ?_
            refine va_get (D := D) (ci := 0) (v := .ref f10) (C := RX0) (T := TX0) (N := 12) hx hb hts hiX0 hown hK hP 0 rfl rfl 11 (by decide) hf46 (fun _ h9 => h9) rfl dX0_provesKind_65 ?_
            refine lv_iload hx hb dX0_provesKind_68 (lv_at hl 0 rfl) ?_
            refine ln_zaldB hx hb hK hP 8 1 rfl rfl (by omega) (by decide) dX0_provesKind_70 ?_
            refine lb_if_eq (tgt := 88) hx hb dX0_provesKind_71 (by decide) (fun c71 => ?_) (fun c71 => ?_)
            · refine lv_iconst (v := (nI 0)) hx hb dX0_provesKind_88 rfl ?_
              exact jn89 false (by rw [up_s] at c71; first | (rw [c61, c71]; rfl) | (rw [c61, c71, decide_eq_false c81]; rfl)) _ _ hP hD hS _ (lv_sub hl [0, 1, 2, 3, 4, 5] rfl)
            · refine lv_aload_n hx hb dX0_provesKind_74 rfl (lv_at hl 4 rfl) ?_
              refine va_get (D := D) (ci := 0) (v := .ref f5) (C := RX0) (T := TX0) (N := 12) hx hb hts hiX0 hown hK hP 0 rfl rfl 6 (by decide) hf31 (fun _ h9 => h9) rfl dX0_provesKind_75 ?_
              refine lv_iload hx hb dX0_provesKind_78 (lv_at hl 0 rfl) ?_
              refine ln_ialdN hx hb hK hP 3 0 rfl rfl (by omega) (by decide) dX0_provesKind_80 ?_
              refine ln_if_ne (tgt := 88) hx hb (by omega) dX0_provesKind_81 (by decide) (fun c81 => ?_) (fun c81 => ?_)
              · refine lv_iconst (v := (nI 0)) hx hb dX0_provesKind_88 rfl ?_
                exact jn89 false (by rw [up_s] at c71; first | (rw [c61, c71]; rfl) | (rw [c61, c71, decide_eq_false c81]; rfl)) _ _ hP hD hS _ (lv_sub hl [0, 1, 2, 3, 4, 5] rfl)
              · refine lv_iconst (v := (nI 1)) hx hb dX0_provesKind_84 rfl ?_
                refine lv_goto (tgt := 89) hx hb dX0_provesKind_85 (by decide) ?_
                exact jn89 true (by first | (rw [c61]; rfl) | (rw [up_s] at c71; rw [c61, c71, decide_eq_true c81]; rfl)) _ _ hP hD hS _ (lv_sub hl [0, 1, 2, 3, 4, 5] rfl)
        refine lv_aload_n hx hb dX0_provesKind_28 rfl (lv_at hl 4 rfl) ?_
        refine va_get (D := D) (ci := 0) (v := .ref f10) (C := RX0) (T := TX0) (N := 12) hx hb hts hiX0 hown hK hP 0 rfl rfl 11 (by decide) hf46 (fun _ h9 => h9) rfl dX0_provesKind_29 ?_
        refine lv_iload hx hb dX0_provesKind_32 (lv_at hl 0 rfl) ?_
        refine lv_aload_n hx hb dX0_provesKind_34 rfl (lv_at hl 4 rfl) ?_
        refine lv_iload hx hb dX0_provesKind_35 (lv_at hl 0 rfl) ?_
        refine rd_V (ci := 0) (q0 := 0) (own := RX0) (As := [.int (nI ((j * 6) + k))]) (rest := [.int (nI ((j * 6) + k)), .ref f10]) (bytes := cX0_holds) (maxL := 3) ⟨hx, hb, hml, hown, hts⟩ (kX0_holds l D y3 f0 f1 f2 f3 f4 f5 f6 f7 f8 f9 f10 nb nr vb fo tu wn mk ((j * 6) + k) (by omega) (by omega) (by assumption) (by assumption)) gX0_provesKind_X0_holds rfl hvX0_holds ⟨Nat.le_of_ble_eq_true rfl, Nat.le_of_ble_eq_true rfl⟩ hP hK [0, 1, 4, 5, 6, 7] rfl rfl rfl hl.1 rfl (Nat.le_of_ble_eq_true rfl) dX0_provesKind_37 ⟨Nat.le_of_ble_eq_true rfl, Nat.le_of_ble_eq_true rfl⟩ (fun r2 hr2 => ?_)
        subst hr2
        refine lb_if_eq (tgt := 57) hx hb dX0_provesKind_40 (by decide) (fun c40 => ?_) (fun c40 => ?_)
        · refine lv_iconst (v := (nI 0)) hx hb dX0_provesKind_57 rfl ?_
          exact jn58 false (by first | (rw [c40]; rfl) | (rw [c40, c50]; rfl)) _ _ hP hD hS _ (lv_sub hl [0, 1, 2, 3, 4, 5] rfl)
        · refine lv_aload_n hx hb dX0_provesKind_43 rfl (lv_at hl 4 rfl) ?_
          refine lv_iload hx hb dX0_provesKind_44 (lv_at hl 0 rfl) ?_
          refine lv_iload_n hx hb dX0_provesKind_46 rfl (lv_at hl 2 rfl) ?_
          refine rd_V (ci := 0) (q0 := 0) (own := RX0) (As := [.int (nI ((j * 6) + k)), .int (nI ((j * 6) + (tc j)))]) (rest := [.int (nI ((j * 6) + k)), .ref f10]) (bytes := cX0_leadsBelow) (maxL := 6) ⟨hx, hb, hml, hown, hts⟩ (kX0_leadsBelow l D y3 f0 f1 f2 f3 f4 f5 f6 f7 f8 f9 f10 nb nr lev v ((j * 6) + k) ((j * 6) + (tc j)) (by omega) (by omega) (by assumption)) gX0_provesKind_X0_leadsBelow rfl hvX0_leadsBelow ⟨Nat.le_of_ble_eq_true rfl, Nat.le_of_ble_eq_true rfl⟩ hP hK [0, 3, 8] rfl rfl rfl hl.1 rfl (Nat.le_of_ble_eq_true rfl) dX0_provesKind_47 ⟨Nat.le_of_ble_eq_true rfl, Nat.le_of_ble_eq_true rfl⟩ (fun r3 hr3 => ?_)
          subst hr3
          refine lb_if_eq (tgt := 57) hx hb dX0_provesKind_50 (by decide) (fun c50 => ?_) (fun c50 => ?_)
          · refine lv_iconst (v := (nI 0)) hx hb dX0_provesKind_57 rfl ?_
            exact jn58 false (by first | (rw [c40]; rfl) | (rw [c40, c50]; rfl)) _ _ hP hD hS _ (lv_sub hl [0, 1, 2, 3, 4, 5] rfl)
          · refine lv_iconst (v := (nI 1)) hx hb dX0_provesKind_53 rfl ?_
            refine lv_goto (tgt := 58) hx hb dX0_provesKind_54 (by decide) ?_
            exact jn58 true (by rw [c40, c50]; rfl) _ _ hP hD hS _ (lv_sub hl [0, 1, 2, 3, 4, 5] rfl)
  exact lp22 _ (tc j) (nI ((j * 6) + (tc j)) - nI 1) ld false (Nat.lt_succ_self _) (Nat.le_refl _) rfl (fun t a1 a2 => absurd a2 (by omega)) (⟨fun h => absurd h (by decide), fun ⟨t, a1, a2, _⟩ => absurd a2 (by omega)⟩) _ _ hP hD hS _ (lv_sub hl [0, 1, 2, 3, 4, 5] rfl)

set_option maxHeartbeats 4000000 in
set_option maxRecDepth 100000 in
theorem kX0_provingRule (l : Launch) (D : va_G) (y3 : ClassId × ClassId × ClassId) (f0 : Nat) (f1 : Nat) (f2 : Nat) (f3 : Nat) (f4 : Nat) (f5 : Nat) (f6 : Nat) (f7 : Nat) (f8 : Nat) (f9 : Nat) (f10 : Nat) (nb : Nat) (nr : Nat) (vb : Nat → Int32) (pr : Nat → Int32) (tc : Nat → Nat) (lev : Nat → Nat) (fo : Nat → Nat) (tu : Nat → Nat) (wn : Nat → Int32) (mk : Nat → Int32) (ld : Nat → Bool) (hnr : nr ≤ 12) (hnb : nb ≤ 16) (htc : ∀ q : Nat, tc q ≤ 6) (hlv : ∀ q : Nat, lev q ≤ 5) (hfo : ∀ q : Nat, fo q ≤ 15) (htu : ∀ q : Nat, tu q ≤ 15) : wrM l yX0_provingRule wsX0_provingRule 2 50 0 0 D y3 [(f0, .inr (0, [.ref f1, .int (nI nb), .ref f2, .ref f3, .ref f4, .int (nI nr), .ref f5, .ref f6, .ref f7, .ref f8, .ref f9, .ref f10])), (f1, .inl (y3.1, 16, .inl vb)), (f3, .inl (y3.1, 12, .inl pr)), (f4, .inl (y3.1, 12, .inl (fN tc))), (f5, .inl (y3.1, 72, .inl (fN lev))), (f6, .inl (y3.1, 72, .inl (fN fo))), (f7, .inl (y3.1, 72, .inl (fN tu))), (f8, .inl (y3.1, 72, .inl wn)), (f9, .inl (y3.1, 72, .inl mk)), (f10, .inl (y3.2.1, 72, .inl (fB ld)))] [.ref f0] (fun r (u : Nat → Bool) => r = (oI (bstB (fun k => prvB lev (hldB vb nb fo tu wn mk) (k * 6) ((k * 6) + (tc k))) (fun k b => decide (pr b < pr k)) nr))) (fun (u : Nat → Bool) => [(f0, .inr (0, [.ref f1, .int (nI nb), .ref f2, .ref f3, .ref f4, .int (nI nr), .ref f5, .ref f6, .ref f7, .ref f8, .ref f9, .ref f10])), (f1, .inl (y3.1, 16, .inl vb)), (f3, .inl (y3.1, 12, .inl pr)), (f4, .inl (y3.1, 12, .inl (fN tc))), (f5, .inl (y3.1, 72, .inl (fN lev))), (f6, .inl (y3.1, 72, .inl (fN fo))), (f7, .inl (y3.1, 72, .inl (fN tu))), (f8, .inl (y3.1, 72, .inl wn)), (f9, .inl (y3.1, 72, .inl mk)), (f10, .inl (y3.2.1, 72, .inl (fB u)))]) := by
  refine wr_of (cc := cX0_provingRule) (maxL := 4) (by decide) rfl (Nat.le_of_ble_eq_true rfl) ?_
  intro p e s m args below meth c A Q hx hb hml hown hts hP hK hD hA hS hret ls hl
  replace hl : lv_has ls 4 [(0, .ref f0)] := hl
  have hf22 := hts (.fieldLink RX0 22 "KindGuesser$ByteSide" "priorities" "[I") (by decide +kernel)
  have hf28 := hts (.fieldLink RX0 28 "KindGuesser$ByteSide" "ruleCount" "I") (by decide +kernel)
  have hiX0 : ∀ q ∈ wsX00, q ∈ wsX0_provingRule := by decide +kernel
  refine lv_iconst (v := (-1)) hx hb dX0_provingRule_0 rfl ?_
  refine lv_istore_n (lv' := [(1, .int (-1)), (0, .ref f0)]) hx hb dX0_provingRule_1 rfl hl (by decide) rfl (fun ls hl => ?_)
  refine lv_iconst (v := (nI 0)) hx hb dX0_provingRule_2 rfl ?_
  refine lv_istore_n (lv' := [(2, .int (nI 0)), (1, .int (-1)), (0, .ref f0)]) hx hb dX0_provingRule_3 rfl hl (by decide) rfl (fun ls hl => ?_)
  have lp4 : ∀ (n1 : Nat) (k : Nat) (o : Option Nat) (v : Nat → Bool), nr - k < n1 → (k ≤ nr) → (o = bstB (fun k => prvB lev (hldB vb nb fo tu wn mk) (k * 6) ((k * 6) + (tc k))) (fun k b => decide (pr b < pr k)) k) → ∀ (H : Heap) (locs : List Loc), va_P D vwCl [(f0, .inr (0, [.ref f1, .int (nI nb), .ref f2, .ref f3, .ref f4, .int (nI nr), .ref f5, .ref f6, .ref f7, .ref f8, .ref f9, .ref f10])), (f1, .inl (y3.1, 16, .inl vb)), (f3, .inl (y3.1, 12, .inl pr)), (f4, .inl (y3.1, 12, .inl (fN tc))), (f5, .inl (y3.1, 72, .inl (fN lev))), (f6, .inl (y3.1, 72, .inl (fN fo))), (f7, .inl (y3.1, 72, .inl (fN tu))), (f8, .inl (y3.1, 72, .inl wn)), (f9, .inl (y3.1, 72, .inl mk)), (f10, .inl (y3.2.1, 72, .inl (fB v)))] H → va_D A [(f0, .inr (0, [.ref f1, .int (nI nb), .ref f2, .ref f3, .ref f4, .int (nI nr), .ref f5, .ref f6, .ref f7, .ref f8, .ref f9, .ref f10])), (f1, .inl (y3.1, 16, .inl vb)), (f3, .inl (y3.1, 12, .inl pr)), (f4, .inl (y3.1, 12, .inl (fN tc))), (f5, .inl (y3.1, 72, .inl (fN lev))), (f6, .inl (y3.1, 72, .inl (fN fo))), (f7, .inl (y3.1, 72, .inl (fN tu))), (f8, .inl (y3.1, 72, .inl wn)), (f9, .inl (y3.1, 72, .inl mk)), (f10, .inl (y3.2.1, 72, .inl (fB v)))] → va_S A s.heap H locs → ∀ ls : Array Slot, lv_has ls 4 [(2, .int (nI k)), (1, .int (oI o)), (0, .ref f0)] → W p l e (rmO 2 0 0 50) s m args below meth c H locs 0 0 Q (F0 m 4 ls []) := by
    intro n1
    induction n1 with
    | zero => intro k o v hm; exact absurd hm (Nat.not_lt_zero _)
    | succ n1 ih4 =>
      intro k o v hm4 h1 h2 H locs hP hD hS ls hl
      have hob : ∀ b, o = some b → b < 2 ^ 31 := fun b hb => by have := (bstB_lt (h2.symm.trans hb)).1; omega
      refine lv_iload_n hx hb dX0_provingRule_4 rfl (lv_at hl 0 rfl) ?_
      refine lv_aload_n hx hb dX0_provingRule_5 rfl (lv_at hl 2 rfl) ?_
      refine va_get (D := D) (ci := 0) (v := .int (nI nr)) (C := RX0) (T := TX0) (N := 12) hx hb hts hiX0 hown hK hP 0 rfl rfl 5 (by decide) hf28 (fun _ h9 => h9) rfl dX0_provingRule_6 ?_
      refine ln_icmp_ge (tgt := 58) hx hb (by omega) (by omega) dX0_provingRule_9 (by decide) (fun c9 => ?_) (fun c9 => ?_)
      · refine lv_iload_n hx hb dX0_provingRule_58 rfl (lv_at hl 1 rfl) ?_
        exact hret 59 ls H locs _ _ v _ hP hD hS (Nat.le_of_ble_eq_true rfl) (Nat.le_of_ble_eq_true rfl) (by rw [h2, show k = nr from by omega]) dX0_provingRule_59
      · have jn37 : ∀ (g1 : Bool), (g1 = ahO (fun k b => decide (pr b < pr k)) k o) → ∀ (H : Heap) (locs : List Loc), va_P D vwCl [(f0, .inr (0, [.ref f1, .int (nI nb), .ref f2, .ref f3, .ref f4, .int (nI nr), .ref f5, .ref f6, .ref f7, .ref f8, .ref f9, .ref f10])), (f1, .inl (y3.1, 16, .inl vb)), (f3, .inl (y3.1, 12, .inl pr)), (f4, .inl (y3.1, 12, .inl (fN tc))), (f5, .inl (y3.1, 72, .inl (fN lev))), (f6, .inl (y3.1, 72, .inl (fN fo))), (f7, .inl (y3.1, 72, .inl (fN tu))), (f8, .inl (y3.1, 72, .inl wn)), (f9, .inl (y3.1, 72, .inl mk)), (f10, .inl (y3.2.1, 72, .inl (fB v)))] H → va_D A [(f0, .inr (0, [.ref f1, .int (nI nb), .ref f2, .ref f3, .ref f4, .int (nI nr), .ref f5, .ref f6, .ref f7, .ref f8, .ref f9, .ref f10])), (f1, .inl (y3.1, 16, .inl vb)), (f3, .inl (y3.1, 12, .inl pr)), (f4, .inl (y3.1, 12, .inl (fN tc))), (f5, .inl (y3.1, 72, .inl (fN lev))), (f6, .inl (y3.1, 72, .inl (fN fo))), (f7, .inl (y3.1, 72, .inl (fN tu))), (f8, .inl (y3.1, 72, .inl wn)), (f9, .inl (y3.1, 72, .inl mk)), (f10, .inl (y3.2.1, 72, .inl (fB v)))] → va_S A s.heap H locs → ∀ ls : Array Slot, lv_has ls 4 [(2, .int (nI k)), (1, .int (oI o)), (0, .ref f0)] → W p l e (rmO 2 0 0 50) s m args below meth c H locs 0 0 Q (F0 m 37 ls [.int (bI g1)]) := by
          intro g1 hg H locs hP hD hS ls hl
          refine lv_istore_n (lv' := [(3, .int (bI g1)), (2, .int (nI k)), (1, .int (oI o)), (0, .ref f0)]) hx hb dX0_provingRule_37 rfl hl (by decide) rfl (fun ls hl => ?_)
          refine lv_iload_n hx hb dX0_provingRule_38 rfl (lv_at hl 0 rfl) ?_
          refine lb_if_eq (tgt := 52) hx hb dX0_provingRule_39 (by decide) (fun c39 => ?_) (fun c39 => ?_)
          · refine lv_iinc (v := (nI (k + 1))) (lv' := [(2, .int (nI (k + 1))), (3, .int (bI g1)), (1, .int (oI o)), (0, .ref f0)]) hx hb dX0_provingRule_52 hl (k := 1) rfl (nI_add _ _) (by decide) rfl (fun ls hl => ?_)
            refine lv_goto (tgt := 4) hx hb dX0_provingRule_55 (by decide) ?_
            exact ih4 (k + 1) o v (by omega) (by omega) (bstB_no h2 (by first | exact Or.inl (hg.symm.trans c39) | exact Or.inr c47)) _ _ hP hD hS _ (lv_sub hl [0, 2, 3] rfl)
          · refine lv_aload_n hx hb dX0_provingRule_42 rfl (lv_at hl 3 rfl) ?_
            refine lv_iload_n hx hb dX0_provingRule_43 rfl (lv_at hl 1 rfl) ?_
            refine wr_V (ci := 0) (q0 := 0) (own := RX0) (As := [.int (nI k)]) (rest := []) (bytes := cX0_provesKind) (maxL := 6) (wr := [(f3, .inl (y3.1, 12, .inl pr))]) (w3 := (fun (u3 : Nat → Bool) => [(f0, .inr (0, [.ref f1, .int (nI nb), .ref f2, .ref f3, .ref f4, .int (nI nr), .ref f5, .ref f6, .ref f7, .ref f8, .ref f9, .ref f10])), (f1, .inl (y3.1, 16, .inl vb)), (f3, .inl (y3.1, 12, .inl pr)), (f4, .inl (y3.1, 12, .inl (fN tc))), (f5, .inl (y3.1, 72, .inl (fN lev))), (f6, .inl (y3.1, 72, .inl (fN fo))), (f7, .inl (y3.1, 72, .inl (fN tu))), (f8, .inl (y3.1, 72, .inl wn)), (f9, .inl (y3.1, 72, .inl mk)), (f10, .inl (y3.2.1, 72, .inl (fB u3)))])) ⟨hx, hb, hml, hown, hts⟩ (kX0_provesKind l D y3 f0 f1 f2 f3 f4 f5 f6 f7 f8 f9 f10 nb nr vb tc lev fo tu wn mk v k (by omega) (by omega) (by assumption) (by assumption) (by assumption) (by assumption)) gX0_provingRule_X0_provesKind rfl hvX0_provesKind ⟨Nat.le_of_ble_eq_true rfl, Nat.le_of_ble_eq_true rfl⟩ hP hK hD hS hA [0, 1, 3, 4, 5, 6, 7, 8, 9] [2] [1, 2, 0, 3, 4, 5, 6, 7, 8, 9] rfl rfl rfl rfl (by decide) (fun _ => rfl) rfl rfl rfl hl.1 rfl (Nat.le_of_ble_eq_true rfl) dX0_provingRule_44 ⟨Nat.le_of_ble_eq_true rfl, Nat.le_of_ble_eq_true rfl⟩ (fun r2 u3 H locs hr2 hP hD hS => ?_)
            have hP : va_P D vwCl [(f0, .inr (0, [.ref f1, .int (nI nb), .ref f2, .ref f3, .ref f4, .int (nI nr), .ref f5, .ref f6, .ref f7, .ref f8, .ref f9, .ref f10])), (f1, .inl (y3.1, 16, .inl vb)), (f3, .inl (y3.1, 12, .inl pr)), (f4, .inl (y3.1, 12, .inl (fN tc))), (f5, .inl (y3.1, 72, .inl (fN lev))), (f6, .inl (y3.1, 72, .inl (fN fo))), (f7, .inl (y3.1, 72, .inl (fN tu))), (f8, .inl (y3.1, 72, .inl wn)), (f9, .inl (y3.1, 72, .inl mk)), (f10, .inl (y3.2.1, 72, .inl (fB u3)))] H := hP
            have hD : va_D A [(f0, .inr (0, [.ref f1, .int (nI nb), .ref f2, .ref f3, .ref f4, .int (nI nr), .ref f5, .ref f6, .ref f7, .ref f8, .ref f9, .ref f10])), (f1, .inl (y3.1, 16, .inl vb)), (f3, .inl (y3.1, 12, .inl pr)), (f4, .inl (y3.1, 12, .inl (fN tc))), (f5, .inl (y3.1, 72, .inl (fN lev))), (f6, .inl (y3.1, 72, .inl (fN fo))), (f7, .inl (y3.1, 72, .inl (fN tu))), (f8, .inl (y3.1, 72, .inl wn)), (f9, .inl (y3.1, 72, .inl mk)), (f10, .inl (y3.2.1, 72, .inl (fB u3)))] := hD
            subst hr2
            refine lb_if_eq (tgt := 52) hx hb dX0_provingRule_47 (by decide) (fun c47 => ?_) (fun c47 => ?_)
            · refine lv_iinc (v := (nI (k + 1))) (lv' := [(2, .int (nI (k + 1))), (3, .int (bI g1)), (1, .int (oI o)), (0, .ref f0)]) hx hb dX0_provingRule_52 hl (k := 1) rfl (nI_add _ _) (by decide) rfl (fun ls hl => ?_)
              refine lv_goto (tgt := 4) hx hb dX0_provingRule_55 (by decide) ?_
              exact ih4 (k + 1) o u3 (by omega) (by omega) (bstB_no h2 (by first | exact Or.inl (hg.symm.trans c39) | exact Or.inr c47)) _ _ hP hD hS _ (lv_sub hl [0, 2, 3] rfl)
            · refine lv_iload_n hx hb dX0_provingRule_50 rfl (lv_at hl 1 rfl) ?_
              refine lv_istore_n (lv' := [(1, .int (nI k)), (3, .int (bI g1)), (2, .int (nI k)), (0, .ref f0)]) hx hb dX0_provingRule_51 rfl hl (by decide) rfl (fun ls hl => ?_)
              refine lv_iinc (v := (nI (k + 1))) (lv' := [(2, .int (nI (k + 1))), (1, .int (nI k)), (3, .int (bI g1)), (0, .ref f0)]) hx hb dX0_provingRule_52 hl (k := 2) rfl (nI_add _ _) (by decide) rfl (fun ls hl => ?_)
              refine lv_goto (tgt := 4) hx hb dX0_provingRule_55 (by decide) ?_
              exact ih4 (k + 1) (some k) u3 (by omega) (by omega) (bstB_yes h2 (hg.symm.trans c39) c47) _ _ hP hD hS _ (lv_sub hl [0, 1, 3] rfl)
        refine lv_iload_n hx hb dX0_provingRule_12 rfl (lv_at hl 1 rfl) ?_
        refine lv_iconst (v := (-1)) hx hb dX0_provingRule_13 rfl ?_
        refine lv_icmp_eq (tgt := 32) hx hb dX0_provingRule_14 (by decide) (fun c14 => ?_) (fun c14 => ?_)
        · refine lv_iconst (v := (nI 1)) hx hb dX0_provingRule_32 rfl ?_
          refine lv_goto (tgt := 37) hx hb dX0_provingRule_33 (by decide) ?_
          exact jn37 true (by first | (rw [oI_none hob c14]; rfl) | (rw [eb]; exact (decide_eq_true (Int32.not_le.mp c29)).symm)) _ _ hP hD hS _ (lv_sub hl [0, 1, 2] rfl)
        · obtain ⟨b, eb⟩ := oI_some c14
          have hbl := (bstB_lt (h2.symm.trans eb)).1
          refine lv_aload_n hx hb dX0_provingRule_17 rfl (lv_at hl 2 rfl) ?_
          refine va_get (D := D) (ci := 0) (v := .ref f3) (C := RX0) (T := TX0) (N := 12) hx hb hts hiX0 hown hK hP 0 rfl rfl 3 (by decide) hf22 (fun _ h9 => h9) rfl dX0_provingRule_18 ?_
          refine lv_iload_n hx hb dX0_provingRule_21 rfl (lv_at hl 0 rfl) ?_
          refine ln_iald hx hb hK hP 2 0 rfl rfl (by omega) (by decide) dX0_provingRule_22 ?_
          refine lv_aload_n hx hb dX0_provingRule_23 rfl (lv_at hl 2 rfl) ?_
          refine va_get (D := D) (ci := 0) (v := .ref f3) (C := RX0) (T := TX0) (N := 12) hx hb hts hiX0 hown hK hP 0 rfl rfl 3 (by decide) hf22 (fun _ h9 => h9) rfl dX0_provingRule_24 ?_
          refine lv_iload_n hx hb dX0_provingRule_27 rfl (lv_at hl 1 rfl) ?_
          refine ln_eqi (y := (nI b)) (by rw [eb]; rfl) ?_
          refine ln_iald hx hb hK hP 2 0 rfl rfl (by omega) (by decide) dX0_provingRule_28 ?_
          refine lv_icmp_le (tgt := 36) hx hb dX0_provingRule_29 (by decide) (fun c29 => ?_) (fun c29 => ?_)
          · refine lv_iconst (v := (nI 0)) hx hb dX0_provingRule_36 rfl ?_
            exact jn37 false (by rw [eb]; exact (decide_eq_false (fun h => absurd c29 (Int32.not_le.mpr h))).symm) _ _ hP hD hS _ (lv_sub hl [0, 1, 2] rfl)
          · refine lv_iconst (v := (nI 1)) hx hb dX0_provingRule_32 rfl ?_
            refine lv_goto (tgt := 37) hx hb dX0_provingRule_33 (by decide) ?_
            exact jn37 true (by first | (rw [oI_none hob c14]; rfl) | (rw [eb]; exact (decide_eq_true (Int32.not_le.mp c29)).symm)) _ _ hP hD hS _ (lv_sub hl [0, 1, 2] rfl)
  exact lp4 _ 0 none ld (Nat.lt_succ_self _) (Nat.zero_le _) rfl _ _ hP hD hS _ (lv_sub hl [0, 1, 2] rfl)
